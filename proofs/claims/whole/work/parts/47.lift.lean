/-! From a method's own cells to the whole world: lifts. -/
def pick (w : va_W) (is : List Nat) : va_W := is.filterMap (fun i => w[i]?)
theorem pick_map {w : va_W} : ∀ {is : List Nat}, (∀ i ∈ is, i < w.length) → is.map (fun i => w[i]?) = (pick w is).map some
  | [], _ => rfl
  | i :: is, h => by
    have h1 : w[i]? = some (w[i]'(h i List.mem_cons_self)) := List.getElem?_eq_getElem _
    have ih := pick_map (w := w) (is := is) (fun j hj => h j (List.mem_cons_of_mem _ hj))
    unfold pick at ih ⊢
    rw [List.map_cons, List.filterMap_cons, h1, ih]
    rfl
theorem va_A_sub {wb wc : va_W} {sz : Nat} {isC : List Nat} (hC : isC.map (fun i => wb[i]?) = wc.map some) {q : Nat} (h : va_A wc sz q) : va_A wb sz q := by
  rcases h with ⟨k, e, hk⟩ | h
  · have h1 : (isC.map (fun i => wb[i]?))[k]? = some (some (q, e)) := by rw [hC, List.getElem?_map, hk]; rfl
    rw [List.getElem?_map] at h1
    cases hi : isC[k]? with
    | none => rw [hi] at h1; cases h1
    | some i => rw [hi] at h1; exact Or.inl ⟨i, e, Option.some.inj h1⟩
  · exact Or.inr h
theorem Ci.lift {S S' : Type} {l : Launch} {G : kG} {y : MethodName} {ws : List Cond} {rm : Room} {av : List Value} {wc wb : va_W} {post : Int32 → S → Prop} {W1 : S → va_W} {post' : Int32 → S' → Prop} {W1' : S' → va_W} (c : Ci l G y ws rm av wc post W1) (f : S → S') (isC isR isB : List Nat)
    (hC : isC.map (fun i => wb[i]?) = wc.map some) (hnC : va_nd isC = true) (hR : ∀ i ∈ isR, i < wb.length) (hn : va_nd isR = true) (hdis : ∀ i ∈ isR, i ∉ isC) (hnB : va_nd isB = true) (hB : ∀ u, isB.map (fun i => (pick wb isR ++ W1 u)[i]?) = (W1' (f u)).map some) (hp : ∀ r u, post r u → post' r (f u)) : Ci l G y ws rm av wb post' W1' := by
  intro sz
  refine MetFree.mono (c sz) ?_ (fun _ _ _ _ _ q => q) ?_
  · rintro a s ⟨e1, e2, hP, hK, hD⟩
    exact ⟨e1, e2, sub_PP (A := fun _ => True) hP isC hC, hK, hD.sub isC hnC hC⟩
  · rintro a s o t ⟨e1, e2, hP, hK, hD⟩ ⟨⟨⟨r, u, ho, hpost, hP1, hD1⟩, hF⟩, L, hE, hL⟩
    subst e2
    obtain ⟨hP2, hD2⟩ := va_join hP (hD.self (sz := s.heap.size)) isC isR hC (pick_map hR) hn hdis (fun q h1 h2 => hF.2 q h1 h2) (fun q h => va_A_sub hC h) hP1 hD1
    exact ⟨⟨⟨r, f u, ho, hp r u hpost, sub_PP (A := fun _ => True) hP2 isB (hB u), hD2.sub isB hnB (hB u)⟩, ⟨hF.1, fun q h1 h2 => hF.2 q h1 (fun h3 => h2 (va_A_sub hC h3))⟩⟩, L, hE, fun q hq => va_A_sub hC (hL q hq)⟩
theorem Ri.lift {S' : Type} {l : Launch} {G : kG} {y : MethodName} {ws : List Cond} {rm : Room} {av : List Value} {wc : va_W} {post : Int32 → Prop} {post' : Int32 → S' → Prop} {W1' : S' → va_W} (c : Ri l G y ws rm av wc post) (x : S') (isC : List Nat) (hC : isC.map (fun i => (W1' x)[i]?) = wc.map some) (hp : ∀ r, post r → post' r x) : Ci l G y ws rm av (W1' x) post' W1' := by
  intro sz
  have c' : Met l y ws rm (rPre G wc av) (vp_Si post) 0 0 (fun _ => False) := c
  refine MetFree.mono c' ?_ (fun _ _ _ _ _ q => q) ?_
  · rintro a s ⟨e1, e2, hP, hK, hD⟩
    exact ⟨e1, sub_PP (A := fun _ => True) hP isC hC, hK⟩
  · rintro a s o t ⟨e1, e2, hP, hK, hD⟩ ⟨⟨r, ho, hpost, hh⟩, L, hE, hL⟩
    exact ⟨⟨⟨r, x, ho, hp r hpost, by rw [hh]; exact hP, hD.self⟩, ⟨by rw [hh]; exact Nat.le_refl _, fun q _ _ => by rw [hh]⟩⟩, L, hE, fun q hq => (hL q hq).elim⟩
theorem rng_l {a b : va_W} : (List.range a.length).map (fun i => (a ++ b)[i]?) = a.map some := by
  apply List.ext_getElem?
  intro i
  rw [List.getElem?_map, List.getElem?_map]
  by_cases h : i < a.length
  · rw [List.getElem?_range h, List.getElem?_eq_getElem h]
    show some ((a ++ b)[i]?) = some (some a[i])
    rw [List.getElem?_append_left h, List.getElem?_eq_getElem h]
  · rw [List.getElem?_eq_none (by rw [List.length_range]; omega), List.getElem?_eq_none (by omega)]; rfl
theorem rng_r {a b : va_W} : ((List.range b.length).map (fun i => a.length + i)).map (fun i => (a ++ b)[i]?) = b.map some := by
  apply List.ext_getElem?
  intro i
  rw [List.getElem?_map, List.getElem?_map, List.getElem?_map]
  by_cases h : i < b.length
  · rw [List.getElem?_range h, List.getElem?_eq_getElem h]
    show some ((a ++ b)[a.length + i]?) = some (some b[i])
    rw [List.getElem?_append_right (by omega), show a.length + i - a.length = i by omega, List.getElem?_eq_getElem h]
  · rw [List.getElem?_eq_none (by rw [List.length_range]; omega), List.getElem?_eq_none (by omega)]; rfl
theorem va_P_l {D : va_G} {cl : List vw_C} {a b : va_W} {H : Heap} (h : va_P D cl (a ++ b) H) : va_P D cl a H := fun k q hk => h k q (by rw [List.getElem?_append_left (List.getElem?_eq_some_iff.mp hk).1]; exact hk)
theorem va_P_r {D : va_G} {cl : List vw_C} {a b : va_W} {H : Heap} (h : va_P D cl (a ++ b) H) : va_P D cl b H := fun k q hk => h (a.length + k) q (by rw [List.getElem?_append_right (by omega), show a.length + k - a.length = k by omega]; exact hk)
section CL
variable {p : Program} {l : Launch} {e : Env} {R : Room} {s : State} {m : MethodId} {args : Array Value} {below : List Frame} {meth : Method} {c : Code} {H : Heap} {locs : List Loc} {cells slots mc ms : Nat} {Q : State → Prop} {cc : ByteArray} {pc : Nat} {ls : Array Slot} {rest st0 : List Value} {G : kG} {A : Nat → Prop} {H0 : Heap} {wx wm : va_W} {a : Array Value}
/-- behind a call that works on the left, or on the right, part of the world -/
theorem ca_L {S : Type} {post : Int32 → S → Prop} {W1 : S → va_W} (hr : va_Run p l e R s m args below meth c H locs cells slots mc ms (F0 m pc ls st0) rest (va_Qi post (cB G H.size wx W1) (va_A wx H.size) a) (va_A wx H.size)) (hP : va_P G.1 vwCl (wx ++ wm) H) (hD : va_D A (wx ++ wm)) (hS : va_S A H0 H locs) (hA : ∀ q, H0.size ≤ q → A q) (hnR : va_nd ((List.range wm.length).map (fun i => wx.length + i)) = true)
    (k : ∀ (r : Int32) (u : S) (H1 : Heap) (locs1 : List Loc), post r u → va_P G.1 vwCl (W1 u ++ wm) H1 → va_D A (W1 u ++ wm) → va_S A H0 H1 locs1 → W p l e R s m args below meth c H1 locs1 (cells + mc) (slots + ms) Q (F0 m (pc + 3) ls (.int r :: rest))) : W p l e R s m args below meth c H locs cells slots Q (F0 m pc ls st0) := by
  have hF := va_free (wc := wx) hD hS hA (List.range wx.length) rng_l
  refine va_calli hr hS (fun q _ h => hF q h) hF (fun r u t H1 locs1 ht hvm hw hB1 hz1 hk1 hS1 => ?_)
  obtain ⟨hP1, hD1⟩ := hB1
  rw [ht] at hP1
  obtain ⟨hP2, hD2⟩ := va_join hP hD (List.range wx.length) ((List.range wm.length).map (fun i => wx.length + i)) rng_l rng_r hnR (fun i h1 h2 => by
    obtain ⟨j, _, rfl⟩ := List.mem_map.mp h1
    have := List.mem_range.mp h2
    omega) hk1 hF hP1 hD1
  exact k r u H1 locs1 hw ((va_P_r hP2).app (va_P_l hP2)) (va_D.swap (a := []) (b := wm) (c := W1 u) hD2) hS1
theorem ca_R {S : Type} {post : Int32 → S → Prop} {W1 : S → va_W} (hr : va_Run p l e R s m args below meth c H locs cells slots mc ms (F0 m pc ls st0) rest (va_Qi post (cB G H.size wm W1) (va_A wm H.size) a) (va_A wm H.size)) (hP : va_P G.1 vwCl (wx ++ wm) H) (hD : va_D A (wx ++ wm)) (hS : va_S A H0 H locs) (hA : ∀ q, H0.size ≤ q → A q) (hnR : va_nd (List.range wx.length) = true)
    (k : ∀ (r : Int32) (u : S) (H1 : Heap) (locs1 : List Loc), post r u → va_P G.1 vwCl (wx ++ W1 u) H1 → va_D A (wx ++ W1 u) → va_S A H0 H1 locs1 → W p l e R s m args below meth c H1 locs1 (cells + mc) (slots + ms) Q (F0 m (pc + 3) ls (.int r :: rest))) : W p l e R s m args below meth c H locs cells slots Q (F0 m pc ls st0) := by
  have hF := va_free (wc := wm) hD hS hA ((List.range wm.length).map (fun i => wx.length + i)) rng_r
  refine va_calli hr hS (fun q _ h => hF q h) hF (fun r u t H1 locs1 ht hvm hw hB1 hz1 hk1 hS1 => ?_)
  obtain ⟨hP1, hD1⟩ := hB1
  rw [ht] at hP1
  obtain ⟨hP2, hD2⟩ := va_join hP hD ((List.range wm.length).map (fun i => wx.length + i)) (List.range wx.length) rng_r rng_l hnR (fun i h1 h2 => by
    obtain ⟨j, _, rfl⟩ := List.mem_map.mp h2
    have := List.mem_range.mp h1
    omega) hk1 hF hP1 hD1
  exact k r u H1 locs1 hw hP2 hD2 hS1
end CL
theorem cPre_L {G : kG} {s : State} {H : Heap} {A : Nat → Prop} {wx wm : va_W} {b : Addr} {As : List Value} {C : String} {T : u_T} {N : Nat} {fs : List Value} (hK : kk G s) (hP : va_P G.1 vwCl (wx ++ wm) H) (hD : va_D A (wx ++ wm)) (hn : va_nd (List.range wx.length) = true) (ci : Nat) (hc : vwCl[ci]? = some (C, T, N)) (he : wx[0]? = some (b, .inr (ci, fs))) : PreV s H C b (cPre G H.size wx (.ref b :: As)) As :=
  cPre_V hK hP hD (List.range wx.length) hn rng_l 0 ci hc he
theorem cPre_R {G : kG} {s : State} {H : Heap} {A : Nat → Prop} {wx wm : va_W} {b : Addr} {As : List Value} {C : String} {T : u_T} {N : Nat} {fs : List Value} (hK : kk G s) (hP : va_P G.1 vwCl (wx ++ wm) H) (hD : va_D A (wx ++ wm)) (hn : va_nd ((List.range wm.length).map (fun i => wx.length + i)) = true) (ci : Nat) (hc : vwCl[ci]? = some (C, T, N)) (he : wm[0]? = some (b, .inr (ci, fs))) : PreV s H C b (cPre G H.size wm (.ref b :: As)) As :=
  cPre_V hK hP hD ((List.range wm.length).map (fun i => wx.length + i)) hn rng_r 0 ci hc he
