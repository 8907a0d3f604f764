/-! a call of one object, the other one beside it -/
theorem zD_left {A : Nat → Prop} {X Y : va_W} (h : va_D A (X ++ Y)) : va_D A X := by
  refine ⟨fun i j p q hi hj e => ?_, fun k q hk => ?_⟩
  · exact h.1 i j p q (by rw [List.getElem?_append_left (List.getElem?_eq_some_iff.mp hi).1]; exact hi) (by rw [List.getElem?_append_left (List.getElem?_eq_some_iff.mp hj).1]; exact hj) e
  · exact h.2 k q (by rw [List.getElem?_append_left (List.getElem?_eq_some_iff.mp hk).1]; exact hk)
theorem zD_right {A : Nat → Prop} {X Y : va_W} (h : va_D A (X ++ Y)) : va_D A Y := by
  have at' : ∀ (k : Nat) (q : Nat × va_E), Y[k]? = some q → (X ++ Y)[X.length + k]? = some q := fun k q hk => by rw [List.getElem?_append_right (by omega), show X.length + k - X.length = k by omega]; exact hk
  refine ⟨fun i j p q hi hj e => ?_, fun k q hk => h.2 _ q (at' k q hk)⟩
  have := h.1 _ _ p q (at' i p hi) (at' j q hj) e
  omega
theorem zD_cross {A : Nat → Prop} {X Y : va_W} (h : va_D A (X ++ Y)) {i j : Nat} {p q : Nat × va_E} (hi : X[i]? = some p) (hj : Y[j]? = some q) : p.1 ≠ q.1 := by
  intro e
  have hl : i < X.length := (List.getElem?_eq_some_iff.mp hi).1
  have := h.1 i (X.length + j) p q (by rw [List.getElem?_append_left hl]; exact hi) (by rw [List.getElem?_append_right (by omega), show X.length + j - X.length = j by omega]; exact hj) e
  omega
theorem zD_swap {A : Nat → Prop} {X Y : va_W} (h : va_D A (X ++ Y)) : va_D A (Y ++ X) := (zD_right h).app (zD_left h) (fun i j p q hi hj e => zD_cross h hj hi e.symm)
theorem zfst_at {X X1 : va_W} (hf : X1.map Prod.fst = X.map Prod.fst) {i : Nat} {q : Nat × va_E} (h : X1[i]? = some q) : ∃ w, X[i]? = some w ∧ w.1 = q.1 := by
  have h3 : (X1.map Prod.fst)[i]? = some q.1 := by rw [List.getElem?_map, h]; rfl
  rw [hf, List.getElem?_map] at h3
  cases hw : X[i]? with
  | none => rw [hw] at h3; cases h3
  | some w =>
    rw [hw] at h3
    exact ⟨w, rfl, Option.some.inj h3⟩
theorem zD_put {A : Nat → Prop} {X X1 Y : va_W} (h : va_D A (X ++ Y)) (h1 : va_D A X1) (hf : X1.map Prod.fst = X.map Prod.fst) : va_D A (X1 ++ Y) :=
  h1.app (zD_right h) (fun i j p q hi hj e => by
    obtain ⟨w, hw, e2⟩ := zfst_at hf hi
    exact zD_cross h hw hj (e2.trans e))
theorem zkeepY {D : va_G} {A : Nat → Prop} {X Y wc : va_W} {H H1 : Heap} (hP : va_P D vwCl Y H) (hD : va_D A (X ++ Y)) (isC : List Nat) (hC : isC.map (fun i => X[i]?) = wc.map some) (hk1 : ∀ q : Nat, q < H.size → ¬ va_A wc H.size q → H1[q]? = H[q]?) : va_P D vwCl Y H1 := by
  refine hP.kept (fun k q hk => ?_)
  have hlt : q.1 < H.size := (hP k q hk).lt
  refine hk1 _ hlt ?_
  rintro (⟨j, e, hj⟩ | hs)
  · have h3 : (wc.map some)[j]? = some (some (q.1, e)) := by rw [List.getElem?_map, hj]; rfl
    rw [← hC, List.getElem?_map] at h3
    cases hi : isC[j]? with
    | none => rw [hi] at h3; cases h3
    | some i =>
      rw [hi] at h3
      have h4 : X[i]? = some (q.1, e) := Option.some.inj h3
      exact zD_cross hD h4 hk rfl
  · omega
section ZLB
variable {p : Program} {l : Launch} {e : Env} {R : Room} {s : State} {m : MethodId} {args : Array Value} {below : List Frame} {meth : Method} {c : Code} {H H0 : Heap} {locs : List Loc} {cells slots : Nat} {Q : State → Prop} {ls : Array Slot} {pc : Nat} {st0 rest As : List Value}
  {cc : ByteArray} {D : va_G} {κ : Nat → ClassId} {wc : va_W} {mk : Nat} {ad : Nat → Nat → Nat} {A0 : Nat → Prop} {X X1 Y wr w1 : va_W}
theorem zjx_i {a : Array Value} {o : Int32} (hr : va_Run p l e R s m args below meth c H locs cells slots 0 0 (F0 m pc ls st0) rest (va_Qi (fun r (_ : Unit) => r = o) (fun _ => zB D κ (va_A wc H.size) w1) (va_A wc H.size) a) (va_A wc H.size))
    (hPx : va_P D vwCl X H) (hPy : va_P D vwCl Y H) (hD : va_D A0 (X ++ Y)) (hS : va_S A0 H0 H locs) (hB : zAmb D κ mk ad H) (hZx : zSep mk ad X H.size) (hZy : zSep mk ad Y H.size) (hA : ∀ q, H0.size ≤ q → A0 q) (isC isR pm : List Nat) (hC : isC.map (fun i => X[i]?) = wc.map some) (hR : isR.map (fun i => X[i]?) = wr.map some) (hn : va_nd isR = true) (hdis : isR.all (fun i => !isC.contains i) = true) (hp1 : pm.filterMap (fun i => (wr ++ w1)[i]?) = X1) (hp2 : pm.map (fun i => (wr ++ w1)[i]?) = X1.map some) (hnp : va_nd pm = true) (hf : X1.map Prod.fst = X.map Prod.fst)
    (kk : ∀ (H1 : Heap) (locs1 : List Loc), va_P D vwCl X1 H1 → va_P D vwCl Y H1 → va_D A0 (X1 ++ Y) → va_S A0 H0 H1 locs1 → zAmb D κ mk ad H1 → zSep mk ad X1 H1.size → zSep mk ad Y H1.size → W p l e R s m args below meth c H1 locs1 cells slots Q (F0 m (pc + 3) ls (.int o :: rest))) : W p l e R s m args below meth c H locs cells slots Q (F0 m pc ls st0) := by
  have hDx := zD_left hD
  have hFc := va_free (wc := wc) hDx hS hA isC hC
  refine va_calli hr hS (fun q _ h => hFc q h) hFc (fun r u t H1 locs1 ht hvm hw hBB hz1 hk1 hS1 => ?_)
  obtain ⟨hP1, -, hD1⟩ := hBB
  rw [ht] at hP1
  have hw : r = o := hw
  subst hw
  obtain ⟨hP2, hD2⟩ := va_join (wr := wr) (w1 := w1) hPx hDx isC isR hC hR hn (fun i hi hc => by have := List.all_eq_true.mp hdis i hi; simp [List.contains_iff_mem, hc] at this) hk1 hFc hP1 hD1
  exact kk H1 locs1 (hP2.sub pm hp1) (zkeepY hPy hD isC hC hk1) (zD_put hD (hD2.sub pm hnp hp2) hf) hS1 (hB.keep (hZx.apt isC hC) hk1) (hZx.same hz1 hf) (hZy.same hz1 rfl)
theorem zjx_l {a : Array Value} {o : Int64} (hr : va_Run p l e R s m args below meth c H locs cells slots 0 0 (F0 m pc ls st0) rest (va_Ql (fun r (_ : Unit) => r = o) (fun _ => zB D κ (va_A wc H.size) w1) (va_A wc H.size) a) (va_A wc H.size))
    (hPx : va_P D vwCl X H) (hPy : va_P D vwCl Y H) (hD : va_D A0 (X ++ Y)) (hS : va_S A0 H0 H locs) (hB : zAmb D κ mk ad H) (hZx : zSep mk ad X H.size) (hZy : zSep mk ad Y H.size) (hA : ∀ q, H0.size ≤ q → A0 q) (isC isR pm : List Nat) (hC : isC.map (fun i => X[i]?) = wc.map some) (hR : isR.map (fun i => X[i]?) = wr.map some) (hn : va_nd isR = true) (hdis : isR.all (fun i => !isC.contains i) = true) (hp1 : pm.filterMap (fun i => (wr ++ w1)[i]?) = X1) (hp2 : pm.map (fun i => (wr ++ w1)[i]?) = X1.map some) (hnp : va_nd pm = true) (hf : X1.map Prod.fst = X.map Prod.fst)
    (kk : ∀ (H1 : Heap) (locs1 : List Loc), va_P D vwCl X1 H1 → va_P D vwCl Y H1 → va_D A0 (X1 ++ Y) → va_S A0 H0 H1 locs1 → zAmb D κ mk ad H1 → zSep mk ad X1 H1.size → zSep mk ad Y H1.size → W p l e R s m args below meth c H1 locs1 cells slots Q (F0 m (pc + 3) ls (.long o :: rest))) : W p l e R s m args below meth c H locs cells slots Q (F0 m pc ls st0) := by
  have hDx := zD_left hD
  have hFc := va_free (wc := wc) hDx hS hA isC hC
  refine va_calll hr hS (fun q _ h => hFc q h) hFc (fun r u t H1 locs1 ht hvm hw hBB hz1 hk1 hS1 => ?_)
  obtain ⟨hP1, -, hD1⟩ := hBB
  rw [ht] at hP1
  have hw : r = o := hw
  subst hw
  obtain ⟨hP2, hD2⟩ := va_join (wr := wr) (w1 := w1) hPx hDx isC isR hC hR hn (fun i hi hc => by have := List.all_eq_true.mp hdis i hi; simp [List.contains_iff_mem, hc] at this) hk1 hFc hP1 hD1
  exact kk H1 locs1 (hP2.sub pm hp1) (zkeepY hPy hD isC hC hk1) (zD_put hD (hD2.sub pm hnp hp2) hf) hS1 (hB.keep (hZx.apt isC hC) hk1) (hZx.same hz1 hf) (hZy.same hz1 rfl)
end ZLB
abbrev zLX (κ : Nat → ClassId) (x : Nat → Nat) (mk : Nat) (ad : Nat → Nat → Nat) (x_polygon : Nat) (x_bits : Int) (x_mendedNumber : Int) (tape_length : Int) (tape_next : Int) (tape_kind : Int) (tape_place : Int) (tape_value : Int) (tape_bytes : Nat) (text_faultKind : Int) (text_faultPlace : Int) (text_expected : Int) (text_first : Int) (text_polygon : Nat) (text_bits : Int) (triangles_count : Int) (triangles_polygon : Nat) (triangles_from : Int) (triangles_length : Int) (triangles_waysAhead : Int) (triangles_cornersOf : Nat) (triangles_chosen : Nat) (crossedLines_size : Int) (crossedLines_lines : Nat) (flips_wayLength : Int) (flips_queued : Int) (flips_steps : Nat) (flips_queue : Nat) (flips_way : Nat) (endless_size : Int) (endless_numbers : Nat) (sightings_size : Int) (sightings_rights : Int) (sightings_latest : Int) (sightings_seenStep : Nat) (sightings_seenFrom : Nat) (sightings_seenTo : Nat) (sightings_seenValue : Nat) (sightings_timesRight : Nat) (sightings_rightStep : Nat) (sightings_rightOf : Nat) (sightings_rightValue : Nat) (sightings_knownValue : Nat) (fitting_size : Int) (fitting_numbers : Nat) (fitting_tally : Nat) (x_toldRow : Nat) : va_W := [((x 0), .inr (10, [.ref (x 1), .ref (x 3), .ref (x 5), .ref (x 6), .ref (x 9), .ref (x 11), .ref (x 15), .ref (x 17), .ref (x 27), .ref (x 30), zpg ad x_polygon, .int (zi x_bits), .int (zi x_mendedNumber)])), ((x 1), .inr (8, [.ref (x 2), .int (zi tape_length), .int (zi tape_next), .int (zi tape_kind), .int (zi tape_place), .int (zi tape_value)])), ((x 2), .inl (κ 0, 300, .inl (zc tape_bytes))), ((x 3), .inr (6, [.ref (x 4)])), ((x 4), .inl (κ 4, 6, .inr (.inr (.inr (.inr (zmade mk ad)))))), ((x 5), .inr (1, [.int (zi text_faultKind), .int (zi text_faultPlace), .int (zi text_expected), .int (zi text_first), zpg ad text_polygon, .int (zi text_bits)])), ((x 6), .inr (9, [.ref (x 7), .ref (x 8), .int (zi triangles_count), zpg ad triangles_polygon, .int (zi triangles_from), .int (zi triangles_length), .int (zi triangles_waysAhead)])), ((x 7), .inl (κ 1, 21, .inl (zc triangles_cornersOf))), ((x 8), .inl (κ 1, 7, .inl (zc triangles_chosen))), ((x 9), .inr (0, [.ref (x 10), .int (zi crossedLines_size)])), ((x 10), .inl (κ 1, 27, .inl (zc crossedLines_lines))), ((x 11), .inr (4, [.ref (x 12), .ref (x 13), .ref (x 14), .int (zi flips_wayLength), .int (zi flips_queued)])), ((x 12), .inl (κ 1, 429, .inl (zc flips_steps))), ((x 13), .inl (κ 1, 429, .inl (zc flips_queue))), ((x 14), .inl (κ 1, 429, .inl (zc flips_way))), ((x 15), .inr (2, [.ref (x 16), .int (zi endless_size)])), ((x 16), .inl (κ 1, 10, .inl (zc endless_numbers))), ((x 17), .inr (7, [.ref (x 18), .ref (x 19), .ref (x 20), .ref (x 21), .ref (x 22), .ref (x 23), .ref (x 24), .ref (x 25), .ref (x 26), .int (zi sightings_size), .int (zi sightings_rights), .int (zi sightings_latest)])), ((x 18), .inl (κ 1, 20, .inl (zc sightings_seenStep))), ((x 19), .inl (κ 1, 20, .inl (zc sightings_seenFrom))), ((x 20), .inl (κ 1, 20, .inl (zc sightings_seenTo))), ((x 21), .inl (κ 1, 20, .inl (zc sightings_seenValue))), ((x 22), .inl (κ 1, 20, .inl (zc sightings_timesRight))), ((x 23), .inl (κ 1, 20, .inl (zc sightings_rightStep))), ((x 24), .inl (κ 1, 20, .inl (zc sightings_rightOf))), ((x 25), .inl (κ 1, 20, .inl (zc sightings_rightValue))), ((x 26), .inl (κ 1, 20, .inl (zc sightings_knownValue))), ((x 27), .inr (3, [.ref (x 28), .ref (x 29), .int (zi fitting_size)])), ((x 28), .inl (κ 1, 429, .inl (zc fitting_numbers))), ((x 29), .inl (κ 1, 22, .inl (zc fitting_tally))), ((x 30), .inl (κ 1, 10, .inl (zc x_toldRow)))]
abbrev zLY (κ : Nat → ClassId) (y : Nat → Nat) (y_taped : Int) (y_size : Int) (y_sort : Int) (y_at : Int) (y_end : Int) (y_number : Int) (y_faultKind : Int) (y_faultPlace : Int) (y_word : Int) (y_corners : Int) (y_lines : Int) (y_linesFor : Int) (y_listMany : Int) (y_listCorners : Int) (y_own : Int) (y_newCorners : Int) (y_newCut : Int) (y_wayLeft : Int) (y_flipOne : Int) (y_flipTwo : Int) (y_passedMany : Int) (y_rowMany : Int) (y_mendedBy : Int) (y_crossMany : Int) (y_periodMany : Int) (y_seenMany : Int) (y_rightMany : Int) (y_lastTold : Int) (y_tape : Nat) (y_numberOf : Nat) (y_lesser : Nat) (y_greater : Nat) (y_list : Nat) (y_tA : Nat) (y_tB : Nat) (y_tC : Nat) (y_from : Nat) (y_wayAt : Nat) (y_far : Nat) (y_queue : Nat) (y_passedBy : Nat) (y_told : Nat) (y_crossLine : Nat) (y_crossFar : Nat) (y_period : Nat) (y_sTold : Nat) (y_sOne : Nat) (y_sTwo : Nat) (y_sEntry : Nat) (y_rTold : Nat) (y_rOf : Nat) (y_rEntry : Nat) (y_fits : Nat) (y_heaps : Nat) : va_W := [((y 0), .inr (11, [.ref (y 1), .int (zi y_taped), .int (zi y_size), .int (zi y_sort), .int (zi y_at), .int (zi y_end), .int (zi y_number), .int (zi y_faultKind), .int (zi y_faultPlace), .long (zl y_word), .int (zi y_corners), .ref (y 2), .ref (y 3), .ref (y 4), .int (zi y_lines), .int (zi y_linesFor), .ref (y 5), .int (zi y_listMany), .int (zi y_listCorners), .long (zl y_own), .int (zi y_newCorners), .long (zl y_newCut), .ref (y 6), .ref (y 7), .ref (y 8), .ref (y 9), .int (zi y_wayLeft), .ref (y 10), .int (zi y_flipOne), .int (zi y_flipTwo), .ref (y 11), .ref (y 12), .int (zi y_passedMany), .ref (y 13), .int (zi y_rowMany), .ref (y 14), .int (zi y_mendedBy), .int (zi y_crossMany), .ref (y 15), .ref (y 16), .int (zi y_periodMany), .ref (y 17), .int (zi y_seenMany), .int (zi y_rightMany), .int (zi y_lastTold), .ref (y 18), .ref (y 19), .ref (y 20), .ref (y 21), .ref (y 22), .ref (y 23), .ref (y 24), .ref (y 25), .ref (y 26)])), ((y 1), .inl (κ 0, 300, .inl (zc y_tape))), ((y 2), .inl (κ 1, 100, .inl (zc y_numberOf))), ((y 3), .inl (κ 1, 35, .inl (zc y_lesser))), ((y 4), .inl (κ 1, 35, .inl (zc y_greater))), ((y 5), .inl (κ 2, 429, .inr (.inl (zcL y_list)))), ((y 6), .inl (κ 1, 8, .inl (zc y_tA))), ((y 7), .inl (κ 1, 8, .inl (zc y_tB))), ((y 8), .inl (κ 1, 8, .inl (zc y_tC))), ((y 9), .inl (κ 1, 10, .inl (zc y_from))), ((y 10), .inl (κ 1, 10, .inl (zc y_wayAt))), ((y 11), .inl (κ 1, 429, .inl (zc y_far))), ((y 12), .inl (κ 1, 429, .inl (zc y_queue))), ((y 13), .inl (κ 1, 64, .inl (zc y_passedBy))), ((y 14), .inl (κ 1, 10, .inl (zc y_told))), ((y 15), .inl (κ 1, 7, .inl (zc y_crossLine))), ((y 16), .inl (κ 1, 7, .inl (zc y_crossFar))), ((y 17), .inl (κ 1, 11, .inl (zc y_period))), ((y 18), .inl (κ 1, 20, .inl (zc y_sTold))), ((y 19), .inl (κ 1, 20, .inl (zc y_sOne))), ((y 20), .inl (κ 1, 20, .inl (zc y_sTwo))), ((y 21), .inl (κ 1, 20, .inl (zc y_sEntry))), ((y 22), .inl (κ 1, 20, .inl (zc y_rTold))), ((y 23), .inl (κ 1, 20, .inl (zc y_rOf))), ((y 24), .inl (κ 1, 20, .inl (zc y_rEntry))), ((y 25), .inl (κ 3, 429, .inl (zc y_fits))), ((y 26), .inl (κ 1, 6400, .inl (zc y_heaps)))]
theorem zLX_f {κ : Nat → ClassId} {x : Nat → Nat} {mk : Nat} {ad : Nat → Nat → Nat} {x_polygon : Nat} {x_bits : Int} {x_mendedNumber : Int} {tape_length : Int} {tape_next : Int} {tape_kind : Int} {tape_place : Int} {tape_value : Int} {tape_bytes : Nat} {text_faultKind : Int} {text_faultPlace : Int} {text_expected : Int} {text_first : Int} {text_polygon : Nat} {text_bits : Int} {triangles_count : Int} {triangles_polygon : Nat} {triangles_from : Int} {triangles_length : Int} {triangles_waysAhead : Int} {triangles_cornersOf : Nat} {triangles_chosen : Nat} {crossedLines_size : Int} {crossedLines_lines : Nat} {flips_wayLength : Int} {flips_queued : Int} {flips_steps : Nat} {flips_queue : Nat} {flips_way : Nat} {endless_size : Int} {endless_numbers : Nat} {sightings_size : Int} {sightings_rights : Int} {sightings_latest : Int} {sightings_seenStep : Nat} {sightings_seenFrom : Nat} {sightings_seenTo : Nat} {sightings_seenValue : Nat} {sightings_timesRight : Nat} {sightings_rightStep : Nat} {sightings_rightOf : Nat} {sightings_rightValue : Nat} {sightings_knownValue : Nat} {fitting_size : Int} {fitting_numbers : Nat} {fitting_tally : Nat} {x_toldRow : Nat} : (zLX κ x mk ad x_polygon x_bits x_mendedNumber tape_length tape_next tape_kind tape_place tape_value tape_bytes text_faultKind text_faultPlace text_expected text_first text_polygon text_bits triangles_count triangles_polygon triangles_from triangles_length triangles_waysAhead triangles_cornersOf triangles_chosen crossedLines_size crossedLines_lines flips_wayLength flips_queued flips_steps flips_queue flips_way endless_size endless_numbers sightings_size sightings_rights sightings_latest sightings_seenStep sightings_seenFrom sightings_seenTo sightings_seenValue sightings_timesRight sightings_rightStep sightings_rightOf sightings_rightValue sightings_knownValue fitting_size fitting_numbers fitting_tally x_toldRow).map Prod.fst = [(x 0), (x 1), (x 2), (x 3), (x 4), (x 5), (x 6), (x 7), (x 8), (x 9), (x 10), (x 11), (x 12), (x 13), (x 14), (x 15), (x 16), (x 17), (x 18), (x 19), (x 20), (x 21), (x 22), (x 23), (x 24), (x 25), (x 26), (x 27), (x 28), (x 29), (x 30)] := rfl
theorem zLY_f {κ : Nat → ClassId} {y : Nat → Nat} {y_taped : Int} {y_size : Int} {y_sort : Int} {y_at : Int} {y_end : Int} {y_number : Int} {y_faultKind : Int} {y_faultPlace : Int} {y_word : Int} {y_corners : Int} {y_lines : Int} {y_linesFor : Int} {y_listMany : Int} {y_listCorners : Int} {y_own : Int} {y_newCorners : Int} {y_newCut : Int} {y_wayLeft : Int} {y_flipOne : Int} {y_flipTwo : Int} {y_passedMany : Int} {y_rowMany : Int} {y_mendedBy : Int} {y_crossMany : Int} {y_periodMany : Int} {y_seenMany : Int} {y_rightMany : Int} {y_lastTold : Int} {y_tape : Nat} {y_numberOf : Nat} {y_lesser : Nat} {y_greater : Nat} {y_list : Nat} {y_tA : Nat} {y_tB : Nat} {y_tC : Nat} {y_from : Nat} {y_wayAt : Nat} {y_far : Nat} {y_queue : Nat} {y_passedBy : Nat} {y_told : Nat} {y_crossLine : Nat} {y_crossFar : Nat} {y_period : Nat} {y_sTold : Nat} {y_sOne : Nat} {y_sTwo : Nat} {y_sEntry : Nat} {y_rTold : Nat} {y_rOf : Nat} {y_rEntry : Nat} {y_fits : Nat} {y_heaps : Nat} : (zLY κ y y_taped y_size y_sort y_at y_end y_number y_faultKind y_faultPlace y_word y_corners y_lines y_linesFor y_listMany y_listCorners y_own y_newCorners y_newCut y_wayLeft y_flipOne y_flipTwo y_passedMany y_rowMany y_mendedBy y_crossMany y_periodMany y_seenMany y_rightMany y_lastTold y_tape y_numberOf y_lesser y_greater y_list y_tA y_tB y_tC y_from y_wayAt y_far y_queue y_passedBy y_told y_crossLine y_crossFar y_period y_sTold y_sOne y_sTwo y_sEntry y_rTold y_rOf y_rEntry y_fits y_heaps).map Prod.fst = [(y 0), (y 1), (y 2), (y 3), (y 4), (y 5), (y 6), (y 7), (y 8), (y 9), (y 10), (y 11), (y 12), (y 13), (y 14), (y 15), (y 16), (y 17), (y 18), (y 19), (y 20), (y 21), (y 22), (y 23), (y 24), (y 25), (y 26)] := rfl
/-! a call that makes a polygon, the other object beside it -/
theorem zsep_new {D : va_G} {κ : Nat → ClassId} {mk k : Nat} {ad ad1 : Nat → Nat → Nat} {ws ws1 : va_W} {H H1 : Heap} (hZ : zSep mk ad ws H.size) (hP : va_P D vwCl ws H) (hag : ∀ n, ¬ zno mk n → ad1 n = ad n) (hnew : zno mk k → ∀ j, j < 7 → H.size ≤ ad1 k j) (hz : H.size ≤ H1.size) (hB1 : zAmb D κ (zmk mk k) ad1 H1) (hf : ws1.map Prod.fst = ws.map Prod.fst) : zSep (zmk mk k) ad1 ws1 H1.size := by
  intro n hn j hj
  have hlt : ad1 n j < H1.size := by
    obtain ⟨e, he⟩ : ∃ e, (zpgc κ (ad1 n) n)[j]? = some (ad1 n j, e) := by
      have h : j = 0 ∨ j = 1 ∨ j = 2 ∨ j = 3 ∨ j = 4 ∨ j = 5 ∨ j = 6 := by omega
      rcases h with rfl | rfl | rfl | rfl | rfl | rfl | rfl <;> exact ⟨_, rfl⟩
    exact (hB1 n hn j _ he).lt
  refine ⟨hlt, fun i q hq => ?_⟩
  obtain ⟨w, hw, e⟩ := zfst_at hf hq
  by_cases hm : zno mk n
  · have en : n = k := Classical.byContradiction (fun q => hn ((zmk_ne q).mpr hm))
    subst en
    have h1 := hnew hm j hj
    have h2 := (hP i w hw).lt
    rw [← e]
    omega
  · rw [hag n hm, ← e]
    exact (hZ n hm j hj).2 i w hw
section ZLM
variable {p : Program} {l : Launch} {e : Env} {R : Room} {s : State} {m : MethodId} {args : Array Value} {below : List Frame} {meth : Method} {c : Code} {H H0 : Heap} {locs : List Loc} {cells slots : Nat} {Q : State → Prop} {ls : Array Slot} {pc : Nat} {st0 rest As : List Value}
  {cc : ByteArray} {D : va_G} {κ : Nat → ClassId} {wc : va_W} {mk : Nat} {ad : Nat → Nat → Nat} {A0 : Nat → Prop} {X Y wr : va_W}
theorem zjx7_i {a : Array Value} {o : Int32} {X1 w1 : va_W} (hr : va_Run p l e R s m args below meth c H locs cells slots 7 609 (F0 m pc ls st0) rest (va_Qi (fun r (_ : Unit) => r = o) (fun _ => zB D κ (va_A wc H.size) w1) (va_A wc H.size) a) (va_A wc H.size))
    (hPx : va_P D vwCl X H) (hPy : va_P D vwCl Y H) (hD : va_D A0 (X ++ Y)) (hS : va_S A0 H0 H locs) (hB : zAmb D κ mk ad H) (hZx : zSep mk ad X H.size) (hZy : zSep mk ad Y H.size) (hA : ∀ q, H0.size ≤ q → A0 q) (isC isR pm : List Nat) (hC : isC.map (fun i => X[i]?) = wc.map some) (hR : isR.map (fun i => X[i]?) = wr.map some) (hn : va_nd isR = true) (hdis : isR.all (fun i => !isC.contains i) = true) (hp1 : pm.filterMap (fun i => (wr ++ w1)[i]?) = X1) (hp2 : pm.map (fun i => (wr ++ w1)[i]?) = X1.map some) (hnp : va_nd pm = true) (hf : X1.map Prod.fst = X.map Prod.fst)
    (kk : ∀ (H1 : Heap) (locs1 : List Loc), va_P D vwCl X1 H1 → va_P D vwCl Y H1 → va_D A0 (X1 ++ Y) → va_S A0 H0 H1 locs1 → zAmb D κ mk ad H1 → zSep mk ad X1 H1.size → zSep mk ad Y H1.size → W p l e R s m args below meth c H1 locs1 (cells + 7) (slots + 609) Q (F0 m (pc + 3) ls (.int o :: rest))) : W p l e R s m args below meth c H locs cells slots Q (F0 m pc ls st0) := by
  have hDx := zD_left hD
  have hFc := va_free (wc := wc) hDx hS hA isC hC
  refine va_calli hr hS (fun q _ h => hFc q h) hFc (fun r u t H1 locs1 ht hvm hw hBB hz1 hk1 hS1 => ?_)
  obtain ⟨hP1, -, hD1⟩ := hBB
  rw [ht] at hP1
  have hw : r = o := hw
  subst hw
  obtain ⟨hP2, hD2⟩ := va_join (wr := wr) (w1 := w1) hPx hDx isC isR hC hR hn (fun i hi hc => by have := List.all_eq_true.mp hdis i hi; simp [List.contains_iff_mem, hc] at this) hk1 hFc hP1 hD1
  exact kk H1 locs1 (hP2.sub pm hp1) (zkeepY hPy hD isC hC hk1) (zD_put hD (hD2.sub pm hnp hp2) hf) hS1 (hB.keep (hZx.apt isC hC) hk1) (hZx.same hz1 hf) (hZy.same hz1 rfl)
theorem zjm_i {a : Array Value} {o : Int32} {k : Nat} {wr1 w1 X1 : (Nat → Nat → Nat) → va_W} (hr : va_Run p l e R s m args below meth c H locs cells slots 7 609 (F0 m pc ls st0) rest (va_Qi (fun r (ad1 : Nat → Nat → Nat) => r = o ∧ (∀ n, ¬ zno mk n → ad1 n = ad n) ∧ (zno mk k → ∀ j, j < 7 → H.size ≤ ad1 k j)) (fun ad1 u => zB D κ (va_A wc H.size) (w1 ad1) u ∧ zAmb D κ (zmk mk k) ad1 u.heap) (va_A wc H.size) a) (va_A wc H.size))
    (hwr : ∀ ad1, (∀ n, ¬ zno mk n → ad1 n = ad n) → wr = wr1 ad1) (hPx : va_P D vwCl X H) (hPy : va_P D vwCl Y H) (hD : va_D A0 (X ++ Y)) (hS : va_S A0 H0 H locs) (hB : zAmb D κ mk ad H) (hZx : zSep mk ad X H.size) (hZy : zSep mk ad Y H.size) (hA : ∀ q, H0.size ≤ q → A0 q) (isC isR pm : List Nat) (hC : isC.map (fun i => X[i]?) = wc.map some) (hR : isR.map (fun i => X[i]?) = wr.map some) (hn : va_nd isR = true) (hdis : isR.all (fun i => !isC.contains i) = true) (hp1 : ∀ ad1, pm.filterMap (fun i => (wr1 ad1 ++ w1 ad1)[i]?) = X1 ad1) (hp2 : ∀ ad1, pm.map (fun i => (wr1 ad1 ++ w1 ad1)[i]?) = (X1 ad1).map some) (hnp : va_nd pm = true) (hf : ∀ ad1, (X1 ad1).map Prod.fst = X.map Prod.fst)
    (kk : ∀ (ad1 : Nat → Nat → Nat) (H1 : Heap) (locs1 : List Loc), va_P D vwCl (X1 ad1) H1 → va_P D vwCl Y H1 → va_D A0 (X1 ad1 ++ Y) → va_S A0 H0 H1 locs1 → zAmb D κ (zmk mk k) ad1 H1 → zSep (zmk mk k) ad1 (X1 ad1) H1.size → zSep (zmk mk k) ad1 Y H1.size → W p l e R s m args below meth c H1 locs1 (cells + 7) (slots + 609) Q (F0 m (pc + 3) ls (.int o :: rest))) : W p l e R s m args below meth c H locs cells slots Q (F0 m pc ls st0) := by
  have hDx := zD_left hD
  have hFc := va_free (wc := wc) hDx hS hA isC hC
  refine va_calli hr hS (fun q _ h => hFc q h) hFc (fun r ad1 t H1 locs1 ht hvm hw hBB hz1 hk1 hS1 => ?_)
  obtain ⟨⟨hP1, -, hD1⟩, hB1⟩ := hBB
  rw [ht] at hP1 hB1
  obtain ⟨hw, hag, hnew⟩ := hw
  subst hw
  obtain ⟨hP2, hD2⟩ := va_join (wr := wr) (w1 := w1 ad1) hPx hDx isC isR hC hR hn (fun i hi hc => by have := List.all_eq_true.mp hdis i hi; simp [List.contains_iff_mem, hc] at this) hk1 hFc hP1 hD1
  rw [hwr ad1 hag] at hP2 hD2
  exact kk ad1 H1 locs1 (hP2.sub pm (hp1 ad1)) (zkeepY hPy hD isC hC hk1) (zD_put hD (hD2.sub pm hnp (hp2 ad1)) (hf ad1)) hS1 hB1 (zsep_new hZx hPx hag hnew hz1 hB1 (hf ad1)) (zsep_new hZy hPy hag hnew hz1 hB1 rfl)
end ZLM
