theorem zj_initU {U : Type} {p : Program} {l : Launch} {e : Env} {R : Room} {s : State} {m : MethodId} {args : Array Value} {below : List Frame} {meth : Method} {c : Code} {H H0 : Heap} {locs : List Loc} {cells slots mc ms : Nat} {Q : State → Prop} {ls : Array Slot} {pc : Nat} {st0 rest : List Value} {D : va_G} {κ : Nat → ClassId} {A : Nat → Prop} {wc : va_W} {a : Array Value} {post : U → Prop} {wf : U → va_W} {ws0 wr : va_W} (hr : va_Run p l e R s m args below meth c H locs cells slots mc ms (F0 m pc ls st0) rest (va_Qv post (fun u => zB D κ (va_A wc H.size) (wf u)) (va_A wc H.size) a) (va_A wc H.size))
    (hP : va_P D vwCl ws0 H) (hD : va_D A ws0) (hS : va_S A H0 H locs) (hA : ∀ q, H0.size ≤ q → A q) (isC isR : List Nat) (hC : isC.map (fun i => ws0[i]?) = wc.map some) (hR : isR.map (fun i => ws0[i]?) = wr.map some) (hn : va_nd isR = true) (hdis : isR.all (fun i => !isC.contains i) = true)
    (kk : ∀ (u : U) (H1 : Heap) (locs1 : List Loc), post u → va_P D vwCl (wr ++ wf u) H1 → va_D A (wr ++ wf u) → va_S A H0 H1 locs1 → W p l e R s m args below meth c H1 locs1 (cells + mc) (slots + ms) Q (F0 m (pc + 3) ls rest)) : W p l e R s m args below meth c H locs cells slots Q (F0 m pc ls st0) := by
  have hFc := va_free (wc := wc) hD hS hA isC hC
  refine va_callv hr hS (fun q _ h => hFc q h) hFc (fun u t H1 locs1 ht hvm hw hB hz1 hk1 hS1 => ?_)
  obtain ⟨hP1, -, hD1⟩ := hB
  rw [ht] at hP1
  obtain ⟨hP2, hD2⟩ := va_join (wr := wr) (w1 := wf u) hP hD isC isR hC hR hn (fun i hi hc => by have := List.all_eq_true.mp hdis i hi; simp [List.contains_iff_mem, hc] at this) hk1 hFc hP1 hD1
  exact kk u H1 locs1 hw hP2 hD2 hS1
theorem zpreIN {s : State} {H : Heap} {D : va_G} {κ : Nat → ClassId} {wc : va_W} {A : Nat → Prop} {As : List Value} {b : Nat} (hK : va_K D vwCl (zTY κ) s) (hP : va_P D vwCl wc H) (hD : va_D A wc) (hq : zNest s) : PreS s H (va_Pc (.ref b :: As) (fun U => zW D κ wc H.size U ∧ zNest U)) (.ref b :: As) :=
  ⟨fun a U g mk q => ⟨q.1, ⟨q.2.1.1, q.2.1.2.1, va_K.moved (u := U) (U := U.calling g mk a) (Vm.Alike.refl U.vm) q.2.1.2.2.1, q.2.1.2.2.2⟩, zNest_same (s := U) rfl q.2.2⟩, fun U hU hW => ⟨rfl, ⟨by rw [hU], by rw [hU]; exact hP, va_K.moved hW.alike hK, hD.weaken (fun _ _ _ _ => trivial)⟩, zNest_warm hW hq⟩⟩
theorem zno16 {n : Nat} (h : ¬ zno 16 n) : n = 4 := by
  by_cases q : n = 4
  · exact q
  · exfalso
    apply h
    by_cases h1 : n < 4
    · exact Or.inl h1
    · by_cases h2 : 9 < n
      · exact Or.inr (Or.inl h2)
      · have h3 : n = 5 ∨ n = 6 ∨ n = 7 ∨ n = 8 ∨ n = 9 := by omega
        rcases h3 with rfl | rfl | rfl | rfl | rfl <;> decide
theorem zpgc_has {κ : Nat → ClassId} {t : Nat → Nat} {n k : Nat} (hk : k < 7) : ∃ e, (zpgc κ t n)[k]? = some (t k, e) := by
  have h : k = 0 ∨ k = 1 ∨ k = 2 ∨ k = 3 ∨ k = 4 ∨ k = 5 ∨ k = 6 := by omega
  rcases h with rfl | rfl | rfl | rfl | rfl | rfl | rfl <;> exact ⟨_, rfl⟩
theorem zsep4 {D : va_G} {κ : Nat → ClassId} {A : Nat → Prop} {ad : Nat → Nat → Nat} {X : va_W} {H : Heap} (hP : va_P D vwCl (zpgc κ (ad 4) 4) H) (hD : va_D A (X ++ zpgc κ (ad 4) 4)) : zSep 16 ad X H.size := by
  intro n hn k hk
  have e := zno16 hn
  subst e
  obtain ⟨q, hq⟩ := zpgc_has (κ := κ) (t := ad 4) (n := 4) hk
  exact ⟨(hP k _ hq).lt, fun i w hw => zD_cross hD hw hq⟩
theorem zamb4 {D : va_G} {κ : Nat → ClassId} {ad : Nat → Nat → Nat} {H : Heap} (hP : va_P D vwCl (zpgc κ (ad 4) 4) H) : zAmb D κ 16 ad H := by
  intro n hn
  have e := zno16 hn
  subst e
  exact hP
theorem zs01 : zset 0 (Int.toNat (0 : Int)) (1 : Int) = 1 := by decide +kernel
theorem zg01 : zgetL 0x20000000000000001 (Int.toNat (0 : Int)) = 1 := by decide +kernel
theorem lf04 : zf_X11_listFor 0 0 0 0 0 0 0 0 4 = some (2, 4, 2, 4, 0xffffffff00000001ffffffff000000000000000000000000000000000000000000000000ffffffff00000000ffffffff0000000000000000000000000000000000000000000000000000000000000001ffffffff00000000ffffffff000000000000000000000000000000000000000000000000ffffffff00000000ffffffff00000000, 0x100000000, 0x300000002, 0x20000000000000001) := dq_of (d := (dqO (dqP dqI (dqP dqI (dqP dqI (dqP dqI (dqP dqN (dqP dqN (dqP dqN dqN))))))))) (by decide +kernel)
theorem zwx (κ : Nat → ClassId) (x : Nat → Nat) (ad : Nat → Nat → Nat) : zwf_X10_init κ x ad = (zLX κ x 16 ad 4 1 (-1) 0 0 0 0 0 0 0 (-1) 0 0 0 0 0 0 0 0 0 0 0 0 0 0 0 0 0 0 1 1 0 0 0 0 0 0 0 0 0 0 0 0 0 0 0 0) := by
  first | (unfold zwf_X10_init; rw [zs01]; done) | (unfold zwf_X10_init; rw [zs01]; rfl) | rfl
theorem zwy (κ : Nat → ClassId) (y : Nat → Nat) : zwf_X11_init κ (2, 4, 2, 4, 0xffffffff00000001ffffffff000000000000000000000000000000000000000000000000ffffffff00000000ffffffff0000000000000000000000000000000000000000000000000000000000000001ffffffff00000000ffffffff000000000000000000000000000000000000000000000000ffffffff00000000ffffffff00000000, 0x100000000, 0x300000002, 0x20000000000000001) y = (zLY κ y 0 0 0 0 0 0 0 (-1) 0 4 2 4 2 4 1 0 0 0 0 0 0 0 (-1) 0 1 0 0 0 0 0xffffffff00000001ffffffff000000000000000000000000000000000000000000000000ffffffff00000000ffffffff0000000000000000000000000000000000000000000000000000000000000001ffffffff00000000ffffffff000000000000000000000000000000000000000000000000ffffffff00000000ffffffff00000000 0x100000000 0x300000002 0x20000000000000001 0 0 0 0 0 0 0 0 0 0 0 1 0 0 0 0 0 0 0 0 0) := by
  first | (unfold zwf_X11_init; dsimp only; rw [zs01, zg01]; done) | (unfold zwf_X11_init; dsimp only; rw [zs01, zg01]; rfl) | (unfold zwf_X11_init; rw [zs01]; rfl) | rfl
