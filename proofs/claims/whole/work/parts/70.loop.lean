theorem head_cmp {L i : Nat} (hL : L ≤ 2048) (hi : 4 * i ≤ L) : (Int32.ofNat L - (4 : Int32) < nI (4 * i)) ↔ L < 4 * i + 4 := by
  rcases Nat.lt_or_ge L 4 with c | c
  · have : i = 0 := by omega
    subst this
    rcases (show L = 0 ∨ L = 1 ∨ L = 2 ∨ L = 3 by omega) with rfl | rfl | rfl | rfl <;> decide
  · have e : Int32.ofNat L - (4 : Int32) = nI (L - 4) := pk_sub (a := L) (b := 4) c
    rw [e, nI_ltI (by omega) (by omega)]
    omega
theorem k628 {p : Program} {l : Launch} {e : Env} {s : State} {m : MethodId} {below : List Frame} {meth : Method} {c : Code} {dC : Nat → ClassId} {dI : Nat → Nat → Nat} {cI cJ : ClassId} {b L : Nat} {sc : Nat → Int32} {hC hM m1 m2 hG g1 hB b1 b2 b3 b4 b5 hI hN n1 hR r1 hX x1 x2 x3 x4 x5 x6 x7 x8 o1 : Nat} {i k n : Nat} (F : LFx p l s m meth c (dC, dI) [(cI, .int), (cJ, .long)] b L sc) (h : KAt p l e s m below meth c dC dI cI cJ hC hM m1 m2 hG g1 hB b1 b2 b3 b4 b5 hI hN n1 hR r1 hX x1 x2 x3 x4 x5 x6 x7 x8 o1 b (i + 1) k n 23) : KAt p l e s m below meth c dC dI cI cJ hC hM m1 m2 hG g1 hB b1 b2 b3 b4 b5 hI hN n1 hR r1 hX x1 x2 x3 x4 x5 x6 x7 x8 o1 b i k n 628 := by
  obtain ⟨C0, -⟩ := F
  obtain ⟨hx, hb, -⟩ := C0
  intro cw cp cs mw mp gv bC bM bE bL bd bw bu bf br iop ii ij ik ic ip iu nS nn rS rr of xt xw xp xs xc xM xE xL xo xi xj xk xn xz xa xg xmw xmp xr xd xwt xf xrd xu hRl H locs hP hD hS ls hl
  have e4 : nI (4 * i) + Int32.ofInt 4 = nI (4 * (i + 1)) := by
    rw [show Int32.ofInt 4 = nI 4 from by decide, nI_add, show 4 * i + 4 = 4 * (i + 1) by omega]
  refine lv_iinc (v := nI (4 * (i + 1))) (lv' := [(4, .int (nI (4 * (i + 1)))), (3, .ref o1), (2, .ref hX), (1, .ref hC), (0, .ref b)]) hx hb dL_law_628 hl (k := 0) rfl e4 (by decide) rfl (fun ls hl => ?_)
  refine lv_goto (tgt := 23) hx hb dL_law_631 (by decide) ?_
  exact h cw cp cs mw mp gv bC bM bE bL bd bw bu bf br iop ii ij ik ic ip iu nS nn rS rr of xt xw xp xs xc xM xE xL xo xi xj xk xn xz xa xg xmw xmp xr xd xwt xf xrd xu hRl H locs hP hD hS ls hl
set_option maxHeartbeats 4000000 in
set_option maxRecDepth 100000 in
theorem law_loop {p : Program} {l : Launch} {e : Env} {s : State} {m : MethodId} {below : List Frame} {meth : Method} {c : Code} {dC : Nat → ClassId} {dI : Nat → Nat → Nat} {cI cJ : ClassId} {b L : Nat} {sc : Nat → Int32} {hC hM m1 m2 hG g1 hB b1 b2 b3 b4 b5 hI hN n1 hR r1 hX x1 x2 x3 x4 x5 x6 x7 x8 o1 : Nat} (F : LFx p l s m meth c (dC, dI) [(cI, .int), (cJ, .long)] b L sc) (hst : l.stackTraces = false) : ∀ t i k n : Nat, L + 4 ≤ 4 * i + 4 * t → 4 * i ≤ L → k = 27 + i → n = 2293 + 6 * i → KAt p l e s m below meth c dC dI cI cJ hC hM m1 m2 hG g1 hB b1 b2 b3 b4 b5 hI hN n1 hR r1 hX x1 x2 x3 x4 x5 x6 x7 x8 o1 b i k n 23 := by
  intro t
  induction t with
  | zero => intro i k n h1 h2; omega
  | succ t ih =>
    intro i k n h1 h2 hk hn cw cp cs mw mp gv bC bM bE bL bd bw bu bf br iop ii ij ik ic ip iu nS nn rS rr of xt xw xp xs xc xM xE xL xo xi xj xk xn xz xa xg xmw xmp xr xd xwt xf xrd xu hRl H locs hP hD hS ls hl
    obtain ⟨C0, hXs, hbl, hL, hK, hZ, hZx, hN1, hN2⟩ := id F
    obtain ⟨hx, hb, hr, hlk, hml, hown, hts⟩ := id C0
    have hbA : ¬ (fun q : Nat => s.heap.size ≤ q) b := Nat.not_le.mpr hbl
    refine lv_iload hx hb dL_law_23 (lv_at hl 0 rfl) ?_
    refine lv_aload_n hx hb dL_law_25 rfl (lv_at hl 4 rfl) ?_
    refine va_slen hx hb hXs hbl hbA hS dL_law_26 ?_
    refine lv_iconst (v := (4 : Int32)) hx hb dL_law_27 (by decide) ?_
    refine lv_isub hx hb dL_law_28 ?_
    refine lv_icmp_gt (tgt := 634) hx hb dL_law_29 (by decide) (fun q => ?_) (fun q => ?_)
    · refine lv_iconst (v := (1 : Int32)) hx hb dL_law_634 (by decide) ?_
      refine va_forget (fun q hq => hS.2.2 q hq) ?_
      refine W.widen (k := 1059) (n := 10533) (by omega) (by omega) ?_
      exact lw_ret hx hb hr hlk dL_law_635
    · rw [head_cmp hL h2] at q
      have hi : 4 * i + 4 ≤ L := by omega
      have K : KAt p l e s m below meth c dC dI cI cJ hC hM m1 m2 hG g1 hB b1 b2 b3 b4 b5 hI hN n1 hR r1 hX x1 x2 x3 x4 x5 x6 x7 x8 o1 b i (k + 1) (n + 6) 628 := k628 F (ih (i + 1) (k + 1) (n + 6) (by omega) (by omega) (by omega) (by omega))
      refine lv_aload_n hx hb dL_law_32 rfl (lv_at hl 4 rfl) ?_
      refine lv_iload hx hb dL_law_33 (lv_at hl 0 rfl) ?_
      refine va_sld hx hb hXs hbl hbA hS (vp_in_nI (by omega) (by omega)) dL_law_35 ?_
      refine lv_bipush (v := (15 : Int32)) hx hb dL_law_36 (by decide) ?_
      refine lv_iand hx hb dL_law_38 ?_
      obtain ⟨j, hj, ej⟩ := pk_andE (sc (nI (4 * i)).toNatClampNeg) (m := (15 : Int32)) 4 (by decide)
      rw [ej]
      rcases (show j = 0 ∨ j = 1 ∨ j = 2 ∨ j = 3 ∨ j = 4 ∨ j = 5 ∨ j = 6 ∨ j = 7 ∨ j = 8 ∨ j = 9 ∨ j = 10 ∨ j = 11 ∨ j = 12 ∨ j = 13 ∨ j = 14 ∨ j = 15 by omega) with rfl | rfl | rfl | rfl | rfl | rfl | rfl | rfl | rfl | rfl | rfl | rfl | rfl | rfl | rfl | rfl
      · refine lv_tableIn (tgt := 96) hx hb dL_law_39 (by decide) (by decide) rfl (by decide) ?_
        exact tn_write F hst hi (by omega) (by omega) hRl hP hD hS ls hl K
      · refine lv_tableIn (tgt := 195) hx hb dL_law_39 (by decide) (by decide) rfl (by decide) ?_
        exact tn_read F hst hi (by omega) (by omega) hRl hP hD hS ls hl K
      · refine lv_tableIn (tgt := 250) hx hb dL_law_39 (by decide) (by decide) rfl (by decide) ?_
        exact tn_register F hst hi (by omega) (by omega) hRl hP hD hS ls hl K
      · refine lv_tableIn (tgt := 305) hx hb dL_law_39 (by decide) (by decide) rfl (by decide) ?_
        exact tn_put F hst hi (by omega) (by omega) hRl hP hD hS ls hl K
      · refine lv_tableIn (tgt := 385) hx hb dL_law_39 (by decide) (by decide) rfl (by decide) ?_
        exact tn_start F hst hi (by omega) (by omega) hRl hP hD hS ls hl K
      · refine lv_tableIn (tgt := 421) hx hb dL_law_39 (by decide) (by decide) rfl (by decide) ?_
        exact tn_run F hst hi (by omega) (by omega) hRl hP hD hS ls hl K
      · refine lv_tableIn (tgt := 477) hx hb dL_law_39 (by decide) (by decide) rfl (by decide) ?_
        exact tn_stopped F hst hi (by omega) (by omega) hRl hP hD hS ls hl K
      · refine lv_tableIn (tgt := 490) hx hb dL_law_39 (by decide) (by decide) rfl (by decide) ?_
        exact tn_place F hst hi (by omega) (by omega) hRl hP hD hS ls hl K
      · refine lv_tableIn (tgt := 503) hx hb dL_law_39 (by decide) (by decide) rfl (by decide) ?_
        exact tn_cycles F hst hi (by omega) (by omega) hRl hP hD hS ls hl K
      · refine lv_tableIn (tgt := 517) hx hb dL_law_39 (by decide) (by decide) rfl (by decide) ?_
        exact tn_done F hst hi (by omega) (by omega) hRl hP hD hS ls hl K
      · refine lv_tableIn (tgt := 573) hx hb dL_law_39 (by decide) (by decide) rfl (by decide) ?_
        exact tn_waited F hst hi (by omega) (by omega) hRl hP hD hS ls hl K
      · refine lv_tableOut (tgt := 628) hx hb dL_law_39 (by decide) (by decide) ?_
        refine W.widen (k := k + 1) (n := n + 6) (by omega) (by omega) ?_
        exact K cw cp cs mw mp gv bC bM bE bL bd bw bu bf br iop ii ij ik ic ip iu nS nn rS rr of xt xw xp xs xc xM xE xL xo xi xj xk xn xz xa xg xmw xmp xr xd xwt xf xrd xu hRl H locs hP hD hS ls hl
      · refine lv_tableOut (tgt := 628) hx hb dL_law_39 (by decide) (by decide) ?_
        refine W.widen (k := k + 1) (n := n + 6) (by omega) (by omega) ?_
        exact K cw cp cs mw mp gv bC bM bE bL bd bw bu bf br iop ii ij ik ic ip iu nS nn rS rr of xt xw xp xs xc xM xE xL xo xi xj xk xn xz xa xg xmw xmp xr xd xwt xf xrd xu hRl H locs hP hD hS ls hl
      · refine lv_tableOut (tgt := 628) hx hb dL_law_39 (by decide) (by decide) ?_
        refine W.widen (k := k + 1) (n := n + 6) (by omega) (by omega) ?_
        exact K cw cp cs mw mp gv bC bM bE bL bd bw bu bf br iop ii ij ik ic ip iu nS nn rS rr of xt xw xp xs xc xM xE xL xo xi xj xk xn xz xa xg xmw xmp xr xd xwt xf xrd xu hRl H locs hP hD hS ls hl
      · refine lv_tableOut (tgt := 628) hx hb dL_law_39 (by decide) (by decide) ?_
        refine W.widen (k := k + 1) (n := n + 6) (by omega) (by omega) ?_
        exact K cw cp cs mw mp gv bC bM bE bL bd bw bu bf br iop ii ij ik ic ip iu nS nn rS rr of xt xw xp xs xc xM xE xL xo xi xj xk xn xz xa xg xmw xmp xr xd xwt xf xrd xu hRl H locs hP hD hS ls hl
      · refine lv_tableOut (tgt := 628) hx hb dL_law_39 (by decide) (by decide) ?_
        refine W.widen (k := k + 1) (n := n + 6) (by omega) (by omega) ?_
        exact K cw cp cs mw mp gv bC bM bE bL bd bw bu bf br iop ii ij ik ic ip iu nS nn rS rr of xt xw xp xs xc xM xE xL xo xi xj xk xn xz xa xg xmw xmp xr xd xwt xf xrd xu hRl H locs hP hD hS ls hl
