theorem ggL_law_X9_words : ∀ w ∈ wsX90, w ∈ wsL_law := fun _ h => List.mem_append_left _ (List.mem_append_left _ (List.mem_append_left _ (List.mem_append_left _ (List.mem_append_left _ (List.mem_append_left _ (List.mem_append_left _ (List.mem_append_left _ (List.mem_append_right _ h))))))))
theorem vaP_sw {D : va_G} {cl : List vw_C} {a b d : va_W} {H : Heap} (h : va_P D cl ((a ++ b) ++ d) H) : va_P D cl ((a ++ d) ++ b) H := ((vaP_l (vaP_l h)).app (vaP_r h)).app (vaP_r (vaP_l h))
theorem vaD_sw {A : Nat → Prop} {a b d : va_W} (h : va_D A ((a ++ b) ++ d)) : va_D A ((a ++ d) ++ b) := by
  have ha : ∀ i p, a[i]? = some p → (a ++ b)[i]? = some p := fun i p hi => by
    have hl : i < a.length := (List.getElem?_eq_some_iff.mp hi).1
    rw [List.getElem?_append_left hl]; exact hi
  have hb : ∀ i p, b[i]? = some p → (a ++ b)[a.length + i]? = some p := fun i p hi => by
    rw [List.getElem?_append_right (by omega), Nat.add_sub_cancel_left]; exact hi
  refine va_D.app (va_D.app (vaD_l (vaD_l h)) (vaD_r h) (fun i j p q hi hj => vaD_x h i j p q (ha i p hi) hj)) (vaD_r (vaD_l h)) (fun i j p q hi hj => ?_)
  rcases List.mem_append.mp (List.mem_of_getElem? hi) with hm | hm
  · obtain ⟨i', hi'⟩ := List.getElem?_of_mem hm
    exact vaD_x (vaD_l h) i' j p q hi' hj
  · obtain ⟨i', hi'⟩ := List.getElem?_of_mem hm
    exact fun e => vaD_x h (a.length + j) i' q p (hb j q hj) hi' e.symm
theorem rl0 : Rl 0 0 3 (fun _ => 0) (fun _ => 0) (fun _ => 0) 0 (fun _ => 0) (fun _ => 0) 0 (fun _ => 0) 0 (fun _ => 0) 0 0 3 (fun _ => 0) (fun _ => 0) (fun _ => 0) 0 (fun _ => 0) (fun _ => 0) := ⟨⟨rfl, rfl, rfl, rfl⟩, ⟨rfl, rfl, rfl, rfl, rfl⟩, ⟨fun _ _ => ⟨0, Nat.zero_le _, rfl⟩, fun _ _ => ⟨0, Nat.zero_le _, rfl⟩⟩, fun _ => vp_in_nI (n := 0) (N := 512) (by decide) (by decide), ⟨0, by decide, rfl⟩, ⟨⟨0, by decide, rfl⟩, fun _ _ => vp_in_nI (n := 0) (N := 24) (by decide) (by decide)⟩, ⟨⟨0, by decide, rfl⟩, fun _ _ => vp_in_nI (n := 0) (N := 24) (by decide) (by decide)⟩⟩
set_option maxHeartbeats 4000000 in
set_option maxRecDepth 100000 in
/-- THE LAW, from its entry -/
theorem whole_start {p : Program} {e : Env} {s : State} {m : MethodId} {below : List Frame} {meth : Method} {c : Code} (l : Launch) (hst : l.stackTraces = false) {b L : Nat} {xs : Nat → Int32} (hL : L ≤ 2048) (C0 : lw_At p s m meth c b L xs) : W p l e room_1 s m #[Value.ref b] below meth c s.heap [] 0 0 (lw_Z below #[Value.ref b] s) (entryFrame m ([Value.ref b] : List Value).toArray 8) := by
  obtain ⟨dC, dI, cI, cJ, F, hNs⟩ := start_facts (l := l) hL C0
  obtain ⟨C1, hXs, hbl, -, hK, hZ, hZx, hN1, hN2⟩ := id F
  obtain ⟨hx, hb, hr, hlk, hml, hown, hts⟩ := id C1
  have hA : ∀ q : Nat, s.heap.size ≤ q → (fun q : Nat => s.heap.size ≤ q) q := fun _ h => h
  have hS : va_S (fun q : Nat => s.heap.size ≤ q) s.heap s.heap [] := va_S.rf
  have hP : va_P (dC, dI) vwCl [] s.heap := fun k q h => by simp at h
  have hD : va_D (fun q : Nat => s.heap.size ≤ q) [] := ⟨fun i j p q h => by simp at h, fun k q h => by simp at h⟩
  have hl := lv_entry ([.ref b]) (n := 8) (Nat.le_of_ble_eq_true rfl)
  rw [lg_entry_eq]
  generalize (lg_sl ([.ref b]) ++ List.replicate (8 - (lg_sl ([.ref b])).length) Slot.unset).toArray = ls at hl ⊢
  have hl : lv_has ls 8 [(0, .ref b)] := hl
  refine va_new (ci := 5) (fs := [.null, .null, .null, .null, .int 0, .int 0, .int 0]) (C := RX8) (T := TX8) (N := 7) hx hb hts ggL_law_X8_init_5 tyX8 tyX8_ok hown (hts _ mm_law_c8) (hts _ mm_law_nX8) (hts _ mm_law_iX8) hK hP hD hS hA rfl (fun j hj => by rcases (show j = 0 ∨ j = 1 ∨ j = 2 ∨ j = 3 ∨ j = 4 ∨ j = 5 ∨ j = 6 by omega) with rfl | rfl | rfl | rfl | rfl | rfl | rfl <;> rfl) (Nat.le_of_ble_eq_true rfl) (Nat.le_of_ble_eq_true rfl) dL_law_0 (fun hC H hP hD hS => ?_)
  have hP : va_P (dC, dI) vwCl ([(hC, .inr (5, [.null, .null, .null, .null, .int 0, .int 0, .int 0]))] ++ []) H := hP
  have hD : va_D (fun q : Nat => s.heap.size ≤ q) ([(hC, .inr (5, [.null, .null, .null, .null, .int 0, .int 0, .int 0]))] ++ []) := hD
  refine lv_dup hx hb dL_law_3 rfl ?_
  have hFc := wd_free hD hS hA
  refine va_callv (va_runI (As := []) (rest := [.ref hC]) ⟨hx, hb, hml, hown, hts⟩ (c_X8_init l dC dI cI cJ hC H.size) (cwI 0 hts ggL_law_X8_init rfl rfl rfl (hts _ mm_law_iX8) (hts _ mm_law_l42) (hts _ mm_law_mX8_init) rfl (by decide +kernel) ⟨Nat.le_of_ble_eq_true rfl, Nat.le_of_ble_eq_true rfl⟩) ⟨fb_wc _ _ _ _ _ _, fun U hU hW => ⟨rfl, by rw [hU], by rw [hU]; exact vaP_l hP, va_K.moved hW.alike hK, (vaD_l hD).weaken (fun _ _ _ _ => trivial), Ns.warm hW hNs (fun _ h => h)⟩⟩ rfl rfl hl.1 rfl (lv_room (Nat.le_of_ble_eq_true rfl)) dL_law_4 ⟨Nat.le_of_ble_eq_true rfl, Nat.le_of_ble_eq_true rfl⟩) hS (fun q _ h => hFc q h) hFc (fun u t H1 locs ht hvm hw hB hz1 hk1 hS => ?_)
  obtain ⟨hM, m1, m2, hG, g1, hB, b1, b2, b3, b4, b5, hI, hN, n1, hR, r1, rfl⟩ := hw
  obtain ⟨hP1, -, hD1⟩ := hB
  rw [ht] at hP1
  obtain ⟨hP, hD⟩ := wd_call hP hD hk1 hFc hP1 hD1
  clear hP1 hD1 hk1 hFc ht hz1 hvm
  have hP : va_P (dC, dI) vwCl (WCl cI cJ hC hM m1 m2 hG g1 hB b1 b2 b3 b4 b5 hI hN n1 hR r1 0 0 3 (fun _ => 0) (fun _ => 0) (fun _ => 0) 0 0 0 0 (fun _ => 0) (fun _ => 0) (fun _ => 0) (fun _ => 0) (fun _ => 0) 0 0 0 0 0 0 0 0 (fun _ => 0) 0 (fun _ => 0)) H1 := vaP_l hP
  have hD : va_D (fun q : Nat => s.heap.size ≤ q) (WCl cI cJ hC hM m1 m2 hG g1 hB b1 b2 b3 b4 b5 hI hN n1 hR r1 0 0 3 (fun _ => 0) (fun _ => 0) (fun _ => 0) 0 0 0 0 (fun _ => 0) (fun _ => 0) (fun _ => 0) (fun _ => 0) (fun _ => 0) 0 0 0 0 0 0 0 0 (fun _ => 0) 0 (fun _ => 0)) := vaD_l hD
  generalize H1 = H at hP hS ⊢
  refine lv_astore_n (lv' := [(1, .ref hC), (0, .ref b)]) hx hb dL_law_7 rfl hl (by decide) rfl (fun ls hl => ?_)
  refine va_new (ci := 6) (fs := [.int 0, .null, .null, .null, .int 0, .int 0, .int 0, .long 0, .null, .null, .null, .null, .null, .long 0, .long 0, .long 0, .int 0, .int 0, .int 0, .int 0, .int 0, .int 0, .int 0, .int 0]) (C := RX9) (T := TX9) (N := 24) hx hb hts ggL_law_X9_words tyX9 tyX9_ok hown (hts _ mm_law_c43) (hts _ mm_law_nX9) (hts _ mm_law_iX9) hK hP hD hS hA rfl (fun j hj => by rcases (show j = 0 ∨ j = 1 ∨ j = 2 ∨ j = 3 ∨ j = 4 ∨ j = 5 ∨ j = 6 ∨ j = 7 ∨ j = 8 ∨ j = 9 ∨ j = 10 ∨ j = 11 ∨ j = 12 ∨ j = 13 ∨ j = 14 ∨ j = 15 ∨ j = 16 ∨ j = 17 ∨ j = 18 ∨ j = 19 ∨ j = 20 ∨ j = 21 ∨ j = 22 ∨ j = 23 by omega) with rfl | rfl | rfl | rfl | rfl | rfl | rfl | rfl | rfl | rfl | rfl | rfl | rfl | rfl | rfl | rfl | rfl | rfl | rfl | rfl | rfl | rfl | rfl | rfl <;> rfl) (Nat.le_of_ble_eq_true rfl) (Nat.le_of_ble_eq_true rfl) dL_law_8 (fun hX H hP hD hS => ?_)
  have hP : va_P (dC, dI) vwCl ([(hX, .inr (6, [.int 0, .null, .null, .null, .int 0, .int 0, .int 0, .long 0, .null, .null, .null, .null, .null, .long 0, .long 0, .long 0, .int 0, .int 0, .int 0, .int 0, .int 0, .int 0, .int 0, .int 0]))] ++ (WCl cI cJ hC hM m1 m2 hG g1 hB b1 b2 b3 b4 b5 hI hN n1 hR r1 0 0 3 (fun _ => 0) (fun _ => 0) (fun _ => 0) 0 0 0 0 (fun _ => 0) (fun _ => 0) (fun _ => 0) (fun _ => 0) (fun _ => 0) 0 0 0 0 0 0 0 0 (fun _ => 0) 0 (fun _ => 0))) H := vaP_c hP
  have hD : va_D (fun q : Nat => s.heap.size ≤ q) ([(hX, .inr (6, [.int 0, .null, .null, .null, .int 0, .int 0, .int 0, .long 0, .null, .null, .null, .null, .null, .long 0, .long 0, .long 0, .int 0, .int 0, .int 0, .int 0, .int 0, .int 0, .int 0, .int 0]))] ++ (WCl cI cJ hC hM m1 m2 hG g1 hB b1 b2 b3 b4 b5 hI hN n1 hR r1 0 0 3 (fun _ => 0) (fun _ => 0) (fun _ => 0) 0 0 0 0 (fun _ => 0) (fun _ => 0) (fun _ => 0) (fun _ => 0) (fun _ => 0) 0 0 0 0 0 0 0 0 (fun _ => 0) 0 (fun _ => 0))) := vaD_c hD
  refine lv_dup hx hb dL_law_11 rfl ?_
  have hFc := wd_free hD hS hA
  refine va_callv (va_runI (As := []) (rest := [.ref hX]) ⟨hx, hb, hml, hown, hts⟩ (c_X9_init l dC dI cI cJ hX H.size) (cwI 0 hts ggL_law_X9_init rfl rfl rfl (hts _ mm_law_iX9) (hts _ mm_law_l45) (hts _ mm_law_mX9_init) rfl (by decide +kernel) ⟨Nat.le_of_ble_eq_true rfl, Nat.le_of_ble_eq_true rfl⟩) ⟨fb_wc _ _ _ _ _ _, fun U hU hW => ⟨rfl, by rw [hU], by rw [hU]; exact vaP_l hP, va_K.moved hW.alike hK, (vaD_l hD).weaken (fun _ _ _ _ => trivial), fun _ h => nomatch h⟩⟩ rfl rfl hl.1 rfl (lv_room (Nat.le_of_ble_eq_true rfl)) dL_law_12 ⟨Nat.le_of_ble_eq_true rfl, Nat.le_of_ble_eq_true rfl⟩) hS (fun q _ h => hFc q h) hFc (fun u t H1 locs ht hvm hw hB hz1 hk1 hS => ?_)
  obtain ⟨x1, x2, x3, x4, x5, x6, x7, x8, rfl⟩ := hw
  obtain ⟨hP1, -, hD1⟩ := hB
  rw [ht] at hP1
  obtain ⟨hP, hD⟩ := wd_call hP hD hk1 hFc hP1 hD1
  clear hP1 hD1 hk1 hFc ht hz1 hvm
  have hP : va_P (dC, dI) vwCl (WCl cI cJ hC hM m1 m2 hG g1 hB b1 b2 b3 b4 b5 hI hN n1 hR r1 0 0 3 (fun _ => 0) (fun _ => 0) (fun _ => 0) 0 0 0 0 (fun _ => 0) (fun _ => 0) (fun _ => 0) (fun _ => 0) (fun _ => 0) 0 0 0 0 0 0 0 0 (fun _ => 0) 0 (fun _ => 0) ++ WXl cI cJ hX x1 x2 x3 x4 x5 x6 x7 x8 0 0 0 3 0 0 0 0 0 0 0 0 0 0 0 0 (fun _ => 0) (fun _ => 0) (fun _ => 0) (fun _ => 0) (fun _ => 0) (fun _ => 0) (fun _ => 0) (fun _ => 0)) H1 := vaP_c hP
  have hD : va_D (fun q : Nat => s.heap.size ≤ q) (WCl cI cJ hC hM m1 m2 hG g1 hB b1 b2 b3 b4 b5 hI hN n1 hR r1 0 0 3 (fun _ => 0) (fun _ => 0) (fun _ => 0) 0 0 0 0 (fun _ => 0) (fun _ => 0) (fun _ => 0) (fun _ => 0) (fun _ => 0) 0 0 0 0 0 0 0 0 (fun _ => 0) 0 (fun _ => 0) ++ WXl cI cJ hX x1 x2 x3 x4 x5 x6 x7 x8 0 0 0 3 0 0 0 0 0 0 0 0 0 0 0 0 (fun _ => 0) (fun _ => 0) (fun _ => 0) (fun _ => 0) (fun _ => 0) (fun _ => 0) (fun _ => 0) (fun _ => 0)) := vaD_c hD
  generalize H1 = H at hP hS ⊢
  refine lv_astore_n (lv' := [(2, .ref hX), (1, .ref hC), (0, .ref b)]) hx hb dL_law_15 rfl hl (by decide) rfl (fun ls hl => ?_)
  refine lv_iconst (v := (1 : Int32)) hx hb dL_law_16 (by decide) ?_
  refine nw_arr (atype := .long) (N' := 1) (a0 := (1, .inr (.inl (fun _ => 0)))) hx hb (hts _ mm_law_aJ) rfl hK hP hD hS hA 1 rfl (Or.inr rfl) (fun _ => rfl) (by decide) (by decide) (by decide) (Nat.le_of_ble_eq_true rfl) (Nat.le_of_ble_eq_true rfl) dL_law_17 (fun o1 H hP hD hS => ?_)
  have hP := vaP_sw hP
  have hD := vaD_sw hD
  refine lv_astore_n (lv' := [(3, .ref o1), (2, .ref hX), (1, .ref hC), (0, .ref b)]) hx hb dL_law_19 rfl hl (by decide) rfl (fun ls hl => ?_)
  refine lv_iconst (v := nI (4 * 0)) hx hb dL_law_20 (by decide) ?_
  refine lv_istore (lv' := [(4, .int (nI (4 * 0))), (3, .ref o1), (2, .ref hX), (1, .ref hC), (0, .ref b)]) hx hb dL_law_21 hl (by decide) rfl (fun ls hl => ?_)
  refine W.widen (k := 27) (n := 2293) (by decide) (by decide) ?_
  exact law_loop F hst (L + 1) 0 27 2293 (by omega) (by omega) rfl rfl 0 0 3 (fun _ => 0) (fun _ => 0) (fun _ => 0) 0 0 0 0 (fun _ => 0) (fun _ => 0) (fun _ => 0) (fun _ => 0) (fun _ => 0) 0 0 0 0 0 0 0 0 (fun _ => 0) 0 (fun _ => 0) (fun _ => 0) 0 0 0 3 0 0 0 0 0 0 0 0 0 0 0 0 (fun _ => 0) (fun _ => 0) (fun _ => 0) (fun _ => 0) (fun _ => 0) (fun _ => 0) (fun _ => 0) (fun _ => 0) rl0 H _ hP hD hS ls hl
