/-! the law's calls of its own wrappers: static methods with a table -/
theorem vaP_l {D : va_G} {cl : List vw_C} {a b : va_W} {H : Heap} (h : va_P D cl (a ++ b) H) : va_P D cl a H := by
  intro k q hk
  have hl : k < a.length := (List.getElem?_eq_some_iff.mp hk).1
  exact h k q (by rw [List.getElem?_append_left hl]; exact hk)
theorem vaP_r {D : va_G} {cl : List vw_C} {a b : va_W} {H : Heap} (h : va_P D cl (a ++ b) H) : va_P D cl b H := by
  intro k q hk
  exact h (a.length + k) q (by rw [List.getElem?_append_right (by omega), Nat.add_sub_cancel_left]; exact hk)
theorem vaP_c {D : va_G} {cl : List vw_C} {a b : va_W} {H : Heap} (h : va_P D cl (a ++ b) H) : va_P D cl (b ++ a) H := (vaP_r h).app (vaP_l h)
theorem vaD_l {A : Nat → Prop} {a b : va_W} (h : va_D A (a ++ b)) : va_D A a := by
  have key : ∀ k q, a[k]? = some q → (a ++ b)[k]? = some q := fun k q hk => by
    have hl : k < a.length := (List.getElem?_eq_some_iff.mp hk).1
    rw [List.getElem?_append_left hl]; exact hk
  exact ⟨fun i j p q hi hj e => h.1 i j p q (key i p hi) (key j q hj) e, fun k q hk => h.2 k q (key k q hk)⟩
theorem vaD_r {A : Nat → Prop} {a b : va_W} (h : va_D A (a ++ b)) : va_D A b := by
  have key : ∀ k q, b[k]? = some q → (a ++ b)[a.length + k]? = some q := fun k q hk => by
    rw [List.getElem?_append_right (by omega), Nat.add_sub_cancel_left]; exact hk
  exact ⟨fun i j p q hi hj e => by have := h.1 _ _ p q (key i p hi) (key j q hj) e; omega, fun k q hk => h.2 _ q (key k q hk)⟩
theorem vaD_x {A : Nat → Prop} {a b : va_W} (h : va_D A (a ++ b)) (i j : Nat) (p q : Nat × va_E) (hi : a[i]? = some p) (hj : b[j]? = some q) : p.1 ≠ q.1 := by
  intro e
  have hl : i < a.length := (List.getElem?_eq_some_iff.mp hi).1
  have := h.1 i (a.length + j) p q (by rw [List.getElem?_append_left hl]; exact hi) (by rw [List.getElem?_append_right (by omega), Nat.add_sub_cancel_left]; exact hj) e
  omega
theorem vaD_c {A : Nat → Prop} {a b : va_W} (h : va_D A (a ++ b)) : va_D A (b ++ a) := (vaD_r h).app (vaD_l h) (fun i j p q hi hj e => vaD_x h j i q p hj hi e.symm)
theorem rngC (a b : va_W) : (List.range a.length).map (fun i => (a ++ b)[i]?) = a.map some := by
  apply List.ext_getElem?
  intro k
  by_cases hk : k < a.length
  · rw [List.getElem?_map, List.getElem?_range hk, List.getElem?_map]
    simp only [Option.map_some]
    rw [List.getElem?_append_left hk, List.getElem?_eq_getElem hk]
    rfl
  · rw [List.getElem?_eq_none (by simpa using Nat.not_lt.mp hk), List.getElem?_eq_none (by simpa using Nat.not_lt.mp hk)]
theorem rngR (a b : va_W) : ((List.range b.length).map (a.length + ·)).map (fun i => (a ++ b)[i]?) = b.map some := by
  apply List.ext_getElem?
  intro k
  by_cases hk : k < b.length
  · rw [List.getElem?_map, List.getElem?_map, List.getElem?_range hk, List.getElem?_map]
    simp only [Option.map_some]
    rw [List.getElem?_append_right (by omega), Nat.add_sub_cancel_left, List.getElem?_eq_getElem hk]
    rfl
  · rw [List.getElem?_eq_none (by simpa using Nat.not_lt.mp hk), List.getElem?_eq_none (by simpa using Nat.not_lt.mp hk)]
theorem va_nd_of : ∀ l : List Nat, l.Nodup → va_nd l = true
  | [], _ => rfl
  | a :: l, h => by
    obtain ⟨h1, h2⟩ := List.nodup_cons.mp h
    rw [va_nd, va_nd_of l h2]
    simp [h1]
theorem va_ndR (a n : Nat) : va_nd ((List.range n).map (a + ·)) = true := by
  apply va_nd_of
  rw [List.nodup_iff_pairwise_ne, List.pairwise_map]
  have := List.nodup_range (n := n)
  rw [List.nodup_iff_pairwise_ne] at this
  exact this.imp (fun h e => h (by omega))
/-- the world behind a call of its first part -/
theorem wd_call {A0 : Nat → Prop} {D : va_G} {wc wr w1 : va_W} {H H1 : Heap} (hP : va_P D vwCl (wc ++ wr) H) (hD : va_D A0 (wc ++ wr)) (hk : ∀ q : Nat, q < H.size → ¬ va_A wc H.size q → H1[q]? = H[q]?) (hF : ∀ q, va_A wc H.size q → A0 q) (hP1 : va_P D vwCl w1 H1) (hD1 : va_D (va_A wc H.size) w1) : va_P D vwCl (w1 ++ wr) H1 ∧ va_D A0 (w1 ++ wr) := by
  obtain ⟨g1, g2⟩ := va_join hP hD (List.range wc.length) ((List.range wr.length).map (wc.length + ·)) (rngC wc wr) (rngR wc wr) (va_ndR _ _) (fun i hi hj => by
    obtain ⟨k, -, rfl⟩ := List.mem_map.mp hi
    have := List.mem_range.mp hj
    omega) hk hF hP1 hD1
  exact ⟨vaP_c g1, vaD_c g2⟩
theorem wd_free {A0 : Nat → Prop} {wc wr : va_W} {H0 H : Heap} {locs : List Loc} (hD : va_D A0 (wc ++ wr)) (hS : va_S A0 H0 H locs) (hA : ∀ q, H0.size ≤ q → A0 q) : ∀ q, va_A wc H.size q → A0 q := va_free hD hS hA (List.range wc.length) (rngC wc wr)
section LawCalls
variable {z : Bool} {p : Program} {l : Launch} {e : Env} {R : Room} {s : State} {m : MethodId} {args : Array Value} {below : List Frame} {meth : Method} {c : Code} {H H0 : Heap} {locs : List Loc} {cells slots : Nat} {Q : State → Prop}
variable {cc bytes : ByteArray} {nL maxL pc index mc ms : Nat} {ret rty : Option FieldType} {hh : List (Nat × Nat × Nat × Nat)} {wl wy : List Cond} {own E : String} {y : MethodName} {rm : Room} {D : va_G} {tys : List (ClassId × FieldType)} {wc wr w1 : va_W} {As st rest : List Value} {ls : Array Slot} {b : Nat} {A0 : Nat → Prop}
def CaH (R rm : Room) (y : MethodName) (bytes : ByteArray) (maxL : Nat) (rty : Option FieldType) (hh : List (Nat × Nat × Nat × Nat)) (wy : List Cond) (mc ms n : Nat) : Prop :=
  rm.cells = mc ∧ rm.slots = ms ∧ wy.head? = some (Cond.codeWith y bytes maxL rty hh) ∧ (y.cls ≠ "java/lang/invoke/MethodHandle" ∧ y.cls ≠ "java/lang/invoke/VarHandle" ∧ (parseMethodDescriptor y.desc).map (fun d => d.parameters.length) = some n) ∧ rm.frames + 1 ≤ R.frames ∧ 8 + (maxL + 11) + rm.locals ≤ R.locals
theorem caH {n : Nat} (hB : CaH R rm y bytes maxL rty hh wy mc ms n) (C0 : Cx p s m meth c cc nL ret wl own args) (hG : GoodIn wl wy) (hini : Cond.initialized y.cls ∈ wl) (hl : Cond.methodLink own index y ∈ wl) (hst : Cond.static y ∈ wl) : vx_CSW R s args own index y bytes maxL rty hh wy rm mc ms n := by
  obtain ⟨h1, h2, h3, ⟨h4, h5, h6⟩, h7, h8⟩ := hB
  obtain ⟨-, -, -, -, -, -, hts⟩ := C0
  have hmem : Cond.codeWith y bytes maxL rty hh ∈ wy := by
    cases wy with
    | nil => cases h3
    | cons a t => cases h3; exact List.mem_cons_self
  refine ⟨⟨h1, h2, h7, h8, fun w hw a' U hW => word_at hW (hG w hw).2 (hts w (hG w hw).1), hmem⟩, hts _ (hG _ hmem).1, hts _ hini, ⟨h4, h5⟩, fun sig hs => ?_, hts _ hl, hts _ hst⟩
  rw [hs] at h6
  exact (Option.some.inj h6).symm
/-- a wrapper that answers -/
theorem lpOk {n : Nat} {v : Int32} (C0 : Cx p s m meth c cc nL ret wl own args) (hM : WrI z l y wy rm D tys wc w1 As v) (hB : CaH R rm y bytes maxL rty hh wy 0 0 n) (hG : GoodIn wl wy) (hini : Cond.initialized y.cls ∈ wl) (hl : Cond.methodLink own index y ∈ wl) (hst : Cond.static y ∈ wl)
    (hP : va_P D vwCl (wc ++ wr) H) (hD : va_D A0 (wc ++ wr)) (hK : va_K D vwCl tys s) (hS : va_S A0 H0 H locs) (hA : ∀ q, H0.size ≤ q → A0 q) (hZ : Zs z A0 s H0)
    (hsz : ls.size = nL) (hn : As.length = n) (hstack : st = As.reverse ++ rest) (hW : (rest.map fun v => v.category).sum ≤ 8) (hdg : decode cc pc = .ok (.invokestatic index, 3)) (hf : cells ≤ R.cells ∧ slots ≤ R.slots)
    (kk : ∀ (H1 : Heap) (locs1 : List Loc), va_P D vwCl (w1 ++ wr) H1 → va_D A0 (w1 ++ wr) → va_S A0 H0 H1 locs1 → W p l e R s m args below meth c H1 locs1 cells slots Q (F0 m (pc + 3) ls (.int v :: rest))) : W p l e R s m args below meth c H locs cells slots Q (F0 m pc ls st) := by
  have hFc := wd_free hD hS hA
  refine va_calli (vx_runSW (As := As) (rest := rest) (hh := hh) ⟨C0.1, C0.2.1, C0.2.2.2.2.1, C0.2.2.2.2.2.1, C0.2.2.2.2.2.2⟩ (hM H.size) (caH hB C0 hG hini hl hst) ⟨fb_wr _ _ _ _ _ _, fun U hU hW => ⟨rfl, by rw [hU], by rw [hU]; exact vaP_l hP, va_K.moved hW.alike hK, (vaD_l hD).weaken (fun _ _ _ _ => trivial), by rw [hU]; exact ((hZ.kept hS.2.1).narrow hFc).moved hW.alike⟩⟩ rfl hn hsz hstack (lv_room hW) hdg hf) hS (fun q _ h => hFc q h) hFc (fun r u t H1 locs1 ht hvm hw hBt hz hk hS1 => ?_)
  obtain ⟨hP1, -, hD1⟩ := hBt
  rw [ht] at hP1
  obtain ⟨g1, g2⟩ := wd_call hP hD hk hFc hP1 hD1
  rw [show r = v from hw]
  exact kk H1 locs1 g1 g2 hS1
/-- a wrapper whose call throws -/
theorem lpNo {n : Nat} (C0 : Cx p s m meth c cc nL ret wl own args) (hM : NoI E l y wy rm D tys wc As) (hB : CaH R rm y bytes maxL rty hh wy 1 6 n) (hG : GoodIn wl wy) (hini : Cond.initialized y.cls ∈ wl) (hl : Cond.methodLink own index y ∈ wl) (hst : Cond.static y ∈ wl)
    (hP : va_P D vwCl (wc ++ wr) H) (hD : va_D A0 (wc ++ wr)) (hK : va_K D vwCl tys s) (hS : va_S A0 H0 H locs) (hA : ∀ q, H0.size ≤ q → A0 q) (hZ : Zx A0 s H0) (hN : Nx E s)
    (hsz : ls.size = nL) (hn : As.length = n) (hstack : st = As.reverse ++ rest) (hW : (rest.map fun v => v.category).sum ≤ 8) (hdg : decode cc pc = .ok (.invokestatic index, 3)) (hf : cells + 1 ≤ R.cells ∧ slots + 6 ≤ R.slots)
    (kk : ∀ (H1 : Heap) (locs1 : List Loc), va_P D vwCl (wc ++ wr) H1 → va_D A0 (wc ++ wr) → va_S A0 H0 H1 locs1 → W p l e R s m args below meth c H1 locs1 (cells + 1) (slots + 6) Q (F0 m (pc + 3) ls (.int 1 :: rest))) : W p l e R s m args below meth c H locs cells slots Q (F0 m pc ls st) := by
  have hFc := wd_free hD hS hA
  refine va_calli (vx_runSW (As := As) (rest := rest) (hh := hh) ⟨C0.1, C0.2.1, C0.2.2.2.2.1, C0.2.2.2.2.2.1, C0.2.2.2.2.2.2⟩ (hM H.size) (caH hB C0 hG hini hl hst) ⟨fb_wx _ _ _ _ _ _, fun U hU hW => ⟨rfl, by rw [hU], by rw [hU]; exact vaP_l hP, va_K.moved hW.alike hK, (vaD_l hD).weaken (fun _ _ _ _ => trivial), by rw [hU]; exact ((hZ.kept hS.2.1).narrow hFc).moved hW.alike, hN.warm hW⟩⟩ rfl hn hsz hstack (lv_room hW) hdg hf) hS (fun q _ h => hFc q h) hFc (fun r u t H1 locs1 ht hvm hw hBt hz hk hS1 => ?_)
  obtain ⟨hP1, -, hD1⟩ := hBt
  rw [ht] at hP1
  obtain ⟨g1, g2⟩ := wd_call hP hD hk hFc hP1 hD1
  rw [show r = 1 from hw]
  exact kk H1 locs1 g1 g2 hS1
theorem lpVi {n : Nat} {v : Int32} {ci : Nat} {qc : vw_C} {fs : List Value} (C0 : Cx p s m meth c cc nL ret wl own args) (hM : WrI z l y wy rm D tys wc w1 (.ref b :: As) v) (hB : CaB R rm own index y bytes maxL rty wy n) (hG : GoodIn wl wy) (hini : Cond.initialized y.cls ∈ wl) (hl : Cond.methodLink own index y ∈ wl) (hst : Cond.instanceMethod y ∈ wl) (hse : Cond.selects qc.1 y y ∈ wl) (hc : vwCl[ci]? = some qc) (he : wc[0]? = some (b, .inr (ci, fs)))
    (hP : va_P D vwCl (wc ++ wr) H) (hD : va_D A0 (wc ++ wr)) (hK : va_K D vwCl tys s) (hS : va_S A0 H0 H locs) (hA : ∀ q, H0.size ≤ q → A0 q) (hZ : Zs z A0 s H0)
    (hsz : ls.size = nL) (hn : As.length = n) (hstack : st = As.reverse ++ .ref b :: rest) (hW : (rest.map fun v => v.category).sum ≤ 8) (hdg : decode cc pc = .ok (.invokevirtual index, 3)) (hf : cells ≤ R.cells ∧ slots ≤ R.slots)
    (kk : ∀ (H1 : Heap) (locs1 : List Loc), va_P D vwCl (w1 ++ wr) H1 → va_D A0 (w1 ++ wr) → va_S A0 H0 H1 locs1 → W p l e R s m args below meth c H1 locs1 cells slots Q (F0 m (pc + 3) ls (.int v :: rest))) : W p l e R s m args below meth c H locs cells slots Q (F0 m pc ls st) := by
  have hFc := wd_free hD hS hA
  refine va_calli (va_runV (As := As) (rest := rest) ⟨C0.1, C0.2.1, C0.2.2.2.2.1, C0.2.2.2.2.2.1, C0.2.2.2.2.2.2⟩ (hM H.size) ⟨caB hB C0 hG hini hl, C0.2.2.2.2.2.2 _ hst, C0.2.2.2.2.2.2 _ hse⟩ ⟨fb_wr _ _ _ _ _ _, va_recv hK (vaP_l hP) hc he, fun U hU hW => ⟨rfl, by rw [hU], by rw [hU]; exact vaP_l hP, va_K.moved hW.alike hK, (vaD_l hD).weaken (fun _ _ _ _ => trivial), by rw [hU]; exact ((hZ.kept hS.2.1).narrow hFc).moved hW.alike⟩⟩ rfl hn hsz hstack (lv_room hW) hdg hf) hS (fun q _ h => hFc q h) hFc (fun r u t H1 locs1 ht hvm hw hBt hz hk hS1 => ?_)
  obtain ⟨hP1, -, hD1⟩ := hBt
  rw [ht] at hP1
  obtain ⟨g1, g2⟩ := wd_call hP hD hk hFc hP1 hD1
  rw [show r = v from hw]
  exact kk H1 locs1 g1 g2 hS1
theorem lpVl {n : Nat} {v : Int64} {ci : Nat} {qc : vw_C} {fs : List Value} (C0 : Cx p s m meth c cc nL ret wl own args) (hM : WrL z l y wy rm D tys wc w1 (.ref b :: As) v) (hB : CaB R rm own index y bytes maxL rty wy n) (hG : GoodIn wl wy) (hini : Cond.initialized y.cls ∈ wl) (hl : Cond.methodLink own index y ∈ wl) (hst : Cond.instanceMethod y ∈ wl) (hse : Cond.selects qc.1 y y ∈ wl) (hc : vwCl[ci]? = some qc) (he : wc[0]? = some (b, .inr (ci, fs)))
    (hP : va_P D vwCl (wc ++ wr) H) (hD : va_D A0 (wc ++ wr)) (hK : va_K D vwCl tys s) (hS : va_S A0 H0 H locs) (hA : ∀ q, H0.size ≤ q → A0 q) (hZ : Zs z A0 s H0)
    (hsz : ls.size = nL) (hn : As.length = n) (hstack : st = As.reverse ++ .ref b :: rest) (hW : (rest.map fun v => v.category).sum ≤ 8) (hdg : decode cc pc = .ok (.invokevirtual index, 3)) (hf : cells ≤ R.cells ∧ slots ≤ R.slots)
    (kk : ∀ (H1 : Heap) (locs1 : List Loc), va_P D vwCl (w1 ++ wr) H1 → va_D A0 (w1 ++ wr) → va_S A0 H0 H1 locs1 → W p l e R s m args below meth c H1 locs1 cells slots Q (F0 m (pc + 3) ls (.long v :: rest))) : W p l e R s m args below meth c H locs cells slots Q (F0 m pc ls st) := by
  have hFc := wd_free hD hS hA
  refine va_calll (va_runV (As := As) (rest := rest) ⟨C0.1, C0.2.1, C0.2.2.2.2.1, C0.2.2.2.2.2.1, C0.2.2.2.2.2.2⟩ (hM H.size) ⟨caB hB C0 hG hini hl, C0.2.2.2.2.2.2 _ hst, C0.2.2.2.2.2.2 _ hse⟩ ⟨fb_wr _ _ _ _ _ _, va_recv hK (vaP_l hP) hc he, fun U hU hW => ⟨rfl, by rw [hU], by rw [hU]; exact vaP_l hP, va_K.moved hW.alike hK, (vaD_l hD).weaken (fun _ _ _ _ => trivial), by rw [hU]; exact ((hZ.kept hS.2.1).narrow hFc).moved hW.alike⟩⟩ rfl hn hsz hstack (lv_room hW) hdg hf) hS (fun q _ h => hFc q h) hFc (fun r u t H1 locs1 ht hvm hw hBt hz hk hS1 => ?_)
  obtain ⟨hP1, -, hD1⟩ := hBt
  rw [ht] at hP1
  obtain ⟨g1, g2⟩ := wd_call hP hD hk hFc hP1 hD1
  rw [show r = v from hw]
  exact kk H1 locs1 g1 g2 hS1
theorem lpVv {n : Nat} {ci : Nat} {qc : vw_C} {fs : List Value} (C0 : Cx p s m meth c cc nL ret wl own args) (hM : WrV z l y wy rm D tys wc w1 (.ref b :: As)) (hB : CaB R rm own index y bytes maxL rty wy n) (hG : GoodIn wl wy) (hini : Cond.initialized y.cls ∈ wl) (hl : Cond.methodLink own index y ∈ wl) (hst : Cond.instanceMethod y ∈ wl) (hse : Cond.selects qc.1 y y ∈ wl) (hc : vwCl[ci]? = some qc) (he : wc[0]? = some (b, .inr (ci, fs)))
    (hP : va_P D vwCl (wc ++ wr) H) (hD : va_D A0 (wc ++ wr)) (hK : va_K D vwCl tys s) (hS : va_S A0 H0 H locs) (hA : ∀ q, H0.size ≤ q → A0 q) (hZ : Zs z A0 s H0)
    (hsz : ls.size = nL) (hn : As.length = n) (hstack : st = As.reverse ++ .ref b :: rest) (hW : (rest.map fun v => v.category).sum ≤ 8) (hdg : decode cc pc = .ok (.invokevirtual index, 3)) (hf : cells ≤ R.cells ∧ slots ≤ R.slots)
    (kk : ∀ (H1 : Heap) (locs1 : List Loc), va_P D vwCl (w1 ++ wr) H1 → va_D A0 (w1 ++ wr) → va_S A0 H0 H1 locs1 → W p l e R s m args below meth c H1 locs1 cells slots Q (F0 m (pc + 3) ls (rest))) : W p l e R s m args below meth c H locs cells slots Q (F0 m pc ls st) := by
  have hFc := wd_free hD hS hA
  refine va_callv (va_runV (As := As) (rest := rest) ⟨C0.1, C0.2.1, C0.2.2.2.2.1, C0.2.2.2.2.2.1, C0.2.2.2.2.2.2⟩ (hM H.size) ⟨caB hB C0 hG hini hl, C0.2.2.2.2.2.2 _ hst, C0.2.2.2.2.2.2 _ hse⟩ ⟨fb_wr _ _ _ _ _ _, va_recv hK (vaP_l hP) hc he, fun U hU hW => ⟨rfl, by rw [hU], by rw [hU]; exact vaP_l hP, va_K.moved hW.alike hK, (vaD_l hD).weaken (fun _ _ _ _ => trivial), by rw [hU]; exact ((hZ.kept hS.2.1).narrow hFc).moved hW.alike⟩⟩ rfl hn hsz hstack (lv_room hW) hdg hf) hS (fun q _ h => hFc q h) hFc (fun u t H1 locs1 ht hvm hw hBt hz hk hS1 => ?_)
  obtain ⟨hP1, -, hD1⟩ := hBt
  rw [ht] at hP1
  obtain ⟨g1, g2⟩ := wd_call hP hD hk hFc hP1 hD1
  exact kk H1 locs1 g1 g2 hS1
end LawCalls
