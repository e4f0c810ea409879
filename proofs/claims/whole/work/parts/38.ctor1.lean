/-- links of private constructors among nest mates -/
def Ns (ns : List (String × Nat × MethodName)) (U : State) : Prop := ∀ q ∈ ns, va_Nw (.methodLinkNest q.1 q.2.1 q.2.2 "ScoreboardCore") U
theorem Ns.warm {ns ns' : List (String × Nat × MethodName)} {s U : State} (hW : s.WarmedH U.vm) (h : Ns ns s) (hs : ∀ q ∈ ns', q ∈ ns) : Ns ns' U := fun q hq => va_Nw.warmM hW (h q (hs q hq))
abbrev Wc_P (ns : List (String × Nat × MethodName)) (D : va_G) (tys : List (ClassId × FieldType)) (w0 : va_W) (As : List Value) (sz : Nat) : Array Value → State → Prop := va_Pc As (fun U => U.heap.size = sz ∧ va_P D vwCl w0 U.heap ∧ va_K D vwCl tys U ∧ va_D (fun _ => True) w0 ∧ Ns ns U)
theorem fb_wc (ns : List (String × Nat × MethodName)) (D : va_G) (tys : List (ClassId × FieldType)) (w0 : va_W) (As : List Value) (sz : Nat) : FrameBlind (Wc_P ns D tys w0 As sz) := fun a U g mk q => by
  obtain ⟨q0, q1, qP, qK, qD, qN⟩ := q
  exact ⟨q0, q1, qP, va_K.moved (u := U) (U := U.calling g mk a) (Vm.Alike.refl U.vm) qK, qD, fun z hz => va_Nw.same rfl rfl (qN z hz)⟩
/-- a new array of a class that is known -/
theorem nw_arr {p : Program} {l : Launch} {e : Env} {R : Room} {s : State} {m : MethodId} {args : Array Value} {below : List Frame} {meth : Method} {c : Code} {H H0 : Heap} {locs : List Loc} {cells slots : Nat} {Q : State → Prop} {cc : ByteArray} {pc : Nat} {ls : Array Slot} {rest : List Value} {D : va_G} {cl : List vw_C} {tys : List (ClassId × FieldType)} {ws : va_W} {A : Nat → Prop}
    (hexec : p.tables.exec = Jvm.exec) (hb : c.code = cc) {atype : ArrayType} (harr : (Cond.arrayClass (newarray.typeOf atype)).before args s = true) {ty : FieldType} (hty : newarray.typeOf atype = ty) (hK : va_K D cl tys s) (hP : va_P D cl ws H) (hD : va_D A ws) (hS : va_S A H0 H locs) (hA : ∀ q, H0.size ≤ q → A q)
    (t0 : Nat) {cA : ClassId} (ht : tys[t0]? = some (cA, ty)) (hprim : ty = .int ∨ ty = .long)
    {n : Int32} {N' : Nat} {a0 : vp_A} (ha : ∀ cA : ClassId, vp_cell cA a0 = arrV cA N' (fun _ => defaultValue ty)) (hn : ¬ n < 0) (hN : n.toNatClampNeg = N') (hbytes : N' * componentBytes ty ≤ 536870912) (hcells : cells + 1 ≤ R.cells) (hslots : slots + N' ≤ R.slots) (hdg : decode cc pc = .ok (.newarray atype, 2))
    (kk : ∀ (q : Nat) (H1 : Heap), va_P D cl (ws ++ [(q, .inl (cA, a0))]) H1 → va_D A (ws ++ [(q, .inl (cA, a0))]) → va_S A H0 H1 locs →
      W p l e R s m args below meth c H1 locs (cells + 1) (slots + N') Q (F0 m (pc + 2) ls (.ref q :: rest))) : W p l e R s m args below meth c H locs cells slots Q (F0 m pc ls (.int n :: rest)) := by
  refine va_newa hexec hb harr hty hK hP hD hS hA ha hn hN hbytes hcells hslots hdg (fun q cB H1 hK1 hP1 hD1 hS1 => ?_)
  have h1 := (hK1.2 tys.length (cB, ty) (by simp)).2
  have h2 := (hK.2 t0 _ ht).2
  have e : cB = cA := by
    rcases hprim with rfl | rfl
    · exact Option.some.inj (Eq.trans (Eq.symm h1) h2)
    · exact Option.some.inj (Eq.trans (Eq.symm h1) h2)
  subst e
  exact kk q H1 hP1 hD1 hS1

abbrev rm_X3_init : Room := { frames := 1, cells := 2, slots := 1024, locals := 12 }
set_option maxRecDepth 20000 in
theorem mi_X3_init_X3 : ∀ w ∈ wsX30, w ∈ wsX3_init := by decide +kernel
set_option maxRecDepth 20000 in
theorem mm_X3_init_aJ : Cond.arrayClass .long ∈ wsX3_init := by decide +kernel
set_option maxRecDepth 20000 in
theorem mm_X3_init_co : Cond.code objectInit ⟨#[0xb1]⟩ 1 none ∈ wsX3_init := by decide +kernel
set_option maxRecDepth 20000 in
theorem mm_X3_init_f15 : Cond.fieldLink RX3 15 "ScoreboardCore$Memory" "program" "[J" ∈ wsX3_init := by decide +kernel
set_option maxRecDepth 20000 in
theorem mm_X3_init_f9 : Cond.fieldLink RX3 9 "ScoreboardCore$Memory" "words" "[J" ∈ wsX3_init := by decide +kernel
set_option maxRecDepth 20000 in
theorem mm_X3_init_io : Cond.instanceMethod objectInit ∈ wsX3_init := by decide +kernel
set_option maxRecDepth 20000 in
theorem mm_X3_init_l3 : Cond.methodLink RX3 3 objectInit ∈ wsX3_init := by decide +kernel
set_option maxHeartbeats 4000000 in
set_option maxRecDepth 100000 in
theorem c_X3_init (l : Launch) (dC : Nat → ClassId) (dI : Nat → Nat → Nat) (cI cJ : ClassId) (hM : Nat) (sz : Nat) : Met l yX3_init wsX3_init rm_X3_init (Wc_P [] (dC, dI) [(cI, .int), (cJ, .long)] [(hM, .inr (2, [.null, .null]))] [.ref hM] sz) (va_Qv (fun (u : va_W) => ∃ m1 : Nat, ∃ m2 : Nat, u = [(hM, .inr (2, [.ref m1, .ref m2])), (m1, .inl (cJ, 512, .inr (.inl (fun _ => 0)))), (m2, .inl (cJ, 512, .inr (.inl (fun _ => 0))))]) (fun u t => va_P (dC, dI) vwCl u t.heap ∧ va_K (dC, dI) vwCl [(cI, .int), (cJ, .long)] t ∧ va_D (va_A [(hM, .inr (2, [.null, .null]))] sz) u) (va_A [(hM, .inr (2, [.null, .null]))] sz)) 2 1024 (va_A [(hM, .inr (2, [.null, .null]))] sz) := by
  refine Met.ofW (cc := cX3_init) (maxL := 1) (ret := none) (by decide) rfl ?_
  intro p e s m args below meth c s₁ B hml hv
  obtain ⟨rfl, rfl, hP, hK, hD0, hNs⟩ := hv
  have hin : meth.name = "<init>" := (name_of_methodNamed B.named B.method).1
  have C0 : Cx p s m meth c cX3_init 1 none wsX3_init RX3 _ := Cx.ofB (y := yX3_init) rfl B hml
  obtain ⟨hx, hb, hr, hlk, hml, hown, hts⟩ := C0
  have hD := hD0.self (sz := s.heap.size)
  generalize hw0 : ([(hM, .inr (2, [.null, .null]))] : va_W) = w0 at hD ⊢
  have hA : ∀ q : Nat, s.heap.size ≤ q → va_A w0 s.heap.size q := fun q h => Or.inr h
  have hS : va_S (va_A w0 s.heap.size) s.heap s.heap [] := va_S.rf
  refine ent_W (As := [.ref hM]) (Nat.le_of_ble_eq_true rfl) (lv := [(0, .ref hM)]) rfl (fun ls hl => ?_)
  have hD : va_D (va_A w0 s.heap.size) [(hM, .inr (2, [.null, .null]))] := by rw [hw0]; exact hD
  clear hw0
  refine lv_aload_n hx hb dX3_init_0 rfl (lv_at hl 0 rfl) ?_
  refine W.objInit hx hb hown (hts (.methodLink RX3 3 objectInit) mm_X3_init_l3) (hts (.instanceMethod objectInit) mm_X3_init_io) (hts (.code objectInit ⟨#[0xb1]⟩ 1 none) mm_X3_init_co) rfl (by rw [hml]; exact hl.1) rfl dX3_init_1 (Nat.le_of_ble_eq_true rfl) (Nat.le_of_ble_eq_true rfl) ?_
  refine W.eq (g2 := F0 m 4 ls []) rfl ?_
  refine lv_aload_n hx hb dX3_init_4 rfl (lv_at hl 0 rfl) ?_
  refine lv_sipush (v := (512 : Int32)) hx hb dX3_init_5 (by decide) ?_
  refine nw_arr (D := (dC, dI)) (atype := .long) (ty := .long) (N' := 512) (n := (512 : Int32)) (a0 := (512, .inr (.inl (fun _ => 0)))) hx hb (hts (.arrayClass .long) mm_X3_init_aJ) rfl hK hP hD hS hA 1 rfl (Or.inr rfl) (fun _ => vp_cell_l _ _ _) (by decide) (by decide) (by decide) (Nat.le_of_ble_eq_true rfl) (Nat.le_of_ble_eq_true rfl) dX3_init_8 (fun m1 H hP hD hS => ?_)
  have hP : va_P (dC, dI) vwCl [(hM, .inr (2, [.null, .null])), (m1, .inl (cJ, 512, .inr (.inl (fun _ => 0))))] H := hP
  have hD : va_D (va_A w0 s.heap.size) [(hM, .inr (2, [.null, .null])), (m1, .inl (cJ, 512, .inr (.inl (fun _ => 0))))] := hD
  refine va_putF (D := (dC, dI)) (ci := 2) (v := .ref m1) (ty := .array .long) (C := RX3) (T := TX3) (N := 2) hx hb hts mi_X3_init_X3 tyX3 tyX3_ok nmX3 hown hK hP hD hS 0 rfl rfl 0 (by decide) (hts (.fieldLink RX3 9 "ScoreboardCore$Memory" "words" "[J") mm_X3_init_f9) (fun _ h9 => h9) rfl hin rfl (by decide +kernel) rfl rfl (Nat.le_of_ble_eq_true rfl) dX3_init_10 (fun H locs hP hD hS => ?_)
  have hP : va_P (dC, dI) vwCl [(hM, .inr (2, [.ref m1, .null])), (m1, .inl (cJ, 512, .inr (.inl (fun _ => 0))))] H := hP
  have hD : va_D (va_A w0 s.heap.size) [(hM, .inr (2, [.ref m1, .null])), (m1, .inl (cJ, 512, .inr (.inl (fun _ => 0))))] := hD
  refine lv_aload_n hx hb dX3_init_13 rfl (lv_at hl 0 rfl) ?_
  refine lv_sipush (v := (512 : Int32)) hx hb dX3_init_14 (by decide) ?_
  refine nw_arr (D := (dC, dI)) (atype := .long) (ty := .long) (N' := 512) (n := (512 : Int32)) (a0 := (512, .inr (.inl (fun _ => 0)))) hx hb (hts (.arrayClass .long) mm_X3_init_aJ) rfl hK hP hD hS hA 1 rfl (Or.inr rfl) (fun _ => vp_cell_l _ _ _) (by decide) (by decide) (by decide) (Nat.le_of_ble_eq_true rfl) (Nat.le_of_ble_eq_true rfl) dX3_init_17 (fun m2 H hP hD hS => ?_)
  have hP : va_P (dC, dI) vwCl [(hM, .inr (2, [.ref m1, .null])), (m1, .inl (cJ, 512, .inr (.inl (fun _ => 0)))), (m2, .inl (cJ, 512, .inr (.inl (fun _ => 0))))] H := hP
  have hD : va_D (va_A w0 s.heap.size) [(hM, .inr (2, [.ref m1, .null])), (m1, .inl (cJ, 512, .inr (.inl (fun _ => 0)))), (m2, .inl (cJ, 512, .inr (.inl (fun _ => 0))))] := hD
  refine va_putF (D := (dC, dI)) (ci := 2) (v := .ref m2) (ty := .array .long) (C := RX3) (T := TX3) (N := 2) hx hb hts mi_X3_init_X3 tyX3 tyX3_ok nmX3 hown hK hP hD hS 0 rfl rfl 1 (by decide) (hts (.fieldLink RX3 15 "ScoreboardCore$Memory" "program" "[J") mm_X3_init_f15) (fun _ h9 => h9) rfl hin rfl (by decide +kernel) rfl rfl (Nat.le_of_ble_eq_true rfl) dX3_init_19 (fun H locs hP hD hS => ?_)
  have hP : va_P (dC, dI) vwCl [(hM, .inr (2, [.ref m1, .ref m2])), (m1, .inl (cJ, 512, .inr (.inl (fun _ => 0)))), (m2, .inl (cJ, 512, .inr (.inl (fun _ => 0))))] H := hP
  have hD : va_D (va_A w0 s.heap.size) [(hM, .inr (2, [.ref m1, .ref m2])), (m1, .inl (cJ, 512, .inr (.inl (fun _ => 0)))), (m2, .inl (cJ, 512, .inr (.inl (fun _ => 0))))] := hD
  have hP9 := hP.sub (ws' := [(hM, .inr (2, [.ref m1, .ref m2])), (m1, .inl (cJ, 512, .inr (.inl (fun _ => 0)))), (m2, .inl (cJ, 512, .inr (.inl (fun _ => 0))))]) [0, 1, 2] rfl
  have hD9 := hD.sub (ws' := [(hM, .inr (2, [.ref m1, .ref m2])), (m1, .inl (cJ, 512, .inr (.inl (fun _ => 0)))), (m2, .inl (cJ, 512, .inr (.inl (fun _ => 0))))]) [0, 1, 2] (by decide) rfl
  refine W.widen (k := 2) (n := 1024) (by decide) (by decide) ?_
  exact W.vret hx hb hr (fun t ht hW => ⟨⟨[(hM, .inr (2, [.ref m1, .ref m2])), (m1, .inl (cJ, 512, .inr (.inl (fun _ => 0)))), (m2, .inl (cJ, 512, .inr (.inl (fun _ => 0))))], rfl, ⟨m1, m2, rfl⟩, by rw [ht]; exact hP9, va_K.moved hW.alike hK, hD9⟩, hS.F ht⟩) hS.2.2 dX3_init_22
abbrev rm_X6_init : Room := { frames := 1, cells := 1, slots := 24, locals := 12 }
set_option maxRecDepth 20000 in
theorem mi_X6_init_X6 : ∀ w ∈ wsX60, w ∈ wsX6_init := by decide +kernel
set_option maxRecDepth 20000 in
theorem mm_X6_init_aJ : Cond.arrayClass .long ∈ wsX6_init := by decide +kernel
set_option maxRecDepth 20000 in
theorem mm_X6_init_co : Cond.code objectInit ⟨#[0xb1]⟩ 1 none ∈ wsX6_init := by decide +kernel
set_option maxRecDepth 20000 in
theorem mm_X6_init_f9 : Cond.fieldLink RX6 9 "ScoreboardCore$Registers" "values" "[J" ∈ wsX6_init := by decide +kernel
set_option maxRecDepth 20000 in
theorem mm_X6_init_io : Cond.instanceMethod objectInit ∈ wsX6_init := by decide +kernel
set_option maxRecDepth 20000 in
theorem mm_X6_init_l3 : Cond.methodLink RX6 3 objectInit ∈ wsX6_init := by decide +kernel
set_option maxHeartbeats 4000000 in
set_option maxRecDepth 100000 in
theorem c_X6_init (l : Launch) (dC : Nat → ClassId) (dI : Nat → Nat → Nat) (cI cJ : ClassId) (hG : Nat) (sz : Nat) : Met l yX6_init wsX6_init rm_X6_init (Wc_P [] (dC, dI) [(cI, .int), (cJ, .long)] [(hG, .inr (4, [.null]))] [.ref hG] sz) (va_Qv (fun (u : va_W) => ∃ g1 : Nat, u = [(hG, .inr (4, [.ref g1])), (g1, .inl (cJ, 24, .inr (.inl (fun _ => 0))))]) (fun u t => va_P (dC, dI) vwCl u t.heap ∧ va_K (dC, dI) vwCl [(cI, .int), (cJ, .long)] t ∧ va_D (va_A [(hG, .inr (4, [.null]))] sz) u) (va_A [(hG, .inr (4, [.null]))] sz)) 1 24 (va_A [(hG, .inr (4, [.null]))] sz) := by
  refine Met.ofW (cc := cX6_init) (maxL := 1) (ret := none) (by decide) rfl ?_
  intro p e s m args below meth c s₁ B hml hv
  obtain ⟨rfl, rfl, hP, hK, hD0, hNs⟩ := hv
  have hin : meth.name = "<init>" := (name_of_methodNamed B.named B.method).1
  have C0 : Cx p s m meth c cX6_init 1 none wsX6_init RX6 _ := Cx.ofB (y := yX6_init) rfl B hml
  obtain ⟨hx, hb, hr, hlk, hml, hown, hts⟩ := C0
  have hD := hD0.self (sz := s.heap.size)
  generalize hw0 : ([(hG, .inr (4, [.null]))] : va_W) = w0 at hD ⊢
  have hA : ∀ q : Nat, s.heap.size ≤ q → va_A w0 s.heap.size q := fun q h => Or.inr h
  have hS : va_S (va_A w0 s.heap.size) s.heap s.heap [] := va_S.rf
  refine ent_W (As := [.ref hG]) (Nat.le_of_ble_eq_true rfl) (lv := [(0, .ref hG)]) rfl (fun ls hl => ?_)
  have hD : va_D (va_A w0 s.heap.size) [(hG, .inr (4, [.null]))] := by rw [hw0]; exact hD
  clear hw0
  refine lv_aload_n hx hb dX6_init_0 rfl (lv_at hl 0 rfl) ?_
  refine W.objInit hx hb hown (hts (.methodLink RX6 3 objectInit) mm_X6_init_l3) (hts (.instanceMethod objectInit) mm_X6_init_io) (hts (.code objectInit ⟨#[0xb1]⟩ 1 none) mm_X6_init_co) rfl (by rw [hml]; exact hl.1) rfl dX6_init_1 (Nat.le_of_ble_eq_true rfl) (Nat.le_of_ble_eq_true rfl) ?_
  refine W.eq (g2 := F0 m 4 ls []) rfl ?_
  refine lv_aload_n hx hb dX6_init_4 rfl (lv_at hl 0 rfl) ?_
  refine lv_bipush (v := (24 : Int32)) hx hb dX6_init_5 (by decide) ?_
  refine nw_arr (D := (dC, dI)) (atype := .long) (ty := .long) (N' := 24) (n := (24 : Int32)) (a0 := (24, .inr (.inl (fun _ => 0)))) hx hb (hts (.arrayClass .long) mm_X6_init_aJ) rfl hK hP hD hS hA 1 rfl (Or.inr rfl) (fun _ => vp_cell_l _ _ _) (by decide) (by decide) (by decide) (Nat.le_of_ble_eq_true rfl) (Nat.le_of_ble_eq_true rfl) dX6_init_7 (fun g1 H hP hD hS => ?_)
  have hP : va_P (dC, dI) vwCl [(hG, .inr (4, [.null])), (g1, .inl (cJ, 24, .inr (.inl (fun _ => 0))))] H := hP
  have hD : va_D (va_A w0 s.heap.size) [(hG, .inr (4, [.null])), (g1, .inl (cJ, 24, .inr (.inl (fun _ => 0))))] := hD
  refine va_putF (D := (dC, dI)) (ci := 4) (v := .ref g1) (ty := .array .long) (C := RX6) (T := TX6) (N := 1) hx hb hts mi_X6_init_X6 tyX6 tyX6_ok nmX6 hown hK hP hD hS 0 rfl rfl 0 (by decide) (hts (.fieldLink RX6 9 "ScoreboardCore$Registers" "values" "[J") mm_X6_init_f9) (fun _ h9 => h9) rfl hin rfl (by decide +kernel) rfl rfl (Nat.le_of_ble_eq_true rfl) dX6_init_9 (fun H locs hP hD hS => ?_)
  have hP : va_P (dC, dI) vwCl [(hG, .inr (4, [.ref g1])), (g1, .inl (cJ, 24, .inr (.inl (fun _ => 0))))] H := hP
  have hD : va_D (va_A w0 s.heap.size) [(hG, .inr (4, [.ref g1])), (g1, .inl (cJ, 24, .inr (.inl (fun _ => 0))))] := hD
  have hP9 := hP.sub (ws' := [(hG, .inr (4, [.ref g1])), (g1, .inl (cJ, 24, .inr (.inl (fun _ => 0))))]) [0, 1] rfl
  have hD9 := hD.sub (ws' := [(hG, .inr (4, [.ref g1])), (g1, .inl (cJ, 24, .inr (.inl (fun _ => 0))))]) [0, 1] (by decide) rfl
  refine W.widen (k := 1) (n := 24) (by decide) (by decide) ?_
  exact W.vret hx hb hr (fun t ht hW => ⟨⟨[(hG, .inr (4, [.ref g1])), (g1, .inl (cJ, 24, .inr (.inl (fun _ => 0))))], rfl, ⟨g1, rfl⟩, by rw [ht]; exact hP9, va_K.moved hW.alike hK, hD9⟩, hS.F ht⟩) hS.2.2 dX6_init_12
abbrev rm_X5_init : Room := { frames := 1, cells := 1, slots := 3, locals := 12 }
set_option maxRecDepth 20000 in
theorem mi_X5_init_X5 : ∀ w ∈ wsX50, w ∈ wsX5_init := by decide +kernel
set_option maxRecDepth 20000 in
theorem mm_X5_init_aI : Cond.arrayClass .int ∈ wsX5_init := by decide +kernel
set_option maxRecDepth 20000 in
theorem mm_X5_init_co : Cond.code objectInit ⟨#[0xb1]⟩ 1 none ∈ wsX5_init := by decide +kernel
set_option maxRecDepth 20000 in
theorem mm_X5_init_f11 : Cond.fieldLink RX5 11 "ScoreboardCore$RegisterList" "numbers" "[I" ∈ wsX5_init := by decide +kernel
set_option maxRecDepth 20000 in
theorem mm_X5_init_io : Cond.instanceMethod objectInit ∈ wsX5_init := by decide +kernel
set_option maxRecDepth 20000 in
theorem mm_X5_init_l3 : Cond.methodLink RX5 3 objectInit ∈ wsX5_init := by decide +kernel
set_option maxHeartbeats 4000000 in
set_option maxRecDepth 100000 in
theorem c_X5_init (l : Launch) (dC : Nat → ClassId) (dI : Nat → Nat → Nat) (cI cJ : ClassId) (hL : Nat) (sz : Nat) : Met l yX5_init wsX5_init rm_X5_init (Wc_P [] (dC, dI) [(cI, .int), (cJ, .long)] [(hL, .inr (3, [.null, .int 0]))] [.ref hL] sz) (va_Qv (fun (u : va_W) => ∃ l1 : Nat, u = [(hL, .inr (3, [.ref l1, .int 0])), (l1, .inl (cI, 3, .inl (fun _ => 0)))]) (fun u t => va_P (dC, dI) vwCl u t.heap ∧ va_K (dC, dI) vwCl [(cI, .int), (cJ, .long)] t ∧ va_D (va_A [(hL, .inr (3, [.null, .int 0]))] sz) u) (va_A [(hL, .inr (3, [.null, .int 0]))] sz)) 1 3 (va_A [(hL, .inr (3, [.null, .int 0]))] sz) := by
  refine Met.ofW (cc := cX5_init) (maxL := 1) (ret := none) (by decide) rfl ?_
  intro p e s m args below meth c s₁ B hml hv
  obtain ⟨rfl, rfl, hP, hK, hD0, hNs⟩ := hv
  have hin : meth.name = "<init>" := (name_of_methodNamed B.named B.method).1
  have C0 : Cx p s m meth c cX5_init 1 none wsX5_init RX5 _ := Cx.ofB (y := yX5_init) rfl B hml
  obtain ⟨hx, hb, hr, hlk, hml, hown, hts⟩ := C0
  have hD := hD0.self (sz := s.heap.size)
  generalize hw0 : ([(hL, .inr (3, [.null, .int 0]))] : va_W) = w0 at hD ⊢
  have hA : ∀ q : Nat, s.heap.size ≤ q → va_A w0 s.heap.size q := fun q h => Or.inr h
  have hS : va_S (va_A w0 s.heap.size) s.heap s.heap [] := va_S.rf
  refine ent_W (As := [.ref hL]) (Nat.le_of_ble_eq_true rfl) (lv := [(0, .ref hL)]) rfl (fun ls hl => ?_)
  have hD : va_D (va_A w0 s.heap.size) [(hL, .inr (3, [.null, .int 0]))] := by rw [hw0]; exact hD
  clear hw0
  refine lv_aload_n hx hb dX5_init_0 rfl (lv_at hl 0 rfl) ?_
  refine W.objInit hx hb hown (hts (.methodLink RX5 3 objectInit) mm_X5_init_l3) (hts (.instanceMethod objectInit) mm_X5_init_io) (hts (.code objectInit ⟨#[0xb1]⟩ 1 none) mm_X5_init_co) rfl (by rw [hml]; exact hl.1) rfl dX5_init_1 (Nat.le_of_ble_eq_true rfl) (Nat.le_of_ble_eq_true rfl) ?_
  refine W.eq (g2 := F0 m 4 ls []) rfl ?_
  refine lv_aload_n hx hb dX5_init_4 rfl (lv_at hl 0 rfl) ?_
  refine lv_iconst (v := (3 : Int32)) hx hb dX5_init_5 (by decide) ?_
  refine nw_arr (D := (dC, dI)) (atype := .int) (ty := .int) (N' := 3) (n := (3 : Int32)) (a0 := (3, .inl (fun _ => 0))) hx hb (hts (.arrayClass .int) mm_X5_init_aI) rfl hK hP hD hS hA 0 rfl (Or.inl rfl) (fun _ => vp_cell_i _ _ _) (by decide) (by decide) (by decide) (Nat.le_of_ble_eq_true rfl) (Nat.le_of_ble_eq_true rfl) dX5_init_6 (fun l1 H hP hD hS => ?_)
  have hP : va_P (dC, dI) vwCl [(hL, .inr (3, [.null, .int 0])), (l1, .inl (cI, 3, .inl (fun _ => 0)))] H := hP
  have hD : va_D (va_A w0 s.heap.size) [(hL, .inr (3, [.null, .int 0])), (l1, .inl (cI, 3, .inl (fun _ => 0)))] := hD
  refine va_putF (D := (dC, dI)) (ci := 3) (v := .ref l1) (ty := .array .int) (C := RX5) (T := TX5) (N := 2) hx hb hts mi_X5_init_X5 tyX5 tyX5_ok nmX5 hown hK hP hD hS 0 rfl rfl 0 (by decide) (hts (.fieldLink RX5 11 "ScoreboardCore$RegisterList" "numbers" "[I") mm_X5_init_f11) (fun _ h9 => h9) rfl hin rfl (by decide +kernel) rfl rfl (Nat.le_of_ble_eq_true rfl) dX5_init_8 (fun H locs hP hD hS => ?_)
  have hP : va_P (dC, dI) vwCl [(hL, .inr (3, [.ref l1, .int 0])), (l1, .inl (cI, 3, .inl (fun _ => 0)))] H := hP
  have hD : va_D (va_A w0 s.heap.size) [(hL, .inr (3, [.ref l1, .int 0])), (l1, .inl (cI, 3, .inl (fun _ => 0)))] := hD
  have hP9 := hP.sub (ws' := [(hL, .inr (3, [.ref l1, .int 0])), (l1, .inl (cI, 3, .inl (fun _ => 0)))]) [0, 1] rfl
  have hD9 := hD.sub (ws' := [(hL, .inr (3, [.ref l1, .int 0])), (l1, .inl (cI, 3, .inl (fun _ => 0)))]) [0, 1] (by decide) rfl
  refine W.widen (k := 1) (n := 3) (by decide) (by decide) ?_
  exact W.vret hx hb hr (fun t ht hW => ⟨⟨[(hL, .inr (3, [.ref l1, .int 0])), (l1, .inl (cI, 3, .inl (fun _ => 0)))], rfl, ⟨l1, rfl⟩, by rw [ht]; exact hP9, va_K.moved hW.alike hK, hD9⟩, hS.F ht⟩) hS.2.2 dX5_init_11