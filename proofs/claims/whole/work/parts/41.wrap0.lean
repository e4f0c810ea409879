theorem XThrows.any {E : String} {l : Launch} {y : MethodName} {wl : List Cond} {D : va_G} {tys : List (ClassId × FieldType)} {w0 : va_W} {As : List Value} (h : XThrows E l y wl D tys w0 As) (sz : Nat) {Qc : Array Value → State → Outcome → State → Prop} : vx_Met l y wl rm_x (Wx_P E D tys w0 As sz) Qc (Xc E D tys w0 sz) 1 6 (va_A w0 sz) := by
  intro p e ha hc hk s m args below hf happ hP hK
  obtain ⟨n, o, h1, h2, h3, h4⟩ := h sz p e ha hc hk s m args below hf happ hP hK
  refine ⟨n, o, h1, h2, h3, ?_⟩
  rcases h4 with ⟨h4, -⟩ | h4
  · exact h4.elim
  · exact Or.inr h4
section MyWrap
variable {p : Program} {l : Launch} {e : Env} {R : Room} {s : State} {m : MethodId} {args : Array Value} {below : List Frame} {meth : Method} {c : Code} {H H0 : Heap} {locs : List Loc} {cells slots : Nat} {Q : State → Prop}
variable {cc bytes : ByteArray} {nL maxL pc index : Nat} {ret rty : Option FieldType} {wl wy : List Cond} {own E : String} {y : MethodName} {rm : Room} {D : va_G} {tys : List (ClassId × FieldType)} {ws wc w0 w1 wr : va_W} {As st rest : List Value} {ls : Array Slot} {b : Nat} {A0 : Nat → Prop}
theorem Cx.ofH {s₁ : State} (B : BodyLoose p l y (headSpec wl rm) cc nL ret e s m args below meth c s₁) (hml : c.maxLocals = nL) : Cx p s m meth c cc nL ret wl y.cls args :=
  ⟨B.exec, B.bytes, B.returns, B.notSynchronized, hml, findClass_of_methodNamed B.named, atoms_spec (ws := wl) B.pre⟩
/-- a call that throws, caught in this method by the one row of its table: the world stays -/
theorem xcatch {n ci : Nat} {qc : vw_C} {fs : List Value} (C0 : Cx p s m meth c cc nL ret wl own args) (hM : XThrows E l y wy D tys wc (.ref b :: As)) (hhead : wy.head? = some (Cond.code y bytes maxL rty)) (hd : y.cls ≠ "java/lang/invoke/MethodHandle" ∧ y.cls ≠ "java/lang/invoke/VarHandle" ∧ (parseMethodDescriptor y.desc).map (fun d => d.parameters.length) = some n) (hR : rm_x.frames + 1 ≤ R.frames ∧ 8 + (maxL + 11) + rm_x.locals ≤ R.locals)
    (hG : GoodIn wl wy) (hini : Cond.initialized y.cls ∈ wl) (hl : Cond.methodLink own index y ∈ wl) (hst : Cond.instanceMethod y ∈ wl) (hse : Cond.selects qc.1 y y ∈ wl)
    (hc : vwCl[ci]? = some qc) (he : wc[0]? = some (b, .inr (ci, fs)))
    (hP : va_P D vwCl ws H) (hD : va_D A0 ws) (hK : va_K D vwCl tys s) (hS : va_S A0 s.heap H locs) (hA : ∀ q, s.heap.size ≤ q → A0 q) (hZ : Zx A0 s s.heap) (hN : Nx E s)
    (isC isR is2 : List Nat) (wr : va_W) (hC : isC.map (fun i => ws[i]?) = wc.map some) (hnC : va_nd isC = true) (hPc : va_P D vwCl wc H) (hRr : isR.map (fun i => ws[i]?) = wr.map some) (hn1 : va_nd isR = true) (hdis : ∀ i ∈ isR, i ∉ isC) (hn2 : va_nd is2 = true) (h2 : is2.map (fun i => (wr ++ wc)[i]?) = ws.map some)
    (hsz : ls.size = nL) (hn : As.length = n) (hstack : st = As.reverse ++ .ref b :: rest) (hW : (rest.map fun v => v.category).sum ≤ 8) (hdg : decode cc pc = .ok (.invokevirtual index, 3)) (hf : cells + 1 ≤ R.cells ∧ slots + 6 ≤ R.slots)
    (x : ExceptionTableEntry) (htab : c.exceptionTable.toList = [x]) (hx : covers x pc = true) (h0 : x.catchType ≠ 0) (hlink : Cond.classLink own x.catchType E ∈ wl)
    (kk : ∀ (q : Nat) (H1 : Heap) (locs1 : List Loc), va_P D vwCl ws H1 → va_S A0 s.heap H1 locs1 → W p l e R s m args below meth c H1 locs1 (cells + 1) (slots + 6) Q (F0 m x.handlerPc ls [.ref q])) : W p l e R s m args below meth c H locs cells slots Q (F0 m pc ls st) := by
  have hFc := va_free (wc := wc) hD hS hA isC hC
  obtain ⟨-, -, -, -, -, -, hts⟩ := id C0
  have hw : wy = Cond.code y bytes maxL rty :: wy.tail := by
    cases wy with
    | nil => cases hhead
    | cons a t => cases hhead; rfl
  refine vx_callv (post := fun (_ : Unit) => False) (B := fun _ _ => True) (A1 := fun _ => False) (vx_runV (As := As) (rest := rest) ⟨C0.1, C0.2.1, C0.2.2.2.2.1, C0.2.2.2.2.2.1, C0.2.2.2.2.2.2⟩ (hM.any H.size) ⟨callB_of n hts hG hw rfl rfl (hts _ hini) (hts _ hl) hd hR, hts _ hst, hts _ hse⟩ ⟨fb_wx _ _ _ _ _ _, va_recv hK hPc hc he, fun U hU hW => ⟨rfl, by rw [hU], by rw [hU]; exact hPc, va_K.moved hW.alike hK, (hD.sub isC hnC hC).weaken (fun _ _ _ _ => trivial), by rw [hU]; exact ((hZ.kept hS.2.1).narrow hFc).moved hW.alike, hN.warm hW⟩⟩ rfl hn hsz hstack (lv_room hW) hdg hf) hS (fun q _ h => h.elim) hFc (fun q _ h => hFc q h) (fun E' ce q9 u t H1 locs1 ht hvm hpx hBX hz hk hS1 hce hcv hcl => ?_) (fun u t H1 locs1 ht hvm hpost => hpost.elim)
  obtain ⟨rfl, hB⟩ := hBX
  obtain ⟨g1, -⟩ := wr_back hP hD isC isR is2 hC hRr hn1 hdis hn2 h2 hFc ht hk hB
  exact vx_catch C0.2.2.2.2.2.1 [] x [] htab (fun z h => by cases h) hx h0 (hts _ hlink) (va_Nw.use rfl hN.2.2.2) hce hcv hcl (kk q9 H1 locs1 g1 hS1)
end MyWrap
section MyWrap2
variable {z : Bool} {l : Launch} {y : MethodName} {wl wl' : List Cond} {rm : Room} {D : va_G} {tys : List (ClassId × FieldType)} {ws w0 w1 : va_W} {As : List Value} {cc : ByteArray} {nL : Nat} {ret : Option FieldType} {hh : List (Nat × Nat × Nat × Nat)}
theorem WrI.mkH {v : Int32} (lv : List (Nat × Value)) (hy : plainName y.cls = true) (hw : wl = Cond.codeWith y cc nL ret hh :: wl') (hfit : (lg_sl As).length ≤ nL) (hlv : lv_args 0 As = lv)
    (body : ∀ (p : Program) (e : Env) (s : State) (m : MethodId) (below : List Frame) (meth : Method) (c : Code), Cx p s m meth c cc nL ret wl y.cls As.toArray → va_P D vwCl w0 s.heap → va_K D vwCl tys s → va_D (va_A w0 s.heap.size) w0 → va_S (va_A w0 s.heap.size) s.heap s.heap [] → Zs z (va_A w0 s.heap.size) s s.heap → ∀ ls : Array Slot, lv_has ls nL lv →
      W p l e rm s m As.toArray below meth c s.heap [] 0 0 (MQ below (QI D tys w0 w1 s.heap.size v) As.toArray s 0 0 (va_A w0 s.heap.size)) (F0 m 0 ls [])) : WrI z l y wl rm D tys w0 w1 As v := by
  intro sz
  refine Met.of_vx (vx_ofWH (cc := cc) (maxL := nL) (ret := ret) (hh := hh) hy hw ?_)
  intro p e s m args below meth c s₁ B hml hv
  obtain ⟨rfl, rfl, hP, hK, hD, hZ⟩ := hv
  exact vx_ret (ent_W hfit hlv (body p e s m below meth c (Cx.ofH B hml) hP hK (hD.self (sz := s.heap.size)) va_S.rf hZ))
/-- a wrapper whose call throws: it answers 1, the world stays; one cell of six slots comes -/
def NoI (E : String) (l : Launch) (y : MethodName) (wl : List Cond) (rm : Room) (D : va_G) (tys : List (ClassId × FieldType)) (w0 : va_W) (As : List Value) : Prop := ∀ sz : Nat, Met l y wl rm (Wx_P E D tys w0 As sz) (va_Qi (fun r (_ : Unit) => r = 1) (Wr_B D tys w0 w0 sz) (va_A w0 sz)) 1 6 (va_A w0 sz)
theorem NoI.mk {E : String} (lv : List (Nat × Value)) (hy : plainName y.cls = true) (hw : wl = Cond.codeWith y cc nL ret hh :: wl') (hfit : (lg_sl As).length ≤ nL) (hlv : lv_args 0 As = lv)
    (body : ∀ (p : Program) (e : Env) (s : State) (m : MethodId) (below : List Frame) (meth : Method) (c : Code), Cx p s m meth c cc nL ret wl y.cls As.toArray → c.exceptionTable.toList = tableOf hh → va_P D vwCl w0 s.heap → va_K D vwCl tys s → va_D (va_A w0 s.heap.size) w0 → va_S (va_A w0 s.heap.size) s.heap s.heap [] → Zx (va_A w0 s.heap.size) s s.heap → Nx E s → ∀ ls : Array Slot, lv_has ls nL lv →
      W p l e rm s m As.toArray below meth c s.heap [] 0 0 (MQ below (QI D tys w0 w0 s.heap.size 1) As.toArray s 1 6 (va_A w0 s.heap.size)) (F0 m 0 ls [])) : NoI E l y wl rm D tys w0 As := by
  intro sz
  refine Met.of_vx (vx_ofWH (cc := cc) (maxL := nL) (ret := ret) (hh := hh) hy hw ?_)
  intro p e s m args below meth c s₁ B hml hv
  obtain ⟨rfl, rfl, hP, hK, hD, hZ, hN⟩ := hv
  have C0 := Cx.ofH B hml
  have htab := vx_table (x := y) B (C0.2.2.2.2.2.2 (Cond.codeWith y cc nL ret hh) (by rw [hw]; exact List.mem_cons_self))
  exact vx_ret (ent_W hfit hlv (body p e s m below meth c C0 htab hP hK (hD.self (sz := s.heap.size)) va_S.rf hZ hN))
end MyWrap2
theorem noRet {p : Program} {l : Launch} {e : Env} {R : Room} {s : State} {m : MethodId} {args : Array Value} {below : List Frame} {meth : Method} {c : Code} {H : Heap} {locs : List Loc} {cc : ByteArray} {nL pc : Nat} {wl : List Cond} {own : String} {D : va_G} {tys : List (ClassId × FieldType)} {w0 w1 : va_W} {ls : Array Slot} {cells slots : Nat} {v : Int32}
    (C0 : Cx p s m meth c cc nL (some .int) wl own args) (hK : va_K D vwCl tys s) (hP : va_P D vwCl w1 H) (hD : va_D (va_A w0 s.heap.size) w1) (hS : va_S (va_A w0 s.heap.size) s.heap H locs) (hdg : decode cc pc = .ok (.ireturn, 1)) : W p l e R s m args below meth c H locs cells slots (MQ below (QI D tys w0 w1 s.heap.size v) args s cells slots (va_A w0 s.heap.size)) (F0 m pc ls [.int v]) := by
  obtain ⟨hx, hb, hr, hlocks, -, -, -⟩ := C0
  exact W.iret (v := v) hx hb hr (fun t ht hW => ⟨⟨v, (), rfl, rfl, by rw [ht]; exact hP, va_K.moved hW.alike hK, hD⟩, hS.F ht⟩) hS.2.2 hdg
