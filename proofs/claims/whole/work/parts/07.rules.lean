/-! rules of mine: what a body's walk stands on, contracts that only read, contracts that write, and their calls -/
def Cx (p : Program) (s : State) (m : MethodId) (meth : Method) (c : Code) (cc : ByteArray) (nL : Nat) (ret : Option FieldType) (ws : List Cond) (own : String) (args : Array Value) : Prop :=
  p.tables.exec = Jvm.exec ∧ c.code = cc ∧ meth.sig.returnType = ret ∧ meth.locks = false ∧ c.maxLocals = nL ∧ s.vm.findClass own = some m.cls ∧ ∀ w ∈ ws, w.before args s = true
/-- the start of a contract that only reads -/
abbrev Ro_P (D : va_G) (tys : List (ClassId × FieldType)) (ws : va_W) (As : List Value) : Array Value → State → Prop := va_Pc As (fun U => va_P D vwCl ws U.heap ∧ va_K D vwCl tys U)
def RoI (l : Launch) (y : MethodName) (wl : List Cond) (rm : Room) (D : va_G) (tys : List (ClassId × FieldType)) (ws : va_W) (As : List Value) (v : Int32) : Prop := Met l y wl rm (Ro_P D tys ws As) (vp_Si (fun r => r = v)) 0 0 (fun _ => False)
def RoL (l : Launch) (y : MethodName) (wl : List Cond) (rm : Room) (D : va_G) (tys : List (ClassId × FieldType)) (ws : va_W) (As : List Value) (v : Int64) : Prop := Met l y wl rm (Ro_P D tys ws As) (vp_Sl (fun r => r = v)) 0 0 (fun _ => False)
def RoR (l : Launch) (y : MethodName) (wl : List Cond) (rm : Room) (D : va_G) (tys : List (ClassId × FieldType)) (ws : va_W) (As : List Value) (v : Nat) : Prop := Met l y wl rm (Ro_P D tys ws As) (va_Sr (fun r => r = v) (fun k => Value.ref k)) 0 0 (fun _ => False)
/-- the static row UNIT_CYCLES, where a method needs it -/
def uc (j : Nat) : Int32 := if j = 3 then 8 else 3
def Zs (z : Bool) (A : Nat → Prop) (U : State) (H : Heap) : Prop := z = true → ∃ t : Nat, va_Z "ScoreboardCore$Board" "UNIT_CYCLES" "[I" (.ref t) A U H ∧ va_T .int t 6 (fun j => .int (uc j)) A U H
theorem Zs.no (A : Nat → Prop) (U : State) (H : Heap) : Zs false A U H := fun h => by cases h
theorem Zs.moved {z : Bool} {A : Nat → Prop} {u U : State} {H : Heap} (hvm : u.vm.Alike U.vm) (h : Zs z A u H) : Zs z A U H := fun hz => by
  obtain ⟨t, h1, h2⟩ := h hz
  exact ⟨t, h1.moved hvm, h2.moved hvm⟩
theorem Zs.kept {z : Bool} {A : Nat → Prop} {U : State} {H H1 : Heap} (h : Zs z A U H) (hq : ∀ a : Nat, a < H.size → ¬ A a → H1[a]? = H[a]?) : Zs z A U H1 := fun hz => by
  obtain ⟨t, h1, h2⟩ := h hz
  exact ⟨t, h1.kept hq, h2.kept hq⟩
theorem Zs.narrow {z : Bool} {A B : Nat → Prop} {U : State} {H : Heap} (h : Zs z A U H) (hAB : ∀ q, B q → A q) : Zs z B U H := fun hz => by
  obtain ⟨t, h1, h2⟩ := h hz
  exact ⟨t, h1.narrow hAB, h2.narrow hAB⟩
/-- a contract that writes: from the cells w0 to the cells w1 -/
abbrev Wr_P (z : Bool) (D : va_G) (tys : List (ClassId × FieldType)) (w0 : va_W) (As : List Value) (sz : Nat) : Array Value → State → Prop := va_Pc As (fun U => U.heap.size = sz ∧ va_P D vwCl w0 U.heap ∧ va_K D vwCl tys U ∧ va_D (fun _ => True) w0 ∧ Zs z (va_A w0 sz) U U.heap)
abbrev Wr_B (D : va_G) (tys : List (ClassId × FieldType)) (w0 w1 : va_W) (sz : Nat) : Unit → State → Prop := fun _ t => va_P D vwCl w1 t.heap ∧ va_K D vwCl tys t ∧ va_D (va_A w0 sz) w1
def WrI (z : Bool) (l : Launch) (y : MethodName) (wl : List Cond) (rm : Room) (D : va_G) (tys : List (ClassId × FieldType)) (w0 w1 : va_W) (As : List Value) (v : Int32) : Prop := ∀ sz : Nat, Met l y wl rm (Wr_P z D tys w0 As sz) (va_Qi (fun r (_ : Unit) => r = v) (Wr_B D tys w0 w1 sz) (va_A w0 sz)) 0 0 (va_A w0 sz)
def WrL (z : Bool) (l : Launch) (y : MethodName) (wl : List Cond) (rm : Room) (D : va_G) (tys : List (ClassId × FieldType)) (w0 w1 : va_W) (As : List Value) (v : Int64) : Prop := ∀ sz : Nat, Met l y wl rm (Wr_P z D tys w0 As sz) (va_Ql (fun r (_ : Unit) => r = v) (Wr_B D tys w0 w1 sz) (va_A w0 sz)) 0 0 (va_A w0 sz)
def WrV (z : Bool) (l : Launch) (y : MethodName) (wl : List Cond) (rm : Room) (D : va_G) (tys : List (ClassId × FieldType)) (w0 w1 : va_W) (As : List Value) : Prop := ∀ sz : Nat, Met l y wl rm (Wr_P z D tys w0 As sz) (va_Qv (fun (_ : Unit) => True) (Wr_B D tys w0 w1 sz) (va_A w0 sz)) 0 0 (va_A w0 sz)
section MyRules
variable {p : Program} {l : Launch} {e : Env} {R : Room} {s : State} {m : MethodId} {args : Array Value} {below : List Frame} {meth : Method} {c : Code} {H : Heap} {locs : List Loc} {cells slots : Nat} {Q : State → Prop}
variable {cc : ByteArray} {nL : Nat} {ret : Option FieldType} {wl : List Cond} {own : String}
theorem Cx.ofB {y : MethodName} {rm : Room} {s₁ : State} (hy : wl = Cond.code y cc nL ret :: wl.tail) (B : BodyLoose p l y (headSpec wl rm) cc nL ret e s m args below meth c s₁) (hml : c.maxLocals = nL) : Cx p s m meth c cc nL ret wl y.cls args :=
  ⟨B.exec, B.bytes, B.returns, B.notSynchronized, hml, findClass_of_methodNamed B.named, atoms_spec (ws := wl) B.pre⟩
/-- from the entry of a body: its locals -/
theorem ent_W {As : List Value} {nL : Nat} (hfit : (lg_sl As).length ≤ nL) {lv : List (Nat × Value)} (hlv : lv_args 0 As = lv)
    (k : ∀ ls : Array Slot, lv_has ls nL lv → W p l e R s m args below meth c H locs cells slots Q (F0 m 0 ls [])) : W p l e R s m args below meth c H locs cells slots Q (entryFrame m As.toArray nL) := by
  have hl := lv_entry As (n := nL) hfit
  rw [lg_entry_eq]
  rw [hlv] at hl
  exact k _ hl
end MyRules
section MyRules2
variable {z : Bool} {l : Launch} {y : MethodName} {wl wl' : List Cond} {rm : Room} {D : va_G} {tys : List (ClassId × FieldType)} {ws w0 w1 : va_W} {As : List Value} {cc : ByteArray} {nL : Nat} {ret : Option FieldType}
theorem RoI.mk {v : Int32} (lv : List (Nat × Value)) (hy : plainName y.cls = true) (hw : wl = Cond.code y cc nL ret :: wl') (hfit : (lg_sl As).length ≤ nL) (hlv : lv_args 0 As = lv)
    (body : ∀ (p : Program) (e : Env) (s : State) (m : MethodId) (below : List Frame) (meth : Method) (c : Code), Cx p s m meth c cc nL ret wl y.cls As.toArray → va_P D vwCl ws s.heap → va_K D vwCl tys s → ∀ ls : Array Slot, lv_has ls nL lv →
      W p l e rm s m As.toArray below meth c s.heap [] 0 0 (MQ below (vp_Si (fun r => r = v)) As.toArray s 0 0 (fun _ => False)) (F0 m 0 ls [])) : RoI l y wl rm D tys ws As v := by
  refine Met.ofW (cc := cc) (maxL := nL) (ret := ret) hy hw ?_
  intro p e s m args below meth c s₁ B hml hv
  obtain ⟨rfl, hP, hK⟩ := hv
  exact ent_W hfit hlv (body p e s m below meth c (Cx.ofB (by rw [hw]; rfl) B hml) hP hK)
theorem RoL.mk {v : Int64} (lv : List (Nat × Value)) (hy : plainName y.cls = true) (hw : wl = Cond.code y cc nL ret :: wl') (hfit : (lg_sl As).length ≤ nL) (hlv : lv_args 0 As = lv)
    (body : ∀ (p : Program) (e : Env) (s : State) (m : MethodId) (below : List Frame) (meth : Method) (c : Code), Cx p s m meth c cc nL ret wl y.cls As.toArray → va_P D vwCl ws s.heap → va_K D vwCl tys s → ∀ ls : Array Slot, lv_has ls nL lv →
      W p l e rm s m As.toArray below meth c s.heap [] 0 0 (MQ below (vp_Sl (fun r => r = v)) As.toArray s 0 0 (fun _ => False)) (F0 m 0 ls [])) : RoL l y wl rm D tys ws As v := by
  refine Met.ofW (cc := cc) (maxL := nL) (ret := ret) hy hw ?_
  intro p e s m args below meth c s₁ B hml hv
  obtain ⟨rfl, hP, hK⟩ := hv
  exact ent_W hfit hlv (body p e s m below meth c (Cx.ofB (by rw [hw]; rfl) B hml) hP hK)
theorem RoR.mk {v : Nat} (lv : List (Nat × Value)) (hy : plainName y.cls = true) (hw : wl = Cond.code y cc nL ret :: wl') (hfit : (lg_sl As).length ≤ nL) (hlv : lv_args 0 As = lv)
    (body : ∀ (p : Program) (e : Env) (s : State) (m : MethodId) (below : List Frame) (meth : Method) (c : Code), Cx p s m meth c cc nL ret wl y.cls As.toArray → va_P D vwCl ws s.heap → va_K D vwCl tys s → ∀ ls : Array Slot, lv_has ls nL lv →
      W p l e rm s m As.toArray below meth c s.heap [] 0 0 (MQ below (va_Sr (fun r => r = v) (fun k => Value.ref k)) As.toArray s 0 0 (fun _ => False)) (F0 m 0 ls [])) : RoR l y wl rm D tys ws As v := by
  refine Met.ofW (cc := cc) (maxL := nL) (ret := ret) hy hw ?_
  intro p e s m args below meth c s₁ B hml hv
  obtain ⟨rfl, hP, hK⟩ := hv
  exact ent_W hfit hlv (body p e s m below meth c (Cx.ofB (by rw [hw]; rfl) B hml) hP hK)
/-- the end of a writing body -/
abbrev QI (D : va_G) (tys : List (ClassId × FieldType)) (w0 w1 : va_W) (sz : Nat) (v : Int32) : Array Value → State → Outcome → State → Prop := va_Qi (fun r (_ : Unit) => r = v) (Wr_B D tys w0 w1 sz) (va_A w0 sz)
abbrev QL (D : va_G) (tys : List (ClassId × FieldType)) (w0 w1 : va_W) (sz : Nat) (v : Int64) : Array Value → State → Outcome → State → Prop := va_Ql (fun r (_ : Unit) => r = v) (Wr_B D tys w0 w1 sz) (va_A w0 sz)
abbrev QV (D : va_G) (tys : List (ClassId × FieldType)) (w0 w1 : va_W) (sz : Nat) : Array Value → State → Outcome → State → Prop := va_Qv (fun (_ : Unit) => True) (Wr_B D tys w0 w1 sz) (va_A w0 sz)
theorem WrI.mk {v : Int32} (lv : List (Nat × Value)) (hy : plainName y.cls = true) (hw : wl = Cond.code y cc nL ret :: wl') (hfit : (lg_sl As).length ≤ nL) (hlv : lv_args 0 As = lv)
    (body : ∀ (p : Program) (e : Env) (s : State) (m : MethodId) (below : List Frame) (meth : Method) (c : Code), Cx p s m meth c cc nL ret wl y.cls As.toArray → va_P D vwCl w0 s.heap → va_K D vwCl tys s → va_D (va_A w0 s.heap.size) w0 → va_S (va_A w0 s.heap.size) s.heap s.heap [] → Zs z (va_A w0 s.heap.size) s s.heap → ∀ ls : Array Slot, lv_has ls nL lv →
      W p l e rm s m As.toArray below meth c s.heap [] 0 0 (MQ below (QI D tys w0 w1 s.heap.size v) As.toArray s 0 0 (va_A w0 s.heap.size)) (F0 m 0 ls [])) : WrI z l y wl rm D tys w0 w1 As v := by
  intro sz
  refine Met.ofW (cc := cc) (maxL := nL) (ret := ret) hy hw ?_
  intro p e s m args below meth c s₁ B hml hv
  obtain ⟨rfl, rfl, hP, hK, hD, hZ⟩ := hv
  exact ent_W hfit hlv (body p e s m below meth c (Cx.ofB (by rw [hw]; rfl) B hml) hP hK (hD.self (sz := s.heap.size)) va_S.rf hZ)
theorem WrL.mk {v : Int64} (lv : List (Nat × Value)) (hy : plainName y.cls = true) (hw : wl = Cond.code y cc nL ret :: wl') (hfit : (lg_sl As).length ≤ nL) (hlv : lv_args 0 As = lv)
    (body : ∀ (p : Program) (e : Env) (s : State) (m : MethodId) (below : List Frame) (meth : Method) (c : Code), Cx p s m meth c cc nL ret wl y.cls As.toArray → va_P D vwCl w0 s.heap → va_K D vwCl tys s → va_D (va_A w0 s.heap.size) w0 → va_S (va_A w0 s.heap.size) s.heap s.heap [] → Zs z (va_A w0 s.heap.size) s s.heap → ∀ ls : Array Slot, lv_has ls nL lv →
      W p l e rm s m As.toArray below meth c s.heap [] 0 0 (MQ below (QL D tys w0 w1 s.heap.size v) As.toArray s 0 0 (va_A w0 s.heap.size)) (F0 m 0 ls [])) : WrL z l y wl rm D tys w0 w1 As v := by
  intro sz
  refine Met.ofW (cc := cc) (maxL := nL) (ret := ret) hy hw ?_
  intro p e s m args below meth c s₁ B hml hv
  obtain ⟨rfl, rfl, hP, hK, hD, hZ⟩ := hv
  exact ent_W hfit hlv (body p e s m below meth c (Cx.ofB (by rw [hw]; rfl) B hml) hP hK (hD.self (sz := s.heap.size)) va_S.rf hZ)
theorem WrV.mk (lv : List (Nat × Value)) (hy : plainName y.cls = true) (hw : wl = Cond.code y cc nL ret :: wl') (hfit : (lg_sl As).length ≤ nL) (hlv : lv_args 0 As = lv)
    (body : ∀ (p : Program) (e : Env) (s : State) (m : MethodId) (below : List Frame) (meth : Method) (c : Code), Cx p s m meth c cc nL ret wl y.cls As.toArray → va_P D vwCl w0 s.heap → va_K D vwCl tys s → va_D (va_A w0 s.heap.size) w0 → va_S (va_A w0 s.heap.size) s.heap s.heap [] → Zs z (va_A w0 s.heap.size) s s.heap → ∀ ls : Array Slot, lv_has ls nL lv →
      W p l e rm s m As.toArray below meth c s.heap [] 0 0 (MQ below (QV D tys w0 w1 s.heap.size) As.toArray s 0 0 (va_A w0 s.heap.size)) (F0 m 0 ls [])) : WrV z l y wl rm D tys w0 w1 As := by
  intro sz
  refine Met.ofW (cc := cc) (maxL := nL) (ret := ret) hy hw ?_
  intro p e s m args below meth c s₁ B hml hv
  obtain ⟨rfl, rfl, hP, hK, hD, hZ⟩ := hv
  exact ent_W hfit hlv (body p e s m below meth c (Cx.ofB (by rw [hw]; rfl) B hml) hP hK (hD.self (sz := s.heap.size)) va_S.rf hZ)
end MyRules2
theorem fb_ro (D : va_G) (tys : List (ClassId × FieldType)) (ws : va_W) (As : List Value) : FrameBlind (Ro_P D tys ws As) := fun a U g mk q => by
  obtain ⟨q0, qP, qK⟩ := q
  exact ⟨q0, qP, va_K.moved (u := U) (U := U.calling g mk a) (Vm.Alike.refl U.vm) qK⟩
theorem fb_wr (z : Bool) (D : va_G) (tys : List (ClassId × FieldType)) (w0 : va_W) (As : List Value) (sz : Nat) : FrameBlind (Wr_P z D tys w0 As sz) := fun a U g mk q => by
  obtain ⟨q0, q1, qP, qK, qD, qZ⟩ := q
  exact ⟨q0, q1, qP, va_K.moved (u := U) (U := U.calling g mk a) (Vm.Alike.refl U.vm) qK, qD, qZ.moved (u := U) (U := U.calling g mk a) (Vm.Alike.refl U.vm)⟩
section MyCalls
variable {z : Bool} {p : Program} {l : Launch} {e : Env} {R : Room} {s : State} {m : MethodId} {args : Array Value} {below : List Frame} {meth : Method} {c : Code} {H H0 : Heap} {locs : List Loc} {cells slots : Nat} {Q : State → Prop}
variable {cc bytes : ByteArray} {nL maxL pc index : Nat} {ret rty : Option FieldType} {wl wy wy' : List Cond} {own C : String} {y : MethodName} {rm : Room} {D : va_G} {tys tys0 : List (ClassId × FieldType)} {ws wc w1 wr w2 : va_W} {As st rest : List Value} {ls : Array Slot} {b : Nat} {A0 : Nat → Prop}
/-- what a call needs of words and room -/
def CaB (R rm : Room) (own : String) (index : Nat) (y : MethodName) (bytes : ByteArray) (maxL : Nat) (rty : Option FieldType) (wy : List Cond) (n : Nat) : Prop :=
  rm.cells = 0 ∧ rm.slots = 0 ∧ wy.head? = some (Cond.code y bytes maxL rty) ∧ (y.cls ≠ "java/lang/invoke/MethodHandle" ∧ y.cls ≠ "java/lang/invoke/VarHandle" ∧ (parseMethodDescriptor y.desc).map (fun d => d.parameters.length) = some n) ∧ rm.frames + 1 ≤ R.frames ∧ 8 + (maxL + 11) + rm.locals ≤ R.locals
theorem caB {n : Nat} (hB : CaB R rm own index y bytes maxL rty wy n) (C0 : Cx p s m meth c cc nL ret wl own args) (hG : GoodIn wl wy) (hini : Cond.initialized y.cls ∈ wl) (hl : Cond.methodLink own index y ∈ wl) : CallB R s args own index y bytes maxL rty wy rm 0 0 n := by
  obtain ⟨h1, h2, h3, h4, h5, h6⟩ := hB
  obtain ⟨-, -, -, -, -, -, hts⟩ := C0
  refine callB_of n hts hG (ws' := wy.tail) ?_ h1 h2 (hts _ hini) (hts _ hl) h4 ⟨h5, h6⟩
  cases wy with
  | nil => cases h3
  | cons a t => cases h3; rfl
theorem roSi {n : Nat} {v : Int32} (C0 : Cx p s m meth c cc nL ret wl own args) (hM : RoI l y wy rm D tys wc As v) (hB : CaB R rm own index y bytes maxL rty wy n) (hG : GoodIn wl wy) (hini : Cond.initialized y.cls ∈ wl) (hl : Cond.methodLink own index y ∈ wl) (hst : Cond.static y ∈ wl)
    (hP : va_P D vwCl wc H) (hK : va_K D vwCl tys s) (hsz : ls.size = nL) (hn : As.length = n) (hstack : st = As.reverse ++ rest) (hW : (rest.map fun v => v.category).sum ≤ 8) (hdg : decode cc pc = .ok (.invokestatic index, 3)) (hf : cells ≤ R.cells ∧ slots ≤ R.slots)
    (kk : W p l e R s m args below meth c H locs cells slots Q (F0 m (pc + 3) ls (.int v :: rest))) : W p l e R s m args below meth c H locs cells slots Q (F0 m pc ls st) :=
  vp_callSi (W.runS (As := As) (rest := rest) ⟨C0.1, C0.2.1, C0.2.2.2.2.1, C0.2.2.2.2.2.1, C0.2.2.2.2.2.2⟩ hM ⟨caB hB C0 hG hini hl, C0.2.2.2.2.2.2 _ hst⟩ ⟨fb_ro _ _ _ _, fun U hU hW => ⟨rfl, by rw [hU]; exact hP, va_K.moved hW.alike hK⟩⟩ rfl hn hsz hstack (lv_room hW) hdg hf) (fun r hr => by rw [hr]; exact kk)
theorem roSl {n : Nat} {v : Int64} (C0 : Cx p s m meth c cc nL ret wl own args) (hM : RoL l y wy rm D tys wc As v) (hB : CaB R rm own index y bytes maxL rty wy n) (hG : GoodIn wl wy) (hini : Cond.initialized y.cls ∈ wl) (hl : Cond.methodLink own index y ∈ wl) (hst : Cond.static y ∈ wl)
    (hP : va_P D vwCl wc H) (hK : va_K D vwCl tys s) (hsz : ls.size = nL) (hn : As.length = n) (hstack : st = As.reverse ++ rest) (hW : (rest.map fun v => v.category).sum ≤ 8) (hdg : decode cc pc = .ok (.invokestatic index, 3)) (hf : cells ≤ R.cells ∧ slots ≤ R.slots)
    (kk : W p l e R s m args below meth c H locs cells slots Q (F0 m (pc + 3) ls (.long v :: rest))) : W p l e R s m args below meth c H locs cells slots Q (F0 m pc ls st) :=
  vp_callSl (W.runS (As := As) (rest := rest) ⟨C0.1, C0.2.1, C0.2.2.2.2.1, C0.2.2.2.2.2.1, C0.2.2.2.2.2.2⟩ hM ⟨caB hB C0 hG hini hl, C0.2.2.2.2.2.2 _ hst⟩ ⟨fb_ro _ _ _ _, fun U hU hW => ⟨rfl, by rw [hU]; exact hP, va_K.moved hW.alike hK⟩⟩ rfl hn hsz hstack (lv_room hW) hdg hf) (fun r hr => by rw [hr]; exact kk)
theorem roVi {n ci : Nat} {v : Int32} {qc : vw_C} {fs : List Value} (C0 : Cx p s m meth c cc nL ret wl own args) (hM : RoI l y wy rm D tys wc (.ref b :: As) v) (hB : CaB R rm own index y bytes maxL rty wy n) (hG : GoodIn wl wy) (hini : Cond.initialized y.cls ∈ wl) (hl : Cond.methodLink own index y ∈ wl) (hst : Cond.instanceMethod y ∈ wl) (hse : Cond.selects qc.1 y y ∈ wl)
    (hc : vwCl[ci]? = some qc) (he : wc[0]? = some (b, .inr (ci, fs)))
    (hP : va_P D vwCl wc H) (hK : va_K D vwCl tys s) (hsz : ls.size = nL) (hn : As.length = n) (hstack : st = As.reverse ++ .ref b :: rest) (hW : (rest.map fun v => v.category).sum ≤ 8) (hdg : decode cc pc = .ok (.invokevirtual index, 3)) (hf : cells ≤ R.cells ∧ slots ≤ R.slots)
    (kk : W p l e R s m args below meth c H locs cells slots Q (F0 m (pc + 3) ls (.int v :: rest))) : W p l e R s m args below meth c H locs cells slots Q (F0 m pc ls st) :=
  vp_callSi (W.runV (As := As) (rest := rest) ⟨C0.1, C0.2.1, C0.2.2.2.2.1, C0.2.2.2.2.2.1, C0.2.2.2.2.2.2⟩ hM ⟨caB hB C0 hG hini hl, C0.2.2.2.2.2.2 _ hst, C0.2.2.2.2.2.2 _ hse⟩ ⟨fb_ro _ _ _ _, va_recv hK hP hc he, fun U hU hW => ⟨rfl, by rw [hU]; exact hP, va_K.moved hW.alike hK⟩⟩ rfl hn hsz hstack (lv_room hW) hdg hf) (fun r hr => by rw [hr]; exact kk)
theorem roVl {n ci : Nat} {v : Int64} {qc : vw_C} {fs : List Value} (C0 : Cx p s m meth c cc nL ret wl own args) (hM : RoL l y wy rm D tys wc (.ref b :: As) v) (hB : CaB R rm own index y bytes maxL rty wy n) (hG : GoodIn wl wy) (hini : Cond.initialized y.cls ∈ wl) (hl : Cond.methodLink own index y ∈ wl) (hst : Cond.instanceMethod y ∈ wl) (hse : Cond.selects qc.1 y y ∈ wl)
    (hc : vwCl[ci]? = some qc) (he : wc[0]? = some (b, .inr (ci, fs)))
    (hP : va_P D vwCl wc H) (hK : va_K D vwCl tys s) (hsz : ls.size = nL) (hn : As.length = n) (hstack : st = As.reverse ++ .ref b :: rest) (hW : (rest.map fun v => v.category).sum ≤ 8) (hdg : decode cc pc = .ok (.invokevirtual index, 3)) (hf : cells ≤ R.cells ∧ slots ≤ R.slots)
    (kk : W p l e R s m args below meth c H locs cells slots Q (F0 m (pc + 3) ls (.long v :: rest))) : W p l e R s m args below meth c H locs cells slots Q (F0 m pc ls st) :=
  vp_callSl (W.runV (As := As) (rest := rest) ⟨C0.1, C0.2.1, C0.2.2.2.2.1, C0.2.2.2.2.2.1, C0.2.2.2.2.2.2⟩ hM ⟨caB hB C0 hG hini hl, C0.2.2.2.2.2.2 _ hst, C0.2.2.2.2.2.2 _ hse⟩ ⟨fb_ro _ _ _ _, va_recv hK hP hc he, fun U hU hW => ⟨rfl, by rw [hU]; exact hP, va_K.moved hW.alike hK⟩⟩ rfl hn hsz hstack (lv_room hW) hdg hf) (fun r hr => by rw [hr]; exact kk)
theorem roVr {n ci : Nat} {v : Nat} {qc : vw_C} {fs : List Value} (C0 : Cx p s m meth c cc nL ret wl own args) (hM : RoR l y wy rm D tys wc (.ref b :: As) v) (hB : CaB R rm own index y bytes maxL rty wy n) (hG : GoodIn wl wy) (hini : Cond.initialized y.cls ∈ wl) (hl : Cond.methodLink own index y ∈ wl) (hst : Cond.instanceMethod y ∈ wl) (hse : Cond.selects qc.1 y y ∈ wl)
    (hc : vwCl[ci]? = some qc) (he : wc[0]? = some (b, .inr (ci, fs)))
    (hP : va_P D vwCl wc H) (hK : va_K D vwCl tys s) (hsz : ls.size = nL) (hn : As.length = n) (hstack : st = As.reverse ++ .ref b :: rest) (hW : (rest.map fun v => v.category).sum ≤ 8) (hdg : decode cc pc = .ok (.invokevirtual index, 3)) (hf : cells ≤ R.cells ∧ slots ≤ R.slots)
    (kk : W p l e R s m args below meth c H locs cells slots Q (F0 m (pc + 3) ls (.ref v :: rest))) : W p l e R s m args below meth c H locs cells slots Q (F0 m pc ls st) :=
  va_csr (W.runV (As := As) (rest := rest) ⟨C0.1, C0.2.1, C0.2.2.2.2.1, C0.2.2.2.2.2.1, C0.2.2.2.2.2.2⟩ hM ⟨caB hB C0 hG hini hl, C0.2.2.2.2.2.2 _ hst, C0.2.2.2.2.2.2 _ hse⟩ ⟨fb_ro _ _ _ _, va_recv hK hP hc he, fun U hU hW => ⟨rfl, by rw [hU]; exact hP, va_K.moved hW.alike hK⟩⟩ rfl hn hsz hstack (lv_room hW) hdg hf) (fun r hr => by rw [hr]; exact kk)
/-- the cells behind a writing call, put back in the caller's order -/
theorem wr_back {t : State} {H1 : Heap} (hP : va_P D vwCl ws H) (hD : va_D A0 ws) (isC isR is2 : List Nat) (hC : isC.map (fun i => ws[i]?) = wc.map some) (hR : isR.map (fun i => ws[i]?) = wr.map some) (hn : va_nd isR = true) (hdis : ∀ i ∈ isR, i ∉ isC) (hn2 : va_nd is2 = true) (h2 : is2.map (fun i => (wr ++ w1)[i]?) = w2.map some)
    (hF : ∀ q, va_A wc H.size q → A0 q) (ht : t.heap = H1) (hk : ∀ q : Nat, q < H.size → ¬ va_A wc H.size q → H1[q]? = H[q]?) (hB : Wr_B D tys wc w1 H.size () t) : va_P D vwCl w2 H1 ∧ va_D A0 w2 := by
  obtain ⟨hP1, -, hD1⟩ := hB
  rw [ht] at hP1
  obtain ⟨gP, gD⟩ := va_join hP hD isC isR hC hR hn hdis hk hF hP1 hD1
  refine ⟨gP.sub is2 ?_, gD.sub is2 hn2 h2⟩
  clear hk hF hP1 hD1 gP gD hn2
  induction is2 generalizing w2 with
  | nil => cases w2 with
    | nil => rfl
    | cons a t => cases h2
  | cons i t ih => cases w2 with
    | nil => cases h2
    | cons a w => 
      simp only [List.map_cons, List.cons.injEq] at h2
      rw [List.filterMap_cons, h2.1, ih h2.2]
theorem wrVi {n ci : Nat} {v : Int32} {qc : vw_C} {fs : List Value} (C0 : Cx p s m meth c cc nL ret wl own args) (hM : WrI z l y wy rm D tys wc w1 (.ref b :: As) v) (hB : CaB R rm own index y bytes maxL rty wy n) (hG : GoodIn wl wy) (hini : Cond.initialized y.cls ∈ wl) (hl : Cond.methodLink own index y ∈ wl) (hst : Cond.instanceMethod y ∈ wl) (hse : Cond.selects qc.1 y y ∈ wl)
    (hc : vwCl[ci]? = some qc) (he : wc[0]? = some (b, .inr (ci, fs)))
    (hP : va_P D vwCl ws H) (hD : va_D A0 ws) (hK : va_K D vwCl tys s) (hS : va_S A0 H0 H locs) (hA : ∀ q, H0.size ≤ q → A0 q) (hZ : Zs z A0 s H0)
    (isC isR is2 : List Nat) (wr w2 : va_W) (hC : isC.map (fun i => ws[i]?) = wc.map some) (hnC : va_nd isC = true) (hPc : va_P D vwCl wc H) (hR : isR.map (fun i => ws[i]?) = wr.map some) (hn1 : va_nd isR = true) (hdis : ∀ i ∈ isR, i ∉ isC) (hn2 : va_nd is2 = true) (h2 : is2.map (fun i => (wr ++ w1)[i]?) = w2.map some)
    (hsz : ls.size = nL) (hn : As.length = n) (hstack : st = As.reverse ++ .ref b :: rest) (hW : (rest.map fun v => v.category).sum ≤ 8) (hdg : decode cc pc = .ok (.invokevirtual index, 3)) (hf : cells ≤ R.cells ∧ slots ≤ R.slots)
    (kk : ∀ (H1 : Heap) (locs1 : List Loc), va_P D vwCl w2 H1 → va_D A0 w2 → va_S A0 H0 H1 locs1 → W p l e R s m args below meth c H1 locs1 cells slots Q (F0 m (pc + 3) ls (.int v :: rest))) : W p l e R s m args below meth c H locs cells slots Q (F0 m pc ls st) := by
  have hFc := va_free (wc := wc) hD hS hA isC hC
  refine va_calli (va_runV (As := As) (rest := rest) ⟨C0.1, C0.2.1, C0.2.2.2.2.1, C0.2.2.2.2.2.1, C0.2.2.2.2.2.2⟩ (hM H.size) ⟨caB hB C0 hG hini hl, C0.2.2.2.2.2.2 _ hst, C0.2.2.2.2.2.2 _ hse⟩ ⟨fb_wr _ _ _ _ _ _, va_recv hK hPc hc he, fun U hU hW => ⟨rfl, by rw [hU], by rw [hU]; exact hPc, va_K.moved hW.alike hK, (hD.sub isC hnC hC).weaken (fun _ _ _ _ => trivial), by rw [hU]; exact ((hZ.kept hS.2.1).narrow hFc).moved hW.alike⟩⟩ rfl hn hsz hstack (lv_room hW) hdg hf) hS (fun q _ h => hFc q h) hFc (fun r u t H1 locs1 ht hvm hw hBt hz hk hS1 => ?_)
  obtain ⟨g1, g2⟩ := wr_back hP hD isC isR is2 hC hR hn1 hdis hn2 h2 hFc ht hk hBt
  rw [hw]
  exact kk H1 locs1 g1 g2 hS1
theorem wrVl {n ci : Nat} {v : Int64} {qc : vw_C} {fs : List Value} (C0 : Cx p s m meth c cc nL ret wl own args) (hM : WrL z l y wy rm D tys wc w1 (.ref b :: As) v) (hB : CaB R rm own index y bytes maxL rty wy n) (hG : GoodIn wl wy) (hini : Cond.initialized y.cls ∈ wl) (hl : Cond.methodLink own index y ∈ wl) (hst : Cond.instanceMethod y ∈ wl) (hse : Cond.selects qc.1 y y ∈ wl)
    (hc : vwCl[ci]? = some qc) (he : wc[0]? = some (b, .inr (ci, fs)))
    (hP : va_P D vwCl ws H) (hD : va_D A0 ws) (hK : va_K D vwCl tys s) (hS : va_S A0 H0 H locs) (hA : ∀ q, H0.size ≤ q → A0 q) (hZ : Zs z A0 s H0)
    (isC isR is2 : List Nat) (wr w2 : va_W) (hC : isC.map (fun i => ws[i]?) = wc.map some) (hnC : va_nd isC = true) (hPc : va_P D vwCl wc H) (hR : isR.map (fun i => ws[i]?) = wr.map some) (hn1 : va_nd isR = true) (hdis : ∀ i ∈ isR, i ∉ isC) (hn2 : va_nd is2 = true) (h2 : is2.map (fun i => (wr ++ w1)[i]?) = w2.map some)
    (hsz : ls.size = nL) (hn : As.length = n) (hstack : st = As.reverse ++ .ref b :: rest) (hW : (rest.map fun v => v.category).sum ≤ 8) (hdg : decode cc pc = .ok (.invokevirtual index, 3)) (hf : cells ≤ R.cells ∧ slots ≤ R.slots)
    (kk : ∀ (H1 : Heap) (locs1 : List Loc), va_P D vwCl w2 H1 → va_D A0 w2 → va_S A0 H0 H1 locs1 → W p l e R s m args below meth c H1 locs1 cells slots Q (F0 m (pc + 3) ls (.long v :: rest))) : W p l e R s m args below meth c H locs cells slots Q (F0 m pc ls st) := by
  have hFc := va_free (wc := wc) hD hS hA isC hC
  refine va_calll (va_runV (As := As) (rest := rest) ⟨C0.1, C0.2.1, C0.2.2.2.2.1, C0.2.2.2.2.2.1, C0.2.2.2.2.2.2⟩ (hM H.size) ⟨caB hB C0 hG hini hl, C0.2.2.2.2.2.2 _ hst, C0.2.2.2.2.2.2 _ hse⟩ ⟨fb_wr _ _ _ _ _ _, va_recv hK hPc hc he, fun U hU hW => ⟨rfl, by rw [hU], by rw [hU]; exact hPc, va_K.moved hW.alike hK, (hD.sub isC hnC hC).weaken (fun _ _ _ _ => trivial), by rw [hU]; exact ((hZ.kept hS.2.1).narrow hFc).moved hW.alike⟩⟩ rfl hn hsz hstack (lv_room hW) hdg hf) hS (fun q _ h => hFc q h) hFc (fun r u t H1 locs1 ht hvm hw hBt hz hk hS1 => ?_)
  obtain ⟨g1, g2⟩ := wr_back hP hD isC isR is2 hC hR hn1 hdis hn2 h2 hFc ht hk hBt
  rw [hw]
  exact kk H1 locs1 g1 g2 hS1
theorem wrVv {n ci : Nat} {qc : vw_C} {fs : List Value} (C0 : Cx p s m meth c cc nL ret wl own args) (hM : WrV z l y wy rm D tys wc w1 (.ref b :: As)) (hB : CaB R rm own index y bytes maxL rty wy n) (hG : GoodIn wl wy) (hini : Cond.initialized y.cls ∈ wl) (hl : Cond.methodLink own index y ∈ wl) (hst : Cond.instanceMethod y ∈ wl) (hse : Cond.selects qc.1 y y ∈ wl)
    (hc : vwCl[ci]? = some qc) (he : wc[0]? = some (b, .inr (ci, fs)))
    (hP : va_P D vwCl ws H) (hD : va_D A0 ws) (hK : va_K D vwCl tys s) (hS : va_S A0 H0 H locs) (hA : ∀ q, H0.size ≤ q → A0 q) (hZ : Zs z A0 s H0)
    (isC isR is2 : List Nat) (wr w2 : va_W) (hC : isC.map (fun i => ws[i]?) = wc.map some) (hnC : va_nd isC = true) (hPc : va_P D vwCl wc H) (hR : isR.map (fun i => ws[i]?) = wr.map some) (hn1 : va_nd isR = true) (hdis : ∀ i ∈ isR, i ∉ isC) (hn2 : va_nd is2 = true) (h2 : is2.map (fun i => (wr ++ w1)[i]?) = w2.map some)
    (hsz : ls.size = nL) (hn : As.length = n) (hstack : st = As.reverse ++ .ref b :: rest) (hW : (rest.map fun v => v.category).sum ≤ 8) (hdg : decode cc pc = .ok (.invokevirtual index, 3)) (hf : cells ≤ R.cells ∧ slots ≤ R.slots)
    (kk : ∀ (H1 : Heap) (locs1 : List Loc), va_P D vwCl w2 H1 → va_D A0 w2 → va_S A0 H0 H1 locs1 → W p l e R s m args below meth c H1 locs1 cells slots Q (F0 m (pc + 3) ls rest)) : W p l e R s m args below meth c H locs cells slots Q (F0 m pc ls st) := by
  have hFc := va_free (wc := wc) hD hS hA isC hC
  refine va_callv (va_runV (As := As) (rest := rest) ⟨C0.1, C0.2.1, C0.2.2.2.2.1, C0.2.2.2.2.2.1, C0.2.2.2.2.2.2⟩ (hM H.size) ⟨caB hB C0 hG hini hl, C0.2.2.2.2.2.2 _ hst, C0.2.2.2.2.2.2 _ hse⟩ ⟨fb_wr _ _ _ _ _ _, va_recv hK hPc hc he, fun U hU hW => ⟨rfl, by rw [hU], by rw [hU]; exact hPc, va_K.moved hW.alike hK, (hD.sub isC hnC hC).weaken (fun _ _ _ _ => trivial), by rw [hU]; exact ((hZ.kept hS.2.1).narrow hFc).moved hW.alike⟩⟩ rfl hn hsz hstack (lv_room hW) hdg hf) hS (fun q _ h => hFc q h) hFc (fun u t H1 locs1 ht hvm hw hBt hz hk hS1 => ?_)
  obtain ⟨g1, g2⟩ := wr_back hP hD isC isR is2 hC hR hn1 hdis hn2 h2 hFc ht hk hBt
  exact kk H1 locs1 g1 g2 hS1
theorem wrSv {n : Nat} (C0 : Cx p s m meth c cc nL ret wl own args) (hM : WrV z l y wy rm D tys wc w1 As) (hB : CaB R rm own index y bytes maxL rty wy n) (hG : GoodIn wl wy) (hini : Cond.initialized y.cls ∈ wl) (hl : Cond.methodLink own index y ∈ wl) (hst : Cond.static y ∈ wl)
    (hP : va_P D vwCl ws H) (hD : va_D A0 ws) (hK : va_K D vwCl tys s) (hS : va_S A0 H0 H locs) (hA : ∀ q, H0.size ≤ q → A0 q) (hZ : Zs z A0 s H0)
    (isC isR is2 : List Nat) (wr w2 : va_W) (hC : isC.map (fun i => ws[i]?) = wc.map some) (hnC : va_nd isC = true) (hPc : va_P D vwCl wc H) (hR : isR.map (fun i => ws[i]?) = wr.map some) (hn1 : va_nd isR = true) (hdis : ∀ i ∈ isR, i ∉ isC) (hn2 : va_nd is2 = true) (h2 : is2.map (fun i => (wr ++ w1)[i]?) = w2.map some)
    (hsz : ls.size = nL) (hn : As.length = n) (hstack : st = As.reverse ++ rest) (hW : (rest.map fun v => v.category).sum ≤ 8) (hdg : decode cc pc = .ok (.invokestatic index, 3)) (hf : cells ≤ R.cells ∧ slots ≤ R.slots)
    (kk : ∀ (H1 : Heap) (locs1 : List Loc), va_P D vwCl w2 H1 → va_D A0 w2 → va_S A0 H0 H1 locs1 → W p l e R s m args below meth c H1 locs1 cells slots Q (F0 m (pc + 3) ls rest)) : W p l e R s m args below meth c H locs cells slots Q (F0 m pc ls st) := by
  have hFc := va_free (wc := wc) hD hS hA isC hC
  refine va_callv (va_runS (As := As) (rest := rest) ⟨C0.1, C0.2.1, C0.2.2.2.2.1, C0.2.2.2.2.2.1, C0.2.2.2.2.2.2⟩ (hM H.size) ⟨caB hB C0 hG hini hl, C0.2.2.2.2.2.2 _ hst⟩ ⟨fb_wr _ _ _ _ _ _, fun U hU hW => ⟨rfl, by rw [hU], by rw [hU]; exact hPc, va_K.moved hW.alike hK, (hD.sub isC hnC hC).weaken (fun _ _ _ _ => trivial), by rw [hU]; exact ((hZ.kept hS.2.1).narrow hFc).moved hW.alike⟩⟩ rfl hn hsz hstack (lv_room hW) hdg hf) hS (fun q _ h => hFc q h) hFc (fun u t H1 locs1 ht hvm hw hBt hz hk hS1 => ?_)
  obtain ⟨g1, g2⟩ := wr_back hP hD isC isR is2 hC hR hn1 hdis hn2 h2 hFc ht hk hBt
  exact kk H1 locs1 g1 g2 hS1
/-- the ends -/
theorem roRetI {v V : Int32} (C0 : Cx p s m meth c cc nL (some .int) wl own args) (hv : v = V) (hdg : decode cc pc = .ok (.ireturn, 1)) : W p l e R s m args below meth c s.heap [] 0 0 (MQ below (vp_Si (fun r => r = V)) args s 0 0 (fun _ => False)) (F0 m pc ls [.int v]) := by
  obtain ⟨hx, hb, hr, hlocks, -, -, -⟩ := C0
  exact W.iret (v := v) hx hb hr (fun t ht hW => ⟨v, rfl, hv, ht⟩) (fun q h => by cases h) hdg
theorem roRetL {v V : Int64} (C0 : Cx p s m meth c cc nL (some .long) wl own args) (hv : v = V) (hdg : decode cc pc = .ok (.lreturn, 1)) : W p l e R s m args below meth c s.heap [] 0 0 (MQ below (vp_Sl (fun r => r = V)) args s 0 0 (fun _ => False)) (F0 m pc ls [.long v]) := by
  obtain ⟨hx, hb, hr, hlocks, -, -, -⟩ := C0
  exact W.lret (v := v) hx hb hr (fun t ht hW => ⟨v, rfl, hv, ht⟩) (fun q h => by cases h) hdg
theorem wrRetI {v V : Int32} {w0 w1 : va_W} (C0 : Cx p s m meth c cc nL (some .int) wl own args) (hK : va_K D vwCl tys s) (hv : v = V) (hP : va_P D vwCl w1 H) (hD : va_D (va_A w0 s.heap.size) w1) (hS : va_S (va_A w0 s.heap.size) s.heap H locs) (hdg : decode cc pc = .ok (.ireturn, 1)) : W p l e R s m args below meth c H locs 0 0 (MQ below (QI D tys w0 w1 s.heap.size V) args s 0 0 (va_A w0 s.heap.size)) (F0 m pc ls [.int v]) := by
  obtain ⟨hx, hb, hr, hlocks, -, -, -⟩ := C0
  exact W.iret (v := v) hx hb hr (fun t ht hW => ⟨⟨v, (), rfl, hv, by rw [ht]; exact hP, va_K.moved hW.alike hK, hD⟩, hS.F ht⟩) hS.2.2 hdg
theorem wrRetL {v V : Int64} {w0 w1 : va_W} (C0 : Cx p s m meth c cc nL (some .long) wl own args) (hK : va_K D vwCl tys s) (hv : v = V) (hP : va_P D vwCl w1 H) (hD : va_D (va_A w0 s.heap.size) w1) (hS : va_S (va_A w0 s.heap.size) s.heap H locs) (hdg : decode cc pc = .ok (.lreturn, 1)) : W p l e R s m args below meth c H locs 0 0 (MQ below (QL D tys w0 w1 s.heap.size V) args s 0 0 (va_A w0 s.heap.size)) (F0 m pc ls [.long v]) := by
  obtain ⟨hx, hb, hr, hlocks, -, -, -⟩ := C0
  exact W.lret (v := v) hx hb hr (fun t ht hW => ⟨⟨v, (), rfl, hv, by rw [ht]; exact hP, va_K.moved hW.alike hK, hD⟩, hS.F ht⟩) hS.2.2 hdg
theorem wrRetV {w0 w1 : va_W} (C0 : Cx p s m meth c cc nL none wl own args) (hK : va_K D vwCl tys s) (hP : va_P D vwCl w1 H) (hD : va_D (va_A w0 s.heap.size) w1) (hS : va_S (va_A w0 s.heap.size) s.heap H locs) (hdg : decode cc pc = .ok (.return_, 1)) : W p l e R s m args below meth c H locs 0 0 (MQ below (QV D tys w0 w1 s.heap.size) args s 0 0 (va_A w0 s.heap.size)) (F0 m pc ls []) := by
  obtain ⟨hx, hb, hr, hlocks, -, -, -⟩ := C0
  exact W.vret hx hb hr (fun t ht hW => ⟨⟨(), rfl, trivial, by rw [ht]; exact hP, va_K.moved hW.alike hK, hD⟩, hS.F ht⟩) hS.2.2 hdg
theorem roRetZ {v V : Int32} (C0 : Cx p s m meth c cc nL (some .boolean) wl own args) (hn : narrow .boolean (.int v) = .int v) (hv : v = V) (hdg : decode cc pc = .ok (.ireturn, 1)) : W p l e R s m args below meth c s.heap [] 0 0 (MQ below (vp_Si (fun r => r = V)) args s 0 0 (fun _ => False)) (F0 m pc ls [.int v]) := by
  obtain ⟨hx, hb, hr, hlocks, -, -, -⟩ := C0
  exact W.zret (v := v) hx hb hr hn (fun t ht hW => ⟨v, rfl, hv, ht⟩) (fun q h => by cases h) hdg
theorem roRetR {a V : Nat} {o : String} (C0 : Cx p s m meth c cc nL (some (.object o)) wl own args) (hv : a = V) (hdg : decode cc pc = .ok (.areturn, 1)) : W p l e R s m args below meth c s.heap [] 0 0 (MQ below (va_Sr (fun r => r = V) (fun k => Value.ref k)) args s 0 0 (fun _ => False)) (F0 m pc ls [.ref a]) := by
  obtain ⟨hx, hb, hr, hlocks, -, -, -⟩ := C0
  exact W.aret (v := .ref a) hx hb hr (Or.inl ⟨_, rfl⟩) (Or.inr ⟨_, rfl⟩) (fun t ht hW => ⟨a, rfl, hv, ht⟩) (fun q h => by cases h) hdg
theorem wrRetZ {v V : Int32} {w0 w1 : va_W} (C0 : Cx p s m meth c cc nL (some .boolean) wl own args) (hK : va_K D vwCl tys s) (hn : narrow .boolean (.int v) = .int v) (hv : v = V) (hP : va_P D vwCl w1 H) (hD : va_D (va_A w0 s.heap.size) w1) (hS : va_S (va_A w0 s.heap.size) s.heap H locs) (hdg : decode cc pc = .ok (.ireturn, 1)) : W p l e R s m args below meth c H locs 0 0 (MQ below (QI D tys w0 w1 s.heap.size V) args s 0 0 (va_A w0 s.heap.size)) (F0 m pc ls [.int v]) := by
  obtain ⟨hx, hb, hr, hlocks, -, -, -⟩ := C0
  exact W.zret (v := v) hx hb hr hn (fun t ht hW => ⟨⟨v, (), rfl, hv, by rw [ht]; exact hP, va_K.moved hW.alike hK, hD⟩, hS.F ht⟩) hS.2.2 hdg
end MyCalls
theorem vpd {i : Int32} {n : Nat} (h : ¬ (i < 0 ∨ n ≤ i.toNatClampNeg)) : vp_in i n := h
section MyCmp
variable {p : Program} {l : Launch} {e : Env} {R : Room} {s : State} {m : MethodId} {args : Array Value} {below : List Frame} {meth : Method} {c : Code} {H : Heap} {locs : List Loc} {cells slots : Nat} {Q : State → Prop}
variable {cc : ByteArray} {pc tgt : Nat} {off : Int} {ls : Array Slot} {rest : List Value} {x y : Int64}
theorem lc_eq (hx : p.tables.exec = Jvm.exec) (hb : c.code = cc) (h1 : decode cc pc = .ok (.lcmp, 1)) (h2 : decode cc (pc + 1) = .ok (.ifCond .eq off, 3)) (ht : ((pc + 1 : Nat) : Int) + off = (tgt : Int))
    (kt : x = y → W p l e R s m args below meth c H locs cells slots Q (F0 m tgt ls rest)) (kf : ¬ x = y → W p l e R s m args below meth c H locs cells slots Q (F0 m (pc + 4) ls rest)) : W p l e R s m args below meth c H locs cells slots Q (F0 m pc ls (.long y :: .long x :: rest)) :=
  W.lcmp hx hb h1 (lv_if_eq hx hb h2 ht (fun h => kt ((lg_cmp_eq x y).mp h)) (fun h => kf (fun q => h ((lg_cmp_eq x y).mpr q))))
theorem lc_ne (hx : p.tables.exec = Jvm.exec) (hb : c.code = cc) (h1 : decode cc pc = .ok (.lcmp, 1)) (h2 : decode cc (pc + 1) = .ok (.ifCond .ne off, 3)) (ht : ((pc + 1 : Nat) : Int) + off = (tgt : Int))
    (kt : ¬ x = y → W p l e R s m args below meth c H locs cells slots Q (F0 m tgt ls rest)) (kf : x = y → W p l e R s m args below meth c H locs cells slots Q (F0 m (pc + 4) ls rest)) : W p l e R s m args below meth c H locs cells slots Q (F0 m pc ls (.long y :: .long x :: rest)) :=
  W.lcmp hx hb h1 (lv_if_ne hx hb h2 ht (fun h => kt (fun q => h ((lg_cmp_eq x y).mpr q))) (fun h => kf ((lg_cmp_eq x y).mp h)))
theorem lc_lt (hx : p.tables.exec = Jvm.exec) (hb : c.code = cc) (h1 : decode cc pc = .ok (.lcmp, 1)) (h2 : decode cc (pc + 1) = .ok (.ifCond .lt off, 3)) (ht : ((pc + 1 : Nat) : Int) + off = (tgt : Int))
    (kt : x < y → W p l e R s m args below meth c H locs cells slots Q (F0 m tgt ls rest)) (kf : ¬ x < y → W p l e R s m args below meth c H locs cells slots Q (F0 m (pc + 4) ls rest)) : W p l e R s m args below meth c H locs cells slots Q (F0 m pc ls (.long y :: .long x :: rest)) :=
  W.lcmp hx hb h1 (lv_if_lt hx hb h2 ht (fun h => kt ((lg_cmp_lt x y).mp h)) (fun h => kf (fun q => h ((lg_cmp_lt x y).mpr q))))
theorem lc_le (hx : p.tables.exec = Jvm.exec) (hb : c.code = cc) (h1 : decode cc pc = .ok (.lcmp, 1)) (h2 : decode cc (pc + 1) = .ok (.ifCond .le off, 3)) (ht : ((pc + 1 : Nat) : Int) + off = (tgt : Int))
    (kt : x ≤ y → W p l e R s m args below meth c H locs cells slots Q (F0 m tgt ls rest)) (kf : ¬ x ≤ y → W p l e R s m args below meth c H locs cells slots Q (F0 m (pc + 4) ls rest)) : W p l e R s m args below meth c H locs cells slots Q (F0 m pc ls (.long y :: .long x :: rest)) :=
  W.lcmp hx hb h1 (lv_if_le hx hb h2 ht (fun h => kt ((lg_cmp_le x y).mp h)) (fun h => kf (fun q => h ((lg_cmp_le x y).mpr q))))
theorem lc_gt (hx : p.tables.exec = Jvm.exec) (hb : c.code = cc) (h1 : decode cc pc = .ok (.lcmp, 1)) (h2 : decode cc (pc + 1) = .ok (.ifCond .gt off, 3)) (ht : ((pc + 1 : Nat) : Int) + off = (tgt : Int))
    (kt : y < x → W p l e R s m args below meth c H locs cells slots Q (F0 m tgt ls rest)) (kf : ¬ y < x → W p l e R s m args below meth c H locs cells slots Q (F0 m (pc + 4) ls rest)) : W p l e R s m args below meth c H locs cells slots Q (F0 m pc ls (.long y :: .long x :: rest)) :=
  W.lcmp hx hb h1 (lv_if_gt hx hb h2 ht (fun h => kt ((lg_cmp_gt x y).mp h)) (fun h => kf (fun q => h ((lg_cmp_gt x y).mpr q))))
theorem lc_ge (hx : p.tables.exec = Jvm.exec) (hb : c.code = cc) (h1 : decode cc pc = .ok (.lcmp, 1)) (h2 : decode cc (pc + 1) = .ok (.ifCond .ge off, 3)) (ht : ((pc + 1 : Nat) : Int) + off = (tgt : Int))
    (kt : y ≤ x → W p l e R s m args below meth c H locs cells slots Q (F0 m tgt ls rest)) (kf : ¬ y ≤ x → W p l e R s m args below meth c H locs cells slots Q (F0 m (pc + 4) ls rest)) : W p l e R s m args below meth c H locs cells slots Q (F0 m pc ls (.long y :: .long x :: rest)) :=
  W.lcmp hx hb h1 (lv_if_ge hx hb h2 ht (fun h => kt ((lg_cmp_ge x y).mp h)) (fun h => kf (fun q => h ((lg_cmp_ge x y).mpr q))))
end MyCmp
