theorem rng {a n : Int32} {k : Nat} (e : n.toInt = k) (h1 : ¬ a < 0) (h2 : ¬ n ≤ a) : vp_in a k := by
  rw [vp_in_iff]
  rw [Int32.lt_iff_toInt_lt] at h1
  rw [Int32.le_iff_toInt_le] at h2
  have e1 : (0 : Int32).toInt = 0 := rfl
  omega
theorem rng' {a n : Int32} {k : Nat} (e : n.toInt + 1 = k) (h1 : ¬ a < 0) (h2 : ¬ n < a) : vp_in a k := by
  rw [vp_in_iff]
  rw [Int32.lt_iff_toInt_lt] at h1 h2
  have e1 : (0 : Int32).toInt = 0 := rfl
  omega
theorem rngL {a n : Int32} {k : Nat} (e : n.toInt = k) (h1 : ¬ a < 0) (h2 : a < n) : vp_in a k := by
  rw [vp_in_iff]
  rw [Int32.lt_iff_toInt_lt] at h1 h2
  have e1 : (0 : Int32).toInt = 0 := rfl
  omega
theorem rngE {a n : Int32} {k : Nat} (e : n.toInt + 1 = k) (h1 : ¬ a < 0) (h2 : a ≤ n) : vp_in a k := by
  rw [vp_in_iff]
  rw [Int32.lt_iff_toInt_lt] at h1
  rw [Int32.le_iff_toInt_le] at h2
  have e1 : (0 : Int32).toInt = 0 := rfl
  omega
theorem Lp.k {N i : Int32} {f k : Nat} (h : Lp N i f) (c : ¬ N ≤ i) (hk : N = nI k) (h31 : k < 2 ^ 31) : vp_in i k := h.in c (fun S hS e => Nat.le_of_eq (nI_inj hS h31 (e.symm.trans hk))) h31
theorem Lp.s {k f : Nat} (h1 : k < f) (h2 : k < 2 ^ 31) : Lp (nI k) (0 : Int32) f := Lp.start k rfl h1 h2
def M64 (n : Int32) : Prop := ∃ m : Nat, m < 64 ∧ n = nI m
theorem m64a (x : Int32) : M64 (x &&& (63 : Int32)) := pk_andE x 6 (by decide)
theorem m64b {j k : Int32} (hj : R8 j) (hk : R8 k) : M64 (((8 : Int32) * j) + k) := by
  obtain ⟨a, h1, rfl⟩ := hj
  obtain ⟨b, h2, rfl⟩ := hk
  refine ⟨8 * a + b, by omega, ?_⟩
  rw [show (8 : Int32) = nI 8 from rfl, pk_mul, nI_add]
theorem M64.rem {n : Int32} (h : M64 n) : Lp (n - n / (60 : Int32) * (60 : Int32)) (0 : Int32) 61 := by
  obtain ⟨m, h1, rfl⟩ := h
  refine Lp.start (m % 60) ?_ (by omega) (by omega)
  exact pk_rem (d := 60) (by omega) (by omega) (by omega)
theorem M64.all {n : Int32} (h : M64 n) : Lp n (0 : Int32) 65 := by
  obtain ⟨m, h1, rfl⟩ := h
  exact Lp.s (by omega) (by omega)

-- X9_thrown
def F_X9_thrown (xt : Int32) : Int32 :=
  xt
abbrev rm_X9_thrown : Room := { frames := 0, cells := 0, slots := 0, locals := 0 }
set_option maxRecDepth 20000 in
theorem mi_X9_thrown_X9 : ∀ w ∈ wsX90, w ∈ wsX9_thrown := by decide +kernel
set_option maxRecDepth 20000 in
theorem mm_X9_thrown_f39 : Cond.fieldLink RX9 39 "ScoreboardCoreModel" "thrown" "I" ∈ wsX9_thrown := by decide +kernel
set_option maxHeartbeats 4000000 in
set_option maxRecDepth 100000 in
theorem w_X9_thrown {p : Program} {l : Launch} {e : Env} {s : State} {m : MethodId} {below : List Frame} {meth : Method} {c : Code} {args : Array Value} (dC : Nat → ClassId) (dI : Nat → Nat → Nat) (cI cJ : ClassId) (hX x1 x2 x3 x4 x5 x6 x7 x8 : Nat) (xt : Int32) (xw : Int32) (xp : Int32) (xs : Int32) (xc : Int64) (xM : Int64) (xE : Int64) (xL : Int64) (xo : Int32) (xi : Int32) (xj : Int32) (xk : Int32) (xn : Int32) (xz : Int32) (xa : Int32) (xg : Int32) (xmw : Nat → Int64) (xmp : Nat → Int64) (xr : Nat → Int64) (xd : Nat → Int32) (xwt : Nat → Int64) (xf : Nat → Int64) (xrd : Nat → Int64) (xu : Nat → Int64) (C0 : Cx p s m meth c cX9_thrown 1 (some .int) wsX9_thrown RX9 args) (hK : va_K (dC, dI) vwCl [(cI, .int), (cJ, .long)] s) (hP : va_P (dC, dI) vwCl [(hX, .inr (6, [.int xt, .ref x1, .ref x2, .ref x3, .int xw, .int xp, .int xs, .long xc, .ref x4, .ref x5, .ref x6, .ref x7, .ref x8, .long xM, .long xE, .long xL, .int xo, .int xi, .int xj, .int xk, .int xn, .int xz, .int xa, .int xg])), (x1, .inl (cJ, 512, .inr (.inl xmw))), (x2, .inl (cJ, 512, .inr (.inl xmp))), (x3, .inl (cJ, 24, .inr (.inl xr))), (x4, .inl (cI, 8, .inl xd)), (x5, .inl (cJ, 5, .inr (.inl xwt))), (x6, .inl (cJ, 24, .inr (.inl xf))), (x7, .inl (cJ, 24, .inr (.inl xrd))), (x8, .inl (cJ, 6, .inr (.inl xu)))] s.heap) {V : Int32} (hV : (F_X9_thrown xt ) = V) (ls : Array Slot) (hl : lv_has ls 1 [(0, .ref hX)]) : W p l e rm_X9_thrown s m args below meth c s.heap [] 0 0 (MQ below (vp_Si (fun r => r = V)) args s 0 0 (fun _ => False)) (F0 m 0 ls []) := by
  obtain ⟨hx, hb, hr, hlk, hml, hown, hts⟩ := id C0
  refine lv_aload_n hx hb dX9_thrown_0 rfl (lv_at hl 0 rfl) ?_
  refine va_get (D := (dC, dI)) (ci := 6) (v := .int xt) (C := RX9) (T := TX9) (N := 24) hx hb hts mi_X9_thrown_X9 hown hK hP 0 rfl rfl 0 (by decide) (hts (.fieldLink RX9 39 "ScoreboardCoreModel" "thrown" "I") mm_X9_thrown_f39) (fun _ h9 => h9) rfl dX9_thrown_1 ?_
  have e9 : (F_X9_thrown xt ) = xt := by rw [F_X9_thrown]
  rw [e9] at hV
  subst hV
  exact roRetI C0 rfl dX9_thrown_4
theorem c_X9_thrown (l : Launch) (dC : Nat → ClassId) (dI : Nat → Nat → Nat) (cI cJ : ClassId) (hX x1 x2 x3 x4 x5 x6 x7 x8 : Nat) (xt : Int32) (xw : Int32) (xp : Int32) (xs : Int32) (xc : Int64) (xM : Int64) (xE : Int64) (xL : Int64) (xo : Int32) (xi : Int32) (xj : Int32) (xk : Int32) (xn : Int32) (xz : Int32) (xa : Int32) (xg : Int32) (xmw : Nat → Int64) (xmp : Nat → Int64) (xr : Nat → Int64) (xd : Nat → Int32) (xwt : Nat → Int64) (xf : Nat → Int64) (xrd : Nat → Int64) (xu : Nat → Int64) : RoI l yX9_thrown wsX9_thrown rm_X9_thrown (dC, dI) [(cI, .int), (cJ, .long)] [(hX, .inr (6, [.int xt, .ref x1, .ref x2, .ref x3, .int xw, .int xp, .int xs, .long xc, .ref x4, .ref x5, .ref x6, .ref x7, .ref x8, .long xM, .long xE, .long xL, .int xo, .int xi, .int xj, .int xk, .int xn, .int xz, .int xa, .int xg])), (x1, .inl (cJ, 512, .inr (.inl xmw))), (x2, .inl (cJ, 512, .inr (.inl xmp))), (x3, .inl (cJ, 24, .inr (.inl xr))), (x4, .inl (cI, 8, .inl xd)), (x5, .inl (cJ, 5, .inr (.inl xwt))), (x6, .inl (cJ, 24, .inr (.inl xf))), (x7, .inl (cJ, 24, .inr (.inl xrd))), (x8, .inl (cJ, 6, .inr (.inl xu)))] [.ref hX] (F_X9_thrown xt ) := by
  refine RoI.mk (cc := cX9_thrown) (nL := 1) (ret := (some .int)) [(0, .ref hX)] (by decide) rfl (Nat.le_of_ble_eq_true rfl) rfl ?_
  intro p e s m below meth c C0 hP hK ls hl
  exact w_X9_thrown dC dI cI cJ hX x1 x2 x3 x4 x5 x6 x7 x8 xt xw xp xs xc xM xE xL xo xi xj xk xn xz xa xg xmw xmp xr xd xwt xf xrd xu C0 hK hP rfl ls hl

-- X9_write
def F_X9_write (a : Int32) (v : Int64) (xmw : Nat → Int64) : Int64 × Int32 × (Nat → Int64) :=
  (if a < 0 then (if (1 : Int32) ≤ 0 then ((xmw a.toNatClampNeg), (1 : Int32), (vp_updL xmw a.toNatClampNeg (v &&& (1152921504606846975 : Int64)))) else ((0 : Int64), (1 : Int32), xmw)) else (if a < (512 : Int32) then (if (0 : Int32) ≤ 0 then ((xmw a.toNatClampNeg), (0 : Int32), (vp_updL xmw a.toNatClampNeg (v &&& (1152921504606846975 : Int64)))) else ((0 : Int64), (0 : Int32), xmw)) else (if (1 : Int32) ≤ 0 then ((xmw a.toNatClampNeg), (1 : Int32), (vp_updL xmw a.toNatClampNeg (v &&& (1152921504606846975 : Int64)))) else ((0 : Int64), (1 : Int32), xmw))))
abbrev rm_X9_write : Room := { frames := 0, cells := 0, slots := 0, locals := 0 }
set_option maxRecDepth 20000 in
theorem mi_X9_write_X9 : ∀ w ∈ wsX90, w ∈ wsX9_write := by decide +kernel
set_option maxRecDepth 20000 in
theorem mm_X9_write_f39 : Cond.fieldLink RX9 39 "ScoreboardCoreModel" "thrown" "I" ∈ wsX9_write := by decide +kernel
set_option maxRecDepth 20000 in
theorem mm_X9_write_f7 : Cond.fieldLink RX9 7 "ScoreboardCoreModel" "memory" "[J" ∈ wsX9_write := by decide +kernel
set_option maxRecDepth 20000 in
theorem mm_X9_write_k42 : Cond.constantLong RX9 42 (1152921504606846975) ∈ wsX9_write := by decide +kernel
set_option maxHeartbeats 4000000 in
set_option maxRecDepth 100000 in
theorem w_X9_write {p : Program} {l : Launch} {e : Env} {s : State} {m : MethodId} {below : List Frame} {meth : Method} {c : Code} {args : Array Value} (dC : Nat → ClassId) (dI : Nat → Nat → Nat) (cI cJ : ClassId) (hX x1 x2 x3 x4 x5 x6 x7 x8 : Nat) (a : Int32) (v : Int64) (xt : Int32) (xw : Int32) (xp : Int32) (xs : Int32) (xc : Int64) (xM : Int64) (xE : Int64) (xL : Int64) (xo : Int32) (xi : Int32) (xj : Int32) (xk : Int32) (xn : Int32) (xz : Int32) (xa : Int32) (xg : Int32) (xmw : Nat → Int64) (xmp : Nat → Int64) (xr : Nat → Int64) (xd : Nat → Int32) (xwt : Nat → Int64) (xf : Nat → Int64) (xrd : Nat → Int64) (xu : Nat → Int64) {w0 : va_W} (C0 : Cx p s m meth c cX9_write 6 (some .long) wsX9_write RX9 args) (hK : va_K (dC, dI) vwCl [(cI, .int), (cJ, .long)] s) (hZ : Zs false (va_A w0 s.heap.size) s s.heap) {V : Int64 × Int32 × (Nat → Int64)} (hV : (F_X9_write a v xmw ) = V) (ls : Array Slot) (hl : lv_has ls 6 [(0, .ref hX), (1, .int a), (2, .long v)]) {H : Heap} {locs : List Loc} (hP : va_P (dC, dI) vwCl [(hX, .inr (6, [.int xt, .ref x1, .ref x2, .ref x3, .int xw, .int xp, .int xs, .long xc, .ref x4, .ref x5, .ref x6, .ref x7, .ref x8, .long xM, .long xE, .long xL, .int xo, .int xi, .int xj, .int xk, .int xn, .int xz, .int xa, .int xg])), (x1, .inl (cJ, 512, .inr (.inl xmw))), (x2, .inl (cJ, 512, .inr (.inl xmp))), (x3, .inl (cJ, 24, .inr (.inl xr))), (x4, .inl (cI, 8, .inl xd)), (x5, .inl (cJ, 5, .inr (.inl xwt))), (x6, .inl (cJ, 24, .inr (.inl xf))), (x7, .inl (cJ, 24, .inr (.inl xrd))), (x8, .inl (cJ, 6, .inr (.inl xu)))] H) (hD : va_D (va_A w0 s.heap.size) [(hX, .inr (6, [.int xt, .ref x1, .ref x2, .ref x3, .int xw, .int xp, .int xs, .long xc, .ref x4, .ref x5, .ref x6, .ref x7, .ref x8, .long xM, .long xE, .long xL, .int xo, .int xi, .int xj, .int xk, .int xn, .int xz, .int xa, .int xg])), (x1, .inl (cJ, 512, .inr (.inl xmw))), (x2, .inl (cJ, 512, .inr (.inl xmp))), (x3, .inl (cJ, 24, .inr (.inl xr))), (x4, .inl (cI, 8, .inl xd)), (x5, .inl (cJ, 5, .inr (.inl xwt))), (x6, .inl (cJ, 24, .inr (.inl xf))), (x7, .inl (cJ, 24, .inr (.inl xrd))), (x8, .inl (cJ, 6, .inr (.inl xu)))]) (hS : va_S (va_A w0 s.heap.size) s.heap H locs) : W p l e rm_X9_write s m args below meth c H locs 0 0 (MQ below (QL (dC, dI) [(cI, .int), (cJ, .long)] w0 [(hX, .inr (6, [.int V.2.1, .ref x1, .ref x2, .ref x3, .int xw, .int xp, .int xs, .long xc, .ref x4, .ref x5, .ref x6, .ref x7, .ref x8, .long xM, .long xE, .long xL, .int xo, .int xi, .int xj, .int xk, .int xn, .int xz, .int xa, .int xg])), (x1, .inl (cJ, 512, .inr (.inl V.2.2))), (x2, .inl (cJ, 512, .inr (.inl xmp))), (x3, .inl (cJ, 24, .inr (.inl xr))), (x4, .inl (cI, 8, .inl xd)), (x5, .inl (cJ, 5, .inr (.inl xwt))), (x6, .inl (cJ, 24, .inr (.inl xf))), (x7, .inl (cJ, 24, .inr (.inl xrd))), (x8, .inl (cJ, 6, .inr (.inl xu)))] s.heap.size V.1) args s 0 0 (va_A w0 s.heap.size)) (F0 m 0 ls []) := by
  obtain ⟨hx, hb, hr, hlk, hml, hown, hts⟩ := id C0
  have hA : ∀ q : Nat, s.heap.size ≤ q → va_A w0 s.heap.size q := fun q h => Or.inr h
  refine lv_aload_n hx hb dX9_write_0 rfl (lv_at hl 0 rfl) ?_
  refine lv_iload_n hx hb dX9_write_1 rfl (lv_at hl 1 rfl) ?_
  refine lv_if_lt (x := a) (tgt := 12) hx hb dX9_write_2 (by decide) (fun c1 => ?_) (fun c1 => ?_)
  · refine lv_iconst (v := (1 : Int32)) hx hb dX9_write_12 (by decide) ?_
    refine lv_goto (tgt := 17) hx hb dX9_write_13 (by decide) ?_
    refine va_put (D := (dC, dI)) (ci := 6) (v := .int (1 : Int32)) (ty := .int) (C := RX9) (T := TX9) (N := 24) hx hb hts mi_X9_write_X9 tyX9 tyX9_ok nmX9 hown hK hP hD hS 0 rfl rfl 0 (by decide) (hts (.fieldLink RX9 39 "ScoreboardCoreModel" "thrown" "I") mm_X9_write_f39) (fun _ h9 => h9) rfl (by decide +kernel) rfl rfl (Nat.le_of_ble_eq_true rfl) dX9_write_17 (fun H locs hP hD hS => ?_)
    have hP : va_P (dC, dI) vwCl [(hX, .inr (6, [.int (1 : Int32), .ref x1, .ref x2, .ref x3, .int xw, .int xp, .int xs, .long xc, .ref x4, .ref x5, .ref x6, .ref x7, .ref x8, .long xM, .long xE, .long xL, .int xo, .int xi, .int xj, .int xk, .int xn, .int xz, .int xa, .int xg])), (x1, .inl (cJ, 512, .inr (.inl xmw))), (x2, .inl (cJ, 512, .inr (.inl xmp))), (x3, .inl (cJ, 24, .inr (.inl xr))), (x4, .inl (cI, 8, .inl xd)), (x5, .inl (cJ, 5, .inr (.inl xwt))), (x6, .inl (cJ, 24, .inr (.inl xf))), (x7, .inl (cJ, 24, .inr (.inl xrd))), (x8, .inl (cJ, 6, .inr (.inl xu)))] H := hP
    have hD : va_D (va_A w0 s.heap.size) [(hX, .inr (6, [.int (1 : Int32), .ref x1, .ref x2, .ref x3, .int xw, .int xp, .int xs, .long xc, .ref x4, .ref x5, .ref x6, .ref x7, .ref x8, .long xM, .long xE, .long xL, .int xo, .int xi, .int xj, .int xk, .int xn, .int xz, .int xa, .int xg])), (x1, .inl (cJ, 512, .inr (.inl xmw))), (x2, .inl (cJ, 512, .inr (.inl xmp))), (x3, .inl (cJ, 24, .inr (.inl xr))), (x4, .inl (cI, 8, .inl xd)), (x5, .inl (cJ, 5, .inr (.inl xwt))), (x6, .inl (cJ, 24, .inr (.inl xf))), (x7, .inl (cJ, 24, .inr (.inl xrd))), (x8, .inl (cJ, 6, .inr (.inl xu)))] := hD
    refine lv_aload_n hx hb dX9_write_20 rfl (lv_at hl 0 rfl) ?_
    refine va_get (D := (dC, dI)) (ci := 6) (v := .int (1 : Int32)) (C := RX9) (T := TX9) (N := 24) hx hb hts mi_X9_write_X9 hown hK hP 0 rfl rfl 0 (by decide) (hts (.fieldLink RX9 39 "ScoreboardCoreModel" "thrown" "I") mm_X9_write_f39) (fun _ h9 => h9) rfl dX9_write_21 ?_
    refine lv_if_le (x := (1 : Int32)) (tgt := 29) hx hb dX9_write_24 (by decide) (fun c2 => ?_) (fun c2 => ?_)
    · refine lv_aload_n hx hb dX9_write_29 rfl (lv_at hl 0 rfl) ?_
      refine va_get (D := (dC, dI)) (ci := 6) (v := .ref x1) (C := RX9) (T := TX9) (N := 24) hx hb hts mi_X9_write_X9 hown hK hP 0 rfl rfl 1 (by decide) (hts (.fieldLink RX9 7 "ScoreboardCoreModel" "memory" "[J") mm_X9_write_f7) (fun _ h9 => h9) rfl dX9_write_30 ?_
      refine lv_iload_n hx hb dX9_write_33 rfl (lv_at hl 1 rfl) ?_
      refine va_lald (D := (dC, dI)) hx hb hK hP 1 1 rfl rfl (by first | exact rngL (n := 512) rfl (by assumption) (by assumption) | exact rngL (n := 24) rfl (by assumption) (by assumption) | exact rngL (n := 8) rfl (by assumption) (by assumption) | exact rngL (n := 5) rfl (by assumption) (by assumption) | exact rngE (n := 23) rfl (by assumption) (by assumption) | exact rngE (n := 7) rfl (by assumption) (by assumption) | exact rngE (n := 4) rfl (by assumption) (by assumption) | exact absurd (by assumption : (1 : Int32) ≤ 0) (by decide) | exact absurd (by assumption : ¬ (0 : Int32) ≤ 0) (by decide) | exact absurd (by assumption : ¬ (1 : Int32) = 0) (by decide) | exact absurd (by assumption : (1 : Int32) = 0) (by decide)) dX9_write_34 ?_
      refine lv_lstore (lv' := [(4, .long (xmw a.toNatClampNeg)), (0, .ref hX), (1, .int a), (2, .long v)]) hx hb dX9_write_35 hl (by decide) rfl (fun ls hl => ?_)
      refine lv_aload_n hx hb dX9_write_37 rfl (lv_at hl 1 rfl) ?_
      refine va_get (D := (dC, dI)) (ci := 6) (v := .ref x1) (C := RX9) (T := TX9) (N := 24) hx hb hts mi_X9_write_X9 hown hK hP 0 rfl rfl 1 (by decide) (hts (.fieldLink RX9 7 "ScoreboardCoreModel" "memory" "[J") mm_X9_write_f7) (fun _ h9 => h9) rfl dX9_write_38 ?_
      refine lv_iload_n hx hb dX9_write_41 rfl (lv_at hl 2 rfl) ?_
      refine lv_lload_n hx hb dX9_write_42 rfl (lv_at hl 3 rfl) ?_
      refine lv_ldc2 (v := (1152921504606846975 : Int64)) hx hb hown (hts _ mm_X9_write_k42) dX9_write_43 ?_
      refine lv_land hx hb dX9_write_46 ?_
      refine va_last (D := (dC, dI)) hx hb hK hP hD hS 1 1 rfl rfl (by first | exact rngL (n := 512) rfl (by assumption) (by assumption) | exact rngL (n := 24) rfl (by assumption) (by assumption) | exact rngL (n := 8) rfl (by assumption) (by assumption) | exact rngL (n := 5) rfl (by assumption) (by assumption) | exact rngE (n := 23) rfl (by assumption) (by assumption) | exact rngE (n := 7) rfl (by assumption) (by assumption) | exact rngE (n := 4) rfl (by assumption) (by assumption) | exact absurd (by assumption : (1 : Int32) ≤ 0) (by decide) | exact absurd (by assumption : ¬ (0 : Int32) ≤ 0) (by decide) | exact absurd (by assumption : ¬ (1 : Int32) = 0) (by decide) | exact absurd (by assumption : (1 : Int32) = 0) (by decide)) dX9_write_47 (fun H locs hP hD hS => ?_)
      have hP : va_P (dC, dI) vwCl [(hX, .inr (6, [.int (1 : Int32), .ref x1, .ref x2, .ref x3, .int xw, .int xp, .int xs, .long xc, .ref x4, .ref x5, .ref x6, .ref x7, .ref x8, .long xM, .long xE, .long xL, .int xo, .int xi, .int xj, .int xk, .int xn, .int xz, .int xa, .int xg])), (x1, .inl (cJ, 512, .inr (.inl (vp_updL xmw a.toNatClampNeg (v &&& (1152921504606846975 : Int64)))))), (x2, .inl (cJ, 512, .inr (.inl xmp))), (x3, .inl (cJ, 24, .inr (.inl xr))), (x4, .inl (cI, 8, .inl xd)), (x5, .inl (cJ, 5, .inr (.inl xwt))), (x6, .inl (cJ, 24, .inr (.inl xf))), (x7, .inl (cJ, 24, .inr (.inl xrd))), (x8, .inl (cJ, 6, .inr (.inl xu)))] H := hP
      have hD : va_D (va_A w0 s.heap.size) [(hX, .inr (6, [.int (1 : Int32), .ref x1, .ref x2, .ref x3, .int xw, .int xp, .int xs, .long xc, .ref x4, .ref x5, .ref x6, .ref x7, .ref x8, .long xM, .long xE, .long xL, .int xo, .int xi, .int xj, .int xk, .int xn, .int xz, .int xa, .int xg])), (x1, .inl (cJ, 512, .inr (.inl (vp_updL xmw a.toNatClampNeg (v &&& (1152921504606846975 : Int64)))))), (x2, .inl (cJ, 512, .inr (.inl xmp))), (x3, .inl (cJ, 24, .inr (.inl xr))), (x4, .inl (cI, 8, .inl xd)), (x5, .inl (cJ, 5, .inr (.inl xwt))), (x6, .inl (cJ, 24, .inr (.inl xf))), (x7, .inl (cJ, 24, .inr (.inl xrd))), (x8, .inl (cJ, 6, .inr (.inl xu)))] := hD
      refine lv_lload hx hb dX9_write_48 (lv_at hl 0 rfl) ?_
      have e9 : (F_X9_write a v xmw ) = ((xmw a.toNatClampNeg), (1 : Int32), (vp_updL xmw a.toNatClampNeg (v &&& (1152921504606846975 : Int64)))) := by rw [F_X9_write, if_pos c1, if_pos c2]
      rw [e9] at hV
      subst hV
      exact wrRetL C0 hK rfl hP hD hS dX9_write_50
    · refine lv_lconst (v := (0 : Int64)) hx hb dX9_write_27 (by decide) ?_
      have e9 : (F_X9_write a v xmw ) = ((0 : Int64), (1 : Int32), xmw) := by rw [F_X9_write, if_pos c1, if_neg c2]
      rw [e9] at hV
      subst hV
      exact wrRetL C0 hK rfl hP hD hS dX9_write_28
  · refine lv_iload_n hx hb dX9_write_5 rfl (lv_at hl 1 rfl) ?_
    refine lv_sipush (v := (512 : Int32)) hx hb dX9_write_6 (by decide) ?_
    refine lv_icmp_lt (x := a) (y := (512 : Int32)) (tgt := 16) hx hb dX9_write_9 (by decide) (fun c3 => ?_) (fun c3 => ?_)
    · refine lv_iconst (v := (0 : Int32)) hx hb dX9_write_16 (by decide) ?_
      refine va_put (D := (dC, dI)) (ci := 6) (v := .int (0 : Int32)) (ty := .int) (C := RX9) (T := TX9) (N := 24) hx hb hts mi_X9_write_X9 tyX9 tyX9_ok nmX9 hown hK hP hD hS 0 rfl rfl 0 (by decide) (hts (.fieldLink RX9 39 "ScoreboardCoreModel" "thrown" "I") mm_X9_write_f39) (fun _ h9 => h9) rfl (by decide +kernel) rfl rfl (Nat.le_of_ble_eq_true rfl) dX9_write_17 (fun H locs hP hD hS => ?_)
      have hP : va_P (dC, dI) vwCl [(hX, .inr (6, [.int (0 : Int32), .ref x1, .ref x2, .ref x3, .int xw, .int xp, .int xs, .long xc, .ref x4, .ref x5, .ref x6, .ref x7, .ref x8, .long xM, .long xE, .long xL, .int xo, .int xi, .int xj, .int xk, .int xn, .int xz, .int xa, .int xg])), (x1, .inl (cJ, 512, .inr (.inl xmw))), (x2, .inl (cJ, 512, .inr (.inl xmp))), (x3, .inl (cJ, 24, .inr (.inl xr))), (x4, .inl (cI, 8, .inl xd)), (x5, .inl (cJ, 5, .inr (.inl xwt))), (x6, .inl (cJ, 24, .inr (.inl xf))), (x7, .inl (cJ, 24, .inr (.inl xrd))), (x8, .inl (cJ, 6, .inr (.inl xu)))] H := hP
      have hD : va_D (va_A w0 s.heap.size) [(hX, .inr (6, [.int (0 : Int32), .ref x1, .ref x2, .ref x3, .int xw, .int xp, .int xs, .long xc, .ref x4, .ref x5, .ref x6, .ref x7, .ref x8, .long xM, .long xE, .long xL, .int xo, .int xi, .int xj, .int xk, .int xn, .int xz, .int xa, .int xg])), (x1, .inl (cJ, 512, .inr (.inl xmw))), (x2, .inl (cJ, 512, .inr (.inl xmp))), (x3, .inl (cJ, 24, .inr (.inl xr))), (x4, .inl (cI, 8, .inl xd)), (x5, .inl (cJ, 5, .inr (.inl xwt))), (x6, .inl (cJ, 24, .inr (.inl xf))), (x7, .inl (cJ, 24, .inr (.inl xrd))), (x8, .inl (cJ, 6, .inr (.inl xu)))] := hD
      refine lv_aload_n hx hb dX9_write_20 rfl (lv_at hl 0 rfl) ?_
      refine va_get (D := (dC, dI)) (ci := 6) (v := .int (0 : Int32)) (C := RX9) (T := TX9) (N := 24) hx hb hts mi_X9_write_X9 hown hK hP 0 rfl rfl 0 (by decide) (hts (.fieldLink RX9 39 "ScoreboardCoreModel" "thrown" "I") mm_X9_write_f39) (fun _ h9 => h9) rfl dX9_write_21 ?_
      refine lv_if_le (x := (0 : Int32)) (tgt := 29) hx hb dX9_write_24 (by decide) (fun c4 => ?_) (fun c4 => ?_)
      · refine lv_aload_n hx hb dX9_write_29 rfl (lv_at hl 0 rfl) ?_
        refine va_get (D := (dC, dI)) (ci := 6) (v := .ref x1) (C := RX9) (T := TX9) (N := 24) hx hb hts mi_X9_write_X9 hown hK hP 0 rfl rfl 1 (by decide) (hts (.fieldLink RX9 7 "ScoreboardCoreModel" "memory" "[J") mm_X9_write_f7) (fun _ h9 => h9) rfl dX9_write_30 ?_
        refine lv_iload_n hx hb dX9_write_33 rfl (lv_at hl 1 rfl) ?_
        refine va_lald (D := (dC, dI)) hx hb hK hP 1 1 rfl rfl (by first | exact rngL (n := 512) rfl (by assumption) (by assumption) | exact rngL (n := 24) rfl (by assumption) (by assumption) | exact rngL (n := 8) rfl (by assumption) (by assumption) | exact rngL (n := 5) rfl (by assumption) (by assumption) | exact rngE (n := 23) rfl (by assumption) (by assumption) | exact rngE (n := 7) rfl (by assumption) (by assumption) | exact rngE (n := 4) rfl (by assumption) (by assumption) | exact absurd (by assumption : (1 : Int32) ≤ 0) (by decide) | exact absurd (by assumption : ¬ (0 : Int32) ≤ 0) (by decide) | exact absurd (by assumption : ¬ (1 : Int32) = 0) (by decide) | exact absurd (by assumption : (1 : Int32) = 0) (by decide)) dX9_write_34 ?_
        refine lv_lstore (lv' := [(4, .long (xmw a.toNatClampNeg)), (0, .ref hX), (1, .int a), (2, .long v)]) hx hb dX9_write_35 hl (by decide) rfl (fun ls hl => ?_)
        refine lv_aload_n hx hb dX9_write_37 rfl (lv_at hl 1 rfl) ?_
        refine va_get (D := (dC, dI)) (ci := 6) (v := .ref x1) (C := RX9) (T := TX9) (N := 24) hx hb hts mi_X9_write_X9 hown hK hP 0 rfl rfl 1 (by decide) (hts (.fieldLink RX9 7 "ScoreboardCoreModel" "memory" "[J") mm_X9_write_f7) (fun _ h9 => h9) rfl dX9_write_38 ?_
        refine lv_iload_n hx hb dX9_write_41 rfl (lv_at hl 2 rfl) ?_
        refine lv_lload_n hx hb dX9_write_42 rfl (lv_at hl 3 rfl) ?_
        refine lv_ldc2 (v := (1152921504606846975 : Int64)) hx hb hown (hts _ mm_X9_write_k42) dX9_write_43 ?_
        refine lv_land hx hb dX9_write_46 ?_
        refine va_last (D := (dC, dI)) hx hb hK hP hD hS 1 1 rfl rfl (by first | exact rngL (n := 512) rfl (by assumption) (by assumption) | exact rngL (n := 24) rfl (by assumption) (by assumption) | exact rngL (n := 8) rfl (by assumption) (by assumption) | exact rngL (n := 5) rfl (by assumption) (by assumption) | exact rngE (n := 23) rfl (by assumption) (by assumption) | exact rngE (n := 7) rfl (by assumption) (by assumption) | exact rngE (n := 4) rfl (by assumption) (by assumption) | exact absurd (by assumption : (1 : Int32) ≤ 0) (by decide) | exact absurd (by assumption : ¬ (0 : Int32) ≤ 0) (by decide) | exact absurd (by assumption : ¬ (1 : Int32) = 0) (by decide) | exact absurd (by assumption : (1 : Int32) = 0) (by decide)) dX9_write_47 (fun H locs hP hD hS => ?_)
        have hP : va_P (dC, dI) vwCl [(hX, .inr (6, [.int (0 : Int32), .ref x1, .ref x2, .ref x3, .int xw, .int xp, .int xs, .long xc, .ref x4, .ref x5, .ref x6, .ref x7, .ref x8, .long xM, .long xE, .long xL, .int xo, .int xi, .int xj, .int xk, .int xn, .int xz, .int xa, .int xg])), (x1, .inl (cJ, 512, .inr (.inl (vp_updL xmw a.toNatClampNeg (v &&& (1152921504606846975 : Int64)))))), (x2, .inl (cJ, 512, .inr (.inl xmp))), (x3, .inl (cJ, 24, .inr (.inl xr))), (x4, .inl (cI, 8, .inl xd)), (x5, .inl (cJ, 5, .inr (.inl xwt))), (x6, .inl (cJ, 24, .inr (.inl xf))), (x7, .inl (cJ, 24, .inr (.inl xrd))), (x8, .inl (cJ, 6, .inr (.inl xu)))] H := hP
        have hD : va_D (va_A w0 s.heap.size) [(hX, .inr (6, [.int (0 : Int32), .ref x1, .ref x2, .ref x3, .int xw, .int xp, .int xs, .long xc, .ref x4, .ref x5, .ref x6, .ref x7, .ref x8, .long xM, .long xE, .long xL, .int xo, .int xi, .int xj, .int xk, .int xn, .int xz, .int xa, .int xg])), (x1, .inl (cJ, 512, .inr (.inl (vp_updL xmw a.toNatClampNeg (v &&& (1152921504606846975 : Int64)))))), (x2, .inl (cJ, 512, .inr (.inl xmp))), (x3, .inl (cJ, 24, .inr (.inl xr))), (x4, .inl (cI, 8, .inl xd)), (x5, .inl (cJ, 5, .inr (.inl xwt))), (x6, .inl (cJ, 24, .inr (.inl xf))), (x7, .inl (cJ, 24, .inr (.inl xrd))), (x8, .inl (cJ, 6, .inr (.inl xu)))] := hD
        refine lv_lload hx hb dX9_write_48 (lv_at hl 0 rfl) ?_
        have e9 : (F_X9_write a v xmw ) = ((xmw a.toNatClampNeg), (0 : Int32), (vp_updL xmw a.toNatClampNeg (v &&& (1152921504606846975 : Int64)))) := by rw [F_X9_write, if_neg c1, if_pos c3, if_pos c4]
        rw [e9] at hV
        subst hV
        exact wrRetL C0 hK rfl hP hD hS dX9_write_50
      · refine lv_lconst (v := (0 : Int64)) hx hb dX9_write_27 (by decide) ?_
        have e9 : (F_X9_write a v xmw ) = ((0 : Int64), (0 : Int32), xmw) := by rw [F_X9_write, if_neg c1, if_pos c3, if_neg c4]
        rw [e9] at hV
        subst hV
        exact wrRetL C0 hK rfl hP hD hS dX9_write_28
    · refine lv_iconst (v := (1 : Int32)) hx hb dX9_write_12 (by decide) ?_
      refine lv_goto (tgt := 17) hx hb dX9_write_13 (by decide) ?_
      refine va_put (D := (dC, dI)) (ci := 6) (v := .int (1 : Int32)) (ty := .int) (C := RX9) (T := TX9) (N := 24) hx hb hts mi_X9_write_X9 tyX9 tyX9_ok nmX9 hown hK hP hD hS 0 rfl rfl 0 (by decide) (hts (.fieldLink RX9 39 "ScoreboardCoreModel" "thrown" "I") mm_X9_write_f39) (fun _ h9 => h9) rfl (by decide +kernel) rfl rfl (Nat.le_of_ble_eq_true rfl) dX9_write_17 (fun H locs hP hD hS => ?_)
      have hP : va_P (dC, dI) vwCl [(hX, .inr (6, [.int (1 : Int32), .ref x1, .ref x2, .ref x3, .int xw, .int xp, .int xs, .long xc, .ref x4, .ref x5, .ref x6, .ref x7, .ref x8, .long xM, .long xE, .long xL, .int xo, .int xi, .int xj, .int xk, .int xn, .int xz, .int xa, .int xg])), (x1, .inl (cJ, 512, .inr (.inl xmw))), (x2, .inl (cJ, 512, .inr (.inl xmp))), (x3, .inl (cJ, 24, .inr (.inl xr))), (x4, .inl (cI, 8, .inl xd)), (x5, .inl (cJ, 5, .inr (.inl xwt))), (x6, .inl (cJ, 24, .inr (.inl xf))), (x7, .inl (cJ, 24, .inr (.inl xrd))), (x8, .inl (cJ, 6, .inr (.inl xu)))] H := hP
      have hD : va_D (va_A w0 s.heap.size) [(hX, .inr (6, [.int (1 : Int32), .ref x1, .ref x2, .ref x3, .int xw, .int xp, .int xs, .long xc, .ref x4, .ref x5, .ref x6, .ref x7, .ref x8, .long xM, .long xE, .long xL, .int xo, .int xi, .int xj, .int xk, .int xn, .int xz, .int xa, .int xg])), (x1, .inl (cJ, 512, .inr (.inl xmw))), (x2, .inl (cJ, 512, .inr (.inl xmp))), (x3, .inl (cJ, 24, .inr (.inl xr))), (x4, .inl (cI, 8, .inl xd)), (x5, .inl (cJ, 5, .inr (.inl xwt))), (x6, .inl (cJ, 24, .inr (.inl xf))), (x7, .inl (cJ, 24, .inr (.inl xrd))), (x8, .inl (cJ, 6, .inr (.inl xu)))] := hD
      refine lv_aload_n hx hb dX9_write_20 rfl (lv_at hl 0 rfl) ?_
      refine va_get (D := (dC, dI)) (ci := 6) (v := .int (1 : Int32)) (C := RX9) (T := TX9) (N := 24) hx hb hts mi_X9_write_X9 hown hK hP 0 rfl rfl 0 (by decide) (hts (.fieldLink RX9 39 "ScoreboardCoreModel" "thrown" "I") mm_X9_write_f39) (fun _ h9 => h9) rfl dX9_write_21 ?_
      refine lv_if_le (x := (1 : Int32)) (tgt := 29) hx hb dX9_write_24 (by decide) (fun c5 => ?_) (fun c5 => ?_)
      · refine lv_aload_n hx hb dX9_write_29 rfl (lv_at hl 0 rfl) ?_
        refine va_get (D := (dC, dI)) (ci := 6) (v := .ref x1) (C := RX9) (T := TX9) (N := 24) hx hb hts mi_X9_write_X9 hown hK hP 0 rfl rfl 1 (by decide) (hts (.fieldLink RX9 7 "ScoreboardCoreModel" "memory" "[J") mm_X9_write_f7) (fun _ h9 => h9) rfl dX9_write_30 ?_
        refine lv_iload_n hx hb dX9_write_33 rfl (lv_at hl 1 rfl) ?_
        refine va_lald (D := (dC, dI)) hx hb hK hP 1 1 rfl rfl (by first | exact rngL (n := 512) rfl (by assumption) (by assumption) | exact rngL (n := 24) rfl (by assumption) (by assumption) | exact rngL (n := 8) rfl (by assumption) (by assumption) | exact rngL (n := 5) rfl (by assumption) (by assumption) | exact rngE (n := 23) rfl (by assumption) (by assumption) | exact rngE (n := 7) rfl (by assumption) (by assumption) | exact rngE (n := 4) rfl (by assumption) (by assumption) | exact absurd (by assumption : (1 : Int32) ≤ 0) (by decide) | exact absurd (by assumption : ¬ (0 : Int32) ≤ 0) (by decide) | exact absurd (by assumption : ¬ (1 : Int32) = 0) (by decide) | exact absurd (by assumption : (1 : Int32) = 0) (by decide)) dX9_write_34 ?_
        refine lv_lstore (lv' := [(4, .long (xmw a.toNatClampNeg)), (0, .ref hX), (1, .int a), (2, .long v)]) hx hb dX9_write_35 hl (by decide) rfl (fun ls hl => ?_)
        refine lv_aload_n hx hb dX9_write_37 rfl (lv_at hl 1 rfl) ?_
        refine va_get (D := (dC, dI)) (ci := 6) (v := .ref x1) (C := RX9) (T := TX9) (N := 24) hx hb hts mi_X9_write_X9 hown hK hP 0 rfl rfl 1 (by decide) (hts (.fieldLink RX9 7 "ScoreboardCoreModel" "memory" "[J") mm_X9_write_f7) (fun _ h9 => h9) rfl dX9_write_38 ?_
        refine lv_iload_n hx hb dX9_write_41 rfl (lv_at hl 2 rfl) ?_
        refine lv_lload_n hx hb dX9_write_42 rfl (lv_at hl 3 rfl) ?_
        refine lv_ldc2 (v := (1152921504606846975 : Int64)) hx hb hown (hts _ mm_X9_write_k42) dX9_write_43 ?_
        refine lv_land hx hb dX9_write_46 ?_
        refine va_last (D := (dC, dI)) hx hb hK hP hD hS 1 1 rfl rfl (by first | exact rngL (n := 512) rfl (by assumption) (by assumption) | exact rngL (n := 24) rfl (by assumption) (by assumption) | exact rngL (n := 8) rfl (by assumption) (by assumption) | exact rngL (n := 5) rfl (by assumption) (by assumption) | exact rngE (n := 23) rfl (by assumption) (by assumption) | exact rngE (n := 7) rfl (by assumption) (by assumption) | exact rngE (n := 4) rfl (by assumption) (by assumption) | exact absurd (by assumption : (1 : Int32) ≤ 0) (by decide) | exact absurd (by assumption : ¬ (0 : Int32) ≤ 0) (by decide) | exact absurd (by assumption : ¬ (1 : Int32) = 0) (by decide) | exact absurd (by assumption : (1 : Int32) = 0) (by decide)) dX9_write_47 (fun H locs hP hD hS => ?_)
        have hP : va_P (dC, dI) vwCl [(hX, .inr (6, [.int (1 : Int32), .ref x1, .ref x2, .ref x3, .int xw, .int xp, .int xs, .long xc, .ref x4, .ref x5, .ref x6, .ref x7, .ref x8, .long xM, .long xE, .long xL, .int xo, .int xi, .int xj, .int xk, .int xn, .int xz, .int xa, .int xg])), (x1, .inl (cJ, 512, .inr (.inl (vp_updL xmw a.toNatClampNeg (v &&& (1152921504606846975 : Int64)))))), (x2, .inl (cJ, 512, .inr (.inl xmp))), (x3, .inl (cJ, 24, .inr (.inl xr))), (x4, .inl (cI, 8, .inl xd)), (x5, .inl (cJ, 5, .inr (.inl xwt))), (x6, .inl (cJ, 24, .inr (.inl xf))), (x7, .inl (cJ, 24, .inr (.inl xrd))), (x8, .inl (cJ, 6, .inr (.inl xu)))] H := hP
        have hD : va_D (va_A w0 s.heap.size) [(hX, .inr (6, [.int (1 : Int32), .ref x1, .ref x2, .ref x3, .int xw, .int xp, .int xs, .long xc, .ref x4, .ref x5, .ref x6, .ref x7, .ref x8, .long xM, .long xE, .long xL, .int xo, .int xi, .int xj, .int xk, .int xn, .int xz, .int xa, .int xg])), (x1, .inl (cJ, 512, .inr (.inl (vp_updL xmw a.toNatClampNeg (v &&& (1152921504606846975 : Int64)))))), (x2, .inl (cJ, 512, .inr (.inl xmp))), (x3, .inl (cJ, 24, .inr (.inl xr))), (x4, .inl (cI, 8, .inl xd)), (x5, .inl (cJ, 5, .inr (.inl xwt))), (x6, .inl (cJ, 24, .inr (.inl xf))), (x7, .inl (cJ, 24, .inr (.inl xrd))), (x8, .inl (cJ, 6, .inr (.inl xu)))] := hD
        refine lv_lload hx hb dX9_write_48 (lv_at hl 0 rfl) ?_
        have e9 : (F_X9_write a v xmw ) = ((xmw a.toNatClampNeg), (1 : Int32), (vp_updL xmw a.toNatClampNeg (v &&& (1152921504606846975 : Int64)))) := by rw [F_X9_write, if_neg c1, if_neg c3, if_pos c5]
        rw [e9] at hV
        subst hV
        exact wrRetL C0 hK rfl hP hD hS dX9_write_50
      · refine lv_lconst (v := (0 : Int64)) hx hb dX9_write_27 (by decide) ?_
        have e9 : (F_X9_write a v xmw ) = ((0 : Int64), (1 : Int32), xmw) := by rw [F_X9_write, if_neg c1, if_neg c3, if_neg c5]
        rw [e9] at hV
        subst hV
        exact wrRetL C0 hK rfl hP hD hS dX9_write_28
theorem c_X9_write (l : Launch) (dC : Nat → ClassId) (dI : Nat → Nat → Nat) (cI cJ : ClassId) (hX x1 x2 x3 x4 x5 x6 x7 x8 : Nat) (a : Int32) (v : Int64) (xt : Int32) (xw : Int32) (xp : Int32) (xs : Int32) (xc : Int64) (xM : Int64) (xE : Int64) (xL : Int64) (xo : Int32) (xi : Int32) (xj : Int32) (xk : Int32) (xn : Int32) (xz : Int32) (xa : Int32) (xg : Int32) (xmw : Nat → Int64) (xmp : Nat → Int64) (xr : Nat → Int64) (xd : Nat → Int32) (xwt : Nat → Int64) (xf : Nat → Int64) (xrd : Nat → Int64) (xu : Nat → Int64) : WrL false l yX9_write wsX9_write rm_X9_write (dC, dI) [(cI, .int), (cJ, .long)] [(hX, .inr (6, [.int xt, .ref x1, .ref x2, .ref x3, .int xw, .int xp, .int xs, .long xc, .ref x4, .ref x5, .ref x6, .ref x7, .ref x8, .long xM, .long xE, .long xL, .int xo, .int xi, .int xj, .int xk, .int xn, .int xz, .int xa, .int xg])), (x1, .inl (cJ, 512, .inr (.inl xmw))), (x2, .inl (cJ, 512, .inr (.inl xmp))), (x3, .inl (cJ, 24, .inr (.inl xr))), (x4, .inl (cI, 8, .inl xd)), (x5, .inl (cJ, 5, .inr (.inl xwt))), (x6, .inl (cJ, 24, .inr (.inl xf))), (x7, .inl (cJ, 24, .inr (.inl xrd))), (x8, .inl (cJ, 6, .inr (.inl xu)))] [(hX, .inr (6, [.int ((F_X9_write a v xmw ).2.1), .ref x1, .ref x2, .ref x3, .int xw, .int xp, .int xs, .long xc, .ref x4, .ref x5, .ref x6, .ref x7, .ref x8, .long xM, .long xE, .long xL, .int xo, .int xi, .int xj, .int xk, .int xn, .int xz, .int xa, .int xg])), (x1, .inl (cJ, 512, .inr (.inl ((F_X9_write a v xmw ).2.2)))), (x2, .inl (cJ, 512, .inr (.inl xmp))), (x3, .inl (cJ, 24, .inr (.inl xr))), (x4, .inl (cI, 8, .inl xd)), (x5, .inl (cJ, 5, .inr (.inl xwt))), (x6, .inl (cJ, 24, .inr (.inl xf))), (x7, .inl (cJ, 24, .inr (.inl xrd))), (x8, .inl (cJ, 6, .inr (.inl xu)))] [.ref hX, .int a, .long v] ((F_X9_write a v xmw ).1) := by
  refine WrL.mk (cc := cX9_write) (nL := 6) (ret := (some .long)) [(0, .ref hX), (1, .int a), (2, .long v)] (by decide) rfl (Nat.le_of_ble_eq_true rfl) rfl ?_
  intro p e s m below meth c C0 hP hK hD hS hZ ls hl
  exact w_X9_write dC dI cI cJ hX x1 x2 x3 x4 x5 x6 x7 x8 a v xt xw xp xs xc xM xE xL xo xi xj xk xn xz xa xg xmw xmp xr xd xwt xf xrd xu C0 hK hZ rfl ls hl hP hD hS

-- X9_read
def F_X9_read (a : Int32) (xmw : Nat → Int64) : Int64 × Int32 :=
  (if a < 0 then (if (1 : Int32) ≤ 0 then ((xmw a.toNatClampNeg), (1 : Int32)) else ((0 : Int64), (1 : Int32))) else (if a < (512 : Int32) then (if (0 : Int32) ≤ 0 then ((xmw a.toNatClampNeg), (0 : Int32)) else ((0 : Int64), (0 : Int32))) else (if (1 : Int32) ≤ 0 then ((xmw a.toNatClampNeg), (1 : Int32)) else ((0 : Int64), (1 : Int32)))))
abbrev rm_X9_read : Room := { frames := 0, cells := 0, slots := 0, locals := 0 }
set_option maxRecDepth 20000 in
theorem mi_X9_read_X9 : ∀ w ∈ wsX90, w ∈ wsX9_read := by decide +kernel
set_option maxRecDepth 20000 in
theorem mm_X9_read_f39 : Cond.fieldLink RX9 39 "ScoreboardCoreModel" "thrown" "I" ∈ wsX9_read := by decide +kernel
set_option maxRecDepth 20000 in
theorem mm_X9_read_f7 : Cond.fieldLink RX9 7 "ScoreboardCoreModel" "memory" "[J" ∈ wsX9_read := by decide +kernel
set_option maxHeartbeats 4000000 in
set_option maxRecDepth 100000 in
theorem w_X9_read {p : Program} {l : Launch} {e : Env} {s : State} {m : MethodId} {below : List Frame} {meth : Method} {c : Code} {args : Array Value} (dC : Nat → ClassId) (dI : Nat → Nat → Nat) (cI cJ : ClassId) (hX x1 x2 x3 x4 x5 x6 x7 x8 : Nat) (a : Int32) (xt : Int32) (xw : Int32) (xp : Int32) (xs : Int32) (xc : Int64) (xM : Int64) (xE : Int64) (xL : Int64) (xo : Int32) (xi : Int32) (xj : Int32) (xk : Int32) (xn : Int32) (xz : Int32) (xa : Int32) (xg : Int32) (xmw : Nat → Int64) (xmp : Nat → Int64) (xr : Nat → Int64) (xd : Nat → Int32) (xwt : Nat → Int64) (xf : Nat → Int64) (xrd : Nat → Int64) (xu : Nat → Int64) {w0 : va_W} (C0 : Cx p s m meth c cX9_read 2 (some .long) wsX9_read RX9 args) (hK : va_K (dC, dI) vwCl [(cI, .int), (cJ, .long)] s) (hZ : Zs false (va_A w0 s.heap.size) s s.heap) {V : Int64 × Int32} (hV : (F_X9_read a xmw ) = V) (ls : Array Slot) (hl : lv_has ls 2 [(0, .ref hX), (1, .int a)]) {H : Heap} {locs : List Loc} (hP : va_P (dC, dI) vwCl [(hX, .inr (6, [.int xt, .ref x1, .ref x2, .ref x3, .int xw, .int xp, .int xs, .long xc, .ref x4, .ref x5, .ref x6, .ref x7, .ref x8, .long xM, .long xE, .long xL, .int xo, .int xi, .int xj, .int xk, .int xn, .int xz, .int xa, .int xg])), (x1, .inl (cJ, 512, .inr (.inl xmw))), (x2, .inl (cJ, 512, .inr (.inl xmp))), (x3, .inl (cJ, 24, .inr (.inl xr))), (x4, .inl (cI, 8, .inl xd)), (x5, .inl (cJ, 5, .inr (.inl xwt))), (x6, .inl (cJ, 24, .inr (.inl xf))), (x7, .inl (cJ, 24, .inr (.inl xrd))), (x8, .inl (cJ, 6, .inr (.inl xu)))] H) (hD : va_D (va_A w0 s.heap.size) [(hX, .inr (6, [.int xt, .ref x1, .ref x2, .ref x3, .int xw, .int xp, .int xs, .long xc, .ref x4, .ref x5, .ref x6, .ref x7, .ref x8, .long xM, .long xE, .long xL, .int xo, .int xi, .int xj, .int xk, .int xn, .int xz, .int xa, .int xg])), (x1, .inl (cJ, 512, .inr (.inl xmw))), (x2, .inl (cJ, 512, .inr (.inl xmp))), (x3, .inl (cJ, 24, .inr (.inl xr))), (x4, .inl (cI, 8, .inl xd)), (x5, .inl (cJ, 5, .inr (.inl xwt))), (x6, .inl (cJ, 24, .inr (.inl xf))), (x7, .inl (cJ, 24, .inr (.inl xrd))), (x8, .inl (cJ, 6, .inr (.inl xu)))]) (hS : va_S (va_A w0 s.heap.size) s.heap H locs) : W p l e rm_X9_read s m args below meth c H locs 0 0 (MQ below (QL (dC, dI) [(cI, .int), (cJ, .long)] w0 [(hX, .inr (6, [.int V.2, .ref x1, .ref x2, .ref x3, .int xw, .int xp, .int xs, .long xc, .ref x4, .ref x5, .ref x6, .ref x7, .ref x8, .long xM, .long xE, .long xL, .int xo, .int xi, .int xj, .int xk, .int xn, .int xz, .int xa, .int xg])), (x1, .inl (cJ, 512, .inr (.inl xmw))), (x2, .inl (cJ, 512, .inr (.inl xmp))), (x3, .inl (cJ, 24, .inr (.inl xr))), (x4, .inl (cI, 8, .inl xd)), (x5, .inl (cJ, 5, .inr (.inl xwt))), (x6, .inl (cJ, 24, .inr (.inl xf))), (x7, .inl (cJ, 24, .inr (.inl xrd))), (x8, .inl (cJ, 6, .inr (.inl xu)))] s.heap.size V.1) args s 0 0 (va_A w0 s.heap.size)) (F0 m 0 ls []) := by
  obtain ⟨hx, hb, hr, hlk, hml, hown, hts⟩ := id C0
  have hA : ∀ q : Nat, s.heap.size ≤ q → va_A w0 s.heap.size q := fun q h => Or.inr h
  refine lv_aload_n hx hb dX9_read_0 rfl (lv_at hl 0 rfl) ?_
  refine lv_iload_n hx hb dX9_read_1 rfl (lv_at hl 1 rfl) ?_
  refine lv_if_lt (x := a) (tgt := 12) hx hb dX9_read_2 (by decide) (fun c1 => ?_) (fun c1 => ?_)
  · refine lv_iconst (v := (1 : Int32)) hx hb dX9_read_12 (by decide) ?_
    refine lv_goto (tgt := 17) hx hb dX9_read_13 (by decide) ?_
    refine va_put (D := (dC, dI)) (ci := 6) (v := .int (1 : Int32)) (ty := .int) (C := RX9) (T := TX9) (N := 24) hx hb hts mi_X9_read_X9 tyX9 tyX9_ok nmX9 hown hK hP hD hS 0 rfl rfl 0 (by decide) (hts (.fieldLink RX9 39 "ScoreboardCoreModel" "thrown" "I") mm_X9_read_f39) (fun _ h9 => h9) rfl (by decide +kernel) rfl rfl (Nat.le_of_ble_eq_true rfl) dX9_read_17 (fun H locs hP hD hS => ?_)
    have hP : va_P (dC, dI) vwCl [(hX, .inr (6, [.int (1 : Int32), .ref x1, .ref x2, .ref x3, .int xw, .int xp, .int xs, .long xc, .ref x4, .ref x5, .ref x6, .ref x7, .ref x8, .long xM, .long xE, .long xL, .int xo, .int xi, .int xj, .int xk, .int xn, .int xz, .int xa, .int xg])), (x1, .inl (cJ, 512, .inr (.inl xmw))), (x2, .inl (cJ, 512, .inr (.inl xmp))), (x3, .inl (cJ, 24, .inr (.inl xr))), (x4, .inl (cI, 8, .inl xd)), (x5, .inl (cJ, 5, .inr (.inl xwt))), (x6, .inl (cJ, 24, .inr (.inl xf))), (x7, .inl (cJ, 24, .inr (.inl xrd))), (x8, .inl (cJ, 6, .inr (.inl xu)))] H := hP
    have hD : va_D (va_A w0 s.heap.size) [(hX, .inr (6, [.int (1 : Int32), .ref x1, .ref x2, .ref x3, .int xw, .int xp, .int xs, .long xc, .ref x4, .ref x5, .ref x6, .ref x7, .ref x8, .long xM, .long xE, .long xL, .int xo, .int xi, .int xj, .int xk, .int xn, .int xz, .int xa, .int xg])), (x1, .inl (cJ, 512, .inr (.inl xmw))), (x2, .inl (cJ, 512, .inr (.inl xmp))), (x3, .inl (cJ, 24, .inr (.inl xr))), (x4, .inl (cI, 8, .inl xd)), (x5, .inl (cJ, 5, .inr (.inl xwt))), (x6, .inl (cJ, 24, .inr (.inl xf))), (x7, .inl (cJ, 24, .inr (.inl xrd))), (x8, .inl (cJ, 6, .inr (.inl xu)))] := hD
    refine lv_aload_n hx hb dX9_read_20 rfl (lv_at hl 0 rfl) ?_
    refine va_get (D := (dC, dI)) (ci := 6) (v := .int (1 : Int32)) (C := RX9) (T := TX9) (N := 24) hx hb hts mi_X9_read_X9 hown hK hP 0 rfl rfl 0 (by decide) (hts (.fieldLink RX9 39 "ScoreboardCoreModel" "thrown" "I") mm_X9_read_f39) (fun _ h9 => h9) rfl dX9_read_21 ?_
    refine lv_if_le (x := (1 : Int32)) (tgt := 31) hx hb dX9_read_24 (by decide) (fun c2 => ?_) (fun c2 => ?_)
    · refine lv_aload_n hx hb dX9_read_31 rfl (lv_at hl 0 rfl) ?_
      refine va_get (D := (dC, dI)) (ci := 6) (v := .ref x1) (C := RX9) (T := TX9) (N := 24) hx hb hts mi_X9_read_X9 hown hK hP 0 rfl rfl 1 (by decide) (hts (.fieldLink RX9 7 "ScoreboardCoreModel" "memory" "[J") mm_X9_read_f7) (fun _ h9 => h9) rfl dX9_read_32 ?_
      refine lv_iload_n hx hb dX9_read_35 rfl (lv_at hl 1 rfl) ?_
      refine va_lald (D := (dC, dI)) hx hb hK hP 1 1 rfl rfl (by first | exact rngL (n := 512) rfl (by assumption) (by assumption) | exact rngL (n := 24) rfl (by assumption) (by assumption) | exact rngL (n := 8) rfl (by assumption) (by assumption) | exact rngL (n := 5) rfl (by assumption) (by assumption) | exact rngE (n := 23) rfl (by assumption) (by assumption) | exact rngE (n := 7) rfl (by assumption) (by assumption) | exact rngE (n := 4) rfl (by assumption) (by assumption) | exact absurd (by assumption : (1 : Int32) ≤ 0) (by decide) | exact absurd (by assumption : ¬ (0 : Int32) ≤ 0) (by decide) | exact absurd (by assumption : ¬ (1 : Int32) = 0) (by decide) | exact absurd (by assumption : (1 : Int32) = 0) (by decide)) dX9_read_36 ?_
      have e9 : (F_X9_read a xmw ) = ((xmw a.toNatClampNeg), (1 : Int32)) := by rw [F_X9_read, if_pos c1, if_pos c2]
      rw [e9] at hV
      subst hV
      exact wrRetL C0 hK rfl hP hD hS dX9_read_37
    · refine lv_lconst (v := (0 : Int64)) hx hb dX9_read_27 (by decide) ?_
      refine lv_goto (tgt := 37) hx hb dX9_read_28 (by decide) ?_
      have e9 : (F_X9_read a xmw ) = ((0 : Int64), (1 : Int32)) := by rw [F_X9_read, if_pos c1, if_neg c2]
      rw [e9] at hV
      subst hV
      exact wrRetL C0 hK rfl hP hD hS dX9_read_37
  · refine lv_iload_n hx hb dX9_read_5 rfl (lv_at hl 1 rfl) ?_
    refine lv_sipush (v := (512 : Int32)) hx hb dX9_read_6 (by decide) ?_
    refine lv_icmp_lt (x := a) (y := (512 : Int32)) (tgt := 16) hx hb dX9_read_9 (by decide) (fun c3 => ?_) (fun c3 => ?_)
    · refine lv_iconst (v := (0 : Int32)) hx hb dX9_read_16 (by decide) ?_
      refine va_put (D := (dC, dI)) (ci := 6) (v := .int (0 : Int32)) (ty := .int) (C := RX9) (T := TX9) (N := 24) hx hb hts mi_X9_read_X9 tyX9 tyX9_ok nmX9 hown hK hP hD hS 0 rfl rfl 0 (by decide) (hts (.fieldLink RX9 39 "ScoreboardCoreModel" "thrown" "I") mm_X9_read_f39) (fun _ h9 => h9) rfl (by decide +kernel) rfl rfl (Nat.le_of_ble_eq_true rfl) dX9_read_17 (fun H locs hP hD hS => ?_)
      have hP : va_P (dC, dI) vwCl [(hX, .inr (6, [.int (0 : Int32), .ref x1, .ref x2, .ref x3, .int xw, .int xp, .int xs, .long xc, .ref x4, .ref x5, .ref x6, .ref x7, .ref x8, .long xM, .long xE, .long xL, .int xo, .int xi, .int xj, .int xk, .int xn, .int xz, .int xa, .int xg])), (x1, .inl (cJ, 512, .inr (.inl xmw))), (x2, .inl (cJ, 512, .inr (.inl xmp))), (x3, .inl (cJ, 24, .inr (.inl xr))), (x4, .inl (cI, 8, .inl xd)), (x5, .inl (cJ, 5, .inr (.inl xwt))), (x6, .inl (cJ, 24, .inr (.inl xf))), (x7, .inl (cJ, 24, .inr (.inl xrd))), (x8, .inl (cJ, 6, .inr (.inl xu)))] H := hP
      have hD : va_D (va_A w0 s.heap.size) [(hX, .inr (6, [.int (0 : Int32), .ref x1, .ref x2, .ref x3, .int xw, .int xp, .int xs, .long xc, .ref x4, .ref x5, .ref x6, .ref x7, .ref x8, .long xM, .long xE, .long xL, .int xo, .int xi, .int xj, .int xk, .int xn, .int xz, .int xa, .int xg])), (x1, .inl (cJ, 512, .inr (.inl xmw))), (x2, .inl (cJ, 512, .inr (.inl xmp))), (x3, .inl (cJ, 24, .inr (.inl xr))), (x4, .inl (cI, 8, .inl xd)), (x5, .inl (cJ, 5, .inr (.inl xwt))), (x6, .inl (cJ, 24, .inr (.inl xf))), (x7, .inl (cJ, 24, .inr (.inl xrd))), (x8, .inl (cJ, 6, .inr (.inl xu)))] := hD
      refine lv_aload_n hx hb dX9_read_20 rfl (lv_at hl 0 rfl) ?_
      refine va_get (D := (dC, dI)) (ci := 6) (v := .int (0 : Int32)) (C := RX9) (T := TX9) (N := 24) hx hb hts mi_X9_read_X9 hown hK hP 0 rfl rfl 0 (by decide) (hts (.fieldLink RX9 39 "ScoreboardCoreModel" "thrown" "I") mm_X9_read_f39) (fun _ h9 => h9) rfl dX9_read_21 ?_
      refine lv_if_le (x := (0 : Int32)) (tgt := 31) hx hb dX9_read_24 (by decide) (fun c4 => ?_) (fun c4 => ?_)
      · refine lv_aload_n hx hb dX9_read_31 rfl (lv_at hl 0 rfl) ?_
        refine va_get (D := (dC, dI)) (ci := 6) (v := .ref x1) (C := RX9) (T := TX9) (N := 24) hx hb hts mi_X9_read_X9 hown hK hP 0 rfl rfl 1 (by decide) (hts (.fieldLink RX9 7 "ScoreboardCoreModel" "memory" "[J") mm_X9_read_f7) (fun _ h9 => h9) rfl dX9_read_32 ?_
        refine lv_iload_n hx hb dX9_read_35 rfl (lv_at hl 1 rfl) ?_
        refine va_lald (D := (dC, dI)) hx hb hK hP 1 1 rfl rfl (by first | exact rngL (n := 512) rfl (by assumption) (by assumption) | exact rngL (n := 24) rfl (by assumption) (by assumption) | exact rngL (n := 8) rfl (by assumption) (by assumption) | exact rngL (n := 5) rfl (by assumption) (by assumption) | exact rngE (n := 23) rfl (by assumption) (by assumption) | exact rngE (n := 7) rfl (by assumption) (by assumption) | exact rngE (n := 4) rfl (by assumption) (by assumption) | exact absurd (by assumption : (1 : Int32) ≤ 0) (by decide) | exact absurd (by assumption : ¬ (0 : Int32) ≤ 0) (by decide) | exact absurd (by assumption : ¬ (1 : Int32) = 0) (by decide) | exact absurd (by assumption : (1 : Int32) = 0) (by decide)) dX9_read_36 ?_
        have e9 : (F_X9_read a xmw ) = ((xmw a.toNatClampNeg), (0 : Int32)) := by rw [F_X9_read, if_neg c1, if_pos c3, if_pos c4]
        rw [e9] at hV
        subst hV
        exact wrRetL C0 hK rfl hP hD hS dX9_read_37
      · refine lv_lconst (v := (0 : Int64)) hx hb dX9_read_27 (by decide) ?_
        refine lv_goto (tgt := 37) hx hb dX9_read_28 (by decide) ?_
        have e9 : (F_X9_read a xmw ) = ((0 : Int64), (0 : Int32)) := by rw [F_X9_read, if_neg c1, if_pos c3, if_neg c4]
        rw [e9] at hV
        subst hV
        exact wrRetL C0 hK rfl hP hD hS dX9_read_37
    · refine lv_iconst (v := (1 : Int32)) hx hb dX9_read_12 (by decide) ?_
      refine lv_goto (tgt := 17) hx hb dX9_read_13 (by decide) ?_
      refine va_put (D := (dC, dI)) (ci := 6) (v := .int (1 : Int32)) (ty := .int) (C := RX9) (T := TX9) (N := 24) hx hb hts mi_X9_read_X9 tyX9 tyX9_ok nmX9 hown hK hP hD hS 0 rfl rfl 0 (by decide) (hts (.fieldLink RX9 39 "ScoreboardCoreModel" "thrown" "I") mm_X9_read_f39) (fun _ h9 => h9) rfl (by decide +kernel) rfl rfl (Nat.le_of_ble_eq_true rfl) dX9_read_17 (fun H locs hP hD hS => ?_)
      have hP : va_P (dC, dI) vwCl [(hX, .inr (6, [.int (1 : Int32), .ref x1, .ref x2, .ref x3, .int xw, .int xp, .int xs, .long xc, .ref x4, .ref x5, .ref x6, .ref x7, .ref x8, .long xM, .long xE, .long xL, .int xo, .int xi, .int xj, .int xk, .int xn, .int xz, .int xa, .int xg])), (x1, .inl (cJ, 512, .inr (.inl xmw))), (x2, .inl (cJ, 512, .inr (.inl xmp))), (x3, .inl (cJ, 24, .inr (.inl xr))), (x4, .inl (cI, 8, .inl xd)), (x5, .inl (cJ, 5, .inr (.inl xwt))), (x6, .inl (cJ, 24, .inr (.inl xf))), (x7, .inl (cJ, 24, .inr (.inl xrd))), (x8, .inl (cJ, 6, .inr (.inl xu)))] H := hP
      have hD : va_D (va_A w0 s.heap.size) [(hX, .inr (6, [.int (1 : Int32), .ref x1, .ref x2, .ref x3, .int xw, .int xp, .int xs, .long xc, .ref x4, .ref x5, .ref x6, .ref x7, .ref x8, .long xM, .long xE, .long xL, .int xo, .int xi, .int xj, .int xk, .int xn, .int xz, .int xa, .int xg])), (x1, .inl (cJ, 512, .inr (.inl xmw))), (x2, .inl (cJ, 512, .inr (.inl xmp))), (x3, .inl (cJ, 24, .inr (.inl xr))), (x4, .inl (cI, 8, .inl xd)), (x5, .inl (cJ, 5, .inr (.inl xwt))), (x6, .inl (cJ, 24, .inr (.inl xf))), (x7, .inl (cJ, 24, .inr (.inl xrd))), (x8, .inl (cJ, 6, .inr (.inl xu)))] := hD
      refine lv_aload_n hx hb dX9_read_20 rfl (lv_at hl 0 rfl) ?_
      refine va_get (D := (dC, dI)) (ci := 6) (v := .int (1 : Int32)) (C := RX9) (T := TX9) (N := 24) hx hb hts mi_X9_read_X9 hown hK hP 0 rfl rfl 0 (by decide) (hts (.fieldLink RX9 39 "ScoreboardCoreModel" "thrown" "I") mm_X9_read_f39) (fun _ h9 => h9) rfl dX9_read_21 ?_
      refine lv_if_le (x := (1 : Int32)) (tgt := 31) hx hb dX9_read_24 (by decide) (fun c5 => ?_) (fun c5 => ?_)
      · refine lv_aload_n hx hb dX9_read_31 rfl (lv_at hl 0 rfl) ?_
        refine va_get (D := (dC, dI)) (ci := 6) (v := .ref x1) (C := RX9) (T := TX9) (N := 24) hx hb hts mi_X9_read_X9 hown hK hP 0 rfl rfl 1 (by decide) (hts (.fieldLink RX9 7 "ScoreboardCoreModel" "memory" "[J") mm_X9_read_f7) (fun _ h9 => h9) rfl dX9_read_32 ?_
        refine lv_iload_n hx hb dX9_read_35 rfl (lv_at hl 1 rfl) ?_
        refine va_lald (D := (dC, dI)) hx hb hK hP 1 1 rfl rfl (by first | exact rngL (n := 512) rfl (by assumption) (by assumption) | exact rngL (n := 24) rfl (by assumption) (by assumption) | exact rngL (n := 8) rfl (by assumption) (by assumption) | exact rngL (n := 5) rfl (by assumption) (by assumption) | exact rngE (n := 23) rfl (by assumption) (by assumption) | exact rngE (n := 7) rfl (by assumption) (by assumption) | exact rngE (n := 4) rfl (by assumption) (by assumption) | exact absurd (by assumption : (1 : Int32) ≤ 0) (by decide) | exact absurd (by assumption : ¬ (0 : Int32) ≤ 0) (by decide) | exact absurd (by assumption : ¬ (1 : Int32) = 0) (by decide) | exact absurd (by assumption : (1 : Int32) = 0) (by decide)) dX9_read_36 ?_
        have e9 : (F_X9_read a xmw ) = ((xmw a.toNatClampNeg), (1 : Int32)) := by rw [F_X9_read, if_neg c1, if_neg c3, if_pos c5]
        rw [e9] at hV
        subst hV
        exact wrRetL C0 hK rfl hP hD hS dX9_read_37
      · refine lv_lconst (v := (0 : Int64)) hx hb dX9_read_27 (by decide) ?_
        refine lv_goto (tgt := 37) hx hb dX9_read_28 (by decide) ?_
        have e9 : (F_X9_read a xmw ) = ((0 : Int64), (1 : Int32)) := by rw [F_X9_read, if_neg c1, if_neg c3, if_neg c5]
        rw [e9] at hV
        subst hV
        exact wrRetL C0 hK rfl hP hD hS dX9_read_37
theorem c_X9_read (l : Launch) (dC : Nat → ClassId) (dI : Nat → Nat → Nat) (cI cJ : ClassId) (hX x1 x2 x3 x4 x5 x6 x7 x8 : Nat) (a : Int32) (xt : Int32) (xw : Int32) (xp : Int32) (xs : Int32) (xc : Int64) (xM : Int64) (xE : Int64) (xL : Int64) (xo : Int32) (xi : Int32) (xj : Int32) (xk : Int32) (xn : Int32) (xz : Int32) (xa : Int32) (xg : Int32) (xmw : Nat → Int64) (xmp : Nat → Int64) (xr : Nat → Int64) (xd : Nat → Int32) (xwt : Nat → Int64) (xf : Nat → Int64) (xrd : Nat → Int64) (xu : Nat → Int64) : WrL false l yX9_read wsX9_read rm_X9_read (dC, dI) [(cI, .int), (cJ, .long)] [(hX, .inr (6, [.int xt, .ref x1, .ref x2, .ref x3, .int xw, .int xp, .int xs, .long xc, .ref x4, .ref x5, .ref x6, .ref x7, .ref x8, .long xM, .long xE, .long xL, .int xo, .int xi, .int xj, .int xk, .int xn, .int xz, .int xa, .int xg])), (x1, .inl (cJ, 512, .inr (.inl xmw))), (x2, .inl (cJ, 512, .inr (.inl xmp))), (x3, .inl (cJ, 24, .inr (.inl xr))), (x4, .inl (cI, 8, .inl xd)), (x5, .inl (cJ, 5, .inr (.inl xwt))), (x6, .inl (cJ, 24, .inr (.inl xf))), (x7, .inl (cJ, 24, .inr (.inl xrd))), (x8, .inl (cJ, 6, .inr (.inl xu)))] [(hX, .inr (6, [.int ((F_X9_read a xmw ).2), .ref x1, .ref x2, .ref x3, .int xw, .int xp, .int xs, .long xc, .ref x4, .ref x5, .ref x6, .ref x7, .ref x8, .long xM, .long xE, .long xL, .int xo, .int xi, .int xj, .int xk, .int xn, .int xz, .int xa, .int xg])), (x1, .inl (cJ, 512, .inr (.inl xmw))), (x2, .inl (cJ, 512, .inr (.inl xmp))), (x3, .inl (cJ, 24, .inr (.inl xr))), (x4, .inl (cI, 8, .inl xd)), (x5, .inl (cJ, 5, .inr (.inl xwt))), (x6, .inl (cJ, 24, .inr (.inl xf))), (x7, .inl (cJ, 24, .inr (.inl xrd))), (x8, .inl (cJ, 6, .inr (.inl xu)))] [.ref hX, .int a] ((F_X9_read a xmw ).1) := by
  refine WrL.mk (cc := cX9_read) (nL := 2) (ret := (some .long)) [(0, .ref hX), (1, .int a)] (by decide) rfl (Nat.le_of_ble_eq_true rfl) rfl ?_
  intro p e s m below meth c C0 hP hK hD hS hZ ls hl
  exact w_X9_read dC dI cI cJ hX x1 x2 x3 x4 x5 x6 x7 x8 a xt xw xp xs xc xM xE xL xo xi xj xk xn xz xa xg xmw xmp xr xd xwt xf xrd xu C0 hK hZ rfl ls hl hP hD hS

-- X9_register
def F_X9_register (a : Int32) (xr : Nat → Int64) : Int64 × Int32 :=
  (if a < 0 then (if (1 : Int32) ≤ 0 then ((xr a.toNatClampNeg), (1 : Int32)) else ((0 : Int64), (1 : Int32))) else (if a ≤ (23 : Int32) then (if (0 : Int32) ≤ 0 then ((xr a.toNatClampNeg), (0 : Int32)) else ((0 : Int64), (0 : Int32))) else (if (1 : Int32) ≤ 0 then ((xr a.toNatClampNeg), (1 : Int32)) else ((0 : Int64), (1 : Int32)))))
abbrev rm_X9_register : Room := { frames := 0, cells := 0, slots := 0, locals := 0 }
set_option maxRecDepth 20000 in
theorem mi_X9_register_X9 : ∀ w ∈ wsX90, w ∈ wsX9_register := by decide +kernel
set_option maxRecDepth 20000 in
theorem mm_X9_register_f16 : Cond.fieldLink RX9 16 "ScoreboardCoreModel" "\x72" "[J" ∈ wsX9_register := by decide +kernel
set_option maxRecDepth 20000 in
theorem mm_X9_register_f39 : Cond.fieldLink RX9 39 "ScoreboardCoreModel" "thrown" "I" ∈ wsX9_register := by decide +kernel
set_option maxHeartbeats 4000000 in
set_option maxRecDepth 100000 in
theorem w_X9_register {p : Program} {l : Launch} {e : Env} {s : State} {m : MethodId} {below : List Frame} {meth : Method} {c : Code} {args : Array Value} (dC : Nat → ClassId) (dI : Nat → Nat → Nat) (cI cJ : ClassId) (hX x1 x2 x3 x4 x5 x6 x7 x8 : Nat) (a : Int32) (xt : Int32) (xw : Int32) (xp : Int32) (xs : Int32) (xc : Int64) (xM : Int64) (xE : Int64) (xL : Int64) (xo : Int32) (xi : Int32) (xj : Int32) (xk : Int32) (xn : Int32) (xz : Int32) (xa : Int32) (xg : Int32) (xmw : Nat → Int64) (xmp : Nat → Int64) (xr : Nat → Int64) (xd : Nat → Int32) (xwt : Nat → Int64) (xf : Nat → Int64) (xrd : Nat → Int64) (xu : Nat → Int64) {w0 : va_W} (C0 : Cx p s m meth c cX9_register 2 (some .long) wsX9_register RX9 args) (hK : va_K (dC, dI) vwCl [(cI, .int), (cJ, .long)] s) (hZ : Zs false (va_A w0 s.heap.size) s s.heap) {V : Int64 × Int32} (hV : (F_X9_register a xr ) = V) (ls : Array Slot) (hl : lv_has ls 2 [(0, .ref hX), (1, .int a)]) {H : Heap} {locs : List Loc} (hP : va_P (dC, dI) vwCl [(hX, .inr (6, [.int xt, .ref x1, .ref x2, .ref x3, .int xw, .int xp, .int xs, .long xc, .ref x4, .ref x5, .ref x6, .ref x7, .ref x8, .long xM, .long xE, .long xL, .int xo, .int xi, .int xj, .int xk, .int xn, .int xz, .int xa, .int xg])), (x1, .inl (cJ, 512, .inr (.inl xmw))), (x2, .inl (cJ, 512, .inr (.inl xmp))), (x3, .inl (cJ, 24, .inr (.inl xr))), (x4, .inl (cI, 8, .inl xd)), (x5, .inl (cJ, 5, .inr (.inl xwt))), (x6, .inl (cJ, 24, .inr (.inl xf))), (x7, .inl (cJ, 24, .inr (.inl xrd))), (x8, .inl (cJ, 6, .inr (.inl xu)))] H) (hD : va_D (va_A w0 s.heap.size) [(hX, .inr (6, [.int xt, .ref x1, .ref x2, .ref x3, .int xw, .int xp, .int xs, .long xc, .ref x4, .ref x5, .ref x6, .ref x7, .ref x8, .long xM, .long xE, .long xL, .int xo, .int xi, .int xj, .int xk, .int xn, .int xz, .int xa, .int xg])), (x1, .inl (cJ, 512, .inr (.inl xmw))), (x2, .inl (cJ, 512, .inr (.inl xmp))), (x3, .inl (cJ, 24, .inr (.inl xr))), (x4, .inl (cI, 8, .inl xd)), (x5, .inl (cJ, 5, .inr (.inl xwt))), (x6, .inl (cJ, 24, .inr (.inl xf))), (x7, .inl (cJ, 24, .inr (.inl xrd))), (x8, .inl (cJ, 6, .inr (.inl xu)))]) (hS : va_S (va_A w0 s.heap.size) s.heap H locs) : W p l e rm_X9_register s m args below meth c H locs 0 0 (MQ below (QL (dC, dI) [(cI, .int), (cJ, .long)] w0 [(hX, .inr (6, [.int V.2, .ref x1, .ref x2, .ref x3, .int xw, .int xp, .int xs, .long xc, .ref x4, .ref x5, .ref x6, .ref x7, .ref x8, .long xM, .long xE, .long xL, .int xo, .int xi, .int xj, .int xk, .int xn, .int xz, .int xa, .int xg])), (x1, .inl (cJ, 512, .inr (.inl xmw))), (x2, .inl (cJ, 512, .inr (.inl xmp))), (x3, .inl (cJ, 24, .inr (.inl xr))), (x4, .inl (cI, 8, .inl xd)), (x5, .inl (cJ, 5, .inr (.inl xwt))), (x6, .inl (cJ, 24, .inr (.inl xf))), (x7, .inl (cJ, 24, .inr (.inl xrd))), (x8, .inl (cJ, 6, .inr (.inl xu)))] s.heap.size V.1) args s 0 0 (va_A w0 s.heap.size)) (F0 m 0 ls []) := by
  obtain ⟨hx, hb, hr, hlk, hml, hown, hts⟩ := id C0
  have hA : ∀ q : Nat, s.heap.size ≤ q → va_A w0 s.heap.size q := fun q h => Or.inr h
  refine lv_aload_n hx hb dX9_register_0 rfl (lv_at hl 0 rfl) ?_
  refine lv_iload_n hx hb dX9_register_1 rfl (lv_at hl 1 rfl) ?_
  refine lv_if_lt (x := a) (tgt := 11) hx hb dX9_register_2 (by decide) (fun c1 => ?_) (fun c1 => ?_)
  · refine lv_iconst (v := (1 : Int32)) hx hb dX9_register_11 (by decide) ?_
    refine lv_goto (tgt := 16) hx hb dX9_register_12 (by decide) ?_
    refine va_put (D := (dC, dI)) (ci := 6) (v := .int (1 : Int32)) (ty := .int) (C := RX9) (T := TX9) (N := 24) hx hb hts mi_X9_register_X9 tyX9 tyX9_ok nmX9 hown hK hP hD hS 0 rfl rfl 0 (by decide) (hts (.fieldLink RX9 39 "ScoreboardCoreModel" "thrown" "I") mm_X9_register_f39) (fun _ h9 => h9) rfl (by decide +kernel) rfl rfl (Nat.le_of_ble_eq_true rfl) dX9_register_16 (fun H locs hP hD hS => ?_)
    have hP : va_P (dC, dI) vwCl [(hX, .inr (6, [.int (1 : Int32), .ref x1, .ref x2, .ref x3, .int xw, .int xp, .int xs, .long xc, .ref x4, .ref x5, .ref x6, .ref x7, .ref x8, .long xM, .long xE, .long xL, .int xo, .int xi, .int xj, .int xk, .int xn, .int xz, .int xa, .int xg])), (x1, .inl (cJ, 512, .inr (.inl xmw))), (x2, .inl (cJ, 512, .inr (.inl xmp))), (x3, .inl (cJ, 24, .inr (.inl xr))), (x4, .inl (cI, 8, .inl xd)), (x5, .inl (cJ, 5, .inr (.inl xwt))), (x6, .inl (cJ, 24, .inr (.inl xf))), (x7, .inl (cJ, 24, .inr (.inl xrd))), (x8, .inl (cJ, 6, .inr (.inl xu)))] H := hP
    have hD : va_D (va_A w0 s.heap.size) [(hX, .inr (6, [.int (1 : Int32), .ref x1, .ref x2, .ref x3, .int xw, .int xp, .int xs, .long xc, .ref x4, .ref x5, .ref x6, .ref x7, .ref x8, .long xM, .long xE, .long xL, .int xo, .int xi, .int xj, .int xk, .int xn, .int xz, .int xa, .int xg])), (x1, .inl (cJ, 512, .inr (.inl xmw))), (x2, .inl (cJ, 512, .inr (.inl xmp))), (x3, .inl (cJ, 24, .inr (.inl xr))), (x4, .inl (cI, 8, .inl xd)), (x5, .inl (cJ, 5, .inr (.inl xwt))), (x6, .inl (cJ, 24, .inr (.inl xf))), (x7, .inl (cJ, 24, .inr (.inl xrd))), (x8, .inl (cJ, 6, .inr (.inl xu)))] := hD
    refine lv_aload_n hx hb dX9_register_19 rfl (lv_at hl 0 rfl) ?_
    refine va_get (D := (dC, dI)) (ci := 6) (v := .int (1 : Int32)) (C := RX9) (T := TX9) (N := 24) hx hb hts mi_X9_register_X9 hown hK hP 0 rfl rfl 0 (by decide) (hts (.fieldLink RX9 39 "ScoreboardCoreModel" "thrown" "I") mm_X9_register_f39) (fun _ h9 => h9) rfl dX9_register_20 ?_
    refine lv_if_le (x := (1 : Int32)) (tgt := 30) hx hb dX9_register_23 (by decide) (fun c2 => ?_) (fun c2 => ?_)
    · refine lv_aload_n hx hb dX9_register_30 rfl (lv_at hl 0 rfl) ?_
      refine va_get (D := (dC, dI)) (ci := 6) (v := .ref x3) (C := RX9) (T := TX9) (N := 24) hx hb hts mi_X9_register_X9 hown hK hP 0 rfl rfl 3 (by decide) (hts (.fieldLink RX9 16 "ScoreboardCoreModel" "\x72" "[J") mm_X9_register_f16) (fun _ h9 => h9) rfl dX9_register_31 ?_
      refine lv_iload_n hx hb dX9_register_34 rfl (lv_at hl 1 rfl) ?_
      refine va_lald (D := (dC, dI)) hx hb hK hP 3 1 rfl rfl (by first | exact rngL (n := 512) rfl (by assumption) (by assumption) | exact rngL (n := 24) rfl (by assumption) (by assumption) | exact rngL (n := 8) rfl (by assumption) (by assumption) | exact rngL (n := 5) rfl (by assumption) (by assumption) | exact rngE (n := 23) rfl (by assumption) (by assumption) | exact rngE (n := 7) rfl (by assumption) (by assumption) | exact rngE (n := 4) rfl (by assumption) (by assumption) | exact absurd (by assumption : (1 : Int32) ≤ 0) (by decide) | exact absurd (by assumption : ¬ (0 : Int32) ≤ 0) (by decide) | exact absurd (by assumption : ¬ (1 : Int32) = 0) (by decide) | exact absurd (by assumption : (1 : Int32) = 0) (by decide)) dX9_register_35 ?_
      have e9 : (F_X9_register a xr ) = ((xr a.toNatClampNeg), (1 : Int32)) := by rw [F_X9_register, if_pos c1, if_pos c2]
      rw [e9] at hV
      subst hV
      exact wrRetL C0 hK rfl hP hD hS dX9_register_36
    · refine lv_lconst (v := (0 : Int64)) hx hb dX9_register_26 (by decide) ?_
      refine lv_goto (tgt := 36) hx hb dX9_register_27 (by decide) ?_
      have e9 : (F_X9_register a xr ) = ((0 : Int64), (1 : Int32)) := by rw [F_X9_register, if_pos c1, if_neg c2]
      rw [e9] at hV
      subst hV
      exact wrRetL C0 hK rfl hP hD hS dX9_register_36
  · refine lv_iload_n hx hb dX9_register_5 rfl (lv_at hl 1 rfl) ?_
    refine lv_bipush (v := (23 : Int32)) hx hb dX9_register_6 (by decide) ?_
    refine lv_icmp_le (x := a) (y := (23 : Int32)) (tgt := 15) hx hb dX9_register_8 (by decide) (fun c3 => ?_) (fun c3 => ?_)
    · refine lv_iconst (v := (0 : Int32)) hx hb dX9_register_15 (by decide) ?_
      refine va_put (D := (dC, dI)) (ci := 6) (v := .int (0 : Int32)) (ty := .int) (C := RX9) (T := TX9) (N := 24) hx hb hts mi_X9_register_X9 tyX9 tyX9_ok nmX9 hown hK hP hD hS 0 rfl rfl 0 (by decide) (hts (.fieldLink RX9 39 "ScoreboardCoreModel" "thrown" "I") mm_X9_register_f39) (fun _ h9 => h9) rfl (by decide +kernel) rfl rfl (Nat.le_of_ble_eq_true rfl) dX9_register_16 (fun H locs hP hD hS => ?_)
      have hP : va_P (dC, dI) vwCl [(hX, .inr (6, [.int (0 : Int32), .ref x1, .ref x2, .ref x3, .int xw, .int xp, .int xs, .long xc, .ref x4, .ref x5, .ref x6, .ref x7, .ref x8, .long xM, .long xE, .long xL, .int xo, .int xi, .int xj, .int xk, .int xn, .int xz, .int xa, .int xg])), (x1, .inl (cJ, 512, .inr (.inl xmw))), (x2, .inl (cJ, 512, .inr (.inl xmp))), (x3, .inl (cJ, 24, .inr (.inl xr))), (x4, .inl (cI, 8, .inl xd)), (x5, .inl (cJ, 5, .inr (.inl xwt))), (x6, .inl (cJ, 24, .inr (.inl xf))), (x7, .inl (cJ, 24, .inr (.inl xrd))), (x8, .inl (cJ, 6, .inr (.inl xu)))] H := hP
      have hD : va_D (va_A w0 s.heap.size) [(hX, .inr (6, [.int (0 : Int32), .ref x1, .ref x2, .ref x3, .int xw, .int xp, .int xs, .long xc, .ref x4, .ref x5, .ref x6, .ref x7, .ref x8, .long xM, .long xE, .long xL, .int xo, .int xi, .int xj, .int xk, .int xn, .int xz, .int xa, .int xg])), (x1, .inl (cJ, 512, .inr (.inl xmw))), (x2, .inl (cJ, 512, .inr (.inl xmp))), (x3, .inl (cJ, 24, .inr (.inl xr))), (x4, .inl (cI, 8, .inl xd)), (x5, .inl (cJ, 5, .inr (.inl xwt))), (x6, .inl (cJ, 24, .inr (.inl xf))), (x7, .inl (cJ, 24, .inr (.inl xrd))), (x8, .inl (cJ, 6, .inr (.inl xu)))] := hD
      refine lv_aload_n hx hb dX9_register_19 rfl (lv_at hl 0 rfl) ?_
      refine va_get (D := (dC, dI)) (ci := 6) (v := .int (0 : Int32)) (C := RX9) (T := TX9) (N := 24) hx hb hts mi_X9_register_X9 hown hK hP 0 rfl rfl 0 (by decide) (hts (.fieldLink RX9 39 "ScoreboardCoreModel" "thrown" "I") mm_X9_register_f39) (fun _ h9 => h9) rfl dX9_register_20 ?_
      refine lv_if_le (x := (0 : Int32)) (tgt := 30) hx hb dX9_register_23 (by decide) (fun c4 => ?_) (fun c4 => ?_)
      · refine lv_aload_n hx hb dX9_register_30 rfl (lv_at hl 0 rfl) ?_
        refine va_get (D := (dC, dI)) (ci := 6) (v := .ref x3) (C := RX9) (T := TX9) (N := 24) hx hb hts mi_X9_register_X9 hown hK hP 0 rfl rfl 3 (by decide) (hts (.fieldLink RX9 16 "ScoreboardCoreModel" "\x72" "[J") mm_X9_register_f16) (fun _ h9 => h9) rfl dX9_register_31 ?_
        refine lv_iload_n hx hb dX9_register_34 rfl (lv_at hl 1 rfl) ?_
        refine va_lald (D := (dC, dI)) hx hb hK hP 3 1 rfl rfl (by first | exact rngL (n := 512) rfl (by assumption) (by assumption) | exact rngL (n := 24) rfl (by assumption) (by assumption) | exact rngL (n := 8) rfl (by assumption) (by assumption) | exact rngL (n := 5) rfl (by assumption) (by assumption) | exact rngE (n := 23) rfl (by assumption) (by assumption) | exact rngE (n := 7) rfl (by assumption) (by assumption) | exact rngE (n := 4) rfl (by assumption) (by assumption) | exact absurd (by assumption : (1 : Int32) ≤ 0) (by decide) | exact absurd (by assumption : ¬ (0 : Int32) ≤ 0) (by decide) | exact absurd (by assumption : ¬ (1 : Int32) = 0) (by decide) | exact absurd (by assumption : (1 : Int32) = 0) (by decide)) dX9_register_35 ?_
        have e9 : (F_X9_register a xr ) = ((xr a.toNatClampNeg), (0 : Int32)) := by rw [F_X9_register, if_neg c1, if_pos c3, if_pos c4]
        rw [e9] at hV
        subst hV
        exact wrRetL C0 hK rfl hP hD hS dX9_register_36
      · refine lv_lconst (v := (0 : Int64)) hx hb dX9_register_26 (by decide) ?_
        refine lv_goto (tgt := 36) hx hb dX9_register_27 (by decide) ?_
        have e9 : (F_X9_register a xr ) = ((0 : Int64), (0 : Int32)) := by rw [F_X9_register, if_neg c1, if_pos c3, if_neg c4]
        rw [e9] at hV
        subst hV
        exact wrRetL C0 hK rfl hP hD hS dX9_register_36
    · refine lv_iconst (v := (1 : Int32)) hx hb dX9_register_11 (by decide) ?_
      refine lv_goto (tgt := 16) hx hb dX9_register_12 (by decide) ?_
      refine va_put (D := (dC, dI)) (ci := 6) (v := .int (1 : Int32)) (ty := .int) (C := RX9) (T := TX9) (N := 24) hx hb hts mi_X9_register_X9 tyX9 tyX9_ok nmX9 hown hK hP hD hS 0 rfl rfl 0 (by decide) (hts (.fieldLink RX9 39 "ScoreboardCoreModel" "thrown" "I") mm_X9_register_f39) (fun _ h9 => h9) rfl (by decide +kernel) rfl rfl (Nat.le_of_ble_eq_true rfl) dX9_register_16 (fun H locs hP hD hS => ?_)
      have hP : va_P (dC, dI) vwCl [(hX, .inr (6, [.int (1 : Int32), .ref x1, .ref x2, .ref x3, .int xw, .int xp, .int xs, .long xc, .ref x4, .ref x5, .ref x6, .ref x7, .ref x8, .long xM, .long xE, .long xL, .int xo, .int xi, .int xj, .int xk, .int xn, .int xz, .int xa, .int xg])), (x1, .inl (cJ, 512, .inr (.inl xmw))), (x2, .inl (cJ, 512, .inr (.inl xmp))), (x3, .inl (cJ, 24, .inr (.inl xr))), (x4, .inl (cI, 8, .inl xd)), (x5, .inl (cJ, 5, .inr (.inl xwt))), (x6, .inl (cJ, 24, .inr (.inl xf))), (x7, .inl (cJ, 24, .inr (.inl xrd))), (x8, .inl (cJ, 6, .inr (.inl xu)))] H := hP
      have hD : va_D (va_A w0 s.heap.size) [(hX, .inr (6, [.int (1 : Int32), .ref x1, .ref x2, .ref x3, .int xw, .int xp, .int xs, .long xc, .ref x4, .ref x5, .ref x6, .ref x7, .ref x8, .long xM, .long xE, .long xL, .int xo, .int xi, .int xj, .int xk, .int xn, .int xz, .int xa, .int xg])), (x1, .inl (cJ, 512, .inr (.inl xmw))), (x2, .inl (cJ, 512, .inr (.inl xmp))), (x3, .inl (cJ, 24, .inr (.inl xr))), (x4, .inl (cI, 8, .inl xd)), (x5, .inl (cJ, 5, .inr (.inl xwt))), (x6, .inl (cJ, 24, .inr (.inl xf))), (x7, .inl (cJ, 24, .inr (.inl xrd))), (x8, .inl (cJ, 6, .inr (.inl xu)))] := hD
      refine lv_aload_n hx hb dX9_register_19 rfl (lv_at hl 0 rfl) ?_
      refine va_get (D := (dC, dI)) (ci := 6) (v := .int (1 : Int32)) (C := RX9) (T := TX9) (N := 24) hx hb hts mi_X9_register_X9 hown hK hP 0 rfl rfl 0 (by decide) (hts (.fieldLink RX9 39 "ScoreboardCoreModel" "thrown" "I") mm_X9_register_f39) (fun _ h9 => h9) rfl dX9_register_20 ?_
      refine lv_if_le (x := (1 : Int32)) (tgt := 30) hx hb dX9_register_23 (by decide) (fun c5 => ?_) (fun c5 => ?_)
      · refine lv_aload_n hx hb dX9_register_30 rfl (lv_at hl 0 rfl) ?_
        refine va_get (D := (dC, dI)) (ci := 6) (v := .ref x3) (C := RX9) (T := TX9) (N := 24) hx hb hts mi_X9_register_X9 hown hK hP 0 rfl rfl 3 (by decide) (hts (.fieldLink RX9 16 "ScoreboardCoreModel" "\x72" "[J") mm_X9_register_f16) (fun _ h9 => h9) rfl dX9_register_31 ?_
        refine lv_iload_n hx hb dX9_register_34 rfl (lv_at hl 1 rfl) ?_
        refine va_lald (D := (dC, dI)) hx hb hK hP 3 1 rfl rfl (by first | exact rngL (n := 512) rfl (by assumption) (by assumption) | exact rngL (n := 24) rfl (by assumption) (by assumption) | exact rngL (n := 8) rfl (by assumption) (by assumption) | exact rngL (n := 5) rfl (by assumption) (by assumption) | exact rngE (n := 23) rfl (by assumption) (by assumption) | exact rngE (n := 7) rfl (by assumption) (by assumption) | exact rngE (n := 4) rfl (by assumption) (by assumption) | exact absurd (by assumption : (1 : Int32) ≤ 0) (by decide) | exact absurd (by assumption : ¬ (0 : Int32) ≤ 0) (by decide) | exact absurd (by assumption : ¬ (1 : Int32) = 0) (by decide) | exact absurd (by assumption : (1 : Int32) = 0) (by decide)) dX9_register_35 ?_
        have e9 : (F_X9_register a xr ) = ((xr a.toNatClampNeg), (1 : Int32)) := by rw [F_X9_register, if_neg c1, if_neg c3, if_pos c5]
        rw [e9] at hV
        subst hV
        exact wrRetL C0 hK rfl hP hD hS dX9_register_36
      · refine lv_lconst (v := (0 : Int64)) hx hb dX9_register_26 (by decide) ?_
        refine lv_goto (tgt := 36) hx hb dX9_register_27 (by decide) ?_
        have e9 : (F_X9_register a xr ) = ((0 : Int64), (1 : Int32)) := by rw [F_X9_register, if_neg c1, if_neg c3, if_neg c5]
        rw [e9] at hV
        subst hV
        exact wrRetL C0 hK rfl hP hD hS dX9_register_36
theorem c_X9_register (l : Launch) (dC : Nat → ClassId) (dI : Nat → Nat → Nat) (cI cJ : ClassId) (hX x1 x2 x3 x4 x5 x6 x7 x8 : Nat) (a : Int32) (xt : Int32) (xw : Int32) (xp : Int32) (xs : Int32) (xc : Int64) (xM : Int64) (xE : Int64) (xL : Int64) (xo : Int32) (xi : Int32) (xj : Int32) (xk : Int32) (xn : Int32) (xz : Int32) (xa : Int32) (xg : Int32) (xmw : Nat → Int64) (xmp : Nat → Int64) (xr : Nat → Int64) (xd : Nat → Int32) (xwt : Nat → Int64) (xf : Nat → Int64) (xrd : Nat → Int64) (xu : Nat → Int64) : WrL false l yX9_register wsX9_register rm_X9_register (dC, dI) [(cI, .int), (cJ, .long)] [(hX, .inr (6, [.int xt, .ref x1, .ref x2, .ref x3, .int xw, .int xp, .int xs, .long xc, .ref x4, .ref x5, .ref x6, .ref x7, .ref x8, .long xM, .long xE, .long xL, .int xo, .int xi, .int xj, .int xk, .int xn, .int xz, .int xa, .int xg])), (x1, .inl (cJ, 512, .inr (.inl xmw))), (x2, .inl (cJ, 512, .inr (.inl xmp))), (x3, .inl (cJ, 24, .inr (.inl xr))), (x4, .inl (cI, 8, .inl xd)), (x5, .inl (cJ, 5, .inr (.inl xwt))), (x6, .inl (cJ, 24, .inr (.inl xf))), (x7, .inl (cJ, 24, .inr (.inl xrd))), (x8, .inl (cJ, 6, .inr (.inl xu)))] [(hX, .inr (6, [.int ((F_X9_register a xr ).2), .ref x1, .ref x2, .ref x3, .int xw, .int xp, .int xs, .long xc, .ref x4, .ref x5, .ref x6, .ref x7, .ref x8, .long xM, .long xE, .long xL, .int xo, .int xi, .int xj, .int xk, .int xn, .int xz, .int xa, .int xg])), (x1, .inl (cJ, 512, .inr (.inl xmw))), (x2, .inl (cJ, 512, .inr (.inl xmp))), (x3, .inl (cJ, 24, .inr (.inl xr))), (x4, .inl (cI, 8, .inl xd)), (x5, .inl (cJ, 5, .inr (.inl xwt))), (x6, .inl (cJ, 24, .inr (.inl xf))), (x7, .inl (cJ, 24, .inr (.inl xrd))), (x8, .inl (cJ, 6, .inr (.inl xu)))] [.ref hX, .int a] ((F_X9_register a xr ).1) := by
  refine WrL.mk (cc := cX9_register) (nL := 2) (ret := (some .long)) [(0, .ref hX), (1, .int a)] (by decide) rfl (Nat.le_of_ble_eq_true rfl) rfl ?_
  intro p e s m below meth c C0 hP hK hD hS hZ ls hl
  exact w_X9_register dC dI cI cJ hX x1 x2 x3 x4 x5 x6 x7 x8 a xt xw xp xs xc xM xE xL xo xi xj xk xn xz xa xg xmw xmp xr xd xwt xf xrd xu C0 hK hZ rfl ls hl hP hD hS

-- X9_set
def F_X9_set (n : Int32) (v : Int64) (xr : Nat → Int64) : (Nat → Int64) :=
  (if n = (16 : Int32) then xr else (if (8 : Int32) ≤ n then (vp_updL xr n.toNatClampNeg (v &&& (262143 : Int64))) else (vp_updL xr n.toNatClampNeg (v &&& (1152921504606846975 : Int64)))))
abbrev rm_X9_set : Room := { frames := 0, cells := 0, slots := 0, locals := 0 }
set_option maxRecDepth 20000 in
theorem mi_X9_set_X9 : ∀ w ∈ wsX90, w ∈ wsX9_set := by decide +kernel
set_option maxRecDepth 20000 in
theorem mm_X9_set_f16 : Cond.fieldLink RX9 16 "ScoreboardCoreModel" "\x72" "[J" ∈ wsX9_set := by decide +kernel
set_option maxRecDepth 20000 in
theorem mm_X9_set_k42 : Cond.constantLong RX9 42 (1152921504606846975) ∈ wsX9_set := by decide +kernel
set_option maxRecDepth 20000 in
theorem mm_X9_set_k44 : Cond.constantLong RX9 44 (262143) ∈ wsX9_set := by decide +kernel
set_option maxHeartbeats 4000000 in
set_option maxRecDepth 100000 in
theorem w_X9_set {p : Program} {l : Launch} {e : Env} {s : State} {m : MethodId} {below : List Frame} {meth : Method} {c : Code} {args : Array Value} (dC : Nat → ClassId) (dI : Nat → Nat → Nat) (cI cJ : ClassId) (hX x1 x2 x3 x4 x5 x6 x7 x8 : Nat) (n : Int32) (v : Int64) (xt : Int32) (xw : Int32) (xp : Int32) (xs : Int32) (xc : Int64) (xM : Int64) (xE : Int64) (xL : Int64) (xo : Int32) (xi : Int32) (xj : Int32) (xk : Int32) (xn : Int32) (xz : Int32) (xa : Int32) (xg : Int32) (xmw : Nat → Int64) (xmp : Nat → Int64) (xr : Nat → Int64) (xd : Nat → Int32) (xwt : Nat → Int64) (xf : Nat → Int64) (xrd : Nat → Int64) (xu : Nat → Int64) {w0 : va_W} (C0 : Cx p s m meth c cX9_set 4 none wsX9_set RX9 args) (hK : va_K (dC, dI) vwCl [(cI, .int), (cJ, .long)] s) (hZ : Zs false (va_A w0 s.heap.size) s s.heap) (hn : vp_in n 24) {V : (Nat → Int64)} (hV : (F_X9_set n v xr ) = V) (ls : Array Slot) (hl : lv_has ls 4 [(0, .ref hX), (1, .int n), (2, .long v)]) {H : Heap} {locs : List Loc} (hP : va_P (dC, dI) vwCl [(hX, .inr (6, [.int xt, .ref x1, .ref x2, .ref x3, .int xw, .int xp, .int xs, .long xc, .ref x4, .ref x5, .ref x6, .ref x7, .ref x8, .long xM, .long xE, .long xL, .int xo, .int xi, .int xj, .int xk, .int xn, .int xz, .int xa, .int xg])), (x1, .inl (cJ, 512, .inr (.inl xmw))), (x2, .inl (cJ, 512, .inr (.inl xmp))), (x3, .inl (cJ, 24, .inr (.inl xr))), (x4, .inl (cI, 8, .inl xd)), (x5, .inl (cJ, 5, .inr (.inl xwt))), (x6, .inl (cJ, 24, .inr (.inl xf))), (x7, .inl (cJ, 24, .inr (.inl xrd))), (x8, .inl (cJ, 6, .inr (.inl xu)))] H) (hD : va_D (va_A w0 s.heap.size) [(hX, .inr (6, [.int xt, .ref x1, .ref x2, .ref x3, .int xw, .int xp, .int xs, .long xc, .ref x4, .ref x5, .ref x6, .ref x7, .ref x8, .long xM, .long xE, .long xL, .int xo, .int xi, .int xj, .int xk, .int xn, .int xz, .int xa, .int xg])), (x1, .inl (cJ, 512, .inr (.inl xmw))), (x2, .inl (cJ, 512, .inr (.inl xmp))), (x3, .inl (cJ, 24, .inr (.inl xr))), (x4, .inl (cI, 8, .inl xd)), (x5, .inl (cJ, 5, .inr (.inl xwt))), (x6, .inl (cJ, 24, .inr (.inl xf))), (x7, .inl (cJ, 24, .inr (.inl xrd))), (x8, .inl (cJ, 6, .inr (.inl xu)))]) (hS : va_S (va_A w0 s.heap.size) s.heap H locs) : W p l e rm_X9_set s m args below meth c H locs 0 0 (MQ below (QV (dC, dI) [(cI, .int), (cJ, .long)] w0 [(hX, .inr (6, [.int xt, .ref x1, .ref x2, .ref x3, .int xw, .int xp, .int xs, .long xc, .ref x4, .ref x5, .ref x6, .ref x7, .ref x8, .long xM, .long xE, .long xL, .int xo, .int xi, .int xj, .int xk, .int xn, .int xz, .int xa, .int xg])), (x1, .inl (cJ, 512, .inr (.inl xmw))), (x2, .inl (cJ, 512, .inr (.inl xmp))), (x3, .inl (cJ, 24, .inr (.inl V))), (x4, .inl (cI, 8, .inl xd)), (x5, .inl (cJ, 5, .inr (.inl xwt))), (x6, .inl (cJ, 24, .inr (.inl xf))), (x7, .inl (cJ, 24, .inr (.inl xrd))), (x8, .inl (cJ, 6, .inr (.inl xu)))] s.heap.size) args s 0 0 (va_A w0 s.heap.size)) (F0 m 0 ls []) := by
  obtain ⟨hx, hb, hr, hlk, hml, hown, hts⟩ := id C0
  have hA : ∀ q : Nat, s.heap.size ≤ q → va_A w0 s.heap.size q := fun q h => Or.inr h
  refine lv_iload_n hx hb dX9_set_0 rfl (lv_at hl 1 rfl) ?_
  refine lv_bipush (v := (16 : Int32)) hx hb dX9_set_1 (by decide) ?_
  refine lv_icmp_eq (x := n) (y := (16 : Int32)) (tgt := 31) hx hb dX9_set_3 (by decide) (fun c1 => ?_) (fun c1 => ?_)
  · have e9 : (F_X9_set n v xr ) = xr := by rw [F_X9_set, if_pos c1]
    rw [e9] at hV
    subst hV
    exact wrRetV C0 hK hP hD hS dX9_set_31
  · refine lv_aload_n hx hb dX9_set_6 rfl (lv_at hl 0 rfl) ?_
    refine va_get (D := (dC, dI)) (ci := 6) (v := .ref x3) (C := RX9) (T := TX9) (N := 24) hx hb hts mi_X9_set_X9 hown hK hP 0 rfl rfl 3 (by decide) (hts (.fieldLink RX9 16 "ScoreboardCoreModel" "\x72" "[J") mm_X9_set_f16) (fun _ h9 => h9) rfl dX9_set_7 ?_
    refine lv_iload_n hx hb dX9_set_10 rfl (lv_at hl 1 rfl) ?_
    refine lv_iload_n hx hb dX9_set_11 rfl (lv_at hl 1 rfl) ?_
    refine lv_bipush (v := (8 : Int32)) hx hb dX9_set_12 (by decide) ?_
    refine lv_icmp_ge (x := n) (y := (8 : Int32)) (tgt := 25) hx hb dX9_set_14 (by decide) (fun c2 => ?_) (fun c2 => ?_)
    · refine lv_lload_n hx hb dX9_set_25 rfl (lv_at hl 2 rfl) ?_
      refine lv_ldc2 (v := (262143 : Int64)) hx hb hown (hts _ mm_X9_set_k44) dX9_set_26 ?_
      refine lv_land hx hb dX9_set_29 ?_
      refine va_last (D := (dC, dI)) hx hb hK hP hD hS 3 1 rfl rfl hn dX9_set_30 (fun H locs hP hD hS => ?_)
      have hP : va_P (dC, dI) vwCl [(hX, .inr (6, [.int xt, .ref x1, .ref x2, .ref x3, .int xw, .int xp, .int xs, .long xc, .ref x4, .ref x5, .ref x6, .ref x7, .ref x8, .long xM, .long xE, .long xL, .int xo, .int xi, .int xj, .int xk, .int xn, .int xz, .int xa, .int xg])), (x1, .inl (cJ, 512, .inr (.inl xmw))), (x2, .inl (cJ, 512, .inr (.inl xmp))), (x3, .inl (cJ, 24, .inr (.inl (vp_updL xr n.toNatClampNeg (v &&& (262143 : Int64)))))), (x4, .inl (cI, 8, .inl xd)), (x5, .inl (cJ, 5, .inr (.inl xwt))), (x6, .inl (cJ, 24, .inr (.inl xf))), (x7, .inl (cJ, 24, .inr (.inl xrd))), (x8, .inl (cJ, 6, .inr (.inl xu)))] H := hP
      have hD : va_D (va_A w0 s.heap.size) [(hX, .inr (6, [.int xt, .ref x1, .ref x2, .ref x3, .int xw, .int xp, .int xs, .long xc, .ref x4, .ref x5, .ref x6, .ref x7, .ref x8, .long xM, .long xE, .long xL, .int xo, .int xi, .int xj, .int xk, .int xn, .int xz, .int xa, .int xg])), (x1, .inl (cJ, 512, .inr (.inl xmw))), (x2, .inl (cJ, 512, .inr (.inl xmp))), (x3, .inl (cJ, 24, .inr (.inl (vp_updL xr n.toNatClampNeg (v &&& (262143 : Int64)))))), (x4, .inl (cI, 8, .inl xd)), (x5, .inl (cJ, 5, .inr (.inl xwt))), (x6, .inl (cJ, 24, .inr (.inl xf))), (x7, .inl (cJ, 24, .inr (.inl xrd))), (x8, .inl (cJ, 6, .inr (.inl xu)))] := hD
      have e9 : (F_X9_set n v xr ) = (vp_updL xr n.toNatClampNeg (v &&& (262143 : Int64))) := by rw [F_X9_set, if_neg c1, if_pos c2]
      rw [e9] at hV
      subst hV
      exact wrRetV C0 hK hP hD hS dX9_set_31
    · refine lv_lload_n hx hb dX9_set_17 rfl (lv_at hl 2 rfl) ?_
      refine lv_ldc2 (v := (1152921504606846975 : Int64)) hx hb hown (hts _ mm_X9_set_k42) dX9_set_18 ?_
      refine lv_land hx hb dX9_set_21 ?_
      refine lv_goto (tgt := 30) hx hb dX9_set_22 (by decide) ?_
      refine va_last (D := (dC, dI)) hx hb hK hP hD hS 3 1 rfl rfl hn dX9_set_30 (fun H locs hP hD hS => ?_)
      have hP : va_P (dC, dI) vwCl [(hX, .inr (6, [.int xt, .ref x1, .ref x2, .ref x3, .int xw, .int xp, .int xs, .long xc, .ref x4, .ref x5, .ref x6, .ref x7, .ref x8, .long xM, .long xE, .long xL, .int xo, .int xi, .int xj, .int xk, .int xn, .int xz, .int xa, .int xg])), (x1, .inl (cJ, 512, .inr (.inl xmw))), (x2, .inl (cJ, 512, .inr (.inl xmp))), (x3, .inl (cJ, 24, .inr (.inl (vp_updL xr n.toNatClampNeg (v &&& (1152921504606846975 : Int64)))))), (x4, .inl (cI, 8, .inl xd)), (x5, .inl (cJ, 5, .inr (.inl xwt))), (x6, .inl (cJ, 24, .inr (.inl xf))), (x7, .inl (cJ, 24, .inr (.inl xrd))), (x8, .inl (cJ, 6, .inr (.inl xu)))] H := hP
      have hD : va_D (va_A w0 s.heap.size) [(hX, .inr (6, [.int xt, .ref x1, .ref x2, .ref x3, .int xw, .int xp, .int xs, .long xc, .ref x4, .ref x5, .ref x6, .ref x7, .ref x8, .long xM, .long xE, .long xL, .int xo, .int xi, .int xj, .int xk, .int xn, .int xz, .int xa, .int xg])), (x1, .inl (cJ, 512, .inr (.inl xmw))), (x2, .inl (cJ, 512, .inr (.inl xmp))), (x3, .inl (cJ, 24, .inr (.inl (vp_updL xr n.toNatClampNeg (v &&& (1152921504606846975 : Int64)))))), (x4, .inl (cI, 8, .inl xd)), (x5, .inl (cJ, 5, .inr (.inl xwt))), (x6, .inl (cJ, 24, .inr (.inl xf))), (x7, .inl (cJ, 24, .inr (.inl xrd))), (x8, .inl (cJ, 6, .inr (.inl xu)))] := hD
      have e9 : (F_X9_set n v xr ) = (vp_updL xr n.toNatClampNeg (v &&& (1152921504606846975 : Int64))) := by rw [F_X9_set, if_neg c1, if_neg c2]
      rw [e9] at hV
      subst hV
      exact wrRetV C0 hK hP hD hS dX9_set_31
theorem c_X9_set (l : Launch) (dC : Nat → ClassId) (dI : Nat → Nat → Nat) (cI cJ : ClassId) (hX x1 x2 x3 x4 x5 x6 x7 x8 : Nat) (n : Int32) (v : Int64) (xt : Int32) (xw : Int32) (xp : Int32) (xs : Int32) (xc : Int64) (xM : Int64) (xE : Int64) (xL : Int64) (xo : Int32) (xi : Int32) (xj : Int32) (xk : Int32) (xn : Int32) (xz : Int32) (xa : Int32) (xg : Int32) (xmw : Nat → Int64) (xmp : Nat → Int64) (xr : Nat → Int64) (xd : Nat → Int32) (xwt : Nat → Int64) (xf : Nat → Int64) (xrd : Nat → Int64) (xu : Nat → Int64) (hn : vp_in n 24) : WrV false l yX9_set wsX9_set rm_X9_set (dC, dI) [(cI, .int), (cJ, .long)] [(hX, .inr (6, [.int xt, .ref x1, .ref x2, .ref x3, .int xw, .int xp, .int xs, .long xc, .ref x4, .ref x5, .ref x6, .ref x7, .ref x8, .long xM, .long xE, .long xL, .int xo, .int xi, .int xj, .int xk, .int xn, .int xz, .int xa, .int xg])), (x1, .inl (cJ, 512, .inr (.inl xmw))), (x2, .inl (cJ, 512, .inr (.inl xmp))), (x3, .inl (cJ, 24, .inr (.inl xr))), (x4, .inl (cI, 8, .inl xd)), (x5, .inl (cJ, 5, .inr (.inl xwt))), (x6, .inl (cJ, 24, .inr (.inl xf))), (x7, .inl (cJ, 24, .inr (.inl xrd))), (x8, .inl (cJ, 6, .inr (.inl xu)))] [(hX, .inr (6, [.int xt, .ref x1, .ref x2, .ref x3, .int xw, .int xp, .int xs, .long xc, .ref x4, .ref x5, .ref x6, .ref x7, .ref x8, .long xM, .long xE, .long xL, .int xo, .int xi, .int xj, .int xk, .int xn, .int xz, .int xa, .int xg])), (x1, .inl (cJ, 512, .inr (.inl xmw))), (x2, .inl (cJ, 512, .inr (.inl xmp))), (x3, .inl (cJ, 24, .inr (.inl (F_X9_set n v xr )))), (x4, .inl (cI, 8, .inl xd)), (x5, .inl (cJ, 5, .inr (.inl xwt))), (x6, .inl (cJ, 24, .inr (.inl xf))), (x7, .inl (cJ, 24, .inr (.inl xrd))), (x8, .inl (cJ, 6, .inr (.inl xu)))] [.ref hX, .int n, .long v] := by
  refine WrV.mk (cc := cX9_set) (nL := 4) (ret := none) [(0, .ref hX), (1, .int n), (2, .long v)] (by decide) rfl (Nat.le_of_ble_eq_true rfl) rfl ?_
  intro p e s m below meth c C0 hP hK hD hS hZ ls hl
  exact w_X9_set dC dI cI cJ hX x1 x2 x3 x4 x5 x6 x7 x8 n v xt xw xp xs xc xM xE xL xo xi xj xk xn xz xa xg xmw xmp xr xd xwt xf xrd xu C0 hK hZ hn rfl ls hl hP hD hS

-- X9_put
def F_X9_put (a : Int32) (v : Int64) (xr : Nat → Int64) : Int32 × (Nat → Int64) :=
  (if a < 0 then (if (1 : Int32) = 0 then ((1 : Int32), (F_X9_set a v xr)) else ((1 : Int32), xr)) else (if a ≤ (23 : Int32) then (if (0 : Int32) = 0 then ((0 : Int32), (F_X9_set a v xr)) else ((0 : Int32), xr)) else (if (1 : Int32) = 0 then ((1 : Int32), (F_X9_set a v xr)) else ((1 : Int32), xr))))
abbrev rm_X9_put : Room := { frames := 1, cells := 0, slots := 0, locals := 23 }
set_option maxRecDepth 20000 in
theorem mi_X9_put_X9 : ∀ w ∈ wsX90, w ∈ wsX9_put := by decide +kernel
set_option maxRecDepth 20000 in
theorem mm_X9_put_f39 : Cond.fieldLink RX9 39 "ScoreboardCoreModel" "thrown" "I" ∈ wsX9_put := by decide +kernel
set_option maxRecDepth 20000 in
theorem mm_X9_put_iX9 : Cond.initialized RX9 ∈ wsX9_put := by decide +kernel
set_option maxRecDepth 20000 in
theorem mm_X9_put_l46 : Cond.methodLink RX9 46 yX9_set ∈ wsX9_put := by decide +kernel
set_option maxRecDepth 20000 in
theorem mm_X9_put_nX9_set : Cond.instanceMethod yX9_set ∈ wsX9_put := by decide +kernel
set_option maxRecDepth 20000 in
theorem mm_X9_put_sX9_set : Cond.selects RX9 yX9_set yX9_set ∈ wsX9_put := by decide +kernel
set_option maxHeartbeats 4000000 in
set_option maxRecDepth 100000 in
theorem w_X9_put {p : Program} {l : Launch} {e : Env} {s : State} {m : MethodId} {below : List Frame} {meth : Method} {c : Code} {args : Array Value} (dC : Nat → ClassId) (dI : Nat → Nat → Nat) (cI cJ : ClassId) (hX x1 x2 x3 x4 x5 x6 x7 x8 : Nat) (a : Int32) (v : Int64) (xt : Int32) (xw : Int32) (xp : Int32) (xs : Int32) (xc : Int64) (xM : Int64) (xE : Int64) (xL : Int64) (xo : Int32) (xi : Int32) (xj : Int32) (xk : Int32) (xn : Int32) (xz : Int32) (xa : Int32) (xg : Int32) (xmw : Nat → Int64) (xmp : Nat → Int64) (xr : Nat → Int64) (xd : Nat → Int32) (xwt : Nat → Int64) (xf : Nat → Int64) (xrd : Nat → Int64) (xu : Nat → Int64) {w0 : va_W} (C0 : Cx p s m meth c cX9_put 4 none wsX9_put RX9 args) (hK : va_K (dC, dI) vwCl [(cI, .int), (cJ, .long)] s) (hZ : Zs false (va_A w0 s.heap.size) s s.heap) {V : Int32 × (Nat → Int64)} (hV : (F_X9_put a v xr ) = V) (ls : Array Slot) (hl : lv_has ls 4 [(0, .ref hX), (1, .int a), (2, .long v)]) {H : Heap} {locs : List Loc} (hP : va_P (dC, dI) vwCl [(hX, .inr (6, [.int xt, .ref x1, .ref x2, .ref x3, .int xw, .int xp, .int xs, .long xc, .ref x4, .ref x5, .ref x6, .ref x7, .ref x8, .long xM, .long xE, .long xL, .int xo, .int xi, .int xj, .int xk, .int xn, .int xz, .int xa, .int xg])), (x1, .inl (cJ, 512, .inr (.inl xmw))), (x2, .inl (cJ, 512, .inr (.inl xmp))), (x3, .inl (cJ, 24, .inr (.inl xr))), (x4, .inl (cI, 8, .inl xd)), (x5, .inl (cJ, 5, .inr (.inl xwt))), (x6, .inl (cJ, 24, .inr (.inl xf))), (x7, .inl (cJ, 24, .inr (.inl xrd))), (x8, .inl (cJ, 6, .inr (.inl xu)))] H) (hD : va_D (va_A w0 s.heap.size) [(hX, .inr (6, [.int xt, .ref x1, .ref x2, .ref x3, .int xw, .int xp, .int xs, .long xc, .ref x4, .ref x5, .ref x6, .ref x7, .ref x8, .long xM, .long xE, .long xL, .int xo, .int xi, .int xj, .int xk, .int xn, .int xz, .int xa, .int xg])), (x1, .inl (cJ, 512, .inr (.inl xmw))), (x2, .inl (cJ, 512, .inr (.inl xmp))), (x3, .inl (cJ, 24, .inr (.inl xr))), (x4, .inl (cI, 8, .inl xd)), (x5, .inl (cJ, 5, .inr (.inl xwt))), (x6, .inl (cJ, 24, .inr (.inl xf))), (x7, .inl (cJ, 24, .inr (.inl xrd))), (x8, .inl (cJ, 6, .inr (.inl xu)))]) (hS : va_S (va_A w0 s.heap.size) s.heap H locs) : W p l e rm_X9_put s m args below meth c H locs 0 0 (MQ below (QV (dC, dI) [(cI, .int), (cJ, .long)] w0 [(hX, .inr (6, [.int V.1, .ref x1, .ref x2, .ref x3, .int xw, .int xp, .int xs, .long xc, .ref x4, .ref x5, .ref x6, .ref x7, .ref x8, .long xM, .long xE, .long xL, .int xo, .int xi, .int xj, .int xk, .int xn, .int xz, .int xa, .int xg])), (x1, .inl (cJ, 512, .inr (.inl xmw))), (x2, .inl (cJ, 512, .inr (.inl xmp))), (x3, .inl (cJ, 24, .inr (.inl V.2))), (x4, .inl (cI, 8, .inl xd)), (x5, .inl (cJ, 5, .inr (.inl xwt))), (x6, .inl (cJ, 24, .inr (.inl xf))), (x7, .inl (cJ, 24, .inr (.inl xrd))), (x8, .inl (cJ, 6, .inr (.inl xu)))] s.heap.size) args s 0 0 (va_A w0 s.heap.size)) (F0 m 0 ls []) := by
  obtain ⟨hx, hb, hr, hlk, hml, hown, hts⟩ := id C0
  have hA : ∀ q : Nat, s.heap.size ≤ q → va_A w0 s.heap.size q := fun q h => Or.inr h
  refine lv_aload_n hx hb dX9_put_0 rfl (lv_at hl 0 rfl) ?_
  refine lv_iload_n hx hb dX9_put_1 rfl (lv_at hl 1 rfl) ?_
  refine lv_if_lt (x := a) (tgt := 11) hx hb dX9_put_2 (by decide) (fun c1 => ?_) (fun c1 => ?_)
  · refine lv_iconst (v := (1 : Int32)) hx hb dX9_put_11 (by decide) ?_
    refine lv_goto (tgt := 16) hx hb dX9_put_12 (by decide) ?_
    refine va_put (D := (dC, dI)) (ci := 6) (v := .int (1 : Int32)) (ty := .int) (C := RX9) (T := TX9) (N := 24) hx hb hts mi_X9_put_X9 tyX9 tyX9_ok nmX9 hown hK hP hD hS 0 rfl rfl 0 (by decide) (hts (.fieldLink RX9 39 "ScoreboardCoreModel" "thrown" "I") mm_X9_put_f39) (fun _ h9 => h9) rfl (by decide +kernel) rfl rfl (Nat.le_of_ble_eq_true rfl) dX9_put_16 (fun H locs hP hD hS => ?_)
    have hP : va_P (dC, dI) vwCl [(hX, .inr (6, [.int (1 : Int32), .ref x1, .ref x2, .ref x3, .int xw, .int xp, .int xs, .long xc, .ref x4, .ref x5, .ref x6, .ref x7, .ref x8, .long xM, .long xE, .long xL, .int xo, .int xi, .int xj, .int xk, .int xn, .int xz, .int xa, .int xg])), (x1, .inl (cJ, 512, .inr (.inl xmw))), (x2, .inl (cJ, 512, .inr (.inl xmp))), (x3, .inl (cJ, 24, .inr (.inl xr))), (x4, .inl (cI, 8, .inl xd)), (x5, .inl (cJ, 5, .inr (.inl xwt))), (x6, .inl (cJ, 24, .inr (.inl xf))), (x7, .inl (cJ, 24, .inr (.inl xrd))), (x8, .inl (cJ, 6, .inr (.inl xu)))] H := hP
    have hD : va_D (va_A w0 s.heap.size) [(hX, .inr (6, [.int (1 : Int32), .ref x1, .ref x2, .ref x3, .int xw, .int xp, .int xs, .long xc, .ref x4, .ref x5, .ref x6, .ref x7, .ref x8, .long xM, .long xE, .long xL, .int xo, .int xi, .int xj, .int xk, .int xn, .int xz, .int xa, .int xg])), (x1, .inl (cJ, 512, .inr (.inl xmw))), (x2, .inl (cJ, 512, .inr (.inl xmp))), (x3, .inl (cJ, 24, .inr (.inl xr))), (x4, .inl (cI, 8, .inl xd)), (x5, .inl (cJ, 5, .inr (.inl xwt))), (x6, .inl (cJ, 24, .inr (.inl xf))), (x7, .inl (cJ, 24, .inr (.inl xrd))), (x8, .inl (cJ, 6, .inr (.inl xu)))] := hD
    refine lv_aload_n hx hb dX9_put_19 rfl (lv_at hl 0 rfl) ?_
    refine va_get (D := (dC, dI)) (ci := 6) (v := .int (1 : Int32)) (C := RX9) (T := TX9) (N := 24) hx hb hts mi_X9_put_X9 hown hK hP 0 rfl rfl 0 (by decide) (hts (.fieldLink RX9 39 "ScoreboardCoreModel" "thrown" "I") mm_X9_put_f39) (fun _ h9 => h9) rfl dX9_put_20 ?_
    refine lv_if_ne (x := (1 : Int32)) (tgt := 32) hx hb dX9_put_23 (by decide) (fun c2 => ?_) (fun c2 => ?_)
    · have e9 : (F_X9_put a v xr ) = ((1 : Int32), xr) := by rw [F_X9_put, if_pos c1, if_neg c2]
      rw [e9] at hV
      subst hV
      exact wrRetV C0 hK hP hD hS dX9_put_32
    · refine lv_aload_n hx hb dX9_put_26 rfl (lv_at hl 0 rfl) ?_
      refine lv_iload_n hx hb dX9_put_27 rfl (lv_at hl 1 rfl) ?_
      refine lv_lload_n hx hb dX9_put_28 rfl (lv_at hl 2 rfl) ?_
      refine wrVv (As := [.int a, .long v]) (rest := []) (bytes := cX9_set) (maxL := 4) (rty := none) (n := 2) (ci := 6) C0 (c_X9_set l dC dI cI cJ hX x1 x2 x3 x4 x5 x6 x7 x8 a v (1 : Int32) xw xp xs xc xM xE xL xo xi xj xk xn xz xa xg xmw xmp xr xd xwt xf xrd xu (by first | exact rngL (n := 512) rfl (by assumption) (by assumption) | exact rngL (n := 24) rfl (by assumption) (by assumption) | exact rngL (n := 8) rfl (by assumption) (by assumption) | exact rngL (n := 5) rfl (by assumption) (by assumption) | exact rngE (n := 23) rfl (by assumption) (by assumption) | exact rngE (n := 7) rfl (by assumption) (by assumption) | exact rngE (n := 4) rfl (by assumption) (by assumption) | exact absurd (by assumption : (1 : Int32) ≤ 0) (by decide) | exact absurd (by assumption : ¬ (0 : Int32) ≤ 0) (by decide) | exact absurd (by assumption : ¬ (1 : Int32) = 0) (by decide) | exact absurd (by assumption : (1 : Int32) = 0) (by decide))) ⟨rfl, rfl, rfl, by decide +kernel, by decide, by decide⟩ ggX9_put_X9_set mm_X9_put_iX9 mm_X9_put_l46 mm_X9_put_nX9_set mm_X9_put_sX9_set rfl rfl hP hD hK hS hA (Zs.no _ _ _) [0, 1, 2, 3, 4, 5, 6, 7, 8] [] [0, 1, 2, 3, 4, 5, 6, 7, 8] [] [(hX, .inr (6, [.int (1 : Int32), .ref x1, .ref x2, .ref x3, .int xw, .int xp, .int xs, .long xc, .ref x4, .ref x5, .ref x6, .ref x7, .ref x8, .long xM, .long xE, .long xL, .int xo, .int xi, .int xj, .int xk, .int xn, .int xz, .int xa, .int xg])), (x1, .inl (cJ, 512, .inr (.inl xmw))), (x2, .inl (cJ, 512, .inr (.inl xmp))), (x3, .inl (cJ, 24, .inr (.inl (F_X9_set a v xr)))), (x4, .inl (cI, 8, .inl xd)), (x5, .inl (cJ, 5, .inr (.inl xwt))), (x6, .inl (cJ, 24, .inr (.inl xf))), (x7, .inl (cJ, 24, .inr (.inl xrd))), (x8, .inl (cJ, 6, .inr (.inl xu)))] rfl (by decide) (hP.sub (ws' := [(hX, .inr (6, [.int (1 : Int32), .ref x1, .ref x2, .ref x3, .int xw, .int xp, .int xs, .long xc, .ref x4, .ref x5, .ref x6, .ref x7, .ref x8, .long xM, .long xE, .long xL, .int xo, .int xi, .int xj, .int xk, .int xn, .int xz, .int xa, .int xg])), (x1, .inl (cJ, 512, .inr (.inl xmw))), (x2, .inl (cJ, 512, .inr (.inl xmp))), (x3, .inl (cJ, 24, .inr (.inl xr))), (x4, .inl (cI, 8, .inl xd)), (x5, .inl (cJ, 5, .inr (.inl xwt))), (x6, .inl (cJ, 24, .inr (.inl xf))), (x7, .inl (cJ, 24, .inr (.inl xrd))), (x8, .inl (cJ, 6, .inr (.inl xu)))]) [0, 1, 2, 3, 4, 5, 6, 7, 8] rfl) rfl (by decide) (by decide) (by decide) rfl hl.1 rfl rfl (Nat.le_of_ble_eq_true rfl) dX9_put_29 ⟨Nat.zero_le _, Nat.zero_le _⟩ (fun H locs hP hD hS => ?_)
      have e9 : (F_X9_put a v xr ) = ((1 : Int32), (F_X9_set a v xr)) := by rw [F_X9_put, if_pos c1, if_pos c2]
      rw [e9] at hV
      subst hV
      exact wrRetV C0 hK hP hD hS dX9_put_32
  · refine lv_iload_n hx hb dX9_put_5 rfl (lv_at hl 1 rfl) ?_
    refine lv_bipush (v := (23 : Int32)) hx hb dX9_put_6 (by decide) ?_
    refine lv_icmp_le (x := a) (y := (23 : Int32)) (tgt := 15) hx hb dX9_put_8 (by decide) (fun c3 => ?_) (fun c3 => ?_)
    · refine lv_iconst (v := (0 : Int32)) hx hb dX9_put_15 (by decide) ?_
      refine va_put (D := (dC, dI)) (ci := 6) (v := .int (0 : Int32)) (ty := .int) (C := RX9) (T := TX9) (N := 24) hx hb hts mi_X9_put_X9 tyX9 tyX9_ok nmX9 hown hK hP hD hS 0 rfl rfl 0 (by decide) (hts (.fieldLink RX9 39 "ScoreboardCoreModel" "thrown" "I") mm_X9_put_f39) (fun _ h9 => h9) rfl (by decide +kernel) rfl rfl (Nat.le_of_ble_eq_true rfl) dX9_put_16 (fun H locs hP hD hS => ?_)
      have hP : va_P (dC, dI) vwCl [(hX, .inr (6, [.int (0 : Int32), .ref x1, .ref x2, .ref x3, .int xw, .int xp, .int xs, .long xc, .ref x4, .ref x5, .ref x6, .ref x7, .ref x8, .long xM, .long xE, .long xL, .int xo, .int xi, .int xj, .int xk, .int xn, .int xz, .int xa, .int xg])), (x1, .inl (cJ, 512, .inr (.inl xmw))), (x2, .inl (cJ, 512, .inr (.inl xmp))), (x3, .inl (cJ, 24, .inr (.inl xr))), (x4, .inl (cI, 8, .inl xd)), (x5, .inl (cJ, 5, .inr (.inl xwt))), (x6, .inl (cJ, 24, .inr (.inl xf))), (x7, .inl (cJ, 24, .inr (.inl xrd))), (x8, .inl (cJ, 6, .inr (.inl xu)))] H := hP
      have hD : va_D (va_A w0 s.heap.size) [(hX, .inr (6, [.int (0 : Int32), .ref x1, .ref x2, .ref x3, .int xw, .int xp, .int xs, .long xc, .ref x4, .ref x5, .ref x6, .ref x7, .ref x8, .long xM, .long xE, .long xL, .int xo, .int xi, .int xj, .int xk, .int xn, .int xz, .int xa, .int xg])), (x1, .inl (cJ, 512, .inr (.inl xmw))), (x2, .inl (cJ, 512, .inr (.inl xmp))), (x3, .inl (cJ, 24, .inr (.inl xr))), (x4, .inl (cI, 8, .inl xd)), (x5, .inl (cJ, 5, .inr (.inl xwt))), (x6, .inl (cJ, 24, .inr (.inl xf))), (x7, .inl (cJ, 24, .inr (.inl xrd))), (x8, .inl (cJ, 6, .inr (.inl xu)))] := hD
      refine lv_aload_n hx hb dX9_put_19 rfl (lv_at hl 0 rfl) ?_
      refine va_get (D := (dC, dI)) (ci := 6) (v := .int (0 : Int32)) (C := RX9) (T := TX9) (N := 24) hx hb hts mi_X9_put_X9 hown hK hP 0 rfl rfl 0 (by decide) (hts (.fieldLink RX9 39 "ScoreboardCoreModel" "thrown" "I") mm_X9_put_f39) (fun _ h9 => h9) rfl dX9_put_20 ?_
      refine lv_if_ne (x := (0 : Int32)) (tgt := 32) hx hb dX9_put_23 (by decide) (fun c4 => ?_) (fun c4 => ?_)
      · have e9 : (F_X9_put a v xr ) = ((0 : Int32), xr) := by rw [F_X9_put, if_neg c1, if_pos c3, if_neg c4]
        rw [e9] at hV
        subst hV
        exact wrRetV C0 hK hP hD hS dX9_put_32
      · refine lv_aload_n hx hb dX9_put_26 rfl (lv_at hl 0 rfl) ?_
        refine lv_iload_n hx hb dX9_put_27 rfl (lv_at hl 1 rfl) ?_
        refine lv_lload_n hx hb dX9_put_28 rfl (lv_at hl 2 rfl) ?_
        refine wrVv (As := [.int a, .long v]) (rest := []) (bytes := cX9_set) (maxL := 4) (rty := none) (n := 2) (ci := 6) C0 (c_X9_set l dC dI cI cJ hX x1 x2 x3 x4 x5 x6 x7 x8 a v (0 : Int32) xw xp xs xc xM xE xL xo xi xj xk xn xz xa xg xmw xmp xr xd xwt xf xrd xu (by first | exact rngL (n := 512) rfl (by assumption) (by assumption) | exact rngL (n := 24) rfl (by assumption) (by assumption) | exact rngL (n := 8) rfl (by assumption) (by assumption) | exact rngL (n := 5) rfl (by assumption) (by assumption) | exact rngE (n := 23) rfl (by assumption) (by assumption) | exact rngE (n := 7) rfl (by assumption) (by assumption) | exact rngE (n := 4) rfl (by assumption) (by assumption) | exact absurd (by assumption : (1 : Int32) ≤ 0) (by decide) | exact absurd (by assumption : ¬ (0 : Int32) ≤ 0) (by decide) | exact absurd (by assumption : ¬ (1 : Int32) = 0) (by decide) | exact absurd (by assumption : (1 : Int32) = 0) (by decide))) ⟨rfl, rfl, rfl, by decide +kernel, by decide, by decide⟩ ggX9_put_X9_set mm_X9_put_iX9 mm_X9_put_l46 mm_X9_put_nX9_set mm_X9_put_sX9_set rfl rfl hP hD hK hS hA (Zs.no _ _ _) [0, 1, 2, 3, 4, 5, 6, 7, 8] [] [0, 1, 2, 3, 4, 5, 6, 7, 8] [] [(hX, .inr (6, [.int (0 : Int32), .ref x1, .ref x2, .ref x3, .int xw, .int xp, .int xs, .long xc, .ref x4, .ref x5, .ref x6, .ref x7, .ref x8, .long xM, .long xE, .long xL, .int xo, .int xi, .int xj, .int xk, .int xn, .int xz, .int xa, .int xg])), (x1, .inl (cJ, 512, .inr (.inl xmw))), (x2, .inl (cJ, 512, .inr (.inl xmp))), (x3, .inl (cJ, 24, .inr (.inl (F_X9_set a v xr)))), (x4, .inl (cI, 8, .inl xd)), (x5, .inl (cJ, 5, .inr (.inl xwt))), (x6, .inl (cJ, 24, .inr (.inl xf))), (x7, .inl (cJ, 24, .inr (.inl xrd))), (x8, .inl (cJ, 6, .inr (.inl xu)))] rfl (by decide) (hP.sub (ws' := [(hX, .inr (6, [.int (0 : Int32), .ref x1, .ref x2, .ref x3, .int xw, .int xp, .int xs, .long xc, .ref x4, .ref x5, .ref x6, .ref x7, .ref x8, .long xM, .long xE, .long xL, .int xo, .int xi, .int xj, .int xk, .int xn, .int xz, .int xa, .int xg])), (x1, .inl (cJ, 512, .inr (.inl xmw))), (x2, .inl (cJ, 512, .inr (.inl xmp))), (x3, .inl (cJ, 24, .inr (.inl xr))), (x4, .inl (cI, 8, .inl xd)), (x5, .inl (cJ, 5, .inr (.inl xwt))), (x6, .inl (cJ, 24, .inr (.inl xf))), (x7, .inl (cJ, 24, .inr (.inl xrd))), (x8, .inl (cJ, 6, .inr (.inl xu)))]) [0, 1, 2, 3, 4, 5, 6, 7, 8] rfl) rfl (by decide) (by decide) (by decide) rfl hl.1 rfl rfl (Nat.le_of_ble_eq_true rfl) dX9_put_29 ⟨Nat.zero_le _, Nat.zero_le _⟩ (fun H locs hP hD hS => ?_)
        have e9 : (F_X9_put a v xr ) = ((0 : Int32), (F_X9_set a v xr)) := by rw [F_X9_put, if_neg c1, if_pos c3, if_pos c4]
        rw [e9] at hV
        subst hV
        exact wrRetV C0 hK hP hD hS dX9_put_32
    · refine lv_iconst (v := (1 : Int32)) hx hb dX9_put_11 (by decide) ?_
      refine lv_goto (tgt := 16) hx hb dX9_put_12 (by decide) ?_
      refine va_put (D := (dC, dI)) (ci := 6) (v := .int (1 : Int32)) (ty := .int) (C := RX9) (T := TX9) (N := 24) hx hb hts mi_X9_put_X9 tyX9 tyX9_ok nmX9 hown hK hP hD hS 0 rfl rfl 0 (by decide) (hts (.fieldLink RX9 39 "ScoreboardCoreModel" "thrown" "I") mm_X9_put_f39) (fun _ h9 => h9) rfl (by decide +kernel) rfl rfl (Nat.le_of_ble_eq_true rfl) dX9_put_16 (fun H locs hP hD hS => ?_)
      have hP : va_P (dC, dI) vwCl [(hX, .inr (6, [.int (1 : Int32), .ref x1, .ref x2, .ref x3, .int xw, .int xp, .int xs, .long xc, .ref x4, .ref x5, .ref x6, .ref x7, .ref x8, .long xM, .long xE, .long xL, .int xo, .int xi, .int xj, .int xk, .int xn, .int xz, .int xa, .int xg])), (x1, .inl (cJ, 512, .inr (.inl xmw))), (x2, .inl (cJ, 512, .inr (.inl xmp))), (x3, .inl (cJ, 24, .inr (.inl xr))), (x4, .inl (cI, 8, .inl xd)), (x5, .inl (cJ, 5, .inr (.inl xwt))), (x6, .inl (cJ, 24, .inr (.inl xf))), (x7, .inl (cJ, 24, .inr (.inl xrd))), (x8, .inl (cJ, 6, .inr (.inl xu)))] H := hP
      have hD : va_D (va_A w0 s.heap.size) [(hX, .inr (6, [.int (1 : Int32), .ref x1, .ref x2, .ref x3, .int xw, .int xp, .int xs, .long xc, .ref x4, .ref x5, .ref x6, .ref x7, .ref x8, .long xM, .long xE, .long xL, .int xo, .int xi, .int xj, .int xk, .int xn, .int xz, .int xa, .int xg])), (x1, .inl (cJ, 512, .inr (.inl xmw))), (x2, .inl (cJ, 512, .inr (.inl xmp))), (x3, .inl (cJ, 24, .inr (.inl xr))), (x4, .inl (cI, 8, .inl xd)), (x5, .inl (cJ, 5, .inr (.inl xwt))), (x6, .inl (cJ, 24, .inr (.inl xf))), (x7, .inl (cJ, 24, .inr (.inl xrd))), (x8, .inl (cJ, 6, .inr (.inl xu)))] := hD
      refine lv_aload_n hx hb dX9_put_19 rfl (lv_at hl 0 rfl) ?_
      refine va_get (D := (dC, dI)) (ci := 6) (v := .int (1 : Int32)) (C := RX9) (T := TX9) (N := 24) hx hb hts mi_X9_put_X9 hown hK hP 0 rfl rfl 0 (by decide) (hts (.fieldLink RX9 39 "ScoreboardCoreModel" "thrown" "I") mm_X9_put_f39) (fun _ h9 => h9) rfl dX9_put_20 ?_
      refine lv_if_ne (x := (1 : Int32)) (tgt := 32) hx hb dX9_put_23 (by decide) (fun c5 => ?_) (fun c5 => ?_)
      · have e9 : (F_X9_put a v xr ) = ((1 : Int32), xr) := by rw [F_X9_put, if_neg c1, if_neg c3, if_neg c5]
        rw [e9] at hV
        subst hV
        exact wrRetV C0 hK hP hD hS dX9_put_32
      · refine lv_aload_n hx hb dX9_put_26 rfl (lv_at hl 0 rfl) ?_
        refine lv_iload_n hx hb dX9_put_27 rfl (lv_at hl 1 rfl) ?_
        refine lv_lload_n hx hb dX9_put_28 rfl (lv_at hl 2 rfl) ?_
        refine wrVv (As := [.int a, .long v]) (rest := []) (bytes := cX9_set) (maxL := 4) (rty := none) (n := 2) (ci := 6) C0 (c_X9_set l dC dI cI cJ hX x1 x2 x3 x4 x5 x6 x7 x8 a v (1 : Int32) xw xp xs xc xM xE xL xo xi xj xk xn xz xa xg xmw xmp xr xd xwt xf xrd xu (by first | exact rngL (n := 512) rfl (by assumption) (by assumption) | exact rngL (n := 24) rfl (by assumption) (by assumption) | exact rngL (n := 8) rfl (by assumption) (by assumption) | exact rngL (n := 5) rfl (by assumption) (by assumption) | exact rngE (n := 23) rfl (by assumption) (by assumption) | exact rngE (n := 7) rfl (by assumption) (by assumption) | exact rngE (n := 4) rfl (by assumption) (by assumption) | exact absurd (by assumption : (1 : Int32) ≤ 0) (by decide) | exact absurd (by assumption : ¬ (0 : Int32) ≤ 0) (by decide) | exact absurd (by assumption : ¬ (1 : Int32) = 0) (by decide) | exact absurd (by assumption : (1 : Int32) = 0) (by decide))) ⟨rfl, rfl, rfl, by decide +kernel, by decide, by decide⟩ ggX9_put_X9_set mm_X9_put_iX9 mm_X9_put_l46 mm_X9_put_nX9_set mm_X9_put_sX9_set rfl rfl hP hD hK hS hA (Zs.no _ _ _) [0, 1, 2, 3, 4, 5, 6, 7, 8] [] [0, 1, 2, 3, 4, 5, 6, 7, 8] [] [(hX, .inr (6, [.int (1 : Int32), .ref x1, .ref x2, .ref x3, .int xw, .int xp, .int xs, .long xc, .ref x4, .ref x5, .ref x6, .ref x7, .ref x8, .long xM, .long xE, .long xL, .int xo, .int xi, .int xj, .int xk, .int xn, .int xz, .int xa, .int xg])), (x1, .inl (cJ, 512, .inr (.inl xmw))), (x2, .inl (cJ, 512, .inr (.inl xmp))), (x3, .inl (cJ, 24, .inr (.inl (F_X9_set a v xr)))), (x4, .inl (cI, 8, .inl xd)), (x5, .inl (cJ, 5, .inr (.inl xwt))), (x6, .inl (cJ, 24, .inr (.inl xf))), (x7, .inl (cJ, 24, .inr (.inl xrd))), (x8, .inl (cJ, 6, .inr (.inl xu)))] rfl (by decide) (hP.sub (ws' := [(hX, .inr (6, [.int (1 : Int32), .ref x1, .ref x2, .ref x3, .int xw, .int xp, .int xs, .long xc, .ref x4, .ref x5, .ref x6, .ref x7, .ref x8, .long xM, .long xE, .long xL, .int xo, .int xi, .int xj, .int xk, .int xn, .int xz, .int xa, .int xg])), (x1, .inl (cJ, 512, .inr (.inl xmw))), (x2, .inl (cJ, 512, .inr (.inl xmp))), (x3, .inl (cJ, 24, .inr (.inl xr))), (x4, .inl (cI, 8, .inl xd)), (x5, .inl (cJ, 5, .inr (.inl xwt))), (x6, .inl (cJ, 24, .inr (.inl xf))), (x7, .inl (cJ, 24, .inr (.inl xrd))), (x8, .inl (cJ, 6, .inr (.inl xu)))]) [0, 1, 2, 3, 4, 5, 6, 7, 8] rfl) rfl (by decide) (by decide) (by decide) rfl hl.1 rfl rfl (Nat.le_of_ble_eq_true rfl) dX9_put_29 ⟨Nat.zero_le _, Nat.zero_le _⟩ (fun H locs hP hD hS => ?_)
        have e9 : (F_X9_put a v xr ) = ((1 : Int32), (F_X9_set a v xr)) := by rw [F_X9_put, if_neg c1, if_neg c3, if_pos c5]
        rw [e9] at hV
        subst hV
        exact wrRetV C0 hK hP hD hS dX9_put_32
theorem c_X9_put (l : Launch) (dC : Nat → ClassId) (dI : Nat → Nat → Nat) (cI cJ : ClassId) (hX x1 x2 x3 x4 x5 x6 x7 x8 : Nat) (a : Int32) (v : Int64) (xt : Int32) (xw : Int32) (xp : Int32) (xs : Int32) (xc : Int64) (xM : Int64) (xE : Int64) (xL : Int64) (xo : Int32) (xi : Int32) (xj : Int32) (xk : Int32) (xn : Int32) (xz : Int32) (xa : Int32) (xg : Int32) (xmw : Nat → Int64) (xmp : Nat → Int64) (xr : Nat → Int64) (xd : Nat → Int32) (xwt : Nat → Int64) (xf : Nat → Int64) (xrd : Nat → Int64) (xu : Nat → Int64) : WrV false l yX9_put wsX9_put rm_X9_put (dC, dI) [(cI, .int), (cJ, .long)] [(hX, .inr (6, [.int xt, .ref x1, .ref x2, .ref x3, .int xw, .int xp, .int xs, .long xc, .ref x4, .ref x5, .ref x6, .ref x7, .ref x8, .long xM, .long xE, .long xL, .int xo, .int xi, .int xj, .int xk, .int xn, .int xz, .int xa, .int xg])), (x1, .inl (cJ, 512, .inr (.inl xmw))), (x2, .inl (cJ, 512, .inr (.inl xmp))), (x3, .inl (cJ, 24, .inr (.inl xr))), (x4, .inl (cI, 8, .inl xd)), (x5, .inl (cJ, 5, .inr (.inl xwt))), (x6, .inl (cJ, 24, .inr (.inl xf))), (x7, .inl (cJ, 24, .inr (.inl xrd))), (x8, .inl (cJ, 6, .inr (.inl xu)))] [(hX, .inr (6, [.int ((F_X9_put a v xr ).1), .ref x1, .ref x2, .ref x3, .int xw, .int xp, .int xs, .long xc, .ref x4, .ref x5, .ref x6, .ref x7, .ref x8, .long xM, .long xE, .long xL, .int xo, .int xi, .int xj, .int xk, .int xn, .int xz, .int xa, .int xg])), (x1, .inl (cJ, 512, .inr (.inl xmw))), (x2, .inl (cJ, 512, .inr (.inl xmp))), (x3, .inl (cJ, 24, .inr (.inl ((F_X9_put a v xr ).2)))), (x4, .inl (cI, 8, .inl xd)), (x5, .inl (cJ, 5, .inr (.inl xwt))), (x6, .inl (cJ, 24, .inr (.inl xf))), (x7, .inl (cJ, 24, .inr (.inl xrd))), (x8, .inl (cJ, 6, .inr (.inl xu)))] [.ref hX, .int a, .long v] := by
  refine WrV.mk (cc := cX9_put) (nL := 4) (ret := none) [(0, .ref hX), (1, .int a), (2, .long v)] (by decide) rfl (Nat.le_of_ble_eq_true rfl) rfl ?_
  intro p e s m below meth c C0 hP hK hD hS hZ ls hl
  exact w_X9_put dC dI cI cJ hX x1 x2 x3 x4 x5 x6 x7 x8 a v xt xw xp xs xc xM xE xL xo xi xj xk xn xz xa xg xmw xmp xr xd xwt xf xrd xu C0 hK hZ rfl ls hl hP hD hS

-- X9_start
def F_X9_start (a : Int32) (xw : Int32) (xp : Int32) (xs : Int32) : Int32 × Int32 × Int32 × Int32 :=
  (if a < 0 then (if (1 : Int32) = 0 then ((1 : Int32), a, (0 : Int32), (3 : Int32)) else ((1 : Int32), xw, xp, xs)) else (if a < (512 : Int32) then (if (0 : Int32) = 0 then ((0 : Int32), a, (0 : Int32), (3 : Int32)) else ((0 : Int32), xw, xp, xs)) else (if (1 : Int32) = 0 then ((1 : Int32), a, (0 : Int32), (3 : Int32)) else ((1 : Int32), xw, xp, xs))))
abbrev rm_X9_start : Room := { frames := 0, cells := 0, slots := 0, locals := 0 }
set_option maxRecDepth 20000 in
theorem mi_X9_start_X9 : ∀ w ∈ wsX90, w ∈ wsX9_start := by decide +kernel
set_option maxRecDepth 20000 in
theorem mm_X9_start_f19 : Cond.fieldLink RX9 19 "ScoreboardCoreModel" "stop" "I" ∈ wsX9_start := by decide +kernel
set_option maxRecDepth 20000 in
theorem mm_X9_start_f39 : Cond.fieldLink RX9 39 "ScoreboardCoreModel" "thrown" "I" ∈ wsX9_start := by decide +kernel
set_option maxRecDepth 20000 in
theorem mm_X9_start_f50 : Cond.fieldLink RX9 50 "ScoreboardCoreModel" "word" "I" ∈ wsX9_start := by decide +kernel
set_option maxRecDepth 20000 in
theorem mm_X9_start_f53 : Cond.fieldLink RX9 53 "ScoreboardCoreModel" "parcel" "I" ∈ wsX9_start := by decide +kernel
set_option maxHeartbeats 4000000 in
set_option maxRecDepth 100000 in
theorem w_X9_start {p : Program} {l : Launch} {e : Env} {s : State} {m : MethodId} {below : List Frame} {meth : Method} {c : Code} {args : Array Value} (dC : Nat → ClassId) (dI : Nat → Nat → Nat) (cI cJ : ClassId) (hX x1 x2 x3 x4 x5 x6 x7 x8 : Nat) (a : Int32) (xt : Int32) (xw : Int32) (xp : Int32) (xs : Int32) (xc : Int64) (xM : Int64) (xE : Int64) (xL : Int64) (xo : Int32) (xi : Int32) (xj : Int32) (xk : Int32) (xn : Int32) (xz : Int32) (xa : Int32) (xg : Int32) (xmw : Nat → Int64) (xmp : Nat → Int64) (xr : Nat → Int64) (xd : Nat → Int32) (xwt : Nat → Int64) (xf : Nat → Int64) (xrd : Nat → Int64) (xu : Nat → Int64) {w0 : va_W} (C0 : Cx p s m meth c cX9_start 2 none wsX9_start RX9 args) (hK : va_K (dC, dI) vwCl [(cI, .int), (cJ, .long)] s) (hZ : Zs false (va_A w0 s.heap.size) s s.heap) {V : Int32 × Int32 × Int32 × Int32} (hV : (F_X9_start a xw xp xs ) = V) (ls : Array Slot) (hl : lv_has ls 2 [(0, .ref hX), (1, .int a)]) {H : Heap} {locs : List Loc} (hP : va_P (dC, dI) vwCl [(hX, .inr (6, [.int xt, .ref x1, .ref x2, .ref x3, .int xw, .int xp, .int xs, .long xc, .ref x4, .ref x5, .ref x6, .ref x7, .ref x8, .long xM, .long xE, .long xL, .int xo, .int xi, .int xj, .int xk, .int xn, .int xz, .int xa, .int xg])), (x1, .inl (cJ, 512, .inr (.inl xmw))), (x2, .inl (cJ, 512, .inr (.inl xmp))), (x3, .inl (cJ, 24, .inr (.inl xr))), (x4, .inl (cI, 8, .inl xd)), (x5, .inl (cJ, 5, .inr (.inl xwt))), (x6, .inl (cJ, 24, .inr (.inl xf))), (x7, .inl (cJ, 24, .inr (.inl xrd))), (x8, .inl (cJ, 6, .inr (.inl xu)))] H) (hD : va_D (va_A w0 s.heap.size) [(hX, .inr (6, [.int xt, .ref x1, .ref x2, .ref x3, .int xw, .int xp, .int xs, .long xc, .ref x4, .ref x5, .ref x6, .ref x7, .ref x8, .long xM, .long xE, .long xL, .int xo, .int xi, .int xj, .int xk, .int xn, .int xz, .int xa, .int xg])), (x1, .inl (cJ, 512, .inr (.inl xmw))), (x2, .inl (cJ, 512, .inr (.inl xmp))), (x3, .inl (cJ, 24, .inr (.inl xr))), (x4, .inl (cI, 8, .inl xd)), (x5, .inl (cJ, 5, .inr (.inl xwt))), (x6, .inl (cJ, 24, .inr (.inl xf))), (x7, .inl (cJ, 24, .inr (.inl xrd))), (x8, .inl (cJ, 6, .inr (.inl xu)))]) (hS : va_S (va_A w0 s.heap.size) s.heap H locs) : W p l e rm_X9_start s m args below meth c H locs 0 0 (MQ below (QV (dC, dI) [(cI, .int), (cJ, .long)] w0 [(hX, .inr (6, [.int V.1, .ref x1, .ref x2, .ref x3, .int V.2.1, .int V.2.2.1, .int V.2.2.2, .long xc, .ref x4, .ref x5, .ref x6, .ref x7, .ref x8, .long xM, .long xE, .long xL, .int xo, .int xi, .int xj, .int xk, .int xn, .int xz, .int xa, .int xg])), (x1, .inl (cJ, 512, .inr (.inl xmw))), (x2, .inl (cJ, 512, .inr (.inl xmp))), (x3, .inl (cJ, 24, .inr (.inl xr))), (x4, .inl (cI, 8, .inl xd)), (x5, .inl (cJ, 5, .inr (.inl xwt))), (x6, .inl (cJ, 24, .inr (.inl xf))), (x7, .inl (cJ, 24, .inr (.inl xrd))), (x8, .inl (cJ, 6, .inr (.inl xu)))] s.heap.size) args s 0 0 (va_A w0 s.heap.size)) (F0 m 0 ls []) := by
  obtain ⟨hx, hb, hr, hlk, hml, hown, hts⟩ := id C0
  have hA : ∀ q : Nat, s.heap.size ≤ q → va_A w0 s.heap.size q := fun q h => Or.inr h
  refine lv_aload_n hx hb dX9_start_0 rfl (lv_at hl 0 rfl) ?_
  refine lv_iload_n hx hb dX9_start_1 rfl (lv_at hl 1 rfl) ?_
  refine lv_if_lt (x := a) (tgt := 12) hx hb dX9_start_2 (by decide) (fun c1 => ?_) (fun c1 => ?_)
  · refine lv_iconst (v := (1 : Int32)) hx hb dX9_start_12 (by decide) ?_
    refine lv_goto (tgt := 17) hx hb dX9_start_13 (by decide) ?_
    refine va_put (D := (dC, dI)) (ci := 6) (v := .int (1 : Int32)) (ty := .int) (C := RX9) (T := TX9) (N := 24) hx hb hts mi_X9_start_X9 tyX9 tyX9_ok nmX9 hown hK hP hD hS 0 rfl rfl 0 (by decide) (hts (.fieldLink RX9 39 "ScoreboardCoreModel" "thrown" "I") mm_X9_start_f39) (fun _ h9 => h9) rfl (by decide +kernel) rfl rfl (Nat.le_of_ble_eq_true rfl) dX9_start_17 (fun H locs hP hD hS => ?_)
    have hP : va_P (dC, dI) vwCl [(hX, .inr (6, [.int (1 : Int32), .ref x1, .ref x2, .ref x3, .int xw, .int xp, .int xs, .long xc, .ref x4, .ref x5, .ref x6, .ref x7, .ref x8, .long xM, .long xE, .long xL, .int xo, .int xi, .int xj, .int xk, .int xn, .int xz, .int xa, .int xg])), (x1, .inl (cJ, 512, .inr (.inl xmw))), (x2, .inl (cJ, 512, .inr (.inl xmp))), (x3, .inl (cJ, 24, .inr (.inl xr))), (x4, .inl (cI, 8, .inl xd)), (x5, .inl (cJ, 5, .inr (.inl xwt))), (x6, .inl (cJ, 24, .inr (.inl xf))), (x7, .inl (cJ, 24, .inr (.inl xrd))), (x8, .inl (cJ, 6, .inr (.inl xu)))] H := hP
    have hD : va_D (va_A w0 s.heap.size) [(hX, .inr (6, [.int (1 : Int32), .ref x1, .ref x2, .ref x3, .int xw, .int xp, .int xs, .long xc, .ref x4, .ref x5, .ref x6, .ref x7, .ref x8, .long xM, .long xE, .long xL, .int xo, .int xi, .int xj, .int xk, .int xn, .int xz, .int xa, .int xg])), (x1, .inl (cJ, 512, .inr (.inl xmw))), (x2, .inl (cJ, 512, .inr (.inl xmp))), (x3, .inl (cJ, 24, .inr (.inl xr))), (x4, .inl (cI, 8, .inl xd)), (x5, .inl (cJ, 5, .inr (.inl xwt))), (x6, .inl (cJ, 24, .inr (.inl xf))), (x7, .inl (cJ, 24, .inr (.inl xrd))), (x8, .inl (cJ, 6, .inr (.inl xu)))] := hD
    refine lv_aload_n hx hb dX9_start_20 rfl (lv_at hl 0 rfl) ?_
    refine va_get (D := (dC, dI)) (ci := 6) (v := .int (1 : Int32)) (C := RX9) (T := TX9) (N := 24) hx hb hts mi_X9_start_X9 hown hK hP 0 rfl rfl 0 (by decide) (hts (.fieldLink RX9 39 "ScoreboardCoreModel" "thrown" "I") mm_X9_start_f39) (fun _ h9 => h9) rfl dX9_start_21 ?_
    refine lv_if_ne (x := (1 : Int32)) (tgt := 42) hx hb dX9_start_24 (by decide) (fun c2 => ?_) (fun c2 => ?_)
    · have e9 : (F_X9_start a xw xp xs ) = ((1 : Int32), xw, xp, xs) := by rw [F_X9_start, if_pos c1, if_neg c2]
      rw [e9] at hV
      subst hV
      exact wrRetV C0 hK hP hD hS dX9_start_42
    · refine lv_aload_n hx hb dX9_start_27 rfl (lv_at hl 0 rfl) ?_
      refine lv_iload_n hx hb dX9_start_28 rfl (lv_at hl 1 rfl) ?_
      refine va_put (D := (dC, dI)) (ci := 6) (v := .int a) (ty := .int) (C := RX9) (T := TX9) (N := 24) hx hb hts mi_X9_start_X9 tyX9 tyX9_ok nmX9 hown hK hP hD hS 0 rfl rfl 4 (by decide) (hts (.fieldLink RX9 50 "ScoreboardCoreModel" "word" "I") mm_X9_start_f50) (fun _ h9 => h9) rfl (by decide +kernel) rfl rfl (Nat.le_of_ble_eq_true rfl) dX9_start_29 (fun H locs hP hD hS => ?_)
      have hP : va_P (dC, dI) vwCl [(hX, .inr (6, [.int (1 : Int32), .ref x1, .ref x2, .ref x3, .int a, .int xp, .int xs, .long xc, .ref x4, .ref x5, .ref x6, .ref x7, .ref x8, .long xM, .long xE, .long xL, .int xo, .int xi, .int xj, .int xk, .int xn, .int xz, .int xa, .int xg])), (x1, .inl (cJ, 512, .inr (.inl xmw))), (x2, .inl (cJ, 512, .inr (.inl xmp))), (x3, .inl (cJ, 24, .inr (.inl xr))), (x4, .inl (cI, 8, .inl xd)), (x5, .inl (cJ, 5, .inr (.inl xwt))), (x6, .inl (cJ, 24, .inr (.inl xf))), (x7, .inl (cJ, 24, .inr (.inl xrd))), (x8, .inl (cJ, 6, .inr (.inl xu)))] H := hP
      have hD : va_D (va_A w0 s.heap.size) [(hX, .inr (6, [.int (1 : Int32), .ref x1, .ref x2, .ref x3, .int a, .int xp, .int xs, .long xc, .ref x4, .ref x5, .ref x6, .ref x7, .ref x8, .long xM, .long xE, .long xL, .int xo, .int xi, .int xj, .int xk, .int xn, .int xz, .int xa, .int xg])), (x1, .inl (cJ, 512, .inr (.inl xmw))), (x2, .inl (cJ, 512, .inr (.inl xmp))), (x3, .inl (cJ, 24, .inr (.inl xr))), (x4, .inl (cI, 8, .inl xd)), (x5, .inl (cJ, 5, .inr (.inl xwt))), (x6, .inl (cJ, 24, .inr (.inl xf))), (x7, .inl (cJ, 24, .inr (.inl xrd))), (x8, .inl (cJ, 6, .inr (.inl xu)))] := hD
      refine lv_aload_n hx hb dX9_start_32 rfl (lv_at hl 0 rfl) ?_
      refine lv_iconst (v := (0 : Int32)) hx hb dX9_start_33 (by decide) ?_
      refine va_put (D := (dC, dI)) (ci := 6) (v := .int (0 : Int32)) (ty := .int) (C := RX9) (T := TX9) (N := 24) hx hb hts mi_X9_start_X9 tyX9 tyX9_ok nmX9 hown hK hP hD hS 0 rfl rfl 5 (by decide) (hts (.fieldLink RX9 53 "ScoreboardCoreModel" "parcel" "I") mm_X9_start_f53) (fun _ h9 => h9) rfl (by decide +kernel) rfl rfl (Nat.le_of_ble_eq_true rfl) dX9_start_34 (fun H locs hP hD hS => ?_)
      have hP : va_P (dC, dI) vwCl [(hX, .inr (6, [.int (1 : Int32), .ref x1, .ref x2, .ref x3, .int a, .int (0 : Int32), .int xs, .long xc, .ref x4, .ref x5, .ref x6, .ref x7, .ref x8, .long xM, .long xE, .long xL, .int xo, .int xi, .int xj, .int xk, .int xn, .int xz, .int xa, .int xg])), (x1, .inl (cJ, 512, .inr (.inl xmw))), (x2, .inl (cJ, 512, .inr (.inl xmp))), (x3, .inl (cJ, 24, .inr (.inl xr))), (x4, .inl (cI, 8, .inl xd)), (x5, .inl (cJ, 5, .inr (.inl xwt))), (x6, .inl (cJ, 24, .inr (.inl xf))), (x7, .inl (cJ, 24, .inr (.inl xrd))), (x8, .inl (cJ, 6, .inr (.inl xu)))] H := hP
      have hD : va_D (va_A w0 s.heap.size) [(hX, .inr (6, [.int (1 : Int32), .ref x1, .ref x2, .ref x3, .int a, .int (0 : Int32), .int xs, .long xc, .ref x4, .ref x5, .ref x6, .ref x7, .ref x8, .long xM, .long xE, .long xL, .int xo, .int xi, .int xj, .int xk, .int xn, .int xz, .int xa, .int xg])), (x1, .inl (cJ, 512, .inr (.inl xmw))), (x2, .inl (cJ, 512, .inr (.inl xmp))), (x3, .inl (cJ, 24, .inr (.inl xr))), (x4, .inl (cI, 8, .inl xd)), (x5, .inl (cJ, 5, .inr (.inl xwt))), (x6, .inl (cJ, 24, .inr (.inl xf))), (x7, .inl (cJ, 24, .inr (.inl xrd))), (x8, .inl (cJ, 6, .inr (.inl xu)))] := hD
      refine lv_aload_n hx hb dX9_start_37 rfl (lv_at hl 0 rfl) ?_
      refine lv_iconst (v := (3 : Int32)) hx hb dX9_start_38 (by decide) ?_
      refine va_put (D := (dC, dI)) (ci := 6) (v := .int (3 : Int32)) (ty := .int) (C := RX9) (T := TX9) (N := 24) hx hb hts mi_X9_start_X9 tyX9 tyX9_ok nmX9 hown hK hP hD hS 0 rfl rfl 6 (by decide) (hts (.fieldLink RX9 19 "ScoreboardCoreModel" "stop" "I") mm_X9_start_f19) (fun _ h9 => h9) rfl (by decide +kernel) rfl rfl (Nat.le_of_ble_eq_true rfl) dX9_start_39 (fun H locs hP hD hS => ?_)
      have hP : va_P (dC, dI) vwCl [(hX, .inr (6, [.int (1 : Int32), .ref x1, .ref x2, .ref x3, .int a, .int (0 : Int32), .int (3 : Int32), .long xc, .ref x4, .ref x5, .ref x6, .ref x7, .ref x8, .long xM, .long xE, .long xL, .int xo, .int xi, .int xj, .int xk, .int xn, .int xz, .int xa, .int xg])), (x1, .inl (cJ, 512, .inr (.inl xmw))), (x2, .inl (cJ, 512, .inr (.inl xmp))), (x3, .inl (cJ, 24, .inr (.inl xr))), (x4, .inl (cI, 8, .inl xd)), (x5, .inl (cJ, 5, .inr (.inl xwt))), (x6, .inl (cJ, 24, .inr (.inl xf))), (x7, .inl (cJ, 24, .inr (.inl xrd))), (x8, .inl (cJ, 6, .inr (.inl xu)))] H := hP
      have hD : va_D (va_A w0 s.heap.size) [(hX, .inr (6, [.int (1 : Int32), .ref x1, .ref x2, .ref x3, .int a, .int (0 : Int32), .int (3 : Int32), .long xc, .ref x4, .ref x5, .ref x6, .ref x7, .ref x8, .long xM, .long xE, .long xL, .int xo, .int xi, .int xj, .int xk, .int xn, .int xz, .int xa, .int xg])), (x1, .inl (cJ, 512, .inr (.inl xmw))), (x2, .inl (cJ, 512, .inr (.inl xmp))), (x3, .inl (cJ, 24, .inr (.inl xr))), (x4, .inl (cI, 8, .inl xd)), (x5, .inl (cJ, 5, .inr (.inl xwt))), (x6, .inl (cJ, 24, .inr (.inl xf))), (x7, .inl (cJ, 24, .inr (.inl xrd))), (x8, .inl (cJ, 6, .inr (.inl xu)))] := hD
      have e9 : (F_X9_start a xw xp xs ) = ((1 : Int32), a, (0 : Int32), (3 : Int32)) := by rw [F_X9_start, if_pos c1, if_pos c2]
      rw [e9] at hV
      subst hV
      exact wrRetV C0 hK hP hD hS dX9_start_42
  · refine lv_iload_n hx hb dX9_start_5 rfl (lv_at hl 1 rfl) ?_
    refine lv_sipush (v := (512 : Int32)) hx hb dX9_start_6 (by decide) ?_
    refine lv_icmp_lt (x := a) (y := (512 : Int32)) (tgt := 16) hx hb dX9_start_9 (by decide) (fun c3 => ?_) (fun c3 => ?_)
    · refine lv_iconst (v := (0 : Int32)) hx hb dX9_start_16 (by decide) ?_
      refine va_put (D := (dC, dI)) (ci := 6) (v := .int (0 : Int32)) (ty := .int) (C := RX9) (T := TX9) (N := 24) hx hb hts mi_X9_start_X9 tyX9 tyX9_ok nmX9 hown hK hP hD hS 0 rfl rfl 0 (by decide) (hts (.fieldLink RX9 39 "ScoreboardCoreModel" "thrown" "I") mm_X9_start_f39) (fun _ h9 => h9) rfl (by decide +kernel) rfl rfl (Nat.le_of_ble_eq_true rfl) dX9_start_17 (fun H locs hP hD hS => ?_)
      have hP : va_P (dC, dI) vwCl [(hX, .inr (6, [.int (0 : Int32), .ref x1, .ref x2, .ref x3, .int xw, .int xp, .int xs, .long xc, .ref x4, .ref x5, .ref x6, .ref x7, .ref x8, .long xM, .long xE, .long xL, .int xo, .int xi, .int xj, .int xk, .int xn, .int xz, .int xa, .int xg])), (x1, .inl (cJ, 512, .inr (.inl xmw))), (x2, .inl (cJ, 512, .inr (.inl xmp))), (x3, .inl (cJ, 24, .inr (.inl xr))), (x4, .inl (cI, 8, .inl xd)), (x5, .inl (cJ, 5, .inr (.inl xwt))), (x6, .inl (cJ, 24, .inr (.inl xf))), (x7, .inl (cJ, 24, .inr (.inl xrd))), (x8, .inl (cJ, 6, .inr (.inl xu)))] H := hP
      have hD : va_D (va_A w0 s.heap.size) [(hX, .inr (6, [.int (0 : Int32), .ref x1, .ref x2, .ref x3, .int xw, .int xp, .int xs, .long xc, .ref x4, .ref x5, .ref x6, .ref x7, .ref x8, .long xM, .long xE, .long xL, .int xo, .int xi, .int xj, .int xk, .int xn, .int xz, .int xa, .int xg])), (x1, .inl (cJ, 512, .inr (.inl xmw))), (x2, .inl (cJ, 512, .inr (.inl xmp))), (x3, .inl (cJ, 24, .inr (.inl xr))), (x4, .inl (cI, 8, .inl xd)), (x5, .inl (cJ, 5, .inr (.inl xwt))), (x6, .inl (cJ, 24, .inr (.inl xf))), (x7, .inl (cJ, 24, .inr (.inl xrd))), (x8, .inl (cJ, 6, .inr (.inl xu)))] := hD
      refine lv_aload_n hx hb dX9_start_20 rfl (lv_at hl 0 rfl) ?_
      refine va_get (D := (dC, dI)) (ci := 6) (v := .int (0 : Int32)) (C := RX9) (T := TX9) (N := 24) hx hb hts mi_X9_start_X9 hown hK hP 0 rfl rfl 0 (by decide) (hts (.fieldLink RX9 39 "ScoreboardCoreModel" "thrown" "I") mm_X9_start_f39) (fun _ h9 => h9) rfl dX9_start_21 ?_
      refine lv_if_ne (x := (0 : Int32)) (tgt := 42) hx hb dX9_start_24 (by decide) (fun c4 => ?_) (fun c4 => ?_)
      · have e9 : (F_X9_start a xw xp xs ) = ((0 : Int32), xw, xp, xs) := by rw [F_X9_start, if_neg c1, if_pos c3, if_neg c4]
        rw [e9] at hV
        subst hV
        exact wrRetV C0 hK hP hD hS dX9_start_42
      · refine lv_aload_n hx hb dX9_start_27 rfl (lv_at hl 0 rfl) ?_
        refine lv_iload_n hx hb dX9_start_28 rfl (lv_at hl 1 rfl) ?_
        refine va_put (D := (dC, dI)) (ci := 6) (v := .int a) (ty := .int) (C := RX9) (T := TX9) (N := 24) hx hb hts mi_X9_start_X9 tyX9 tyX9_ok nmX9 hown hK hP hD hS 0 rfl rfl 4 (by decide) (hts (.fieldLink RX9 50 "ScoreboardCoreModel" "word" "I") mm_X9_start_f50) (fun _ h9 => h9) rfl (by decide +kernel) rfl rfl (Nat.le_of_ble_eq_true rfl) dX9_start_29 (fun H locs hP hD hS => ?_)
        have hP : va_P (dC, dI) vwCl [(hX, .inr (6, [.int (0 : Int32), .ref x1, .ref x2, .ref x3, .int a, .int xp, .int xs, .long xc, .ref x4, .ref x5, .ref x6, .ref x7, .ref x8, .long xM, .long xE, .long xL, .int xo, .int xi, .int xj, .int xk, .int xn, .int xz, .int xa, .int xg])), (x1, .inl (cJ, 512, .inr (.inl xmw))), (x2, .inl (cJ, 512, .inr (.inl xmp))), (x3, .inl (cJ, 24, .inr (.inl xr))), (x4, .inl (cI, 8, .inl xd)), (x5, .inl (cJ, 5, .inr (.inl xwt))), (x6, .inl (cJ, 24, .inr (.inl xf))), (x7, .inl (cJ, 24, .inr (.inl xrd))), (x8, .inl (cJ, 6, .inr (.inl xu)))] H := hP
        have hD : va_D (va_A w0 s.heap.size) [(hX, .inr (6, [.int (0 : Int32), .ref x1, .ref x2, .ref x3, .int a, .int xp, .int xs, .long xc, .ref x4, .ref x5, .ref x6, .ref x7, .ref x8, .long xM, .long xE, .long xL, .int xo, .int xi, .int xj, .int xk, .int xn, .int xz, .int xa, .int xg])), (x1, .inl (cJ, 512, .inr (.inl xmw))), (x2, .inl (cJ, 512, .inr (.inl xmp))), (x3, .inl (cJ, 24, .inr (.inl xr))), (x4, .inl (cI, 8, .inl xd)), (x5, .inl (cJ, 5, .inr (.inl xwt))), (x6, .inl (cJ, 24, .inr (.inl xf))), (x7, .inl (cJ, 24, .inr (.inl xrd))), (x8, .inl (cJ, 6, .inr (.inl xu)))] := hD
        refine lv_aload_n hx hb dX9_start_32 rfl (lv_at hl 0 rfl) ?_
        refine lv_iconst (v := (0 : Int32)) hx hb dX9_start_33 (by decide) ?_
        refine va_put (D := (dC, dI)) (ci := 6) (v := .int (0 : Int32)) (ty := .int) (C := RX9) (T := TX9) (N := 24) hx hb hts mi_X9_start_X9 tyX9 tyX9_ok nmX9 hown hK hP hD hS 0 rfl rfl 5 (by decide) (hts (.fieldLink RX9 53 "ScoreboardCoreModel" "parcel" "I") mm_X9_start_f53) (fun _ h9 => h9) rfl (by decide +kernel) rfl rfl (Nat.le_of_ble_eq_true rfl) dX9_start_34 (fun H locs hP hD hS => ?_)
        have hP : va_P (dC, dI) vwCl [(hX, .inr (6, [.int (0 : Int32), .ref x1, .ref x2, .ref x3, .int a, .int (0 : Int32), .int xs, .long xc, .ref x4, .ref x5, .ref x6, .ref x7, .ref x8, .long xM, .long xE, .long xL, .int xo, .int xi, .int xj, .int xk, .int xn, .int xz, .int xa, .int xg])), (x1, .inl (cJ, 512, .inr (.inl xmw))), (x2, .inl (cJ, 512, .inr (.inl xmp))), (x3, .inl (cJ, 24, .inr (.inl xr))), (x4, .inl (cI, 8, .inl xd)), (x5, .inl (cJ, 5, .inr (.inl xwt))), (x6, .inl (cJ, 24, .inr (.inl xf))), (x7, .inl (cJ, 24, .inr (.inl xrd))), (x8, .inl (cJ, 6, .inr (.inl xu)))] H := hP
        have hD : va_D (va_A w0 s.heap.size) [(hX, .inr (6, [.int (0 : Int32), .ref x1, .ref x2, .ref x3, .int a, .int (0 : Int32), .int xs, .long xc, .ref x4, .ref x5, .ref x6, .ref x7, .ref x8, .long xM, .long xE, .long xL, .int xo, .int xi, .int xj, .int xk, .int xn, .int xz, .int xa, .int xg])), (x1, .inl (cJ, 512, .inr (.inl xmw))), (x2, .inl (cJ, 512, .inr (.inl xmp))), (x3, .inl (cJ, 24, .inr (.inl xr))), (x4, .inl (cI, 8, .inl xd)), (x5, .inl (cJ, 5, .inr (.inl xwt))), (x6, .inl (cJ, 24, .inr (.inl xf))), (x7, .inl (cJ, 24, .inr (.inl xrd))), (x8, .inl (cJ, 6, .inr (.inl xu)))] := hD
        refine lv_aload_n hx hb dX9_start_37 rfl (lv_at hl 0 rfl) ?_
        refine lv_iconst (v := (3 : Int32)) hx hb dX9_start_38 (by decide) ?_
        refine va_put (D := (dC, dI)) (ci := 6) (v := .int (3 : Int32)) (ty := .int) (C := RX9) (T := TX9) (N := 24) hx hb hts mi_X9_start_X9 tyX9 tyX9_ok nmX9 hown hK hP hD hS 0 rfl rfl 6 (by decide) (hts (.fieldLink RX9 19 "ScoreboardCoreModel" "stop" "I") mm_X9_start_f19) (fun _ h9 => h9) rfl (by decide +kernel) rfl rfl (Nat.le_of_ble_eq_true rfl) dX9_start_39 (fun H locs hP hD hS => ?_)
        have hP : va_P (dC, dI) vwCl [(hX, .inr (6, [.int (0 : Int32), .ref x1, .ref x2, .ref x3, .int a, .int (0 : Int32), .int (3 : Int32), .long xc, .ref x4, .ref x5, .ref x6, .ref x7, .ref x8, .long xM, .long xE, .long xL, .int xo, .int xi, .int xj, .int xk, .int xn, .int xz, .int xa, .int xg])), (x1, .inl (cJ, 512, .inr (.inl xmw))), (x2, .inl (cJ, 512, .inr (.inl xmp))), (x3, .inl (cJ, 24, .inr (.inl xr))), (x4, .inl (cI, 8, .inl xd)), (x5, .inl (cJ, 5, .inr (.inl xwt))), (x6, .inl (cJ, 24, .inr (.inl xf))), (x7, .inl (cJ, 24, .inr (.inl xrd))), (x8, .inl (cJ, 6, .inr (.inl xu)))] H := hP
        have hD : va_D (va_A w0 s.heap.size) [(hX, .inr (6, [.int (0 : Int32), .ref x1, .ref x2, .ref x3, .int a, .int (0 : Int32), .int (3 : Int32), .long xc, .ref x4, .ref x5, .ref x6, .ref x7, .ref x8, .long xM, .long xE, .long xL, .int xo, .int xi, .int xj, .int xk, .int xn, .int xz, .int xa, .int xg])), (x1, .inl (cJ, 512, .inr (.inl xmw))), (x2, .inl (cJ, 512, .inr (.inl xmp))), (x3, .inl (cJ, 24, .inr (.inl xr))), (x4, .inl (cI, 8, .inl xd)), (x5, .inl (cJ, 5, .inr (.inl xwt))), (x6, .inl (cJ, 24, .inr (.inl xf))), (x7, .inl (cJ, 24, .inr (.inl xrd))), (x8, .inl (cJ, 6, .inr (.inl xu)))] := hD
        have e9 : (F_X9_start a xw xp xs ) = ((0 : Int32), a, (0 : Int32), (3 : Int32)) := by rw [F_X9_start, if_neg c1, if_pos c3, if_pos c4]
        rw [e9] at hV
        subst hV
        exact wrRetV C0 hK hP hD hS dX9_start_42
    · refine lv_iconst (v := (1 : Int32)) hx hb dX9_start_12 (by decide) ?_
      refine lv_goto (tgt := 17) hx hb dX9_start_13 (by decide) ?_
      refine va_put (D := (dC, dI)) (ci := 6) (v := .int (1 : Int32)) (ty := .int) (C := RX9) (T := TX9) (N := 24) hx hb hts mi_X9_start_X9 tyX9 tyX9_ok nmX9 hown hK hP hD hS 0 rfl rfl 0 (by decide) (hts (.fieldLink RX9 39 "ScoreboardCoreModel" "thrown" "I") mm_X9_start_f39) (fun _ h9 => h9) rfl (by decide +kernel) rfl rfl (Nat.le_of_ble_eq_true rfl) dX9_start_17 (fun H locs hP hD hS => ?_)
      have hP : va_P (dC, dI) vwCl [(hX, .inr (6, [.int (1 : Int32), .ref x1, .ref x2, .ref x3, .int xw, .int xp, .int xs, .long xc, .ref x4, .ref x5, .ref x6, .ref x7, .ref x8, .long xM, .long xE, .long xL, .int xo, .int xi, .int xj, .int xk, .int xn, .int xz, .int xa, .int xg])), (x1, .inl (cJ, 512, .inr (.inl xmw))), (x2, .inl (cJ, 512, .inr (.inl xmp))), (x3, .inl (cJ, 24, .inr (.inl xr))), (x4, .inl (cI, 8, .inl xd)), (x5, .inl (cJ, 5, .inr (.inl xwt))), (x6, .inl (cJ, 24, .inr (.inl xf))), (x7, .inl (cJ, 24, .inr (.inl xrd))), (x8, .inl (cJ, 6, .inr (.inl xu)))] H := hP
      have hD : va_D (va_A w0 s.heap.size) [(hX, .inr (6, [.int (1 : Int32), .ref x1, .ref x2, .ref x3, .int xw, .int xp, .int xs, .long xc, .ref x4, .ref x5, .ref x6, .ref x7, .ref x8, .long xM, .long xE, .long xL, .int xo, .int xi, .int xj, .int xk, .int xn, .int xz, .int xa, .int xg])), (x1, .inl (cJ, 512, .inr (.inl xmw))), (x2, .inl (cJ, 512, .inr (.inl xmp))), (x3, .inl (cJ, 24, .inr (.inl xr))), (x4, .inl (cI, 8, .inl xd)), (x5, .inl (cJ, 5, .inr (.inl xwt))), (x6, .inl (cJ, 24, .inr (.inl xf))), (x7, .inl (cJ, 24, .inr (.inl xrd))), (x8, .inl (cJ, 6, .inr (.inl xu)))] := hD
      refine lv_aload_n hx hb dX9_start_20 rfl (lv_at hl 0 rfl) ?_
      refine va_get (D := (dC, dI)) (ci := 6) (v := .int (1 : Int32)) (C := RX9) (T := TX9) (N := 24) hx hb hts mi_X9_start_X9 hown hK hP 0 rfl rfl 0 (by decide) (hts (.fieldLink RX9 39 "ScoreboardCoreModel" "thrown" "I") mm_X9_start_f39) (fun _ h9 => h9) rfl dX9_start_21 ?_
      refine lv_if_ne (x := (1 : Int32)) (tgt := 42) hx hb dX9_start_24 (by decide) (fun c5 => ?_) (fun c5 => ?_)
      · have e9 : (F_X9_start a xw xp xs ) = ((1 : Int32), xw, xp, xs) := by rw [F_X9_start, if_neg c1, if_neg c3, if_neg c5]
        rw [e9] at hV
        subst hV
        exact wrRetV C0 hK hP hD hS dX9_start_42
      · refine lv_aload_n hx hb dX9_start_27 rfl (lv_at hl 0 rfl) ?_
        refine lv_iload_n hx hb dX9_start_28 rfl (lv_at hl 1 rfl) ?_
        refine va_put (D := (dC, dI)) (ci := 6) (v := .int a) (ty := .int) (C := RX9) (T := TX9) (N := 24) hx hb hts mi_X9_start_X9 tyX9 tyX9_ok nmX9 hown hK hP hD hS 0 rfl rfl 4 (by decide) (hts (.fieldLink RX9 50 "ScoreboardCoreModel" "word" "I") mm_X9_start_f50) (fun _ h9 => h9) rfl (by decide +kernel) rfl rfl (Nat.le_of_ble_eq_true rfl) dX9_start_29 (fun H locs hP hD hS => ?_)
        have hP : va_P (dC, dI) vwCl [(hX, .inr (6, [.int (1 : Int32), .ref x1, .ref x2, .ref x3, .int a, .int xp, .int xs, .long xc, .ref x4, .ref x5, .ref x6, .ref x7, .ref x8, .long xM, .long xE, .long xL, .int xo, .int xi, .int xj, .int xk, .int xn, .int xz, .int xa, .int xg])), (x1, .inl (cJ, 512, .inr (.inl xmw))), (x2, .inl (cJ, 512, .inr (.inl xmp))), (x3, .inl (cJ, 24, .inr (.inl xr))), (x4, .inl (cI, 8, .inl xd)), (x5, .inl (cJ, 5, .inr (.inl xwt))), (x6, .inl (cJ, 24, .inr (.inl xf))), (x7, .inl (cJ, 24, .inr (.inl xrd))), (x8, .inl (cJ, 6, .inr (.inl xu)))] H := hP
        have hD : va_D (va_A w0 s.heap.size) [(hX, .inr (6, [.int (1 : Int32), .ref x1, .ref x2, .ref x3, .int a, .int xp, .int xs, .long xc, .ref x4, .ref x5, .ref x6, .ref x7, .ref x8, .long xM, .long xE, .long xL, .int xo, .int xi, .int xj, .int xk, .int xn, .int xz, .int xa, .int xg])), (x1, .inl (cJ, 512, .inr (.inl xmw))), (x2, .inl (cJ, 512, .inr (.inl xmp))), (x3, .inl (cJ, 24, .inr (.inl xr))), (x4, .inl (cI, 8, .inl xd)), (x5, .inl (cJ, 5, .inr (.inl xwt))), (x6, .inl (cJ, 24, .inr (.inl xf))), (x7, .inl (cJ, 24, .inr (.inl xrd))), (x8, .inl (cJ, 6, .inr (.inl xu)))] := hD
        refine lv_aload_n hx hb dX9_start_32 rfl (lv_at hl 0 rfl) ?_
        refine lv_iconst (v := (0 : Int32)) hx hb dX9_start_33 (by decide) ?_
        refine va_put (D := (dC, dI)) (ci := 6) (v := .int (0 : Int32)) (ty := .int) (C := RX9) (T := TX9) (N := 24) hx hb hts mi_X9_start_X9 tyX9 tyX9_ok nmX9 hown hK hP hD hS 0 rfl rfl 5 (by decide) (hts (.fieldLink RX9 53 "ScoreboardCoreModel" "parcel" "I") mm_X9_start_f53) (fun _ h9 => h9) rfl (by decide +kernel) rfl rfl (Nat.le_of_ble_eq_true rfl) dX9_start_34 (fun H locs hP hD hS => ?_)
        have hP : va_P (dC, dI) vwCl [(hX, .inr (6, [.int (1 : Int32), .ref x1, .ref x2, .ref x3, .int a, .int (0 : Int32), .int xs, .long xc, .ref x4, .ref x5, .ref x6, .ref x7, .ref x8, .long xM, .long xE, .long xL, .int xo, .int xi, .int xj, .int xk, .int xn, .int xz, .int xa, .int xg])), (x1, .inl (cJ, 512, .inr (.inl xmw))), (x2, .inl (cJ, 512, .inr (.inl xmp))), (x3, .inl (cJ, 24, .inr (.inl xr))), (x4, .inl (cI, 8, .inl xd)), (x5, .inl (cJ, 5, .inr (.inl xwt))), (x6, .inl (cJ, 24, .inr (.inl xf))), (x7, .inl (cJ, 24, .inr (.inl xrd))), (x8, .inl (cJ, 6, .inr (.inl xu)))] H := hP
        have hD : va_D (va_A w0 s.heap.size) [(hX, .inr (6, [.int (1 : Int32), .ref x1, .ref x2, .ref x3, .int a, .int (0 : Int32), .int xs, .long xc, .ref x4, .ref x5, .ref x6, .ref x7, .ref x8, .long xM, .long xE, .long xL, .int xo, .int xi, .int xj, .int xk, .int xn, .int xz, .int xa, .int xg])), (x1, .inl (cJ, 512, .inr (.inl xmw))), (x2, .inl (cJ, 512, .inr (.inl xmp))), (x3, .inl (cJ, 24, .inr (.inl xr))), (x4, .inl (cI, 8, .inl xd)), (x5, .inl (cJ, 5, .inr (.inl xwt))), (x6, .inl (cJ, 24, .inr (.inl xf))), (x7, .inl (cJ, 24, .inr (.inl xrd))), (x8, .inl (cJ, 6, .inr (.inl xu)))] := hD
        refine lv_aload_n hx hb dX9_start_37 rfl (lv_at hl 0 rfl) ?_
        refine lv_iconst (v := (3 : Int32)) hx hb dX9_start_38 (by decide) ?_
        refine va_put (D := (dC, dI)) (ci := 6) (v := .int (3 : Int32)) (ty := .int) (C := RX9) (T := TX9) (N := 24) hx hb hts mi_X9_start_X9 tyX9 tyX9_ok nmX9 hown hK hP hD hS 0 rfl rfl 6 (by decide) (hts (.fieldLink RX9 19 "ScoreboardCoreModel" "stop" "I") mm_X9_start_f19) (fun _ h9 => h9) rfl (by decide +kernel) rfl rfl (Nat.le_of_ble_eq_true rfl) dX9_start_39 (fun H locs hP hD hS => ?_)
        have hP : va_P (dC, dI) vwCl [(hX, .inr (6, [.int (1 : Int32), .ref x1, .ref x2, .ref x3, .int a, .int (0 : Int32), .int (3 : Int32), .long xc, .ref x4, .ref x5, .ref x6, .ref x7, .ref x8, .long xM, .long xE, .long xL, .int xo, .int xi, .int xj, .int xk, .int xn, .int xz, .int xa, .int xg])), (x1, .inl (cJ, 512, .inr (.inl xmw))), (x2, .inl (cJ, 512, .inr (.inl xmp))), (x3, .inl (cJ, 24, .inr (.inl xr))), (x4, .inl (cI, 8, .inl xd)), (x5, .inl (cJ, 5, .inr (.inl xwt))), (x6, .inl (cJ, 24, .inr (.inl xf))), (x7, .inl (cJ, 24, .inr (.inl xrd))), (x8, .inl (cJ, 6, .inr (.inl xu)))] H := hP
        have hD : va_D (va_A w0 s.heap.size) [(hX, .inr (6, [.int (1 : Int32), .ref x1, .ref x2, .ref x3, .int a, .int (0 : Int32), .int (3 : Int32), .long xc, .ref x4, .ref x5, .ref x6, .ref x7, .ref x8, .long xM, .long xE, .long xL, .int xo, .int xi, .int xj, .int xk, .int xn, .int xz, .int xa, .int xg])), (x1, .inl (cJ, 512, .inr (.inl xmw))), (x2, .inl (cJ, 512, .inr (.inl xmp))), (x3, .inl (cJ, 24, .inr (.inl xr))), (x4, .inl (cI, 8, .inl xd)), (x5, .inl (cJ, 5, .inr (.inl xwt))), (x6, .inl (cJ, 24, .inr (.inl xf))), (x7, .inl (cJ, 24, .inr (.inl xrd))), (x8, .inl (cJ, 6, .inr (.inl xu)))] := hD
        have e9 : (F_X9_start a xw xp xs ) = ((1 : Int32), a, (0 : Int32), (3 : Int32)) := by rw [F_X9_start, if_neg c1, if_neg c3, if_pos c5]
        rw [e9] at hV
        subst hV
        exact wrRetV C0 hK hP hD hS dX9_start_42
theorem c_X9_start (l : Launch) (dC : Nat → ClassId) (dI : Nat → Nat → Nat) (cI cJ : ClassId) (hX x1 x2 x3 x4 x5 x6 x7 x8 : Nat) (a : Int32) (xt : Int32) (xw : Int32) (xp : Int32) (xs : Int32) (xc : Int64) (xM : Int64) (xE : Int64) (xL : Int64) (xo : Int32) (xi : Int32) (xj : Int32) (xk : Int32) (xn : Int32) (xz : Int32) (xa : Int32) (xg : Int32) (xmw : Nat → Int64) (xmp : Nat → Int64) (xr : Nat → Int64) (xd : Nat → Int32) (xwt : Nat → Int64) (xf : Nat → Int64) (xrd : Nat → Int64) (xu : Nat → Int64) : WrV false l yX9_start wsX9_start rm_X9_start (dC, dI) [(cI, .int), (cJ, .long)] [(hX, .inr (6, [.int xt, .ref x1, .ref x2, .ref x3, .int xw, .int xp, .int xs, .long xc, .ref x4, .ref x5, .ref x6, .ref x7, .ref x8, .long xM, .long xE, .long xL, .int xo, .int xi, .int xj, .int xk, .int xn, .int xz, .int xa, .int xg])), (x1, .inl (cJ, 512, .inr (.inl xmw))), (x2, .inl (cJ, 512, .inr (.inl xmp))), (x3, .inl (cJ, 24, .inr (.inl xr))), (x4, .inl (cI, 8, .inl xd)), (x5, .inl (cJ, 5, .inr (.inl xwt))), (x6, .inl (cJ, 24, .inr (.inl xf))), (x7, .inl (cJ, 24, .inr (.inl xrd))), (x8, .inl (cJ, 6, .inr (.inl xu)))] [(hX, .inr (6, [.int ((F_X9_start a xw xp xs ).1), .ref x1, .ref x2, .ref x3, .int ((F_X9_start a xw xp xs ).2.1), .int ((F_X9_start a xw xp xs ).2.2.1), .int ((F_X9_start a xw xp xs ).2.2.2), .long xc, .ref x4, .ref x5, .ref x6, .ref x7, .ref x8, .long xM, .long xE, .long xL, .int xo, .int xi, .int xj, .int xk, .int xn, .int xz, .int xa, .int xg])), (x1, .inl (cJ, 512, .inr (.inl xmw))), (x2, .inl (cJ, 512, .inr (.inl xmp))), (x3, .inl (cJ, 24, .inr (.inl xr))), (x4, .inl (cI, 8, .inl xd)), (x5, .inl (cJ, 5, .inr (.inl xwt))), (x6, .inl (cJ, 24, .inr (.inl xf))), (x7, .inl (cJ, 24, .inr (.inl xrd))), (x8, .inl (cJ, 6, .inr (.inl xu)))] [.ref hX, .int a] := by
  refine WrV.mk (cc := cX9_start) (nL := 2) (ret := none) [(0, .ref hX), (1, .int a)] (by decide) rfl (Nat.le_of_ble_eq_true rfl) rfl ?_
  intro p e s m below meth c C0 hP hK hD hS hZ ls hl
  exact w_X9_start dC dI cI cJ hX x1 x2 x3 x4 x5 x6 x7 x8 a xt xw xp xs xc xM xE xL xo xi xj xk xn xz xa xg xmw xmp xr xd xwt xf xrd xu C0 hK hZ rfl ls hl hP hD hS

-- X9_sum
def F_X9_sum_23 (v0 : Int64) (v2 : Int64) (v4 : Int64) (t0 : Int64) : Int64 :=
  (if t0 = v4 then (if v0 = v4 then (if v2 = v4 then t0 else (0 : Int64)) else (0 : Int64)) else t0)
def F_X9_sum (a : Int64) (b : Int64) (mk : Int64) : Int64 :=
  (if (a + b) ≤ mk then (F_X9_sum_23 a b mk (a + b)) else (F_X9_sum_23 a b mk ((a + b) - mk)))
abbrev rm_X9_sum : Room := { frames := 0, cells := 0, slots := 0, locals := 0 }
set_option maxHeartbeats 4000000 in
set_option maxRecDepth 100000 in
theorem j_X9_sum_23 {p : Program} {l : Launch} {e : Env} {s : State} {m : MethodId} {below : List Frame} {meth : Method} {c : Code} {args : Array Value} (dC : Nat → ClassId) (dI : Nat → Nat → Nat) (cI cJ : ClassId) (a : Int64) (b : Int64) (mk : Int64) (C0 : Cx p s m meth c cX9_sum 8 (some .long) wsX9_sum RX9 args) (hK : va_K (dC, dI) vwCl [(cI, .int), (cJ, .long)] s) (hP : va_P (dC, dI) vwCl [] s.heap) (v0 : Int64) (v2 : Int64) (v4 : Int64) (t0 : Int64) {V : Int64} (hV : (F_X9_sum_23 v0 v2 v4 t0) = V) (ls : Array Slot) (hl : lv_has ls 8 [(0, .long v0), (2, .long v2), (4, .long v4)]) : W p l e rm_X9_sum s m args below meth c s.heap [] 0 0 (MQ below (vp_Sl (fun r => r = V)) args s 0 0 (fun _ => False)) (F0 m 23 ls [.long t0]) := by
  obtain ⟨hx, hb, hr, hlk, hml, hown, hts⟩ := id C0
  refine lv_lstore (lv' := [(6, .long t0), (0, .long v0), (2, .long v2), (4, .long v4)]) hx hb dX9_sum_23 hl (by decide) rfl (fun ls hl => ?_)
  refine lv_lload hx hb dX9_sum_25 (lv_at hl 0 rfl) ?_
  refine lv_lload hx hb dX9_sum_27 (lv_at hl 3 rfl) ?_
  refine lc_ne (x := t0) (y := v4) (tgt := 51) hx hb dX9_sum_29 dX9_sum_30 (by decide) (fun c1 => ?_) (fun c1 => ?_)
  · refine lv_lload hx hb dX9_sum_51 (lv_at hl 0 rfl) ?_
    have e9 : (F_X9_sum_23 v0 v2 v4 t0) = t0 := by rw [F_X9_sum_23, if_neg c1]
    rw [e9] at hV
    subst hV
    exact roRetL C0 rfl dX9_sum_53
  · refine lv_lload_n hx hb dX9_sum_33 rfl (lv_at hl 1 rfl) ?_
    refine lv_lload hx hb dX9_sum_34 (lv_at hl 3 rfl) ?_
    refine lc_ne (x := v0) (y := v4) (tgt := 47) hx hb dX9_sum_36 dX9_sum_37 (by decide) (fun c2 => ?_) (fun c2 => ?_)
    · refine lv_lconst (v := (0 : Int64)) hx hb dX9_sum_47 (by decide) ?_
      refine lv_goto (tgt := 53) hx hb dX9_sum_48 (by decide) ?_
      have e9 : (F_X9_sum_23 v0 v2 v4 t0) = (0 : Int64) := by rw [F_X9_sum_23, if_pos c1, if_neg c2]
      rw [e9] at hV
      subst hV
      exact roRetL C0 rfl dX9_sum_53
    · refine lv_lload_n hx hb dX9_sum_40 rfl (lv_at hl 2 rfl) ?_
      refine lv_lload hx hb dX9_sum_41 (lv_at hl 3 rfl) ?_
      refine lc_eq (x := v2) (y := v4) (tgt := 51) hx hb dX9_sum_43 dX9_sum_44 (by decide) (fun c3 => ?_) (fun c3 => ?_)
      · refine lv_lload hx hb dX9_sum_51 (lv_at hl 0 rfl) ?_
        have e9 : (F_X9_sum_23 v0 v2 v4 t0) = t0 := by rw [F_X9_sum_23, if_pos c1, if_pos c2, if_pos c3]
        rw [e9] at hV
        subst hV
        exact roRetL C0 rfl dX9_sum_53
      · refine lv_lconst (v := (0 : Int64)) hx hb dX9_sum_47 (by decide) ?_
        refine lv_goto (tgt := 53) hx hb dX9_sum_48 (by decide) ?_
        have e9 : (F_X9_sum_23 v0 v2 v4 t0) = (0 : Int64) := by rw [F_X9_sum_23, if_pos c1, if_pos c2, if_neg c3]
        rw [e9] at hV
        subst hV
        exact roRetL C0 rfl dX9_sum_53
set_option maxHeartbeats 4000000 in
set_option maxRecDepth 100000 in
theorem w_X9_sum {p : Program} {l : Launch} {e : Env} {s : State} {m : MethodId} {below : List Frame} {meth : Method} {c : Code} {args : Array Value} (dC : Nat → ClassId) (dI : Nat → Nat → Nat) (cI cJ : ClassId) (a : Int64) (b : Int64) (mk : Int64) (C0 : Cx p s m meth c cX9_sum 8 (some .long) wsX9_sum RX9 args) (hK : va_K (dC, dI) vwCl [(cI, .int), (cJ, .long)] s) (hP : va_P (dC, dI) vwCl [] s.heap) {V : Int64} (hV : (F_X9_sum a b mk ) = V) (ls : Array Slot) (hl : lv_has ls 8 [(0, .long a), (2, .long b), (4, .long mk)]) : W p l e rm_X9_sum s m args below meth c s.heap [] 0 0 (MQ below (vp_Sl (fun r => r = V)) args s 0 0 (fun _ => False)) (F0 m 0 ls []) := by
  obtain ⟨hx, hb, hr, hlk, hml, hown, hts⟩ := id C0
  refine lv_lload_n hx hb dX9_sum_0 rfl (lv_at hl 0 rfl) ?_
  refine lv_lload_n hx hb dX9_sum_1 rfl (lv_at hl 1 rfl) ?_
  refine lv_ladd hx hb dX9_sum_2 ?_
  refine lv_lstore (lv' := [(6, .long (a + b)), (0, .long a), (2, .long b), (4, .long mk)]) hx hb dX9_sum_3 hl (by decide) rfl (fun ls hl => ?_)
  refine lv_lload hx hb dX9_sum_5 (lv_at hl 0 rfl) ?_
  refine lv_lload hx hb dX9_sum_7 (lv_at hl 3 rfl) ?_
  refine lc_le (x := (a + b)) (y := mk) (tgt := 21) hx hb dX9_sum_9 dX9_sum_10 (by decide) (fun c1 => ?_) (fun c1 => ?_)
  · refine lv_lload hx hb dX9_sum_21 (lv_at hl 0 rfl) ?_
    have e9 : (F_X9_sum a b mk ) = (F_X9_sum_23 a b mk (a + b)) := by rw [F_X9_sum, if_pos c1]
    rw [e9] at hV
    exact j_X9_sum_23 dC dI cI cJ a b mk C0 hK hP a b mk (a + b) hV ls (lv_sub hl [1, 2, 3] rfl)
  · refine lv_lload hx hb dX9_sum_13 (lv_at hl 0 rfl) ?_
    refine lv_lload hx hb dX9_sum_15 (lv_at hl 3 rfl) ?_
    refine lv_lsub hx hb dX9_sum_17 ?_
    refine lv_goto (tgt := 23) hx hb dX9_sum_18 (by decide) ?_
    have e9 : (F_X9_sum a b mk ) = (F_X9_sum_23 a b mk ((a + b) - mk)) := by rw [F_X9_sum, if_neg c1]
    rw [e9] at hV
    exact j_X9_sum_23 dC dI cI cJ a b mk C0 hK hP a b mk ((a + b) - mk) hV ls (lv_sub hl [1, 2, 3] rfl)
theorem c_X9_sum (l : Launch) (dC : Nat → ClassId) (dI : Nat → Nat → Nat) (cI cJ : ClassId) (a : Int64) (b : Int64) (mk : Int64) : RoL l yX9_sum wsX9_sum rm_X9_sum (dC, dI) [(cI, .int), (cJ, .long)] [] [.long a, .long b, .long mk] (F_X9_sum a b mk ) := by
  refine RoL.mk (cc := cX9_sum) (nL := 8) (ret := (some .long)) [(0, .long a), (2, .long b), (4, .long mk)] (by decide) rfl (Nat.le_of_ble_eq_true rfl) rfl ?_
  intro p e s m below meth c C0 hP hK ls hl
  exact w_X9_sum dC dI cI cJ a b mk C0 hK hP rfl ls hl

-- X9_less
def F_X9_less (a : Int64) (b : Int64) (mk : Int64) : Int64 :=
  (F_X9_sum a (mk - b) mk)
abbrev rm_X9_less : Room := { frames := 1, cells := 0, slots := 0, locals := 27 }
set_option maxRecDepth 20000 in
theorem mm_X9_less_iX9 : Cond.initialized RX9 ∈ wsX9_less := by decide +kernel
set_option maxRecDepth 20000 in
theorem mm_X9_less_l56 : Cond.methodLink RX9 56 yX9_sum ∈ wsX9_less := by decide +kernel
set_option maxRecDepth 20000 in
theorem mm_X9_less_tX9_sum : Cond.static yX9_sum ∈ wsX9_less := by decide +kernel
set_option maxHeartbeats 4000000 in
set_option maxRecDepth 100000 in
theorem w_X9_less {p : Program} {l : Launch} {e : Env} {s : State} {m : MethodId} {below : List Frame} {meth : Method} {c : Code} {args : Array Value} (dC : Nat → ClassId) (dI : Nat → Nat → Nat) (cI cJ : ClassId) (a : Int64) (b : Int64) (mk : Int64) (C0 : Cx p s m meth c cX9_less 6 (some .long) wsX9_less RX9 args) (hK : va_K (dC, dI) vwCl [(cI, .int), (cJ, .long)] s) (hP : va_P (dC, dI) vwCl [] s.heap) {V : Int64} (hV : (F_X9_less a b mk ) = V) (ls : Array Slot) (hl : lv_has ls 6 [(0, .long a), (2, .long b), (4, .long mk)]) : W p l e rm_X9_less s m args below meth c s.heap [] 0 0 (MQ below (vp_Sl (fun r => r = V)) args s 0 0 (fun _ => False)) (F0 m 0 ls []) := by
  obtain ⟨hx, hb, hr, hlk, hml, hown, hts⟩ := id C0
  refine lv_lload_n hx hb dX9_less_0 rfl (lv_at hl 0 rfl) ?_
  refine lv_lload hx hb dX9_less_1 (lv_at hl 2 rfl) ?_
  refine lv_lload_n hx hb dX9_less_3 rfl (lv_at hl 1 rfl) ?_
  refine lv_lsub hx hb dX9_less_4 ?_
  refine lv_lload hx hb dX9_less_5 (lv_at hl 2 rfl) ?_
  refine roSl (As := [.long a, .long (mk - b), .long mk]) (rest := []) (bytes := cX9_sum) (maxL := 8) (rty := (some .long)) (n := 3) C0 (c_X9_sum l dC dI cI cJ a (mk - b) mk) ⟨rfl, rfl, rfl, by decide +kernel, by decide, by decide⟩ ggX9_less_X9_sum mm_X9_less_iX9 mm_X9_less_l56 mm_X9_less_tX9_sum (hP.sub (ws' := []) [] rfl) hK hl.1 rfl rfl (Nat.le_of_ble_eq_true rfl) dX9_less_7 ⟨Nat.zero_le _, Nat.zero_le _⟩ ?_
  have e9 : (F_X9_less a b mk ) = (F_X9_sum a (mk - b) mk) := by rw [F_X9_less]
  rw [e9] at hV
  subst hV
  exact roRetL C0 rfl dX9_less_10
theorem c_X9_less (l : Launch) (dC : Nat → ClassId) (dI : Nat → Nat → Nat) (cI cJ : ClassId) (a : Int64) (b : Int64) (mk : Int64) : RoL l yX9_less wsX9_less rm_X9_less (dC, dI) [(cI, .int), (cJ, .long)] [] [.long a, .long b, .long mk] (F_X9_less a b mk ) := by
  refine RoL.mk (cc := cX9_less) (nL := 6) (ret := (some .long)) [(0, .long a), (2, .long b), (4, .long mk)] (by decide) rfl (Nat.le_of_ble_eq_true rfl) rfl ?_
  intro p e s m below meth c C0 hP hK ls hl
  exact w_X9_less dC dI cI cJ a b mk C0 hK hP rfl ls hl

-- X9_signed
def F_X9_signed (a : Int64) (mk : Int64) : Int64 :=
  (if a ≤ (mk / (2 : Int64)) then a else (a - mk))
abbrev rm_X9_signed : Room := { frames := 0, cells := 0, slots := 0, locals := 0 }
set_option maxRecDepth 20000 in
theorem mm_X9_signed_k60 : Cond.constantLong RX9 60 (2) ∈ wsX9_signed := by decide +kernel
set_option maxHeartbeats 4000000 in
set_option maxRecDepth 100000 in
theorem w_X9_signed {p : Program} {l : Launch} {e : Env} {s : State} {m : MethodId} {below : List Frame} {meth : Method} {c : Code} {args : Array Value} (dC : Nat → ClassId) (dI : Nat → Nat → Nat) (cI cJ : ClassId) (a : Int64) (mk : Int64) (C0 : Cx p s m meth c cX9_signed 4 (some .long) wsX9_signed RX9 args) (hK : va_K (dC, dI) vwCl [(cI, .int), (cJ, .long)] s) (hP : va_P (dC, dI) vwCl [] s.heap) {V : Int64} (hV : (F_X9_signed a mk ) = V) (ls : Array Slot) (hl : lv_has ls 4 [(0, .long a), (2, .long mk)]) : W p l e rm_X9_signed s m args below meth c s.heap [] 0 0 (MQ below (vp_Sl (fun r => r = V)) args s 0 0 (fun _ => False)) (F0 m 0 ls []) := by
  obtain ⟨hx, hb, hr, hlk, hml, hown, hts⟩ := id C0
  refine lv_lload_n hx hb dX9_signed_0 rfl (lv_at hl 0 rfl) ?_
  refine lv_lload_n hx hb dX9_signed_1 rfl (lv_at hl 1 rfl) ?_
  refine lv_ldc2 (v := (2 : Int64)) hx hb hown (hts _ mm_X9_signed_k60) dX9_signed_2 ?_
  refine lv_ldiv hx hb dX9_signed_5 (by decide) ?_
  refine lc_le (x := a) (y := (mk / (2 : Int64))) (tgt := 16) hx hb dX9_signed_6 dX9_signed_7 (by decide) (fun c1 => ?_) (fun c1 => ?_)
  · refine lv_lload_n hx hb dX9_signed_16 rfl (lv_at hl 0 rfl) ?_
    have e9 : (F_X9_signed a mk ) = a := by rw [F_X9_signed, if_pos c1]
    rw [e9] at hV
    subst hV
    exact roRetL C0 rfl dX9_signed_17
  · refine lv_lload_n hx hb dX9_signed_10 rfl (lv_at hl 0 rfl) ?_
    refine lv_lload_n hx hb dX9_signed_11 rfl (lv_at hl 1 rfl) ?_
    refine lv_lsub hx hb dX9_signed_12 ?_
    refine lv_goto (tgt := 17) hx hb dX9_signed_13 (by decide) ?_
    have e9 : (F_X9_signed a mk ) = (a - mk) := by rw [F_X9_signed, if_neg c1]
    rw [e9] at hV
    subst hV
    exact roRetL C0 rfl dX9_signed_17
theorem c_X9_signed (l : Launch) (dC : Nat → ClassId) (dI : Nat → Nat → Nat) (cI cJ : ClassId) (a : Int64) (mk : Int64) : RoL l yX9_signed wsX9_signed rm_X9_signed (dC, dI) [(cI, .int), (cJ, .long)] [] [.long a, .long mk] (F_X9_signed a mk ) := by
  refine RoL.mk (cc := cX9_signed) (nL := 4) (ret := (some .long)) [(0, .long a), (2, .long mk)] (by decide) rfl (Nat.le_of_ble_eq_true rfl) rfl ?_
  intro p e s m below meth c C0 hP hK ls hl
  exact w_X9_signed dC dI cI cJ a mk C0 hK hP rfl ls hl

-- X9_extended
def F_X9_extended (a : Int64) : Int64 :=
  (if a ≤ (131071 : Int64) then a else (a ||| (1152921504606584832 : Int64)))
abbrev rm_X9_extended : Room := { frames := 0, cells := 0, slots := 0, locals := 0 }
set_option maxRecDepth 20000 in
theorem mm_X9_extended_k62 : Cond.constantLong RX9 62 (131071) ∈ wsX9_extended := by decide +kernel
set_option maxRecDepth 20000 in
theorem mm_X9_extended_k64 : Cond.constantLong RX9 64 (1152921504606584832) ∈ wsX9_extended := by decide +kernel
set_option maxHeartbeats 4000000 in
set_option maxRecDepth 100000 in
theorem w_X9_extended {p : Program} {l : Launch} {e : Env} {s : State} {m : MethodId} {below : List Frame} {meth : Method} {c : Code} {args : Array Value} (dC : Nat → ClassId) (dI : Nat → Nat → Nat) (cI cJ : ClassId) (a : Int64) (C0 : Cx p s m meth c cX9_extended 2 (some .long) wsX9_extended RX9 args) (hK : va_K (dC, dI) vwCl [(cI, .int), (cJ, .long)] s) (hP : va_P (dC, dI) vwCl [] s.heap) {V : Int64} (hV : (F_X9_extended a ) = V) (ls : Array Slot) (hl : lv_has ls 2 [(0, .long a)]) : W p l e rm_X9_extended s m args below meth c s.heap [] 0 0 (MQ below (vp_Sl (fun r => r = V)) args s 0 0 (fun _ => False)) (F0 m 0 ls []) := by
  obtain ⟨hx, hb, hr, hlk, hml, hown, hts⟩ := id C0
  refine lv_lload_n hx hb dX9_extended_0 rfl (lv_at hl 0 rfl) ?_
  refine lv_ldc2 (v := (131071 : Int64)) hx hb hown (hts _ mm_X9_extended_k62) dX9_extended_1 ?_
  refine lc_le (x := a) (y := (131071 : Int64)) (tgt := 16) hx hb dX9_extended_4 dX9_extended_5 (by decide) (fun c1 => ?_) (fun c1 => ?_)
  · refine lv_lload_n hx hb dX9_extended_16 rfl (lv_at hl 0 rfl) ?_
    have e9 : (F_X9_extended a ) = a := by rw [F_X9_extended, if_pos c1]
    rw [e9] at hV
    subst hV
    exact roRetL C0 rfl dX9_extended_17
  · refine lv_lload_n hx hb dX9_extended_8 rfl (lv_at hl 0 rfl) ?_
    refine lv_ldc2 (v := (1152921504606584832 : Int64)) hx hb hown (hts _ mm_X9_extended_k64) dX9_extended_9 ?_
    refine lv_lor hx hb dX9_extended_12 ?_
    refine lv_goto (tgt := 17) hx hb dX9_extended_13 (by decide) ?_
    have e9 : (F_X9_extended a ) = (a ||| (1152921504606584832 : Int64)) := by rw [F_X9_extended, if_neg c1]
    rw [e9] at hV
    subst hV
    exact roRetL C0 rfl dX9_extended_17
theorem c_X9_extended (l : Launch) (dC : Nat → ClassId) (dI : Nat → Nat → Nat) (cI cJ : ClassId) (a : Int64) : RoL l yX9_extended wsX9_extended rm_X9_extended (dC, dI) [(cI, .int), (cJ, .long)] [] [.long a] (F_X9_extended a ) := by
  refine RoL.mk (cc := cX9_extended) (nL := 2) (ret := (some .long)) [(0, .long a)] (by decide) rfl (Nat.le_of_ble_eq_true rfl) rfl ?_
  intro p e s m below meth c C0 hP hK ls hl
  exact w_X9_extended dC dI cI cJ a C0 hK hP rfl ls hl

-- X9_later
def F_X9_later (a : Int64) (b : Int64) : Int64 :=
  (if a ≤ b then b else a)
abbrev rm_X9_later : Room := { frames := 0, cells := 0, slots := 0, locals := 0 }
set_option maxHeartbeats 4000000 in
set_option maxRecDepth 100000 in
theorem w_X9_later {p : Program} {l : Launch} {e : Env} {s : State} {m : MethodId} {below : List Frame} {meth : Method} {c : Code} {args : Array Value} (dC : Nat → ClassId) (dI : Nat → Nat → Nat) (cI cJ : ClassId) (a : Int64) (b : Int64) (C0 : Cx p s m meth c cX9_later 4 (some .long) wsX9_later RX9 args) (hK : va_K (dC, dI) vwCl [(cI, .int), (cJ, .long)] s) (hP : va_P (dC, dI) vwCl [] s.heap) {V : Int64} (hV : (F_X9_later a b ) = V) (ls : Array Slot) (hl : lv_has ls 4 [(0, .long a), (2, .long b)]) : W p l e rm_X9_later s m args below meth c s.heap [] 0 0 (MQ below (vp_Sl (fun r => r = V)) args s 0 0 (fun _ => False)) (F0 m 0 ls []) := by
  obtain ⟨hx, hb, hr, hlk, hml, hown, hts⟩ := id C0
  refine lv_lload_n hx hb dX9_later_0 rfl (lv_at hl 0 rfl) ?_
  refine lv_lload_n hx hb dX9_later_1 rfl (lv_at hl 1 rfl) ?_
  refine lc_le (x := a) (y := b) (tgt := 10) hx hb dX9_later_2 dX9_later_3 (by decide) (fun c1 => ?_) (fun c1 => ?_)
  · refine lv_lload_n hx hb dX9_later_10 rfl (lv_at hl 1 rfl) ?_
    have e9 : (F_X9_later a b ) = b := by rw [F_X9_later, if_pos c1]
    rw [e9] at hV
    subst hV
    exact roRetL C0 rfl dX9_later_11
  · refine lv_lload_n hx hb dX9_later_6 rfl (lv_at hl 0 rfl) ?_
    refine lv_goto (tgt := 11) hx hb dX9_later_7 (by decide) ?_
    have e9 : (F_X9_later a b ) = a := by rw [F_X9_later, if_neg c1]
    rw [e9] at hV
    subst hV
    exact roRetL C0 rfl dX9_later_11
theorem c_X9_later (l : Launch) (dC : Nat → ClassId) (dI : Nat → Nat → Nat) (cI cJ : ClassId) (a : Int64) (b : Int64) : RoL l yX9_later wsX9_later rm_X9_later (dC, dI) [(cI, .int), (cJ, .long)] [] [.long a, .long b] (F_X9_later a b ) := by
  refine RoL.mk (cc := cX9_later) (nL := 4) (ret := (some .long)) [(0, .long a), (2, .long b)] (by decide) rfl (Nat.le_of_ble_eq_true rfl) rfl ?_
  intro p e s m below meth c C0 hP hK ls hl
  exact w_X9_later dC dI cI cJ a b C0 hK hP rfl ls hl

-- X9_hasNumber
def F_X9_hasNumber_10 (v0 : Int32) : Int32 :=
  (if v0 < (40 : Int32) then (0 : Int32) else (if (64 : Int32) ≤ v0 then (0 : Int32) else (if (3 : Int32) ≤ (v0 - v0 / (8 : Int32) * (8 : Int32)) then (0 : Int32) else (1 : Int32))))
def F_X9_hasNumber (o : Int32) : Int32 :=
  (if o ≤ 0 then (F_X9_hasNumber_10 o) else (if o < (8 : Int32) then (1 : Int32) else (F_X9_hasNumber_10 o)))
abbrev rm_X9_hasNumber : Room := { frames := 0, cells := 0, slots := 0, locals := 0 }
set_option maxHeartbeats 4000000 in
set_option maxRecDepth 100000 in
theorem j_X9_hasNumber_10 {p : Program} {l : Launch} {e : Env} {s : State} {m : MethodId} {below : List Frame} {meth : Method} {c : Code} {args : Array Value} (dC : Nat → ClassId) (dI : Nat → Nat → Nat) (cI cJ : ClassId) (o : Int32) (C0 : Cx p s m meth c cX9_hasNumber 1 (some .boolean) wsX9_hasNumber RX9 args) (hK : va_K (dC, dI) vwCl [(cI, .int), (cJ, .long)] s) (hP : va_P (dC, dI) vwCl [] s.heap) (v0 : Int32) {V : Int32} (hV : (F_X9_hasNumber_10 v0) = V) (ls : Array Slot) (hl : lv_has ls 1 [(0, .int v0)]) : W p l e rm_X9_hasNumber s m args below meth c s.heap [] 0 0 (MQ below (vp_Si (fun r => r = V)) args s 0 0 (fun _ => False)) (F0 m 10 ls []) := by
  obtain ⟨hx, hb, hr, hlk, hml, hown, hts⟩ := id C0
  refine lv_iload_n hx hb dX9_hasNumber_10 rfl (lv_at hl 0 rfl) ?_
  refine lv_bipush (v := (40 : Int32)) hx hb dX9_hasNumber_11 (by decide) ?_
  refine lv_icmp_lt (x := v0) (y := (40 : Int32)) (tgt := 34) hx hb dX9_hasNumber_13 (by decide) (fun c1 => ?_) (fun c1 => ?_)
  · refine lv_iconst (v := (0 : Int32)) hx hb dX9_hasNumber_34 (by decide) ?_
    have e9 : (F_X9_hasNumber_10 v0) = (0 : Int32) := by rw [F_X9_hasNumber_10, if_pos c1]
    rw [e9] at hV
    subst hV
    exact roRetZ C0 rfl rfl dX9_hasNumber_35
  · refine lv_iload_n hx hb dX9_hasNumber_16 rfl (lv_at hl 0 rfl) ?_
    refine lv_bipush (v := (64 : Int32)) hx hb dX9_hasNumber_17 (by decide) ?_
    refine lv_icmp_ge (x := v0) (y := (64 : Int32)) (tgt := 34) hx hb dX9_hasNumber_19 (by decide) (fun c2 => ?_) (fun c2 => ?_)
    · refine lv_iconst (v := (0 : Int32)) hx hb dX9_hasNumber_34 (by decide) ?_
      have e9 : (F_X9_hasNumber_10 v0) = (0 : Int32) := by rw [F_X9_hasNumber_10, if_neg c1, if_pos c2]
      rw [e9] at hV
      subst hV
      exact roRetZ C0 rfl rfl dX9_hasNumber_35
    · refine lv_iload_n hx hb dX9_hasNumber_22 rfl (lv_at hl 0 rfl) ?_
      refine lv_bipush (v := (8 : Int32)) hx hb dX9_hasNumber_23 (by decide) ?_
      refine lv_irem hx hb dX9_hasNumber_25 (by decide) ?_
      refine lv_iconst (v := (3 : Int32)) hx hb dX9_hasNumber_26 (by decide) ?_
      refine lv_icmp_ge (x := (v0 - v0 / (8 : Int32) * (8 : Int32))) (y := (3 : Int32)) (tgt := 34) hx hb dX9_hasNumber_27 (by decide) (fun c3 => ?_) (fun c3 => ?_)
      · refine lv_iconst (v := (0 : Int32)) hx hb dX9_hasNumber_34 (by decide) ?_
        have e9 : (F_X9_hasNumber_10 v0) = (0 : Int32) := by rw [F_X9_hasNumber_10, if_neg c1, if_neg c2, if_pos c3]
        rw [e9] at hV
        subst hV
        exact roRetZ C0 rfl rfl dX9_hasNumber_35
      · refine lv_iconst (v := (1 : Int32)) hx hb dX9_hasNumber_30 (by decide) ?_
        refine lv_goto (tgt := 35) hx hb dX9_hasNumber_31 (by decide) ?_
        have e9 : (F_X9_hasNumber_10 v0) = (1 : Int32) := by rw [F_X9_hasNumber_10, if_neg c1, if_neg c2, if_neg c3]
        rw [e9] at hV
        subst hV
        exact roRetZ C0 rfl rfl dX9_hasNumber_35
set_option maxHeartbeats 4000000 in
set_option maxRecDepth 100000 in
theorem w_X9_hasNumber {p : Program} {l : Launch} {e : Env} {s : State} {m : MethodId} {below : List Frame} {meth : Method} {c : Code} {args : Array Value} (dC : Nat → ClassId) (dI : Nat → Nat → Nat) (cI cJ : ClassId) (o : Int32) (C0 : Cx p s m meth c cX9_hasNumber 1 (some .boolean) wsX9_hasNumber RX9 args) (hK : va_K (dC, dI) vwCl [(cI, .int), (cJ, .long)] s) (hP : va_P (dC, dI) vwCl [] s.heap) {V : Int32} (hV : (F_X9_hasNumber o ) = V) (ls : Array Slot) (hl : lv_has ls 1 [(0, .int o)]) : W p l e rm_X9_hasNumber s m args below meth c s.heap [] 0 0 (MQ below (vp_Si (fun r => r = V)) args s 0 0 (fun _ => False)) (F0 m 0 ls []) := by
  obtain ⟨hx, hb, hr, hlk, hml, hown, hts⟩ := id C0
  refine lv_iload_n hx hb dX9_hasNumber_0 rfl (lv_at hl 0 rfl) ?_
  refine lv_if_le (x := o) (tgt := 10) hx hb dX9_hasNumber_1 (by decide) (fun c1 => ?_) (fun c1 => ?_)
  · have e9 : (F_X9_hasNumber o ) = (F_X9_hasNumber_10 o) := by rw [F_X9_hasNumber, if_pos c1]
    rw [e9] at hV
    exact j_X9_hasNumber_10 dC dI cI cJ o C0 hK hP o hV ls (lv_sub hl [0] rfl)
  · refine lv_iload_n hx hb dX9_hasNumber_4 rfl (lv_at hl 0 rfl) ?_
    refine lv_bipush (v := (8 : Int32)) hx hb dX9_hasNumber_5 (by decide) ?_
    refine lv_icmp_lt (x := o) (y := (8 : Int32)) (tgt := 30) hx hb dX9_hasNumber_7 (by decide) (fun c2 => ?_) (fun c2 => ?_)
    · refine lv_iconst (v := (1 : Int32)) hx hb dX9_hasNumber_30 (by decide) ?_
      refine lv_goto (tgt := 35) hx hb dX9_hasNumber_31 (by decide) ?_
      have e9 : (F_X9_hasNumber o ) = (1 : Int32) := by rw [F_X9_hasNumber, if_neg c1, if_pos c2]
      rw [e9] at hV
      subst hV
      exact roRetZ C0 rfl rfl dX9_hasNumber_35
    · have e9 : (F_X9_hasNumber o ) = (F_X9_hasNumber_10 o) := by rw [F_X9_hasNumber, if_neg c1, if_neg c2]
      rw [e9] at hV
      exact j_X9_hasNumber_10 dC dI cI cJ o C0 hK hP o hV ls (lv_sub hl [0] rfl)
theorem c_X9_hasNumber (l : Launch) (dC : Nat → ClassId) (dI : Nat → Nat → Nat) (cI cJ : ClassId) (o : Int32) : RoI l yX9_hasNumber wsX9_hasNumber rm_X9_hasNumber (dC, dI) [(cI, .int), (cJ, .long)] [] [.int o] (F_X9_hasNumber o ) := by
  refine RoI.mk (cc := cX9_hasNumber) (nL := 1) (ret := (some .boolean)) [(0, .int o)] (by decide) rfl (Nat.le_of_ble_eq_true rfl) rfl ?_
  intro p e s m below meth c C0 hP hK ls hl
  exact w_X9_hasNumber dC dI cI cJ o C0 hK hP rfl ls hl

-- X9_round
def F_X9_round_5 : Nat → Int32 → Int64 → Int32 → Int64
  | 0, v2, v3, v5 => 0
  | fuel + 1, v2, v3, v5 => (if (v2 - v2 / (60 : Int32) * (60 : Int32)) ≤ v5 then v3 else (F_X9_round_5 fuel v2 (((v3 <<< ((1 : Int32).toInt64 &&& 63)) &&& (1152921504606846975 : Int64)) ||| (v3 >>> ((59 : Int32).toInt64 &&& 63))) (v5 + (1 : Int32))))
def F_X9_round (a : Int64) (n : Int32) : Int64 :=
  (F_X9_round_5 61 n a (0 : Int32))
abbrev rm_X9_round : Room := { frames := 0, cells := 0, slots := 0, locals := 0 }
set_option maxRecDepth 20000 in
theorem mm_X9_round_k42 : Cond.constantLong RX9 42 (1152921504606846975) ∈ wsX9_round := by decide +kernel
set_option maxHeartbeats 4000000 in
set_option maxRecDepth 100000 in
theorem j_X9_round_5 {p : Program} {l : Launch} {e : Env} {s : State} {m : MethodId} {below : List Frame} {meth : Method} {c : Code} {args : Array Value} (dC : Nat → ClassId) (dI : Nat → Nat → Nat) (cI cJ : ClassId) (a : Int64) (n : Int32) (C0 : Cx p s m meth c cX9_round 6 (some .long) wsX9_round RX9 args) (hK : va_K (dC, dI) vwCl [(cI, .int), (cJ, .long)] s) (hP : va_P (dC, dI) vwCl [] s.heap) (hn : M64 n) {V : Int64} : ∀ (fuel : Nat) (v2 : Int32) (v3 : Int64) (v5 : Int32), Lp (v2 - v2 / (60 : Int32) * (60 : Int32)) v5 fuel → (F_X9_round_5 fuel v2 v3 v5) = V → ∀ ls : Array Slot, lv_has ls 6 [(2, .int v2), (3, .long v3), (5, .int v5)] → W p l e rm_X9_round s m args below meth c s.heap [] 0 0 (MQ below (vp_Sl (fun r => r = V)) args s 0 0 (fun _ => False)) (F0 m 5 ls []) := by
  obtain ⟨hx, hb, hr, hlk, hml, hown, hts⟩ := id C0
  intro fuel
  induction fuel with
  | zero =>
    intro v2 v3 v5 g0
    exact absurd g0 (by exact Lp.zero)
  | succ fuel ih =>
    intro v2 v3 v5 g0 hV ls hl
    refine lv_iload hx hb dX9_round_5 (lv_at hl 2 rfl) ?_
    refine lv_iload_n hx hb dX9_round_7 rfl (lv_at hl 0 rfl) ?_
    refine lv_bipush (v := (60 : Int32)) hx hb dX9_round_8 (by decide) ?_
    refine lv_irem hx hb dX9_round_10 (by decide) ?_
    refine lv_icmp_ge (x := v5) (y := (v2 - v2 / (60 : Int32) * (60 : Int32))) (tgt := 33) hx hb dX9_round_11 (by decide) (fun c1 => ?_) (fun c1 => ?_)
    · refine lv_lload_n hx hb dX9_round_33 rfl (lv_at hl 1 rfl) ?_
      have e9 : (F_X9_round_5 (fuel + 1) v2 v3 v5) = v3 := by rw [F_X9_round_5, if_pos c1]
      rw [e9] at hV
      subst hV
      exact roRetL C0 rfl dX9_round_34
    · refine lv_lload_n hx hb dX9_round_14 rfl (lv_at hl 1 rfl) ?_
      refine lv_iconst (v := (1 : Int32)) hx hb dX9_round_15 (by decide) ?_
      refine lv_lshl hx hb dX9_round_16 rfl ?_
      refine lv_ldc2 (v := (1152921504606846975 : Int64)) hx hb hown (hts _ mm_X9_round_k42) dX9_round_17 ?_
      refine lv_land hx hb dX9_round_20 ?_
      refine lv_lload_n hx hb dX9_round_21 rfl (lv_at hl 1 rfl) ?_
      refine lv_bipush (v := (59 : Int32)) hx hb dX9_round_22 (by decide) ?_
      refine lv_lshr hx hb dX9_round_24 rfl ?_
      refine lv_lor hx hb dX9_round_25 ?_
      refine lv_lstore_n (lv' := [(3, .long (((v3 <<< ((1 : Int32).toInt64 &&& 63)) &&& (1152921504606846975 : Int64)) ||| (v3 >>> ((59 : Int32).toInt64 &&& 63)))), (2, .int v2), (5, .int v5)]) hx hb dX9_round_26 rfl hl (by decide) rfl (fun ls hl => ?_)
      refine lv_iinc (v := (v5 + (1 : Int32))) (lv' := [(5, .int (v5 + (1 : Int32))), (3, .long (((v3 <<< ((1 : Int32).toInt64 &&& 63)) &&& (1152921504606846975 : Int64)) ||| (v3 >>> ((59 : Int32).toInt64 &&& 63)))), (2, .int v2)]) hx hb dX9_round_27 hl (k := 2) rfl rfl (by decide) rfl (fun ls hl => ?_)
      refine lv_goto (tgt := 5) hx hb dX9_round_30 (by decide) ?_
      have e9 : (F_X9_round_5 (fuel + 1) v2 v3 v5) = (F_X9_round_5 fuel v2 (((v3 <<< ((1 : Int32).toInt64 &&& 63)) &&& (1152921504606846975 : Int64)) ||| (v3 >>> ((59 : Int32).toInt64 &&& 63))) (v5 + (1 : Int32))) := by rw [F_X9_round_5, if_neg c1]
      rw [e9] at hV
      exact ih v2 (((v3 <<< ((1 : Int32).toInt64 &&& 63)) &&& (1152921504606846975 : Int64)) ||| (v3 >>> ((59 : Int32).toInt64 &&& 63))) (v5 + (1 : Int32)) (Lp.step g0 c1) hV ls (lv_sub hl [2, 1, 0] rfl)
set_option maxHeartbeats 4000000 in
set_option maxRecDepth 100000 in
theorem w_X9_round {p : Program} {l : Launch} {e : Env} {s : State} {m : MethodId} {below : List Frame} {meth : Method} {c : Code} {args : Array Value} (dC : Nat → ClassId) (dI : Nat → Nat → Nat) (cI cJ : ClassId) (a : Int64) (n : Int32) (C0 : Cx p s m meth c cX9_round 6 (some .long) wsX9_round RX9 args) (hK : va_K (dC, dI) vwCl [(cI, .int), (cJ, .long)] s) (hP : va_P (dC, dI) vwCl [] s.heap) (hn : M64 n) {V : Int64} (hV : (F_X9_round a n ) = V) (ls : Array Slot) (hl : lv_has ls 6 [(0, .long a), (2, .int n)]) : W p l e rm_X9_round s m args below meth c s.heap [] 0 0 (MQ below (vp_Sl (fun r => r = V)) args s 0 0 (fun _ => False)) (F0 m 0 ls []) := by
  obtain ⟨hx, hb, hr, hlk, hml, hown, hts⟩ := id C0
  refine lv_lload_n hx hb dX9_round_0 rfl (lv_at hl 0 rfl) ?_
  refine lv_lstore_n (lv' := [(3, .long a), (0, .long a), (2, .int n)]) hx hb dX9_round_1 rfl hl (by decide) rfl (fun ls hl => ?_)
  refine lv_iconst (v := (0 : Int32)) hx hb dX9_round_2 (by decide) ?_
  refine lv_istore (lv' := [(5, .int (0 : Int32)), (3, .long a), (0, .long a), (2, .int n)]) hx hb dX9_round_3 hl (by decide) rfl (fun ls hl => ?_)
  have e9 : (F_X9_round a n ) = (F_X9_round_5 61 n a (0 : Int32)) := by rw [F_X9_round]
  rw [e9] at hV
  exact j_X9_round_5 dC dI cI cJ a n C0 hK hP hn 61 n a (0 : Int32) (hn.rem) hV ls (lv_sub hl [3, 1, 0] rfl)
theorem c_X9_round (l : Launch) (dC : Nat → ClassId) (dI : Nat → Nat → Nat) (cI cJ : ClassId) (a : Int64) (n : Int32) (hn : M64 n) : RoL l yX9_round wsX9_round rm_X9_round (dC, dI) [(cI, .int), (cJ, .long)] [] [.long a, .int n] (F_X9_round a n ) := by
  refine RoL.mk (cc := cX9_round) (nL := 6) (ret := (some .long)) [(0, .long a), (2, .int n)] (by decide) rfl (Nat.le_of_ble_eq_true rfl) rfl ?_
  intro p e s m below meth c C0 hP hK ls hl
  exact w_X9_round dC dI cI cJ a n C0 hK hP hn rfl ls hl

-- X9_right
def F_X9_right_5 : Nat → Int32 → Int64 → Int32 → Int64
  | 0, v2, v3, v5 => 0
  | fuel + 1, v2, v3, v5 => (if v2 ≤ v5 then v3 else (F_X9_right_5 fuel v2 ((v3 >>> ((1 : Int32).toInt64 &&& 63)) ||| (v3 &&& (576460752303423488 : Int64))) (v5 + (1 : Int32))))
def F_X9_right (a : Int64) (n : Int32) : Int64 :=
  (F_X9_right_5 65 n a (0 : Int32))
abbrev rm_X9_right : Room := { frames := 0, cells := 0, slots := 0, locals := 0 }
set_option maxRecDepth 20000 in
theorem mm_X9_right_k66 : Cond.constantLong RX9 66 (576460752303423488) ∈ wsX9_right := by decide +kernel
set_option maxHeartbeats 4000000 in
set_option maxRecDepth 100000 in
theorem j_X9_right_5 {p : Program} {l : Launch} {e : Env} {s : State} {m : MethodId} {below : List Frame} {meth : Method} {c : Code} {args : Array Value} (dC : Nat → ClassId) (dI : Nat → Nat → Nat) (cI cJ : ClassId) (a : Int64) (n : Int32) (C0 : Cx p s m meth c cX9_right 6 (some .long) wsX9_right RX9 args) (hK : va_K (dC, dI) vwCl [(cI, .int), (cJ, .long)] s) (hP : va_P (dC, dI) vwCl [] s.heap) (hn : M64 n) {V : Int64} : ∀ (fuel : Nat) (v2 : Int32) (v3 : Int64) (v5 : Int32), Lp v2 v5 fuel → (F_X9_right_5 fuel v2 v3 v5) = V → ∀ ls : Array Slot, lv_has ls 6 [(2, .int v2), (3, .long v3), (5, .int v5)] → W p l e rm_X9_right s m args below meth c s.heap [] 0 0 (MQ below (vp_Sl (fun r => r = V)) args s 0 0 (fun _ => False)) (F0 m 5 ls []) := by
  obtain ⟨hx, hb, hr, hlk, hml, hown, hts⟩ := id C0
  intro fuel
  induction fuel with
  | zero =>
    intro v2 v3 v5 g0
    exact absurd g0 (by exact Lp.zero)
  | succ fuel ih =>
    intro v2 v3 v5 g0 hV ls hl
    refine lv_iload hx hb dX9_right_5 (lv_at hl 2 rfl) ?_
    refine lv_iload_n hx hb dX9_right_7 rfl (lv_at hl 0 rfl) ?_
    refine lv_icmp_ge (x := v5) (y := v2) (tgt := 27) hx hb dX9_right_8 (by decide) (fun c1 => ?_) (fun c1 => ?_)
    · refine lv_lload_n hx hb dX9_right_27 rfl (lv_at hl 1 rfl) ?_
      have e9 : (F_X9_right_5 (fuel + 1) v2 v3 v5) = v3 := by rw [F_X9_right_5, if_pos c1]
      rw [e9] at hV
      subst hV
      exact roRetL C0 rfl dX9_right_28
    · refine lv_lload_n hx hb dX9_right_11 rfl (lv_at hl 1 rfl) ?_
      refine lv_iconst (v := (1 : Int32)) hx hb dX9_right_12 (by decide) ?_
      refine lv_lshr hx hb dX9_right_13 rfl ?_
      refine lv_lload_n hx hb dX9_right_14 rfl (lv_at hl 1 rfl) ?_
      refine lv_ldc2 (v := (576460752303423488 : Int64)) hx hb hown (hts _ mm_X9_right_k66) dX9_right_15 ?_
      refine lv_land hx hb dX9_right_18 ?_
      refine lv_lor hx hb dX9_right_19 ?_
      refine lv_lstore_n (lv' := [(3, .long ((v3 >>> ((1 : Int32).toInt64 &&& 63)) ||| (v3 &&& (576460752303423488 : Int64)))), (2, .int v2), (5, .int v5)]) hx hb dX9_right_20 rfl hl (by decide) rfl (fun ls hl => ?_)
      refine lv_iinc (v := (v5 + (1 : Int32))) (lv' := [(5, .int (v5 + (1 : Int32))), (3, .long ((v3 >>> ((1 : Int32).toInt64 &&& 63)) ||| (v3 &&& (576460752303423488 : Int64)))), (2, .int v2)]) hx hb dX9_right_21 hl (k := 2) rfl rfl (by decide) rfl (fun ls hl => ?_)
      refine lv_goto (tgt := 5) hx hb dX9_right_24 (by decide) ?_
      have e9 : (F_X9_right_5 (fuel + 1) v2 v3 v5) = (F_X9_right_5 fuel v2 ((v3 >>> ((1 : Int32).toInt64 &&& 63)) ||| (v3 &&& (576460752303423488 : Int64))) (v5 + (1 : Int32))) := by rw [F_X9_right_5, if_neg c1]
      rw [e9] at hV
      exact ih v2 ((v3 >>> ((1 : Int32).toInt64 &&& 63)) ||| (v3 &&& (576460752303423488 : Int64))) (v5 + (1 : Int32)) (Lp.step g0 c1) hV ls (lv_sub hl [2, 1, 0] rfl)
set_option maxHeartbeats 4000000 in
set_option maxRecDepth 100000 in
theorem w_X9_right {p : Program} {l : Launch} {e : Env} {s : State} {m : MethodId} {below : List Frame} {meth : Method} {c : Code} {args : Array Value} (dC : Nat → ClassId) (dI : Nat → Nat → Nat) (cI cJ : ClassId) (a : Int64) (n : Int32) (C0 : Cx p s m meth c cX9_right 6 (some .long) wsX9_right RX9 args) (hK : va_K (dC, dI) vwCl [(cI, .int), (cJ, .long)] s) (hP : va_P (dC, dI) vwCl [] s.heap) (hn : M64 n) {V : Int64} (hV : (F_X9_right a n ) = V) (ls : Array Slot) (hl : lv_has ls 6 [(0, .long a), (2, .int n)]) : W p l e rm_X9_right s m args below meth c s.heap [] 0 0 (MQ below (vp_Sl (fun r => r = V)) args s 0 0 (fun _ => False)) (F0 m 0 ls []) := by
  obtain ⟨hx, hb, hr, hlk, hml, hown, hts⟩ := id C0
  refine lv_lload_n hx hb dX9_right_0 rfl (lv_at hl 0 rfl) ?_
  refine lv_lstore_n (lv' := [(3, .long a), (0, .long a), (2, .int n)]) hx hb dX9_right_1 rfl hl (by decide) rfl (fun ls hl => ?_)
  refine lv_iconst (v := (0 : Int32)) hx hb dX9_right_2 (by decide) ?_
  refine lv_istore (lv' := [(5, .int (0 : Int32)), (3, .long a), (0, .long a), (2, .int n)]) hx hb dX9_right_3 hl (by decide) rfl (fun ls hl => ?_)
  have e9 : (F_X9_right a n ) = (F_X9_right_5 65 n a (0 : Int32)) := by rw [F_X9_right]
  rw [e9] at hV
  exact j_X9_right_5 dC dI cI cJ a n C0 hK hP hn 65 n a (0 : Int32) (hn.all) hV ls (lv_sub hl [3, 1, 0] rfl)
theorem c_X9_right (l : Launch) (dC : Nat → ClassId) (dI : Nat → Nat → Nat) (cI cJ : ClassId) (a : Int64) (n : Int32) (hn : M64 n) : RoL l yX9_right wsX9_right rm_X9_right (dC, dI) [(cI, .int), (cJ, .long)] [] [.long a, .int n] (F_X9_right a n ) := by
  refine RoL.mk (cc := cX9_right) (nL := 6) (ret := (some .long)) [(0, .long a), (2, .int n)] (by decide) rfl (Nat.le_of_ble_eq_true rfl) rfl ?_
  intro p e s m below meth c C0 hP hK ls hl
  exact w_X9_right dC dI cI cJ a n C0 hK hP hn rfl ls hl
