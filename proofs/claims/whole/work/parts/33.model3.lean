theorem mem_in {v : Int64} (h : (0 : Int64) ≤ v) (c : ¬ (512 : Int64) ≤ v) : vp_in v.toInt32 512 := by
  rw [Int64.le_iff_toInt_le] at h c
  have e0 : (0 : Int64).toInt = 0 := rfl
  have e1 : (512 : Int64).toInt = 512 := rfl
  obtain ⟨k, hk, rfl⟩ := pk_lOf (x := v) (by rw [Int64.lt_iff_toInt_lt]; omega)
  rw [pk_lT hk] at h c
  rw [lN_i]
  exact vp_in_nI (by omega) (by decide)
theorem mem_inL {v : Int64} (h : (0 : Int64) ≤ v) (c : v < (512 : Int64)) : vp_in v.toInt32 512 := mem_in h (Int64.not_le.mpr c)
theorem xunit_in (o : Int32) : vp_in (F_X9_unit o) 6 := by
  unfold F_X9_unit
  repeat' split
  all_goals exact vpd (by decide)

-- X9_act
def F_X9_act (xo : Int32) (xi : Int32) (xj : Int32) (xk : Int32) (xn : Int32) (xmw : Nat → Int64) (xr : Nat → Int64) : (Nat → Int64) × (Nat → Int64) :=
  (if (40 : Int32) ≤ xo then (if xo < (56 : Int32) then (if xo < (48 : Int32) then (if (512 : Int64) ≤ (F_X9_placed xo xj xk xn xr) then (if xi ≤ 0 then (if xi ≤ (5 : Int32) then (xmw, (F_X9_set ((8 : Int32) + xi) (F_X9_placed xo xj xk xn xr) xr)) else (if (0 : Int32) = 0 then (xmw, (F_X9_set ((8 : Int32) + xi) (F_X9_placed xo xj xk xn xr) xr)) else ((vp_updL xmw ((F_X9_placed xo xj xk xn xr).toInt32).toNatClampNeg ((F_X9_set ((8 : Int32) + xi) (F_X9_placed xo xj xk xn xr) xr) xi.toNatClampNeg)), (F_X9_set ((8 : Int32) + xi) (F_X9_placed xo xj xk xn xr) xr)))) else (if (6 : Int32) ≤ xi then (if xi ≤ (5 : Int32) then (xmw, (F_X9_set ((8 : Int32) + xi) (F_X9_placed xo xj xk xn xr) xr)) else (if (0 : Int32) = 0 then (xmw, (F_X9_set ((8 : Int32) + xi) (F_X9_placed xo xj xk xn xr) xr)) else ((vp_updL xmw ((F_X9_placed xo xj xk xn xr).toInt32).toNatClampNeg ((F_X9_set ((8 : Int32) + xi) (F_X9_placed xo xj xk xn xr) xr) xi.toNatClampNeg)), (F_X9_set ((8 : Int32) + xi) (F_X9_placed xo xj xk xn xr) xr)))) else (if (0 : Int32) = 0 then (xmw, (F_X9_set xi (0 : Int64) (F_X9_set ((8 : Int32) + xi) (F_X9_placed xo xj xk xn xr) xr))) else (xmw, (F_X9_set xi (xmw ((F_X9_placed xo xj xk xn xr).toInt32).toNatClampNeg) (F_X9_set ((8 : Int32) + xi) (F_X9_placed xo xj xk xn xr) xr)))))) else (if xi ≤ 0 then (if xi ≤ (5 : Int32) then (xmw, (F_X9_set ((8 : Int32) + xi) (F_X9_placed xo xj xk xn xr) xr)) else (if (1 : Int32) = 0 then (xmw, (F_X9_set ((8 : Int32) + xi) (F_X9_placed xo xj xk xn xr) xr)) else ((vp_updL xmw ((F_X9_placed xo xj xk xn xr).toInt32).toNatClampNeg ((F_X9_set ((8 : Int32) + xi) (F_X9_placed xo xj xk xn xr) xr) xi.toNatClampNeg)), (F_X9_set ((8 : Int32) + xi) (F_X9_placed xo xj xk xn xr) xr)))) else (if (6 : Int32) ≤ xi then (if xi ≤ (5 : Int32) then (xmw, (F_X9_set ((8 : Int32) + xi) (F_X9_placed xo xj xk xn xr) xr)) else (if (1 : Int32) = 0 then (xmw, (F_X9_set ((8 : Int32) + xi) (F_X9_placed xo xj xk xn xr) xr)) else ((vp_updL xmw ((F_X9_placed xo xj xk xn xr).toInt32).toNatClampNeg ((F_X9_set ((8 : Int32) + xi) (F_X9_placed xo xj xk xn xr) xr) xi.toNatClampNeg)), (F_X9_set ((8 : Int32) + xi) (F_X9_placed xo xj xk xn xr) xr)))) else (if (1 : Int32) = 0 then (xmw, (F_X9_set xi (0 : Int64) (F_X9_set ((8 : Int32) + xi) (F_X9_placed xo xj xk xn xr) xr))) else (xmw, (F_X9_set xi (xmw ((F_X9_placed xo xj xk xn xr).toInt32).toNatClampNeg) (F_X9_set ((8 : Int32) + xi) (F_X9_placed xo xj xk xn xr) xr))))))) else (xmw, (F_X9_set ((16 : Int32) + xi) (F_X9_placed xo xj xk xn xr) xr))) else (xmw, (F_X9_set xi (F_X9_extended (F_X9_placed xo xj xk xn xr)) xr))) else (xmw, (F_X9_set xi (F_X9_reckoned xo xi xj xk xr) xr)))
abbrev rm_X9_act : Room := { frames := 3, cells := 0, slots := 0, locals := 77 }
set_option maxRecDepth 20000 in
theorem mi_X9_act_X9 : ∀ w ∈ wsX90, w ∈ wsX9_act := by decide +kernel
set_option maxRecDepth 20000 in
theorem mm_X9_act_f16 : Cond.fieldLink RX9 16 "ScoreboardCoreModel" "\x72" "[J" ∈ wsX9_act := by decide +kernel
set_option maxRecDepth 20000 in
theorem mm_X9_act_f68 : Cond.fieldLink RX9 68 "ScoreboardCoreModel" "op" "I" ∈ wsX9_act := by decide +kernel
set_option maxRecDepth 20000 in
theorem mm_X9_act_f7 : Cond.fieldLink RX9 7 "ScoreboardCoreModel" "memory" "[J" ∈ wsX9_act := by decide +kernel
set_option maxRecDepth 20000 in
theorem mm_X9_act_f71 : Cond.fieldLink RX9 71 "ScoreboardCoreModel" "i" "I" ∈ wsX9_act := by decide +kernel
set_option maxRecDepth 20000 in
theorem mm_X9_act_iX9 : Cond.initialized RX9 ∈ wsX9_act := by decide +kernel
set_option maxRecDepth 20000 in
theorem mm_X9_act_k142 : Cond.constantLong RX9 142 (512) ∈ wsX9_act := by decide +kernel
set_option maxRecDepth 20000 in
theorem mm_X9_act_l132 : Cond.methodLink RX9 132 yX9_reckoned ∈ wsX9_act := by decide +kernel
set_option maxRecDepth 20000 in
theorem mm_X9_act_l135 : Cond.methodLink RX9 135 yX9_placed ∈ wsX9_act := by decide +kernel
set_option maxRecDepth 20000 in
theorem mm_X9_act_l138 : Cond.methodLink RX9 138 yX9_extended ∈ wsX9_act := by decide +kernel
set_option maxRecDepth 20000 in
theorem mm_X9_act_l46 : Cond.methodLink RX9 46 yX9_set ∈ wsX9_act := by decide +kernel
set_option maxRecDepth 20000 in
theorem mm_X9_act_nX9_placed : Cond.instanceMethod yX9_placed ∈ wsX9_act := by decide +kernel
set_option maxRecDepth 20000 in
theorem mm_X9_act_nX9_reckoned : Cond.instanceMethod yX9_reckoned ∈ wsX9_act := by decide +kernel
set_option maxRecDepth 20000 in
theorem mm_X9_act_nX9_set : Cond.instanceMethod yX9_set ∈ wsX9_act := by decide +kernel
set_option maxRecDepth 20000 in
theorem mm_X9_act_sX9_placed : Cond.selects RX9 yX9_placed yX9_placed ∈ wsX9_act := by decide +kernel
set_option maxRecDepth 20000 in
theorem mm_X9_act_sX9_reckoned : Cond.selects RX9 yX9_reckoned yX9_reckoned ∈ wsX9_act := by decide +kernel
set_option maxRecDepth 20000 in
theorem mm_X9_act_sX9_set : Cond.selects RX9 yX9_set yX9_set ∈ wsX9_act := by decide +kernel
set_option maxRecDepth 20000 in
theorem mm_X9_act_tX9_extended : Cond.static yX9_extended ∈ wsX9_act := by decide +kernel
set_option maxHeartbeats 4000000 in
set_option maxRecDepth 100000 in
theorem w_X9_act {p : Program} {l : Launch} {e : Env} {s : State} {m : MethodId} {below : List Frame} {meth : Method} {c : Code} {args : Array Value} (dC : Nat → ClassId) (dI : Nat → Nat → Nat) (cI cJ : ClassId) (hX x1 x2 x3 x4 x5 x6 x7 x8 : Nat) (xt : Int32) (xw : Int32) (xp : Int32) (xs : Int32) (xc : Int64) (xM : Int64) (xE : Int64) (xL : Int64) (xo : Int32) (xi : Int32) (xj : Int32) (xk : Int32) (xn : Int32) (xz : Int32) (xa : Int32) (xg : Int32) (xmw : Nat → Int64) (xmp : Nat → Int64) (xr : Nat → Int64) (xd : Nat → Int32) (xwt : Nat → Int64) (xf : Nat → Int64) (xrd : Nat → Int64) (xu : Nat → Int64) {w0 : va_W} (C0 : Cx p s m meth c cX9_act 4 none wsX9_act RX9 args) (hK : va_K (dC, dI) vwCl [(cI, .int), (cJ, .long)] s) (hZ : Zs false (va_A w0 s.heap.size) s s.heap) (hi : R8 xi) (hj : R8 xj) (hk : R8 xk) (hp : (0 : Int64) ≤ (F_X9_placed xo xj xk xn xr)) {V : (Nat → Int64) × (Nat → Int64)} (hV : (F_X9_act xo xi xj xk xn xmw xr ) = V) (ls : Array Slot) (hl : lv_has ls 4 [(0, .ref hX)]) {H : Heap} {locs : List Loc} (hP : va_P (dC, dI) vwCl [(hX, .inr (6, [.int xt, .ref x1, .ref x2, .ref x3, .int xw, .int xp, .int xs, .long xc, .ref x4, .ref x5, .ref x6, .ref x7, .ref x8, .long xM, .long xE, .long xL, .int xo, .int xi, .int xj, .int xk, .int xn, .int xz, .int xa, .int xg])), (x1, .inl (cJ, 512, .inr (.inl xmw))), (x2, .inl (cJ, 512, .inr (.inl xmp))), (x3, .inl (cJ, 24, .inr (.inl xr))), (x4, .inl (cI, 8, .inl xd)), (x5, .inl (cJ, 5, .inr (.inl xwt))), (x6, .inl (cJ, 24, .inr (.inl xf))), (x7, .inl (cJ, 24, .inr (.inl xrd))), (x8, .inl (cJ, 6, .inr (.inl xu)))] H) (hD : va_D (va_A w0 s.heap.size) [(hX, .inr (6, [.int xt, .ref x1, .ref x2, .ref x3, .int xw, .int xp, .int xs, .long xc, .ref x4, .ref x5, .ref x6, .ref x7, .ref x8, .long xM, .long xE, .long xL, .int xo, .int xi, .int xj, .int xk, .int xn, .int xz, .int xa, .int xg])), (x1, .inl (cJ, 512, .inr (.inl xmw))), (x2, .inl (cJ, 512, .inr (.inl xmp))), (x3, .inl (cJ, 24, .inr (.inl xr))), (x4, .inl (cI, 8, .inl xd)), (x5, .inl (cJ, 5, .inr (.inl xwt))), (x6, .inl (cJ, 24, .inr (.inl xf))), (x7, .inl (cJ, 24, .inr (.inl xrd))), (x8, .inl (cJ, 6, .inr (.inl xu)))]) (hS : va_S (va_A w0 s.heap.size) s.heap H locs) : W p l e rm_X9_act s m args below meth c H locs 0 0 (MQ below (QV (dC, dI) [(cI, .int), (cJ, .long)] w0 [(hX, .inr (6, [.int xt, .ref x1, .ref x2, .ref x3, .int xw, .int xp, .int xs, .long xc, .ref x4, .ref x5, .ref x6, .ref x7, .ref x8, .long xM, .long xE, .long xL, .int xo, .int xi, .int xj, .int xk, .int xn, .int xz, .int xa, .int xg])), (x1, .inl (cJ, 512, .inr (.inl V.1))), (x2, .inl (cJ, 512, .inr (.inl xmp))), (x3, .inl (cJ, 24, .inr (.inl V.2))), (x4, .inl (cI, 8, .inl xd)), (x5, .inl (cJ, 5, .inr (.inl xwt))), (x6, .inl (cJ, 24, .inr (.inl xf))), (x7, .inl (cJ, 24, .inr (.inl xrd))), (x8, .inl (cJ, 6, .inr (.inl xu)))] s.heap.size) args s 0 0 (va_A w0 s.heap.size)) (F0 m 0 ls []) := by
  obtain ⟨hx, hb, hr, hlk, hml, hown, hts⟩ := id C0
  have hA : ∀ q : Nat, s.heap.size ≤ q → va_A w0 s.heap.size q := fun q h => Or.inr h
  refine lv_aload_n hx hb dX9_act_0 rfl (lv_at hl 0 rfl) ?_
  refine va_get (D := (dC, dI)) (ci := 6) (v := .int xo) (C := RX9) (T := TX9) (N := 24) hx hb hts mi_X9_act_X9 hown hK hP 0 rfl rfl 16 (by decide) (hts (.fieldLink RX9 68 "ScoreboardCoreModel" "op" "I") mm_X9_act_f68) (fun _ h9 => h9) rfl dX9_act_1 ?_
  refine lv_bipush (v := (40 : Int32)) hx hb dX9_act_4 (by decide) ?_
  refine lv_icmp_ge (x := xo) (y := (40 : Int32)) (tgt := 22) hx hb dX9_act_6 (by decide) (fun c1 => ?_) (fun c1 => ?_)
  · refine lv_aload_n hx hb dX9_act_22 rfl (lv_at hl 0 rfl) ?_
    refine roVl (As := []) (rest := []) (bytes := cX9_placed) (maxL := 6) (rty := (some .long)) (n := 0) (ci := 6) C0 (c_X9_placed l dC dI cI cJ hX x1 x2 x3 x4 x5 x6 x7 x8 xt xw xp xs xc xM xE xL xo xi xj xk xn xz xa xg xmw xmp xr xd xwt xf xrd xu hi hj hk) ⟨rfl, rfl, rfl, by decide +kernel, by decide, by decide⟩ ggX9_act_X9_placed mm_X9_act_iX9 mm_X9_act_l135 mm_X9_act_nX9_placed mm_X9_act_sX9_placed rfl rfl (hP.sub (ws' := [(hX, .inr (6, [.int xt, .ref x1, .ref x2, .ref x3, .int xw, .int xp, .int xs, .long xc, .ref x4, .ref x5, .ref x6, .ref x7, .ref x8, .long xM, .long xE, .long xL, .int xo, .int xi, .int xj, .int xk, .int xn, .int xz, .int xa, .int xg])), (x1, .inl (cJ, 512, .inr (.inl xmw))), (x2, .inl (cJ, 512, .inr (.inl xmp))), (x3, .inl (cJ, 24, .inr (.inl xr))), (x4, .inl (cI, 8, .inl xd)), (x5, .inl (cJ, 5, .inr (.inl xwt))), (x6, .inl (cJ, 24, .inr (.inl xf))), (x7, .inl (cJ, 24, .inr (.inl xrd))), (x8, .inl (cJ, 6, .inr (.inl xu)))]) [0, 1, 2, 3, 4, 5, 6, 7, 8] rfl) hK hl.1 rfl rfl (Nat.le_of_ble_eq_true rfl) dX9_act_23 ⟨Nat.zero_le _, Nat.zero_le _⟩ ?_
    refine lv_lstore_n (lv' := [(1, .long (F_X9_placed xo xj xk xn xr)), (0, .ref hX)]) hx hb dX9_act_26 rfl hl (by decide) rfl (fun ls hl => ?_)
    refine lv_aload_n hx hb dX9_act_27 rfl (lv_at hl 1 rfl) ?_
    refine va_get (D := (dC, dI)) (ci := 6) (v := .int xo) (C := RX9) (T := TX9) (N := 24) hx hb hts mi_X9_act_X9 hown hK hP 0 rfl rfl 16 (by decide) (hts (.fieldLink RX9 68 "ScoreboardCoreModel" "op" "I") mm_X9_act_f68) (fun _ h9 => h9) rfl dX9_act_28 ?_
    refine lv_bipush (v := (56 : Int32)) hx hb dX9_act_31 (by decide) ?_
    refine lv_icmp_lt (x := xo) (y := (56 : Int32)) (tgt := 51) hx hb dX9_act_33 (by decide) (fun c2 => ?_) (fun c2 => ?_)
    · refine lv_aload_n hx hb dX9_act_51 rfl (lv_at hl 1 rfl) ?_
      refine va_get (D := (dC, dI)) (ci := 6) (v := .int xo) (C := RX9) (T := TX9) (N := 24) hx hb hts mi_X9_act_X9 hown hK hP 0 rfl rfl 16 (by decide) (hts (.fieldLink RX9 68 "ScoreboardCoreModel" "op" "I") mm_X9_act_f68) (fun _ h9 => h9) rfl dX9_act_52 ?_
      refine lv_bipush (v := (48 : Int32)) hx hb dX9_act_55 (by decide) ?_
      refine lv_icmp_lt (x := xo) (y := (48 : Int32)) (tgt := 75) hx hb dX9_act_57 (by decide) (fun c3 => ?_) (fun c3 => ?_)
      · refine lv_aload_n hx hb dX9_act_75 rfl (lv_at hl 1 rfl) ?_
        refine lv_bipush (v := (8 : Int32)) hx hb dX9_act_76 (by decide) ?_
        refine lv_aload_n hx hb dX9_act_78 rfl (lv_at hl 1 rfl) ?_
        refine va_get (D := (dC, dI)) (ci := 6) (v := .int xi) (C := RX9) (T := TX9) (N := 24) hx hb hts mi_X9_act_X9 hown hK hP 0 rfl rfl 17 (by decide) (hts (.fieldLink RX9 71 "ScoreboardCoreModel" "i" "I") mm_X9_act_f71) (fun _ h9 => h9) rfl dX9_act_79 ?_
        refine lv_iadd hx hb dX9_act_82 ?_
        refine lv_lload_n hx hb dX9_act_83 rfl (lv_at hl 0 rfl) ?_
        refine wrVv (As := [.int ((8 : Int32) + xi), .long (F_X9_placed xo xj xk xn xr)]) (rest := []) (bytes := cX9_set) (maxL := 4) (rty := none) (n := 2) (ci := 6) C0 (c_X9_set l dC dI cI cJ hX x1 x2 x3 x4 x5 x6 x7 x8 ((8 : Int32) + xi) (F_X9_placed xo xj xk xn xr) xt xw xp xs xc xM xE xL xo xi xj xk xn xz xa xg xmw xmp xr xd xwt xf xrd xu hi.a) ⟨rfl, rfl, rfl, by decide +kernel, by decide, by decide⟩ ggX9_act_X9_set mm_X9_act_iX9 mm_X9_act_l46 mm_X9_act_nX9_set mm_X9_act_sX9_set rfl rfl hP hD hK hS hA (Zs.no _ _ _) [0, 1, 2, 3, 4, 5, 6, 7, 8] [] [0, 1, 2, 3, 4, 5, 6, 7, 8] [] [(hX, .inr (6, [.int xt, .ref x1, .ref x2, .ref x3, .int xw, .int xp, .int xs, .long xc, .ref x4, .ref x5, .ref x6, .ref x7, .ref x8, .long xM, .long xE, .long xL, .int xo, .int xi, .int xj, .int xk, .int xn, .int xz, .int xa, .int xg])), (x1, .inl (cJ, 512, .inr (.inl xmw))), (x2, .inl (cJ, 512, .inr (.inl xmp))), (x3, .inl (cJ, 24, .inr (.inl (F_X9_set ((8 : Int32) + xi) (F_X9_placed xo xj xk xn xr) xr)))), (x4, .inl (cI, 8, .inl xd)), (x5, .inl (cJ, 5, .inr (.inl xwt))), (x6, .inl (cJ, 24, .inr (.inl xf))), (x7, .inl (cJ, 24, .inr (.inl xrd))), (x8, .inl (cJ, 6, .inr (.inl xu)))] rfl (by decide) (hP.sub (ws' := [(hX, .inr (6, [.int xt, .ref x1, .ref x2, .ref x3, .int xw, .int xp, .int xs, .long xc, .ref x4, .ref x5, .ref x6, .ref x7, .ref x8, .long xM, .long xE, .long xL, .int xo, .int xi, .int xj, .int xk, .int xn, .int xz, .int xa, .int xg])), (x1, .inl (cJ, 512, .inr (.inl xmw))), (x2, .inl (cJ, 512, .inr (.inl xmp))), (x3, .inl (cJ, 24, .inr (.inl xr))), (x4, .inl (cI, 8, .inl xd)), (x5, .inl (cJ, 5, .inr (.inl xwt))), (x6, .inl (cJ, 24, .inr (.inl xf))), (x7, .inl (cJ, 24, .inr (.inl xrd))), (x8, .inl (cJ, 6, .inr (.inl xu)))]) [0, 1, 2, 3, 4, 5, 6, 7, 8] rfl) rfl (by decide) (by decide) (by decide) rfl hl.1 rfl rfl (Nat.le_of_ble_eq_true rfl) dX9_act_84 ⟨Nat.zero_le _, Nat.zero_le _⟩ (fun H locs hP hD hS => ?_)
        refine lv_lload_n hx hb dX9_act_87 rfl (lv_at hl 0 rfl) ?_
        refine lv_ldc2 (v := (512 : Int64)) hx hb hown (hts _ mm_X9_act_k142) dX9_act_88 ?_
        refine lc_ge (x := (F_X9_placed xo xj xk xn xr)) (y := (512 : Int64)) (tgt := 99) hx hb dX9_act_91 dX9_act_92 (by decide) (fun c4 => ?_) (fun c4 => ?_)
        · refine lv_iconst (v := (0 : Int32)) hx hb dX9_act_99 (by decide) ?_
          refine lv_istore_n (lv' := [(3, .int (0 : Int32)), (1, .long (F_X9_placed xo xj xk xn xr)), (0, .ref hX)]) hx hb dX9_act_100 rfl hl (by decide) rfl (fun ls hl => ?_)
          refine lv_aload_n hx hb dX9_act_101 rfl (lv_at hl 2 rfl) ?_
          refine va_get (D := (dC, dI)) (ci := 6) (v := .int xi) (C := RX9) (T := TX9) (N := 24) hx hb hts mi_X9_act_X9 hown hK hP 0 rfl rfl 17 (by decide) (hts (.fieldLink RX9 71 "ScoreboardCoreModel" "i" "I") mm_X9_act_f71) (fun _ h9 => h9) rfl dX9_act_102 ?_
          refine lv_if_le (x := xi) (tgt := 143) hx hb dX9_act_105 (by decide) (fun c5 => ?_) (fun c5 => ?_)
          · refine lv_aload_n hx hb dX9_act_143 rfl (lv_at hl 2 rfl) ?_
            refine va_get (D := (dC, dI)) (ci := 6) (v := .int xi) (C := RX9) (T := TX9) (N := 24) hx hb hts mi_X9_act_X9 hown hK hP 0 rfl rfl 17 (by decide) (hts (.fieldLink RX9 71 "ScoreboardCoreModel" "i" "I") mm_X9_act_f71) (fun _ h9 => h9) rfl dX9_act_144 ?_
            refine lv_iconst (v := (5 : Int32)) hx hb dX9_act_147 (by decide) ?_
            refine lv_icmp_le (x := xi) (y := (5 : Int32)) (tgt := 171) hx hb dX9_act_148 (by decide) (fun c6 => ?_) (fun c6 => ?_)
            · have e9 : (F_X9_act xo xi xj xk xn xmw xr ) = (xmw, (F_X9_set ((8 : Int32) + xi) (F_X9_placed xo xj xk xn xr) xr)) := by rw [F_X9_act, if_pos c1, if_pos c2, if_pos c3, if_pos c4, if_pos c5, if_pos c6]
              rw [e9] at hV
              subst hV
              exact wrRetV C0 hK hP hD hS dX9_act_171
            · refine lv_iload_n hx hb dX9_act_151 rfl (lv_at hl 0 rfl) ?_
              refine lv_if_eq (x := (0 : Int32)) (tgt := 171) hx hb dX9_act_152 (by decide) (fun c7 => ?_) (fun c7 => ?_)
              · have e9 : (F_X9_act xo xi xj xk xn xmw xr ) = (xmw, (F_X9_set ((8 : Int32) + xi) (F_X9_placed xo xj xk xn xr) xr)) := by rw [F_X9_act, if_pos c1, if_pos c2, if_pos c3, if_pos c4, if_pos c5, if_neg c6, if_pos c7]
                rw [e9] at hV
                subst hV
                exact wrRetV C0 hK hP hD hS dX9_act_171
              · refine lv_aload_n hx hb dX9_act_155 rfl (lv_at hl 2 rfl) ?_
                refine va_get (D := (dC, dI)) (ci := 6) (v := .ref x1) (C := RX9) (T := TX9) (N := 24) hx hb hts mi_X9_act_X9 hown hK hP 0 rfl rfl 1 (by decide) (hts (.fieldLink RX9 7 "ScoreboardCoreModel" "memory" "[J") mm_X9_act_f7) (fun _ h9 => h9) rfl dX9_act_156 ?_
                refine lv_lload_n hx hb dX9_act_159 rfl (lv_at hl 1 rfl) ?_
                refine lv_l2i hx hb dX9_act_160 rfl ?_
                refine lv_aload_n hx hb dX9_act_161 rfl (lv_at hl 2 rfl) ?_
                refine va_get (D := (dC, dI)) (ci := 6) (v := .ref x3) (C := RX9) (T := TX9) (N := 24) hx hb hts mi_X9_act_X9 hown hK hP 0 rfl rfl 3 (by decide) (hts (.fieldLink RX9 16 "ScoreboardCoreModel" "\x72" "[J") mm_X9_act_f16) (fun _ h9 => h9) rfl dX9_act_162 ?_
                refine lv_aload_n hx hb dX9_act_165 rfl (lv_at hl 2 rfl) ?_
                refine va_get (D := (dC, dI)) (ci := 6) (v := .int xi) (C := RX9) (T := TX9) (N := 24) hx hb hts mi_X9_act_X9 hown hK hP 0 rfl rfl 17 (by decide) (hts (.fieldLink RX9 71 "ScoreboardCoreModel" "i" "I") mm_X9_act_f71) (fun _ h9 => h9) rfl dX9_act_166 ?_
                refine va_lald (D := (dC, dI)) hx hb hK hP 3 1 rfl rfl hi.x dX9_act_169 ?_
                refine va_last (D := (dC, dI)) hx hb hK hP hD hS 1 1 rfl rfl (by first | exact mem_in hp (by assumption) | exact mem_inL hp (by assumption) | exact absurd (by assumption : ¬ (0 : Int32) = 0) (by decide)) dX9_act_170 (fun H locs hP hD hS => ?_)
                have hP : va_P (dC, dI) vwCl [(hX, .inr (6, [.int xt, .ref x1, .ref x2, .ref x3, .int xw, .int xp, .int xs, .long xc, .ref x4, .ref x5, .ref x6, .ref x7, .ref x8, .long xM, .long xE, .long xL, .int xo, .int xi, .int xj, .int xk, .int xn, .int xz, .int xa, .int xg])), (x1, .inl (cJ, 512, .inr (.inl (vp_updL xmw ((F_X9_placed xo xj xk xn xr).toInt32).toNatClampNeg ((F_X9_set ((8 : Int32) + xi) (F_X9_placed xo xj xk xn xr) xr) xi.toNatClampNeg))))), (x2, .inl (cJ, 512, .inr (.inl xmp))), (x3, .inl (cJ, 24, .inr (.inl (F_X9_set ((8 : Int32) + xi) (F_X9_placed xo xj xk xn xr) xr)))), (x4, .inl (cI, 8, .inl xd)), (x5, .inl (cJ, 5, .inr (.inl xwt))), (x6, .inl (cJ, 24, .inr (.inl xf))), (x7, .inl (cJ, 24, .inr (.inl xrd))), (x8, .inl (cJ, 6, .inr (.inl xu)))] H := hP
                have hD : va_D (va_A w0 s.heap.size) [(hX, .inr (6, [.int xt, .ref x1, .ref x2, .ref x3, .int xw, .int xp, .int xs, .long xc, .ref x4, .ref x5, .ref x6, .ref x7, .ref x8, .long xM, .long xE, .long xL, .int xo, .int xi, .int xj, .int xk, .int xn, .int xz, .int xa, .int xg])), (x1, .inl (cJ, 512, .inr (.inl (vp_updL xmw ((F_X9_placed xo xj xk xn xr).toInt32).toNatClampNeg ((F_X9_set ((8 : Int32) + xi) (F_X9_placed xo xj xk xn xr) xr) xi.toNatClampNeg))))), (x2, .inl (cJ, 512, .inr (.inl xmp))), (x3, .inl (cJ, 24, .inr (.inl (F_X9_set ((8 : Int32) + xi) (F_X9_placed xo xj xk xn xr) xr)))), (x4, .inl (cI, 8, .inl xd)), (x5, .inl (cJ, 5, .inr (.inl xwt))), (x6, .inl (cJ, 24, .inr (.inl xf))), (x7, .inl (cJ, 24, .inr (.inl xrd))), (x8, .inl (cJ, 6, .inr (.inl xu)))] := hD
                have e9 : (F_X9_act xo xi xj xk xn xmw xr ) = ((vp_updL xmw ((F_X9_placed xo xj xk xn xr).toInt32).toNatClampNeg ((F_X9_set ((8 : Int32) + xi) (F_X9_placed xo xj xk xn xr) xr) xi.toNatClampNeg)), (F_X9_set ((8 : Int32) + xi) (F_X9_placed xo xj xk xn xr) xr)) := by rw [F_X9_act, if_pos c1, if_pos c2, if_pos c3, if_pos c4, if_pos c5, if_neg c6, if_neg c7]
                rw [e9] at hV
                subst hV
                exact wrRetV C0 hK hP hD hS dX9_act_171
          · refine lv_aload_n hx hb dX9_act_108 rfl (lv_at hl 2 rfl) ?_
            refine va_get (D := (dC, dI)) (ci := 6) (v := .int xi) (C := RX9) (T := TX9) (N := 24) hx hb hts mi_X9_act_X9 hown hK hP 0 rfl rfl 17 (by decide) (hts (.fieldLink RX9 71 "ScoreboardCoreModel" "i" "I") mm_X9_act_f71) (fun _ h9 => h9) rfl dX9_act_109 ?_
            refine lv_bipush (v := (6 : Int32)) hx hb dX9_act_112 (by decide) ?_
            refine lv_icmp_ge (x := xi) (y := (6 : Int32)) (tgt := 143) hx hb dX9_act_114 (by decide) (fun c8 => ?_) (fun c8 => ?_)
            · refine lv_aload_n hx hb dX9_act_143 rfl (lv_at hl 2 rfl) ?_
              refine va_get (D := (dC, dI)) (ci := 6) (v := .int xi) (C := RX9) (T := TX9) (N := 24) hx hb hts mi_X9_act_X9 hown hK hP 0 rfl rfl 17 (by decide) (hts (.fieldLink RX9 71 "ScoreboardCoreModel" "i" "I") mm_X9_act_f71) (fun _ h9 => h9) rfl dX9_act_144 ?_
              refine lv_iconst (v := (5 : Int32)) hx hb dX9_act_147 (by decide) ?_
              refine lv_icmp_le (x := xi) (y := (5 : Int32)) (tgt := 171) hx hb dX9_act_148 (by decide) (fun c9 => ?_) (fun c9 => ?_)
              · have e9 : (F_X9_act xo xi xj xk xn xmw xr ) = (xmw, (F_X9_set ((8 : Int32) + xi) (F_X9_placed xo xj xk xn xr) xr)) := by rw [F_X9_act, if_pos c1, if_pos c2, if_pos c3, if_pos c4, if_neg c5, if_pos c8, if_pos c9]
                rw [e9] at hV
                subst hV
                exact wrRetV C0 hK hP hD hS dX9_act_171
              · refine lv_iload_n hx hb dX9_act_151 rfl (lv_at hl 0 rfl) ?_
                refine lv_if_eq (x := (0 : Int32)) (tgt := 171) hx hb dX9_act_152 (by decide) (fun c10 => ?_) (fun c10 => ?_)
                · have e9 : (F_X9_act xo xi xj xk xn xmw xr ) = (xmw, (F_X9_set ((8 : Int32) + xi) (F_X9_placed xo xj xk xn xr) xr)) := by rw [F_X9_act, if_pos c1, if_pos c2, if_pos c3, if_pos c4, if_neg c5, if_pos c8, if_neg c9, if_pos c10]
                  rw [e9] at hV
                  subst hV
                  exact wrRetV C0 hK hP hD hS dX9_act_171
                · refine lv_aload_n hx hb dX9_act_155 rfl (lv_at hl 2 rfl) ?_
                  refine va_get (D := (dC, dI)) (ci := 6) (v := .ref x1) (C := RX9) (T := TX9) (N := 24) hx hb hts mi_X9_act_X9 hown hK hP 0 rfl rfl 1 (by decide) (hts (.fieldLink RX9 7 "ScoreboardCoreModel" "memory" "[J") mm_X9_act_f7) (fun _ h9 => h9) rfl dX9_act_156 ?_
                  refine lv_lload_n hx hb dX9_act_159 rfl (lv_at hl 1 rfl) ?_
                  refine lv_l2i hx hb dX9_act_160 rfl ?_
                  refine lv_aload_n hx hb dX9_act_161 rfl (lv_at hl 2 rfl) ?_
                  refine va_get (D := (dC, dI)) (ci := 6) (v := .ref x3) (C := RX9) (T := TX9) (N := 24) hx hb hts mi_X9_act_X9 hown hK hP 0 rfl rfl 3 (by decide) (hts (.fieldLink RX9 16 "ScoreboardCoreModel" "\x72" "[J") mm_X9_act_f16) (fun _ h9 => h9) rfl dX9_act_162 ?_
                  refine lv_aload_n hx hb dX9_act_165 rfl (lv_at hl 2 rfl) ?_
                  refine va_get (D := (dC, dI)) (ci := 6) (v := .int xi) (C := RX9) (T := TX9) (N := 24) hx hb hts mi_X9_act_X9 hown hK hP 0 rfl rfl 17 (by decide) (hts (.fieldLink RX9 71 "ScoreboardCoreModel" "i" "I") mm_X9_act_f71) (fun _ h9 => h9) rfl dX9_act_166 ?_
                  refine va_lald (D := (dC, dI)) hx hb hK hP 3 1 rfl rfl hi.x dX9_act_169 ?_
                  refine va_last (D := (dC, dI)) hx hb hK hP hD hS 1 1 rfl rfl (by first | exact mem_in hp (by assumption) | exact mem_inL hp (by assumption) | exact absurd (by assumption : ¬ (0 : Int32) = 0) (by decide)) dX9_act_170 (fun H locs hP hD hS => ?_)
                  have hP : va_P (dC, dI) vwCl [(hX, .inr (6, [.int xt, .ref x1, .ref x2, .ref x3, .int xw, .int xp, .int xs, .long xc, .ref x4, .ref x5, .ref x6, .ref x7, .ref x8, .long xM, .long xE, .long xL, .int xo, .int xi, .int xj, .int xk, .int xn, .int xz, .int xa, .int xg])), (x1, .inl (cJ, 512, .inr (.inl (vp_updL xmw ((F_X9_placed xo xj xk xn xr).toInt32).toNatClampNeg ((F_X9_set ((8 : Int32) + xi) (F_X9_placed xo xj xk xn xr) xr) xi.toNatClampNeg))))), (x2, .inl (cJ, 512, .inr (.inl xmp))), (x3, .inl (cJ, 24, .inr (.inl (F_X9_set ((8 : Int32) + xi) (F_X9_placed xo xj xk xn xr) xr)))), (x4, .inl (cI, 8, .inl xd)), (x5, .inl (cJ, 5, .inr (.inl xwt))), (x6, .inl (cJ, 24, .inr (.inl xf))), (x7, .inl (cJ, 24, .inr (.inl xrd))), (x8, .inl (cJ, 6, .inr (.inl xu)))] H := hP
                  have hD : va_D (va_A w0 s.heap.size) [(hX, .inr (6, [.int xt, .ref x1, .ref x2, .ref x3, .int xw, .int xp, .int xs, .long xc, .ref x4, .ref x5, .ref x6, .ref x7, .ref x8, .long xM, .long xE, .long xL, .int xo, .int xi, .int xj, .int xk, .int xn, .int xz, .int xa, .int xg])), (x1, .inl (cJ, 512, .inr (.inl (vp_updL xmw ((F_X9_placed xo xj xk xn xr).toInt32).toNatClampNeg ((F_X9_set ((8 : Int32) + xi) (F_X9_placed xo xj xk xn xr) xr) xi.toNatClampNeg))))), (x2, .inl (cJ, 512, .inr (.inl xmp))), (x3, .inl (cJ, 24, .inr (.inl (F_X9_set ((8 : Int32) + xi) (F_X9_placed xo xj xk xn xr) xr)))), (x4, .inl (cI, 8, .inl xd)), (x5, .inl (cJ, 5, .inr (.inl xwt))), (x6, .inl (cJ, 24, .inr (.inl xf))), (x7, .inl (cJ, 24, .inr (.inl xrd))), (x8, .inl (cJ, 6, .inr (.inl xu)))] := hD
                  have e9 : (F_X9_act xo xi xj xk xn xmw xr ) = ((vp_updL xmw ((F_X9_placed xo xj xk xn xr).toInt32).toNatClampNeg ((F_X9_set ((8 : Int32) + xi) (F_X9_placed xo xj xk xn xr) xr) xi.toNatClampNeg)), (F_X9_set ((8 : Int32) + xi) (F_X9_placed xo xj xk xn xr) xr)) := by rw [F_X9_act, if_pos c1, if_pos c2, if_pos c3, if_pos c4, if_neg c5, if_pos c8, if_neg c9, if_neg c10]
                  rw [e9] at hV
                  subst hV
                  exact wrRetV C0 hK hP hD hS dX9_act_171
            · refine lv_aload_n hx hb dX9_act_117 rfl (lv_at hl 2 rfl) ?_
              refine lv_aload_n hx hb dX9_act_118 rfl (lv_at hl 2 rfl) ?_
              refine va_get (D := (dC, dI)) (ci := 6) (v := .int xi) (C := RX9) (T := TX9) (N := 24) hx hb hts mi_X9_act_X9 hown hK hP 0 rfl rfl 17 (by decide) (hts (.fieldLink RX9 71 "ScoreboardCoreModel" "i" "I") mm_X9_act_f71) (fun _ h9 => h9) rfl dX9_act_119 ?_
              refine lv_iload_n hx hb dX9_act_122 rfl (lv_at hl 0 rfl) ?_
              refine lv_if_eq (x := (0 : Int32)) (tgt := 136) hx hb dX9_act_123 (by decide) (fun c11 => ?_) (fun c11 => ?_)
              · refine lv_lconst (v := (0 : Int64)) hx hb dX9_act_136 (by decide) ?_
                refine wrVv (As := [.int xi, .long (0 : Int64)]) (rest := []) (bytes := cX9_set) (maxL := 4) (rty := none) (n := 2) (ci := 6) C0 (c_X9_set l dC dI cI cJ hX x1 x2 x3 x4 x5 x6 x7 x8 xi (0 : Int64) xt xw xp xs xc xM xE xL xo xi xj xk xn xz xa xg xmw xmp (F_X9_set ((8 : Int32) + xi) (F_X9_placed xo xj xk xn xr) xr) xd xwt xf xrd xu hi.x) ⟨rfl, rfl, rfl, by decide +kernel, by decide, by decide⟩ ggX9_act_X9_set mm_X9_act_iX9 mm_X9_act_l46 mm_X9_act_nX9_set mm_X9_act_sX9_set rfl rfl hP hD hK hS hA (Zs.no _ _ _) [0, 1, 2, 3, 4, 5, 6, 7, 8] [] [0, 1, 2, 3, 4, 5, 6, 7, 8] [] [(hX, .inr (6, [.int xt, .ref x1, .ref x2, .ref x3, .int xw, .int xp, .int xs, .long xc, .ref x4, .ref x5, .ref x6, .ref x7, .ref x8, .long xM, .long xE, .long xL, .int xo, .int xi, .int xj, .int xk, .int xn, .int xz, .int xa, .int xg])), (x1, .inl (cJ, 512, .inr (.inl xmw))), (x2, .inl (cJ, 512, .inr (.inl xmp))), (x3, .inl (cJ, 24, .inr (.inl (F_X9_set xi (0 : Int64) (F_X9_set ((8 : Int32) + xi) (F_X9_placed xo xj xk xn xr) xr))))), (x4, .inl (cI, 8, .inl xd)), (x5, .inl (cJ, 5, .inr (.inl xwt))), (x6, .inl (cJ, 24, .inr (.inl xf))), (x7, .inl (cJ, 24, .inr (.inl xrd))), (x8, .inl (cJ, 6, .inr (.inl xu)))] rfl (by decide) (hP.sub (ws' := [(hX, .inr (6, [.int xt, .ref x1, .ref x2, .ref x3, .int xw, .int xp, .int xs, .long xc, .ref x4, .ref x5, .ref x6, .ref x7, .ref x8, .long xM, .long xE, .long xL, .int xo, .int xi, .int xj, .int xk, .int xn, .int xz, .int xa, .int xg])), (x1, .inl (cJ, 512, .inr (.inl xmw))), (x2, .inl (cJ, 512, .inr (.inl xmp))), (x3, .inl (cJ, 24, .inr (.inl (F_X9_set ((8 : Int32) + xi) (F_X9_placed xo xj xk xn xr) xr)))), (x4, .inl (cI, 8, .inl xd)), (x5, .inl (cJ, 5, .inr (.inl xwt))), (x6, .inl (cJ, 24, .inr (.inl xf))), (x7, .inl (cJ, 24, .inr (.inl xrd))), (x8, .inl (cJ, 6, .inr (.inl xu)))]) [0, 1, 2, 3, 4, 5, 6, 7, 8] rfl) rfl (by decide) (by decide) (by decide) rfl hl.1 rfl rfl (Nat.le_of_ble_eq_true rfl) dX9_act_137 ⟨Nat.zero_le _, Nat.zero_le _⟩ (fun H locs hP hD hS => ?_)
                refine lv_goto (tgt := 171) hx hb dX9_act_140 (by decide) ?_
                have e9 : (F_X9_act xo xi xj xk xn xmw xr ) = (xmw, (F_X9_set xi (0 : Int64) (F_X9_set ((8 : Int32) + xi) (F_X9_placed xo xj xk xn xr) xr))) := by rw [F_X9_act, if_pos c1, if_pos c2, if_pos c3, if_pos c4, if_neg c5, if_neg c8, if_pos c11]
                rw [e9] at hV
                subst hV
                exact wrRetV C0 hK hP hD hS dX9_act_171
              · refine lv_aload_n hx hb dX9_act_126 rfl (lv_at hl 2 rfl) ?_
                refine va_get (D := (dC, dI)) (ci := 6) (v := .ref x1) (C := RX9) (T := TX9) (N := 24) hx hb hts mi_X9_act_X9 hown hK hP 0 rfl rfl 1 (by decide) (hts (.fieldLink RX9 7 "ScoreboardCoreModel" "memory" "[J") mm_X9_act_f7) (fun _ h9 => h9) rfl dX9_act_127 ?_
                refine lv_lload_n hx hb dX9_act_130 rfl (lv_at hl 1 rfl) ?_
                refine lv_l2i hx hb dX9_act_131 rfl ?_
                refine va_lald (D := (dC, dI)) hx hb hK hP 1 1 rfl rfl (by first | exact mem_in hp (by assumption) | exact mem_inL hp (by assumption) | exact absurd (by assumption : ¬ (0 : Int32) = 0) (by decide)) dX9_act_132 ?_
                refine lv_goto (tgt := 137) hx hb dX9_act_133 (by decide) ?_
                refine wrVv (As := [.int xi, .long (xmw ((F_X9_placed xo xj xk xn xr).toInt32).toNatClampNeg)]) (rest := []) (bytes := cX9_set) (maxL := 4) (rty := none) (n := 2) (ci := 6) C0 (c_X9_set l dC dI cI cJ hX x1 x2 x3 x4 x5 x6 x7 x8 xi (xmw ((F_X9_placed xo xj xk xn xr).toInt32).toNatClampNeg) xt xw xp xs xc xM xE xL xo xi xj xk xn xz xa xg xmw xmp (F_X9_set ((8 : Int32) + xi) (F_X9_placed xo xj xk xn xr) xr) xd xwt xf xrd xu hi.x) ⟨rfl, rfl, rfl, by decide +kernel, by decide, by decide⟩ ggX9_act_X9_set mm_X9_act_iX9 mm_X9_act_l46 mm_X9_act_nX9_set mm_X9_act_sX9_set rfl rfl hP hD hK hS hA (Zs.no _ _ _) [0, 1, 2, 3, 4, 5, 6, 7, 8] [] [0, 1, 2, 3, 4, 5, 6, 7, 8] [] [(hX, .inr (6, [.int xt, .ref x1, .ref x2, .ref x3, .int xw, .int xp, .int xs, .long xc, .ref x4, .ref x5, .ref x6, .ref x7, .ref x8, .long xM, .long xE, .long xL, .int xo, .int xi, .int xj, .int xk, .int xn, .int xz, .int xa, .int xg])), (x1, .inl (cJ, 512, .inr (.inl xmw))), (x2, .inl (cJ, 512, .inr (.inl xmp))), (x3, .inl (cJ, 24, .inr (.inl (F_X9_set xi (xmw ((F_X9_placed xo xj xk xn xr).toInt32).toNatClampNeg) (F_X9_set ((8 : Int32) + xi) (F_X9_placed xo xj xk xn xr) xr))))), (x4, .inl (cI, 8, .inl xd)), (x5, .inl (cJ, 5, .inr (.inl xwt))), (x6, .inl (cJ, 24, .inr (.inl xf))), (x7, .inl (cJ, 24, .inr (.inl xrd))), (x8, .inl (cJ, 6, .inr (.inl xu)))] rfl (by decide) (hP.sub (ws' := [(hX, .inr (6, [.int xt, .ref x1, .ref x2, .ref x3, .int xw, .int xp, .int xs, .long xc, .ref x4, .ref x5, .ref x6, .ref x7, .ref x8, .long xM, .long xE, .long xL, .int xo, .int xi, .int xj, .int xk, .int xn, .int xz, .int xa, .int xg])), (x1, .inl (cJ, 512, .inr (.inl xmw))), (x2, .inl (cJ, 512, .inr (.inl xmp))), (x3, .inl (cJ, 24, .inr (.inl (F_X9_set ((8 : Int32) + xi) (F_X9_placed xo xj xk xn xr) xr)))), (x4, .inl (cI, 8, .inl xd)), (x5, .inl (cJ, 5, .inr (.inl xwt))), (x6, .inl (cJ, 24, .inr (.inl xf))), (x7, .inl (cJ, 24, .inr (.inl xrd))), (x8, .inl (cJ, 6, .inr (.inl xu)))]) [0, 1, 2, 3, 4, 5, 6, 7, 8] rfl) rfl (by decide) (by decide) (by decide) rfl hl.1 rfl rfl (Nat.le_of_ble_eq_true rfl) dX9_act_137 ⟨Nat.zero_le _, Nat.zero_le _⟩ (fun H locs hP hD hS => ?_)
                refine lv_goto (tgt := 171) hx hb dX9_act_140 (by decide) ?_
                have e9 : (F_X9_act xo xi xj xk xn xmw xr ) = (xmw, (F_X9_set xi (xmw ((F_X9_placed xo xj xk xn xr).toInt32).toNatClampNeg) (F_X9_set ((8 : Int32) + xi) (F_X9_placed xo xj xk xn xr) xr))) := by rw [F_X9_act, if_pos c1, if_pos c2, if_pos c3, if_pos c4, if_neg c5, if_neg c8, if_neg c11]
                rw [e9] at hV
                subst hV
                exact wrRetV C0 hK hP hD hS dX9_act_171
        · refine lv_iconst (v := (1 : Int32)) hx hb dX9_act_95 (by decide) ?_
          refine lv_goto (tgt := 100) hx hb dX9_act_96 (by decide) ?_
          refine lv_istore_n (lv' := [(3, .int (1 : Int32)), (1, .long (F_X9_placed xo xj xk xn xr)), (0, .ref hX)]) hx hb dX9_act_100 rfl hl (by decide) rfl (fun ls hl => ?_)
          refine lv_aload_n hx hb dX9_act_101 rfl (lv_at hl 2 rfl) ?_
          refine va_get (D := (dC, dI)) (ci := 6) (v := .int xi) (C := RX9) (T := TX9) (N := 24) hx hb hts mi_X9_act_X9 hown hK hP 0 rfl rfl 17 (by decide) (hts (.fieldLink RX9 71 "ScoreboardCoreModel" "i" "I") mm_X9_act_f71) (fun _ h9 => h9) rfl dX9_act_102 ?_
          refine lv_if_le (x := xi) (tgt := 143) hx hb dX9_act_105 (by decide) (fun c12 => ?_) (fun c12 => ?_)
          · refine lv_aload_n hx hb dX9_act_143 rfl (lv_at hl 2 rfl) ?_
            refine va_get (D := (dC, dI)) (ci := 6) (v := .int xi) (C := RX9) (T := TX9) (N := 24) hx hb hts mi_X9_act_X9 hown hK hP 0 rfl rfl 17 (by decide) (hts (.fieldLink RX9 71 "ScoreboardCoreModel" "i" "I") mm_X9_act_f71) (fun _ h9 => h9) rfl dX9_act_144 ?_
            refine lv_iconst (v := (5 : Int32)) hx hb dX9_act_147 (by decide) ?_
            refine lv_icmp_le (x := xi) (y := (5 : Int32)) (tgt := 171) hx hb dX9_act_148 (by decide) (fun c13 => ?_) (fun c13 => ?_)
            · have e9 : (F_X9_act xo xi xj xk xn xmw xr ) = (xmw, (F_X9_set ((8 : Int32) + xi) (F_X9_placed xo xj xk xn xr) xr)) := by rw [F_X9_act, if_pos c1, if_pos c2, if_pos c3, if_neg c4, if_pos c12, if_pos c13]
              rw [e9] at hV
              subst hV
              exact wrRetV C0 hK hP hD hS dX9_act_171
            · refine lv_iload_n hx hb dX9_act_151 rfl (lv_at hl 0 rfl) ?_
              refine lv_if_eq (x := (1 : Int32)) (tgt := 171) hx hb dX9_act_152 (by decide) (fun c14 => ?_) (fun c14 => ?_)
              · have e9 : (F_X9_act xo xi xj xk xn xmw xr ) = (xmw, (F_X9_set ((8 : Int32) + xi) (F_X9_placed xo xj xk xn xr) xr)) := by rw [F_X9_act, if_pos c1, if_pos c2, if_pos c3, if_neg c4, if_pos c12, if_neg c13, if_pos c14]
                rw [e9] at hV
                subst hV
                exact wrRetV C0 hK hP hD hS dX9_act_171
              · refine lv_aload_n hx hb dX9_act_155 rfl (lv_at hl 2 rfl) ?_
                refine va_get (D := (dC, dI)) (ci := 6) (v := .ref x1) (C := RX9) (T := TX9) (N := 24) hx hb hts mi_X9_act_X9 hown hK hP 0 rfl rfl 1 (by decide) (hts (.fieldLink RX9 7 "ScoreboardCoreModel" "memory" "[J") mm_X9_act_f7) (fun _ h9 => h9) rfl dX9_act_156 ?_
                refine lv_lload_n hx hb dX9_act_159 rfl (lv_at hl 1 rfl) ?_
                refine lv_l2i hx hb dX9_act_160 rfl ?_
                refine lv_aload_n hx hb dX9_act_161 rfl (lv_at hl 2 rfl) ?_
                refine va_get (D := (dC, dI)) (ci := 6) (v := .ref x3) (C := RX9) (T := TX9) (N := 24) hx hb hts mi_X9_act_X9 hown hK hP 0 rfl rfl 3 (by decide) (hts (.fieldLink RX9 16 "ScoreboardCoreModel" "\x72" "[J") mm_X9_act_f16) (fun _ h9 => h9) rfl dX9_act_162 ?_
                refine lv_aload_n hx hb dX9_act_165 rfl (lv_at hl 2 rfl) ?_
                refine va_get (D := (dC, dI)) (ci := 6) (v := .int xi) (C := RX9) (T := TX9) (N := 24) hx hb hts mi_X9_act_X9 hown hK hP 0 rfl rfl 17 (by decide) (hts (.fieldLink RX9 71 "ScoreboardCoreModel" "i" "I") mm_X9_act_f71) (fun _ h9 => h9) rfl dX9_act_166 ?_
                refine va_lald (D := (dC, dI)) hx hb hK hP 3 1 rfl rfl hi.x dX9_act_169 ?_
                refine va_last (D := (dC, dI)) hx hb hK hP hD hS 1 1 rfl rfl (by first | exact mem_in hp (by assumption) | exact mem_inL hp (by assumption) | exact absurd (by assumption : ¬ (0 : Int32) = 0) (by decide)) dX9_act_170 (fun H locs hP hD hS => ?_)
                have hP : va_P (dC, dI) vwCl [(hX, .inr (6, [.int xt, .ref x1, .ref x2, .ref x3, .int xw, .int xp, .int xs, .long xc, .ref x4, .ref x5, .ref x6, .ref x7, .ref x8, .long xM, .long xE, .long xL, .int xo, .int xi, .int xj, .int xk, .int xn, .int xz, .int xa, .int xg])), (x1, .inl (cJ, 512, .inr (.inl (vp_updL xmw ((F_X9_placed xo xj xk xn xr).toInt32).toNatClampNeg ((F_X9_set ((8 : Int32) + xi) (F_X9_placed xo xj xk xn xr) xr) xi.toNatClampNeg))))), (x2, .inl (cJ, 512, .inr (.inl xmp))), (x3, .inl (cJ, 24, .inr (.inl (F_X9_set ((8 : Int32) + xi) (F_X9_placed xo xj xk xn xr) xr)))), (x4, .inl (cI, 8, .inl xd)), (x5, .inl (cJ, 5, .inr (.inl xwt))), (x6, .inl (cJ, 24, .inr (.inl xf))), (x7, .inl (cJ, 24, .inr (.inl xrd))), (x8, .inl (cJ, 6, .inr (.inl xu)))] H := hP
                have hD : va_D (va_A w0 s.heap.size) [(hX, .inr (6, [.int xt, .ref x1, .ref x2, .ref x3, .int xw, .int xp, .int xs, .long xc, .ref x4, .ref x5, .ref x6, .ref x7, .ref x8, .long xM, .long xE, .long xL, .int xo, .int xi, .int xj, .int xk, .int xn, .int xz, .int xa, .int xg])), (x1, .inl (cJ, 512, .inr (.inl (vp_updL xmw ((F_X9_placed xo xj xk xn xr).toInt32).toNatClampNeg ((F_X9_set ((8 : Int32) + xi) (F_X9_placed xo xj xk xn xr) xr) xi.toNatClampNeg))))), (x2, .inl (cJ, 512, .inr (.inl xmp))), (x3, .inl (cJ, 24, .inr (.inl (F_X9_set ((8 : Int32) + xi) (F_X9_placed xo xj xk xn xr) xr)))), (x4, .inl (cI, 8, .inl xd)), (x5, .inl (cJ, 5, .inr (.inl xwt))), (x6, .inl (cJ, 24, .inr (.inl xf))), (x7, .inl (cJ, 24, .inr (.inl xrd))), (x8, .inl (cJ, 6, .inr (.inl xu)))] := hD
                have e9 : (F_X9_act xo xi xj xk xn xmw xr ) = ((vp_updL xmw ((F_X9_placed xo xj xk xn xr).toInt32).toNatClampNeg ((F_X9_set ((8 : Int32) + xi) (F_X9_placed xo xj xk xn xr) xr) xi.toNatClampNeg)), (F_X9_set ((8 : Int32) + xi) (F_X9_placed xo xj xk xn xr) xr)) := by rw [F_X9_act, if_pos c1, if_pos c2, if_pos c3, if_neg c4, if_pos c12, if_neg c13, if_neg c14]
                rw [e9] at hV
                subst hV
                exact wrRetV C0 hK hP hD hS dX9_act_171
          · refine lv_aload_n hx hb dX9_act_108 rfl (lv_at hl 2 rfl) ?_
            refine va_get (D := (dC, dI)) (ci := 6) (v := .int xi) (C := RX9) (T := TX9) (N := 24) hx hb hts mi_X9_act_X9 hown hK hP 0 rfl rfl 17 (by decide) (hts (.fieldLink RX9 71 "ScoreboardCoreModel" "i" "I") mm_X9_act_f71) (fun _ h9 => h9) rfl dX9_act_109 ?_
            refine lv_bipush (v := (6 : Int32)) hx hb dX9_act_112 (by decide) ?_
            refine lv_icmp_ge (x := xi) (y := (6 : Int32)) (tgt := 143) hx hb dX9_act_114 (by decide) (fun c15 => ?_) (fun c15 => ?_)
            · refine lv_aload_n hx hb dX9_act_143 rfl (lv_at hl 2 rfl) ?_
              refine va_get (D := (dC, dI)) (ci := 6) (v := .int xi) (C := RX9) (T := TX9) (N := 24) hx hb hts mi_X9_act_X9 hown hK hP 0 rfl rfl 17 (by decide) (hts (.fieldLink RX9 71 "ScoreboardCoreModel" "i" "I") mm_X9_act_f71) (fun _ h9 => h9) rfl dX9_act_144 ?_
              refine lv_iconst (v := (5 : Int32)) hx hb dX9_act_147 (by decide) ?_
              refine lv_icmp_le (x := xi) (y := (5 : Int32)) (tgt := 171) hx hb dX9_act_148 (by decide) (fun c16 => ?_) (fun c16 => ?_)
              · have e9 : (F_X9_act xo xi xj xk xn xmw xr ) = (xmw, (F_X9_set ((8 : Int32) + xi) (F_X9_placed xo xj xk xn xr) xr)) := by rw [F_X9_act, if_pos c1, if_pos c2, if_pos c3, if_neg c4, if_neg c12, if_pos c15, if_pos c16]
                rw [e9] at hV
                subst hV
                exact wrRetV C0 hK hP hD hS dX9_act_171
              · refine lv_iload_n hx hb dX9_act_151 rfl (lv_at hl 0 rfl) ?_
                refine lv_if_eq (x := (1 : Int32)) (tgt := 171) hx hb dX9_act_152 (by decide) (fun c17 => ?_) (fun c17 => ?_)
                · have e9 : (F_X9_act xo xi xj xk xn xmw xr ) = (xmw, (F_X9_set ((8 : Int32) + xi) (F_X9_placed xo xj xk xn xr) xr)) := by rw [F_X9_act, if_pos c1, if_pos c2, if_pos c3, if_neg c4, if_neg c12, if_pos c15, if_neg c16, if_pos c17]
                  rw [e9] at hV
                  subst hV
                  exact wrRetV C0 hK hP hD hS dX9_act_171
                · refine lv_aload_n hx hb dX9_act_155 rfl (lv_at hl 2 rfl) ?_
                  refine va_get (D := (dC, dI)) (ci := 6) (v := .ref x1) (C := RX9) (T := TX9) (N := 24) hx hb hts mi_X9_act_X9 hown hK hP 0 rfl rfl 1 (by decide) (hts (.fieldLink RX9 7 "ScoreboardCoreModel" "memory" "[J") mm_X9_act_f7) (fun _ h9 => h9) rfl dX9_act_156 ?_
                  refine lv_lload_n hx hb dX9_act_159 rfl (lv_at hl 1 rfl) ?_
                  refine lv_l2i hx hb dX9_act_160 rfl ?_
                  refine lv_aload_n hx hb dX9_act_161 rfl (lv_at hl 2 rfl) ?_
                  refine va_get (D := (dC, dI)) (ci := 6) (v := .ref x3) (C := RX9) (T := TX9) (N := 24) hx hb hts mi_X9_act_X9 hown hK hP 0 rfl rfl 3 (by decide) (hts (.fieldLink RX9 16 "ScoreboardCoreModel" "\x72" "[J") mm_X9_act_f16) (fun _ h9 => h9) rfl dX9_act_162 ?_
                  refine lv_aload_n hx hb dX9_act_165 rfl (lv_at hl 2 rfl) ?_
                  refine va_get (D := (dC, dI)) (ci := 6) (v := .int xi) (C := RX9) (T := TX9) (N := 24) hx hb hts mi_X9_act_X9 hown hK hP 0 rfl rfl 17 (by decide) (hts (.fieldLink RX9 71 "ScoreboardCoreModel" "i" "I") mm_X9_act_f71) (fun _ h9 => h9) rfl dX9_act_166 ?_
                  refine va_lald (D := (dC, dI)) hx hb hK hP 3 1 rfl rfl hi.x dX9_act_169 ?_
                  refine va_last (D := (dC, dI)) hx hb hK hP hD hS 1 1 rfl rfl (by first | exact mem_in hp (by assumption) | exact mem_inL hp (by assumption) | exact absurd (by assumption : ¬ (0 : Int32) = 0) (by decide)) dX9_act_170 (fun H locs hP hD hS => ?_)
                  have hP : va_P (dC, dI) vwCl [(hX, .inr (6, [.int xt, .ref x1, .ref x2, .ref x3, .int xw, .int xp, .int xs, .long xc, .ref x4, .ref x5, .ref x6, .ref x7, .ref x8, .long xM, .long xE, .long xL, .int xo, .int xi, .int xj, .int xk, .int xn, .int xz, .int xa, .int xg])), (x1, .inl (cJ, 512, .inr (.inl (vp_updL xmw ((F_X9_placed xo xj xk xn xr).toInt32).toNatClampNeg ((F_X9_set ((8 : Int32) + xi) (F_X9_placed xo xj xk xn xr) xr) xi.toNatClampNeg))))), (x2, .inl (cJ, 512, .inr (.inl xmp))), (x3, .inl (cJ, 24, .inr (.inl (F_X9_set ((8 : Int32) + xi) (F_X9_placed xo xj xk xn xr) xr)))), (x4, .inl (cI, 8, .inl xd)), (x5, .inl (cJ, 5, .inr (.inl xwt))), (x6, .inl (cJ, 24, .inr (.inl xf))), (x7, .inl (cJ, 24, .inr (.inl xrd))), (x8, .inl (cJ, 6, .inr (.inl xu)))] H := hP
                  have hD : va_D (va_A w0 s.heap.size) [(hX, .inr (6, [.int xt, .ref x1, .ref x2, .ref x3, .int xw, .int xp, .int xs, .long xc, .ref x4, .ref x5, .ref x6, .ref x7, .ref x8, .long xM, .long xE, .long xL, .int xo, .int xi, .int xj, .int xk, .int xn, .int xz, .int xa, .int xg])), (x1, .inl (cJ, 512, .inr (.inl (vp_updL xmw ((F_X9_placed xo xj xk xn xr).toInt32).toNatClampNeg ((F_X9_set ((8 : Int32) + xi) (F_X9_placed xo xj xk xn xr) xr) xi.toNatClampNeg))))), (x2, .inl (cJ, 512, .inr (.inl xmp))), (x3, .inl (cJ, 24, .inr (.inl (F_X9_set ((8 : Int32) + xi) (F_X9_placed xo xj xk xn xr) xr)))), (x4, .inl (cI, 8, .inl xd)), (x5, .inl (cJ, 5, .inr (.inl xwt))), (x6, .inl (cJ, 24, .inr (.inl xf))), (x7, .inl (cJ, 24, .inr (.inl xrd))), (x8, .inl (cJ, 6, .inr (.inl xu)))] := hD
                  have e9 : (F_X9_act xo xi xj xk xn xmw xr ) = ((vp_updL xmw ((F_X9_placed xo xj xk xn xr).toInt32).toNatClampNeg ((F_X9_set ((8 : Int32) + xi) (F_X9_placed xo xj xk xn xr) xr) xi.toNatClampNeg)), (F_X9_set ((8 : Int32) + xi) (F_X9_placed xo xj xk xn xr) xr)) := by rw [F_X9_act, if_pos c1, if_pos c2, if_pos c3, if_neg c4, if_neg c12, if_pos c15, if_neg c16, if_neg c17]
                  rw [e9] at hV
                  subst hV
                  exact wrRetV C0 hK hP hD hS dX9_act_171
            · refine lv_aload_n hx hb dX9_act_117 rfl (lv_at hl 2 rfl) ?_
              refine lv_aload_n hx hb dX9_act_118 rfl (lv_at hl 2 rfl) ?_
              refine va_get (D := (dC, dI)) (ci := 6) (v := .int xi) (C := RX9) (T := TX9) (N := 24) hx hb hts mi_X9_act_X9 hown hK hP 0 rfl rfl 17 (by decide) (hts (.fieldLink RX9 71 "ScoreboardCoreModel" "i" "I") mm_X9_act_f71) (fun _ h9 => h9) rfl dX9_act_119 ?_
              refine lv_iload_n hx hb dX9_act_122 rfl (lv_at hl 0 rfl) ?_
              refine lv_if_eq (x := (1 : Int32)) (tgt := 136) hx hb dX9_act_123 (by decide) (fun c18 => ?_) (fun c18 => ?_)
              · refine lv_lconst (v := (0 : Int64)) hx hb dX9_act_136 (by decide) ?_
                refine wrVv (As := [.int xi, .long (0 : Int64)]) (rest := []) (bytes := cX9_set) (maxL := 4) (rty := none) (n := 2) (ci := 6) C0 (c_X9_set l dC dI cI cJ hX x1 x2 x3 x4 x5 x6 x7 x8 xi (0 : Int64) xt xw xp xs xc xM xE xL xo xi xj xk xn xz xa xg xmw xmp (F_X9_set ((8 : Int32) + xi) (F_X9_placed xo xj xk xn xr) xr) xd xwt xf xrd xu hi.x) ⟨rfl, rfl, rfl, by decide +kernel, by decide, by decide⟩ ggX9_act_X9_set mm_X9_act_iX9 mm_X9_act_l46 mm_X9_act_nX9_set mm_X9_act_sX9_set rfl rfl hP hD hK hS hA (Zs.no _ _ _) [0, 1, 2, 3, 4, 5, 6, 7, 8] [] [0, 1, 2, 3, 4, 5, 6, 7, 8] [] [(hX, .inr (6, [.int xt, .ref x1, .ref x2, .ref x3, .int xw, .int xp, .int xs, .long xc, .ref x4, .ref x5, .ref x6, .ref x7, .ref x8, .long xM, .long xE, .long xL, .int xo, .int xi, .int xj, .int xk, .int xn, .int xz, .int xa, .int xg])), (x1, .inl (cJ, 512, .inr (.inl xmw))), (x2, .inl (cJ, 512, .inr (.inl xmp))), (x3, .inl (cJ, 24, .inr (.inl (F_X9_set xi (0 : Int64) (F_X9_set ((8 : Int32) + xi) (F_X9_placed xo xj xk xn xr) xr))))), (x4, .inl (cI, 8, .inl xd)), (x5, .inl (cJ, 5, .inr (.inl xwt))), (x6, .inl (cJ, 24, .inr (.inl xf))), (x7, .inl (cJ, 24, .inr (.inl xrd))), (x8, .inl (cJ, 6, .inr (.inl xu)))] rfl (by decide) (hP.sub (ws' := [(hX, .inr (6, [.int xt, .ref x1, .ref x2, .ref x3, .int xw, .int xp, .int xs, .long xc, .ref x4, .ref x5, .ref x6, .ref x7, .ref x8, .long xM, .long xE, .long xL, .int xo, .int xi, .int xj, .int xk, .int xn, .int xz, .int xa, .int xg])), (x1, .inl (cJ, 512, .inr (.inl xmw))), (x2, .inl (cJ, 512, .inr (.inl xmp))), (x3, .inl (cJ, 24, .inr (.inl (F_X9_set ((8 : Int32) + xi) (F_X9_placed xo xj xk xn xr) xr)))), (x4, .inl (cI, 8, .inl xd)), (x5, .inl (cJ, 5, .inr (.inl xwt))), (x6, .inl (cJ, 24, .inr (.inl xf))), (x7, .inl (cJ, 24, .inr (.inl xrd))), (x8, .inl (cJ, 6, .inr (.inl xu)))]) [0, 1, 2, 3, 4, 5, 6, 7, 8] rfl) rfl (by decide) (by decide) (by decide) rfl hl.1 rfl rfl (Nat.le_of_ble_eq_true rfl) dX9_act_137 ⟨Nat.zero_le _, Nat.zero_le _⟩ (fun H locs hP hD hS => ?_)
                refine lv_goto (tgt := 171) hx hb dX9_act_140 (by decide) ?_
                have e9 : (F_X9_act xo xi xj xk xn xmw xr ) = (xmw, (F_X9_set xi (0 : Int64) (F_X9_set ((8 : Int32) + xi) (F_X9_placed xo xj xk xn xr) xr))) := by rw [F_X9_act, if_pos c1, if_pos c2, if_pos c3, if_neg c4, if_neg c12, if_neg c15, if_pos c18]
                rw [e9] at hV
                subst hV
                exact wrRetV C0 hK hP hD hS dX9_act_171
              · refine lv_aload_n hx hb dX9_act_126 rfl (lv_at hl 2 rfl) ?_
                refine va_get (D := (dC, dI)) (ci := 6) (v := .ref x1) (C := RX9) (T := TX9) (N := 24) hx hb hts mi_X9_act_X9 hown hK hP 0 rfl rfl 1 (by decide) (hts (.fieldLink RX9 7 "ScoreboardCoreModel" "memory" "[J") mm_X9_act_f7) (fun _ h9 => h9) rfl dX9_act_127 ?_
                refine lv_lload_n hx hb dX9_act_130 rfl (lv_at hl 1 rfl) ?_
                refine lv_l2i hx hb dX9_act_131 rfl ?_
                refine va_lald (D := (dC, dI)) hx hb hK hP 1 1 rfl rfl (by first | exact mem_in hp (by assumption) | exact mem_inL hp (by assumption) | exact absurd (by assumption : ¬ (0 : Int32) = 0) (by decide)) dX9_act_132 ?_
                refine lv_goto (tgt := 137) hx hb dX9_act_133 (by decide) ?_
                refine wrVv (As := [.int xi, .long (xmw ((F_X9_placed xo xj xk xn xr).toInt32).toNatClampNeg)]) (rest := []) (bytes := cX9_set) (maxL := 4) (rty := none) (n := 2) (ci := 6) C0 (c_X9_set l dC dI cI cJ hX x1 x2 x3 x4 x5 x6 x7 x8 xi (xmw ((F_X9_placed xo xj xk xn xr).toInt32).toNatClampNeg) xt xw xp xs xc xM xE xL xo xi xj xk xn xz xa xg xmw xmp (F_X9_set ((8 : Int32) + xi) (F_X9_placed xo xj xk xn xr) xr) xd xwt xf xrd xu hi.x) ⟨rfl, rfl, rfl, by decide +kernel, by decide, by decide⟩ ggX9_act_X9_set mm_X9_act_iX9 mm_X9_act_l46 mm_X9_act_nX9_set mm_X9_act_sX9_set rfl rfl hP hD hK hS hA (Zs.no _ _ _) [0, 1, 2, 3, 4, 5, 6, 7, 8] [] [0, 1, 2, 3, 4, 5, 6, 7, 8] [] [(hX, .inr (6, [.int xt, .ref x1, .ref x2, .ref x3, .int xw, .int xp, .int xs, .long xc, .ref x4, .ref x5, .ref x6, .ref x7, .ref x8, .long xM, .long xE, .long xL, .int xo, .int xi, .int xj, .int xk, .int xn, .int xz, .int xa, .int xg])), (x1, .inl (cJ, 512, .inr (.inl xmw))), (x2, .inl (cJ, 512, .inr (.inl xmp))), (x3, .inl (cJ, 24, .inr (.inl (F_X9_set xi (xmw ((F_X9_placed xo xj xk xn xr).toInt32).toNatClampNeg) (F_X9_set ((8 : Int32) + xi) (F_X9_placed xo xj xk xn xr) xr))))), (x4, .inl (cI, 8, .inl xd)), (x5, .inl (cJ, 5, .inr (.inl xwt))), (x6, .inl (cJ, 24, .inr (.inl xf))), (x7, .inl (cJ, 24, .inr (.inl xrd))), (x8, .inl (cJ, 6, .inr (.inl xu)))] rfl (by decide) (hP.sub (ws' := [(hX, .inr (6, [.int xt, .ref x1, .ref x2, .ref x3, .int xw, .int xp, .int xs, .long xc, .ref x4, .ref x5, .ref x6, .ref x7, .ref x8, .long xM, .long xE, .long xL, .int xo, .int xi, .int xj, .int xk, .int xn, .int xz, .int xa, .int xg])), (x1, .inl (cJ, 512, .inr (.inl xmw))), (x2, .inl (cJ, 512, .inr (.inl xmp))), (x3, .inl (cJ, 24, .inr (.inl (F_X9_set ((8 : Int32) + xi) (F_X9_placed xo xj xk xn xr) xr)))), (x4, .inl (cI, 8, .inl xd)), (x5, .inl (cJ, 5, .inr (.inl xwt))), (x6, .inl (cJ, 24, .inr (.inl xf))), (x7, .inl (cJ, 24, .inr (.inl xrd))), (x8, .inl (cJ, 6, .inr (.inl xu)))]) [0, 1, 2, 3, 4, 5, 6, 7, 8] rfl) rfl (by decide) (by decide) (by decide) rfl hl.1 rfl rfl (Nat.le_of_ble_eq_true rfl) dX9_act_137 ⟨Nat.zero_le _, Nat.zero_le _⟩ (fun H locs hP hD hS => ?_)
                refine lv_goto (tgt := 171) hx hb dX9_act_140 (by decide) ?_
                have e9 : (F_X9_act xo xi xj xk xn xmw xr ) = (xmw, (F_X9_set xi (xmw ((F_X9_placed xo xj xk xn xr).toInt32).toNatClampNeg) (F_X9_set ((8 : Int32) + xi) (F_X9_placed xo xj xk xn xr) xr))) := by rw [F_X9_act, if_pos c1, if_pos c2, if_pos c3, if_neg c4, if_neg c12, if_neg c15, if_neg c18]
                rw [e9] at hV
                subst hV
                exact wrRetV C0 hK hP hD hS dX9_act_171
      · refine lv_aload_n hx hb dX9_act_60 rfl (lv_at hl 1 rfl) ?_
        refine lv_bipush (v := (16 : Int32)) hx hb dX9_act_61 (by decide) ?_
        refine lv_aload_n hx hb dX9_act_63 rfl (lv_at hl 1 rfl) ?_
        refine va_get (D := (dC, dI)) (ci := 6) (v := .int xi) (C := RX9) (T := TX9) (N := 24) hx hb hts mi_X9_act_X9 hown hK hP 0 rfl rfl 17 (by decide) (hts (.fieldLink RX9 71 "ScoreboardCoreModel" "i" "I") mm_X9_act_f71) (fun _ h9 => h9) rfl dX9_act_64 ?_
        refine lv_iadd hx hb dX9_act_67 ?_
        refine lv_lload_n hx hb dX9_act_68 rfl (lv_at hl 0 rfl) ?_
        refine wrVv (As := [.int ((16 : Int32) + xi), .long (F_X9_placed xo xj xk xn xr)]) (rest := []) (bytes := cX9_set) (maxL := 4) (rty := none) (n := 2) (ci := 6) C0 (c_X9_set l dC dI cI cJ hX x1 x2 x3 x4 x5 x6 x7 x8 ((16 : Int32) + xi) (F_X9_placed xo xj xk xn xr) xt xw xp xs xc xM xE xL xo xi xj xk xn xz xa xg xmw xmp xr xd xwt xf xrd xu hi.b) ⟨rfl, rfl, rfl, by decide +kernel, by decide, by decide⟩ ggX9_act_X9_set mm_X9_act_iX9 mm_X9_act_l46 mm_X9_act_nX9_set mm_X9_act_sX9_set rfl rfl hP hD hK hS hA (Zs.no _ _ _) [0, 1, 2, 3, 4, 5, 6, 7, 8] [] [0, 1, 2, 3, 4, 5, 6, 7, 8] [] [(hX, .inr (6, [.int xt, .ref x1, .ref x2, .ref x3, .int xw, .int xp, .int xs, .long xc, .ref x4, .ref x5, .ref x6, .ref x7, .ref x8, .long xM, .long xE, .long xL, .int xo, .int xi, .int xj, .int xk, .int xn, .int xz, .int xa, .int xg])), (x1, .inl (cJ, 512, .inr (.inl xmw))), (x2, .inl (cJ, 512, .inr (.inl xmp))), (x3, .inl (cJ, 24, .inr (.inl (F_X9_set ((16 : Int32) + xi) (F_X9_placed xo xj xk xn xr) xr)))), (x4, .inl (cI, 8, .inl xd)), (x5, .inl (cJ, 5, .inr (.inl xwt))), (x6, .inl (cJ, 24, .inr (.inl xf))), (x7, .inl (cJ, 24, .inr (.inl xrd))), (x8, .inl (cJ, 6, .inr (.inl xu)))] rfl (by decide) (hP.sub (ws' := [(hX, .inr (6, [.int xt, .ref x1, .ref x2, .ref x3, .int xw, .int xp, .int xs, .long xc, .ref x4, .ref x5, .ref x6, .ref x7, .ref x8, .long xM, .long xE, .long xL, .int xo, .int xi, .int xj, .int xk, .int xn, .int xz, .int xa, .int xg])), (x1, .inl (cJ, 512, .inr (.inl xmw))), (x2, .inl (cJ, 512, .inr (.inl xmp))), (x3, .inl (cJ, 24, .inr (.inl xr))), (x4, .inl (cI, 8, .inl xd)), (x5, .inl (cJ, 5, .inr (.inl xwt))), (x6, .inl (cJ, 24, .inr (.inl xf))), (x7, .inl (cJ, 24, .inr (.inl xrd))), (x8, .inl (cJ, 6, .inr (.inl xu)))]) [0, 1, 2, 3, 4, 5, 6, 7, 8] rfl) rfl (by decide) (by decide) (by decide) rfl hl.1 rfl rfl (Nat.le_of_ble_eq_true rfl) dX9_act_69 ⟨Nat.zero_le _, Nat.zero_le _⟩ (fun H locs hP hD hS => ?_)
        refine lv_goto (tgt := 171) hx hb dX9_act_72 (by decide) ?_
        have e9 : (F_X9_act xo xi xj xk xn xmw xr ) = (xmw, (F_X9_set ((16 : Int32) + xi) (F_X9_placed xo xj xk xn xr) xr)) := by rw [F_X9_act, if_pos c1, if_pos c2, if_neg c3]
        rw [e9] at hV
        subst hV
        exact wrRetV C0 hK hP hD hS dX9_act_171
    · refine lv_aload_n hx hb dX9_act_36 rfl (lv_at hl 1 rfl) ?_
      refine lv_aload_n hx hb dX9_act_37 rfl (lv_at hl 1 rfl) ?_
      refine va_get (D := (dC, dI)) (ci := 6) (v := .int xi) (C := RX9) (T := TX9) (N := 24) hx hb hts mi_X9_act_X9 hown hK hP 0 rfl rfl 17 (by decide) (hts (.fieldLink RX9 71 "ScoreboardCoreModel" "i" "I") mm_X9_act_f71) (fun _ h9 => h9) rfl dX9_act_38 ?_
      refine lv_lload_n hx hb dX9_act_41 rfl (lv_at hl 0 rfl) ?_
      refine roSl (As := [.long (F_X9_placed xo xj xk xn xr)]) (rest := [.int xi, .ref hX]) (bytes := cX9_extended) (maxL := 2) (rty := (some .long)) (n := 1) C0 (c_X9_extended l dC dI cI cJ (F_X9_placed xo xj xk xn xr)) ⟨rfl, rfl, rfl, by decide +kernel, by decide, by decide⟩ ggX9_act_X9_extended mm_X9_act_iX9 mm_X9_act_l138 mm_X9_act_tX9_extended (hP.sub (ws' := []) [] rfl) hK hl.1 rfl rfl (Nat.le_of_ble_eq_true rfl) dX9_act_42 ⟨Nat.zero_le _, Nat.zero_le _⟩ ?_
      refine wrVv (As := [.int xi, .long (F_X9_extended (F_X9_placed xo xj xk xn xr))]) (rest := []) (bytes := cX9_set) (maxL := 4) (rty := none) (n := 2) (ci := 6) C0 (c_X9_set l dC dI cI cJ hX x1 x2 x3 x4 x5 x6 x7 x8 xi (F_X9_extended (F_X9_placed xo xj xk xn xr)) xt xw xp xs xc xM xE xL xo xi xj xk xn xz xa xg xmw xmp xr xd xwt xf xrd xu hi.x) ⟨rfl, rfl, rfl, by decide +kernel, by decide, by decide⟩ ggX9_act_X9_set mm_X9_act_iX9 mm_X9_act_l46 mm_X9_act_nX9_set mm_X9_act_sX9_set rfl rfl hP hD hK hS hA (Zs.no _ _ _) [0, 1, 2, 3, 4, 5, 6, 7, 8] [] [0, 1, 2, 3, 4, 5, 6, 7, 8] [] [(hX, .inr (6, [.int xt, .ref x1, .ref x2, .ref x3, .int xw, .int xp, .int xs, .long xc, .ref x4, .ref x5, .ref x6, .ref x7, .ref x8, .long xM, .long xE, .long xL, .int xo, .int xi, .int xj, .int xk, .int xn, .int xz, .int xa, .int xg])), (x1, .inl (cJ, 512, .inr (.inl xmw))), (x2, .inl (cJ, 512, .inr (.inl xmp))), (x3, .inl (cJ, 24, .inr (.inl (F_X9_set xi (F_X9_extended (F_X9_placed xo xj xk xn xr)) xr)))), (x4, .inl (cI, 8, .inl xd)), (x5, .inl (cJ, 5, .inr (.inl xwt))), (x6, .inl (cJ, 24, .inr (.inl xf))), (x7, .inl (cJ, 24, .inr (.inl xrd))), (x8, .inl (cJ, 6, .inr (.inl xu)))] rfl (by decide) (hP.sub (ws' := [(hX, .inr (6, [.int xt, .ref x1, .ref x2, .ref x3, .int xw, .int xp, .int xs, .long xc, .ref x4, .ref x5, .ref x6, .ref x7, .ref x8, .long xM, .long xE, .long xL, .int xo, .int xi, .int xj, .int xk, .int xn, .int xz, .int xa, .int xg])), (x1, .inl (cJ, 512, .inr (.inl xmw))), (x2, .inl (cJ, 512, .inr (.inl xmp))), (x3, .inl (cJ, 24, .inr (.inl xr))), (x4, .inl (cI, 8, .inl xd)), (x5, .inl (cJ, 5, .inr (.inl xwt))), (x6, .inl (cJ, 24, .inr (.inl xf))), (x7, .inl (cJ, 24, .inr (.inl xrd))), (x8, .inl (cJ, 6, .inr (.inl xu)))]) [0, 1, 2, 3, 4, 5, 6, 7, 8] rfl) rfl (by decide) (by decide) (by decide) rfl hl.1 rfl rfl (Nat.le_of_ble_eq_true rfl) dX9_act_45 ⟨Nat.zero_le _, Nat.zero_le _⟩ (fun H locs hP hD hS => ?_)
      refine lv_goto (tgt := 171) hx hb dX9_act_48 (by decide) ?_
      have e9 : (F_X9_act xo xi xj xk xn xmw xr ) = (xmw, (F_X9_set xi (F_X9_extended (F_X9_placed xo xj xk xn xr)) xr)) := by rw [F_X9_act, if_pos c1, if_neg c2]
      rw [e9] at hV
      subst hV
      exact wrRetV C0 hK hP hD hS dX9_act_171
  · refine lv_aload_n hx hb dX9_act_9 rfl (lv_at hl 0 rfl) ?_
    refine lv_aload_n hx hb dX9_act_10 rfl (lv_at hl 0 rfl) ?_
    refine va_get (D := (dC, dI)) (ci := 6) (v := .int xi) (C := RX9) (T := TX9) (N := 24) hx hb hts mi_X9_act_X9 hown hK hP 0 rfl rfl 17 (by decide) (hts (.fieldLink RX9 71 "ScoreboardCoreModel" "i" "I") mm_X9_act_f71) (fun _ h9 => h9) rfl dX9_act_11 ?_
    refine lv_aload_n hx hb dX9_act_14 rfl (lv_at hl 0 rfl) ?_
    refine roVl (As := []) (rest := [.int xi, .ref hX]) (bytes := cX9_reckoned) (maxL := 4) (rty := (some .long)) (n := 0) (ci := 6) C0 (c_X9_reckoned l dC dI cI cJ hX x1 x2 x3 x4 x5 x6 x7 x8 xt xw xp xs xc xM xE xL xo xi xj xk xn xz xa xg xmw xmp xr xd xwt xf xrd xu hi hj hk) ⟨rfl, rfl, rfl, by decide +kernel, by decide, by decide⟩ ggX9_act_X9_reckoned mm_X9_act_iX9 mm_X9_act_l132 mm_X9_act_nX9_reckoned mm_X9_act_sX9_reckoned rfl rfl (hP.sub (ws' := [(hX, .inr (6, [.int xt, .ref x1, .ref x2, .ref x3, .int xw, .int xp, .int xs, .long xc, .ref x4, .ref x5, .ref x6, .ref x7, .ref x8, .long xM, .long xE, .long xL, .int xo, .int xi, .int xj, .int xk, .int xn, .int xz, .int xa, .int xg])), (x1, .inl (cJ, 512, .inr (.inl xmw))), (x2, .inl (cJ, 512, .inr (.inl xmp))), (x3, .inl (cJ, 24, .inr (.inl xr))), (x4, .inl (cI, 8, .inl xd)), (x5, .inl (cJ, 5, .inr (.inl xwt))), (x6, .inl (cJ, 24, .inr (.inl xf))), (x7, .inl (cJ, 24, .inr (.inl xrd))), (x8, .inl (cJ, 6, .inr (.inl xu)))]) [0, 1, 2, 3, 4, 5, 6, 7, 8] rfl) hK hl.1 rfl rfl (Nat.le_of_ble_eq_true rfl) dX9_act_15 ⟨Nat.zero_le _, Nat.zero_le _⟩ ?_
    refine wrVv (As := [.int xi, .long (F_X9_reckoned xo xi xj xk xr)]) (rest := []) (bytes := cX9_set) (maxL := 4) (rty := none) (n := 2) (ci := 6) C0 (c_X9_set l dC dI cI cJ hX x1 x2 x3 x4 x5 x6 x7 x8 xi (F_X9_reckoned xo xi xj xk xr) xt xw xp xs xc xM xE xL xo xi xj xk xn xz xa xg xmw xmp xr xd xwt xf xrd xu hi.x) ⟨rfl, rfl, rfl, by decide +kernel, by decide, by decide⟩ ggX9_act_X9_set mm_X9_act_iX9 mm_X9_act_l46 mm_X9_act_nX9_set mm_X9_act_sX9_set rfl rfl hP hD hK hS hA (Zs.no _ _ _) [0, 1, 2, 3, 4, 5, 6, 7, 8] [] [0, 1, 2, 3, 4, 5, 6, 7, 8] [] [(hX, .inr (6, [.int xt, .ref x1, .ref x2, .ref x3, .int xw, .int xp, .int xs, .long xc, .ref x4, .ref x5, .ref x6, .ref x7, .ref x8, .long xM, .long xE, .long xL, .int xo, .int xi, .int xj, .int xk, .int xn, .int xz, .int xa, .int xg])), (x1, .inl (cJ, 512, .inr (.inl xmw))), (x2, .inl (cJ, 512, .inr (.inl xmp))), (x3, .inl (cJ, 24, .inr (.inl (F_X9_set xi (F_X9_reckoned xo xi xj xk xr) xr)))), (x4, .inl (cI, 8, .inl xd)), (x5, .inl (cJ, 5, .inr (.inl xwt))), (x6, .inl (cJ, 24, .inr (.inl xf))), (x7, .inl (cJ, 24, .inr (.inl xrd))), (x8, .inl (cJ, 6, .inr (.inl xu)))] rfl (by decide) (hP.sub (ws' := [(hX, .inr (6, [.int xt, .ref x1, .ref x2, .ref x3, .int xw, .int xp, .int xs, .long xc, .ref x4, .ref x5, .ref x6, .ref x7, .ref x8, .long xM, .long xE, .long xL, .int xo, .int xi, .int xj, .int xk, .int xn, .int xz, .int xa, .int xg])), (x1, .inl (cJ, 512, .inr (.inl xmw))), (x2, .inl (cJ, 512, .inr (.inl xmp))), (x3, .inl (cJ, 24, .inr (.inl xr))), (x4, .inl (cI, 8, .inl xd)), (x5, .inl (cJ, 5, .inr (.inl xwt))), (x6, .inl (cJ, 24, .inr (.inl xf))), (x7, .inl (cJ, 24, .inr (.inl xrd))), (x8, .inl (cJ, 6, .inr (.inl xu)))]) [0, 1, 2, 3, 4, 5, 6, 7, 8] rfl) rfl (by decide) (by decide) (by decide) rfl hl.1 rfl rfl (Nat.le_of_ble_eq_true rfl) dX9_act_18 ⟨Nat.zero_le _, Nat.zero_le _⟩ (fun H locs hP hD hS => ?_)
    have e9 : (F_X9_act xo xi xj xk xn xmw xr ) = (xmw, (F_X9_set xi (F_X9_reckoned xo xi xj xk xr) xr)) := by rw [F_X9_act, if_neg c1]
    rw [e9] at hV
    subst hV
    exact wrRetV C0 hK hP hD hS dX9_act_21
theorem c_X9_act (l : Launch) (dC : Nat → ClassId) (dI : Nat → Nat → Nat) (cI cJ : ClassId) (hX x1 x2 x3 x4 x5 x6 x7 x8 : Nat) (xt : Int32) (xw : Int32) (xp : Int32) (xs : Int32) (xc : Int64) (xM : Int64) (xE : Int64) (xL : Int64) (xo : Int32) (xi : Int32) (xj : Int32) (xk : Int32) (xn : Int32) (xz : Int32) (xa : Int32) (xg : Int32) (xmw : Nat → Int64) (xmp : Nat → Int64) (xr : Nat → Int64) (xd : Nat → Int32) (xwt : Nat → Int64) (xf : Nat → Int64) (xrd : Nat → Int64) (xu : Nat → Int64) (hi : R8 xi) (hj : R8 xj) (hk : R8 xk) (hp : (0 : Int64) ≤ (F_X9_placed xo xj xk xn xr)) : WrV false l yX9_act wsX9_act rm_X9_act (dC, dI) [(cI, .int), (cJ, .long)] [(hX, .inr (6, [.int xt, .ref x1, .ref x2, .ref x3, .int xw, .int xp, .int xs, .long xc, .ref x4, .ref x5, .ref x6, .ref x7, .ref x8, .long xM, .long xE, .long xL, .int xo, .int xi, .int xj, .int xk, .int xn, .int xz, .int xa, .int xg])), (x1, .inl (cJ, 512, .inr (.inl xmw))), (x2, .inl (cJ, 512, .inr (.inl xmp))), (x3, .inl (cJ, 24, .inr (.inl xr))), (x4, .inl (cI, 8, .inl xd)), (x5, .inl (cJ, 5, .inr (.inl xwt))), (x6, .inl (cJ, 24, .inr (.inl xf))), (x7, .inl (cJ, 24, .inr (.inl xrd))), (x8, .inl (cJ, 6, .inr (.inl xu)))] [(hX, .inr (6, [.int xt, .ref x1, .ref x2, .ref x3, .int xw, .int xp, .int xs, .long xc, .ref x4, .ref x5, .ref x6, .ref x7, .ref x8, .long xM, .long xE, .long xL, .int xo, .int xi, .int xj, .int xk, .int xn, .int xz, .int xa, .int xg])), (x1, .inl (cJ, 512, .inr (.inl ((F_X9_act xo xi xj xk xn xmw xr ).1)))), (x2, .inl (cJ, 512, .inr (.inl xmp))), (x3, .inl (cJ, 24, .inr (.inl ((F_X9_act xo xi xj xk xn xmw xr ).2)))), (x4, .inl (cI, 8, .inl xd)), (x5, .inl (cJ, 5, .inr (.inl xwt))), (x6, .inl (cJ, 24, .inr (.inl xf))), (x7, .inl (cJ, 24, .inr (.inl xrd))), (x8, .inl (cJ, 6, .inr (.inl xu)))] [.ref hX] := by
  refine WrV.mk (cc := cX9_act) (nL := 4) (ret := none) [(0, .ref hX)] (by decide) rfl (Nat.le_of_ble_eq_true rfl) rfl ?_
  intro p e s m below meth c C0 hP hK hD hS hZ ls hl
  exact w_X9_act dC dI cI cJ hX x1 x2 x3 x4 x5 x6 x7 x8 xt xw xp xs xc xM xE xL xo xi xj xk xn xz xa xg xmw xmp xr xd xwt xf xrd xu C0 hK hZ hi hj hk hp rfl ls hl hP hD hS

-- X9_holds
def F_X9_holds (xo : Int32) (xi : Int32) (xj : Int32) (xr : Nat → Int64) : Int32 :=
  (if (3 : Int32) ≤ xo then (if xo = (3 : Int32) then (if (xr xj.toNatClampNeg) = (0 : Int64) then (if (xr xj.toNatClampNeg) ≤ (576460752303423487 : Int64) then (if xi = 0 then (1 : Int32) else (if xi = (1 : Int32) then (if (1 : Int32) = 0 then (1 : Int32) else (0 : Int32)) else (if xi = (2 : Int32) then (if (0 : Int32) = 0 then (1 : Int32) else (0 : Int32)) else (0 : Int32)))) else (if xi = 0 then (1 : Int32) else (if xi = (1 : Int32) then (if (1 : Int32) = 0 then (1 : Int32) else (0 : Int32)) else (if xi = (2 : Int32) then (if (1 : Int32) = 0 then (1 : Int32) else (0 : Int32)) else (1 : Int32))))) else (if (xr xj.toNatClampNeg) = (1152921504606846975 : Int64) then (if (xr xj.toNatClampNeg) ≤ (576460752303423487 : Int64) then (if xi = 0 then (1 : Int32) else (if xi = (1 : Int32) then (if (1 : Int32) = 0 then (1 : Int32) else (0 : Int32)) else (if xi = (2 : Int32) then (if (0 : Int32) = 0 then (1 : Int32) else (0 : Int32)) else (0 : Int32)))) else (if xi = 0 then (1 : Int32) else (if xi = (1 : Int32) then (if (1 : Int32) = 0 then (1 : Int32) else (0 : Int32)) else (if xi = (2 : Int32) then (if (1 : Int32) = 0 then (1 : Int32) else (0 : Int32)) else (1 : Int32))))) else (if (xr xj.toNatClampNeg) ≤ (576460752303423487 : Int64) then (if xi = 0 then (0 : Int32) else (if xi = (1 : Int32) then (if (0 : Int32) = 0 then (1 : Int32) else (0 : Int32)) else (if xi = (2 : Int32) then (if (0 : Int32) = 0 then (1 : Int32) else (0 : Int32)) else (0 : Int32)))) else (if xi = 0 then (0 : Int32) else (if xi = (1 : Int32) then (if (0 : Int32) = 0 then (1 : Int32) else (0 : Int32)) else (if xi = (2 : Int32) then (if (1 : Int32) = 0 then (1 : Int32) else (0 : Int32)) else (1 : Int32))))))) else (if xo = (4 : Int32) then (if (F_X9_signed (xr ((16 : Int32) + xi).toNatClampNeg) (262143 : Int64)) = (F_X9_signed (xr ((16 : Int32) + xj).toNatClampNeg) (262143 : Int64)) then (1 : Int32) else (0 : Int32)) else (if xo = (5 : Int32) then (if (F_X9_signed (xr ((16 : Int32) + xi).toNatClampNeg) (262143 : Int64)) = (F_X9_signed (xr ((16 : Int32) + xj).toNatClampNeg) (262143 : Int64)) then (0 : Int32) else (1 : Int32)) else (if xo = (6 : Int32) then (if (F_X9_signed (xr ((16 : Int32) + xi).toNatClampNeg) (262143 : Int64)) < (F_X9_signed (xr ((16 : Int32) + xj).toNatClampNeg) (262143 : Int64)) then (0 : Int32) else (1 : Int32)) else (if (F_X9_signed (xr ((16 : Int32) + xj).toNatClampNeg) (262143 : Int64)) ≤ (F_X9_signed (xr ((16 : Int32) + xi).toNatClampNeg) (262143 : Int64)) then (0 : Int32) else (1 : Int32)))))) else (1 : Int32))
abbrev rm_X9_holds : Room := { frames := 1, cells := 0, slots := 0, locals := 23 }
set_option maxRecDepth 20000 in
theorem mi_X9_holds_X9 : ∀ w ∈ wsX90, w ∈ wsX9_holds := by decide +kernel
set_option maxRecDepth 20000 in
theorem mm_X9_holds_f16 : Cond.fieldLink RX9 16 "ScoreboardCoreModel" "\x72" "[J" ∈ wsX9_holds := by decide +kernel
set_option maxRecDepth 20000 in
theorem mm_X9_holds_f68 : Cond.fieldLink RX9 68 "ScoreboardCoreModel" "op" "I" ∈ wsX9_holds := by decide +kernel
set_option maxRecDepth 20000 in
theorem mm_X9_holds_f71 : Cond.fieldLink RX9 71 "ScoreboardCoreModel" "i" "I" ∈ wsX9_holds := by decide +kernel
set_option maxRecDepth 20000 in
theorem mm_X9_holds_f83 : Cond.fieldLink RX9 83 "ScoreboardCoreModel" "j" "I" ∈ wsX9_holds := by decide +kernel
set_option maxRecDepth 20000 in
theorem mm_X9_holds_iX9 : Cond.initialized RX9 ∈ wsX9_holds := by decide +kernel
set_option maxRecDepth 20000 in
theorem mm_X9_holds_k174 : Cond.constantLong RX9 174 (576460752303423487) ∈ wsX9_holds := by decide +kernel
set_option maxRecDepth 20000 in
theorem mm_X9_holds_k42 : Cond.constantLong RX9 42 (1152921504606846975) ∈ wsX9_holds := by decide +kernel
set_option maxRecDepth 20000 in
theorem mm_X9_holds_k44 : Cond.constantLong RX9 44 (262143) ∈ wsX9_holds := by decide +kernel
set_option maxRecDepth 20000 in
theorem mm_X9_holds_l176 : Cond.methodLink RX9 176 yX9_signed ∈ wsX9_holds := by decide +kernel
set_option maxRecDepth 20000 in
theorem mm_X9_holds_tX9_signed : Cond.static yX9_signed ∈ wsX9_holds := by decide +kernel
set_option maxHeartbeats 4000000 in
set_option maxRecDepth 100000 in
theorem w_X9_holds {p : Program} {l : Launch} {e : Env} {s : State} {m : MethodId} {below : List Frame} {meth : Method} {c : Code} {args : Array Value} (dC : Nat → ClassId) (dI : Nat → Nat → Nat) (cI cJ : ClassId) (hX x1 x2 x3 x4 x5 x6 x7 x8 : Nat) (xt : Int32) (xw : Int32) (xp : Int32) (xs : Int32) (xc : Int64) (xM : Int64) (xE : Int64) (xL : Int64) (xo : Int32) (xi : Int32) (xj : Int32) (xk : Int32) (xn : Int32) (xz : Int32) (xa : Int32) (xg : Int32) (xmw : Nat → Int64) (xmp : Nat → Int64) (xr : Nat → Int64) (xd : Nat → Int32) (xwt : Nat → Int64) (xf : Nat → Int64) (xrd : Nat → Int64) (xu : Nat → Int64) (C0 : Cx p s m meth c cX9_holds 5 (some .boolean) wsX9_holds RX9 args) (hK : va_K (dC, dI) vwCl [(cI, .int), (cJ, .long)] s) (hP : va_P (dC, dI) vwCl [(hX, .inr (6, [.int xt, .ref x1, .ref x2, .ref x3, .int xw, .int xp, .int xs, .long xc, .ref x4, .ref x5, .ref x6, .ref x7, .ref x8, .long xM, .long xE, .long xL, .int xo, .int xi, .int xj, .int xk, .int xn, .int xz, .int xa, .int xg])), (x1, .inl (cJ, 512, .inr (.inl xmw))), (x2, .inl (cJ, 512, .inr (.inl xmp))), (x3, .inl (cJ, 24, .inr (.inl xr))), (x4, .inl (cI, 8, .inl xd)), (x5, .inl (cJ, 5, .inr (.inl xwt))), (x6, .inl (cJ, 24, .inr (.inl xf))), (x7, .inl (cJ, 24, .inr (.inl xrd))), (x8, .inl (cJ, 6, .inr (.inl xu)))] s.heap) (hi : R8 xi) (hj : R8 xj) (hk : R8 xk) {V : Int32} (hV : (F_X9_holds xo xi xj xr ) = V) (ls : Array Slot) (hl : lv_has ls 5 [(0, .ref hX)]) : W p l e rm_X9_holds s m args below meth c s.heap [] 0 0 (MQ below (vp_Si (fun r => r = V)) args s 0 0 (fun _ => False)) (F0 m 0 ls []) := by
  obtain ⟨hx, hb, hr, hlk, hml, hown, hts⟩ := id C0
  refine lv_aload_n hx hb dX9_holds_0 rfl (lv_at hl 0 rfl) ?_
  refine va_get (D := (dC, dI)) (ci := 6) (v := .int xo) (C := RX9) (T := TX9) (N := 24) hx hb hts mi_X9_holds_X9 hown hK hP 0 rfl rfl 16 (by decide) (hts (.fieldLink RX9 68 "ScoreboardCoreModel" "op" "I") mm_X9_holds_f68) (fun _ h9 => h9) rfl dX9_holds_1 ?_
  refine lv_iconst (v := (3 : Int32)) hx hb dX9_holds_4 (by decide) ?_
  refine lv_icmp_ge (x := xo) (y := (3 : Int32)) (tgt := 10) hx hb dX9_holds_5 (by decide) (fun c1 => ?_) (fun c1 => ?_)
  · refine lv_aload_n hx hb dX9_holds_10 rfl (lv_at hl 0 rfl) ?_
    refine va_get (D := (dC, dI)) (ci := 6) (v := .int xo) (C := RX9) (T := TX9) (N := 24) hx hb hts mi_X9_holds_X9 hown hK hP 0 rfl rfl 16 (by decide) (hts (.fieldLink RX9 68 "ScoreboardCoreModel" "op" "I") mm_X9_holds_f68) (fun _ h9 => h9) rfl dX9_holds_11 ?_
    refine lv_iconst (v := (3 : Int32)) hx hb dX9_holds_14 (by decide) ?_
    refine lv_icmp_ne (x := xo) (y := (3 : Int32)) (tgt := 118) hx hb dX9_holds_15 (by decide) (fun c2 => ?_) (fun c2 => ?_)
    · refine lv_aload_n hx hb dX9_holds_118 rfl (lv_at hl 0 rfl) ?_
      refine va_get (D := (dC, dI)) (ci := 6) (v := .ref x3) (C := RX9) (T := TX9) (N := 24) hx hb hts mi_X9_holds_X9 hown hK hP 0 rfl rfl 3 (by decide) (hts (.fieldLink RX9 16 "ScoreboardCoreModel" "\x72" "[J") mm_X9_holds_f16) (fun _ h9 => h9) rfl dX9_holds_119 ?_
      refine lv_bipush (v := (16 : Int32)) hx hb dX9_holds_122 (by decide) ?_
      refine lv_aload_n hx hb dX9_holds_124 rfl (lv_at hl 0 rfl) ?_
      refine va_get (D := (dC, dI)) (ci := 6) (v := .int xi) (C := RX9) (T := TX9) (N := 24) hx hb hts mi_X9_holds_X9 hown hK hP 0 rfl rfl 17 (by decide) (hts (.fieldLink RX9 71 "ScoreboardCoreModel" "i" "I") mm_X9_holds_f71) (fun _ h9 => h9) rfl dX9_holds_125 ?_
      refine lv_iadd hx hb dX9_holds_128 ?_
      refine va_lald (D := (dC, dI)) hx hb hK hP 3 1 rfl rfl hi.b dX9_holds_129 ?_
      refine lv_ldc2 (v := (262143 : Int64)) hx hb hown (hts _ mm_X9_holds_k44) dX9_holds_130 ?_
      refine roSl (As := [.long (xr ((16 : Int32) + xi).toNatClampNeg), .long (262143 : Int64)]) (rest := []) (bytes := cX9_signed) (maxL := 4) (rty := (some .long)) (n := 2) C0 (c_X9_signed l dC dI cI cJ (xr ((16 : Int32) + xi).toNatClampNeg) (262143 : Int64)) ⟨rfl, rfl, rfl, by decide +kernel, by decide, by decide⟩ ggX9_holds_X9_signed mm_X9_holds_iX9 mm_X9_holds_l176 mm_X9_holds_tX9_signed (hP.sub (ws' := []) [] rfl) hK hl.1 rfl rfl (Nat.le_of_ble_eq_true rfl) dX9_holds_133 ⟨Nat.zero_le _, Nat.zero_le _⟩ ?_
      refine lv_lstore_n (lv' := [(1, .long (F_X9_signed (xr ((16 : Int32) + xi).toNatClampNeg) (262143 : Int64))), (0, .ref hX)]) hx hb dX9_holds_136 rfl hl (by decide) rfl (fun ls hl => ?_)
      refine lv_aload_n hx hb dX9_holds_137 rfl (lv_at hl 1 rfl) ?_
      refine va_get (D := (dC, dI)) (ci := 6) (v := .ref x3) (C := RX9) (T := TX9) (N := 24) hx hb hts mi_X9_holds_X9 hown hK hP 0 rfl rfl 3 (by decide) (hts (.fieldLink RX9 16 "ScoreboardCoreModel" "\x72" "[J") mm_X9_holds_f16) (fun _ h9 => h9) rfl dX9_holds_138 ?_
      refine lv_bipush (v := (16 : Int32)) hx hb dX9_holds_141 (by decide) ?_
      refine lv_aload_n hx hb dX9_holds_143 rfl (lv_at hl 1 rfl) ?_
      refine va_get (D := (dC, dI)) (ci := 6) (v := .int xj) (C := RX9) (T := TX9) (N := 24) hx hb hts mi_X9_holds_X9 hown hK hP 0 rfl rfl 18 (by decide) (hts (.fieldLink RX9 83 "ScoreboardCoreModel" "j" "I") mm_X9_holds_f83) (fun _ h9 => h9) rfl dX9_holds_144 ?_
      refine lv_iadd hx hb dX9_holds_147 ?_
      refine va_lald (D := (dC, dI)) hx hb hK hP 3 1 rfl rfl hj.b dX9_holds_148 ?_
      refine lv_ldc2 (v := (262143 : Int64)) hx hb hown (hts _ mm_X9_holds_k44) dX9_holds_149 ?_
      refine roSl (As := [.long (xr ((16 : Int32) + xj).toNatClampNeg), .long (262143 : Int64)]) (rest := []) (bytes := cX9_signed) (maxL := 4) (rty := (some .long)) (n := 2) C0 (c_X9_signed l dC dI cI cJ (xr ((16 : Int32) + xj).toNatClampNeg) (262143 : Int64)) ⟨rfl, rfl, rfl, by decide +kernel, by decide, by decide⟩ ggX9_holds_X9_signed mm_X9_holds_iX9 mm_X9_holds_l176 mm_X9_holds_tX9_signed (hP.sub (ws' := []) [] rfl) hK hl.1 rfl rfl (Nat.le_of_ble_eq_true rfl) dX9_holds_152 ⟨Nat.zero_le _, Nat.zero_le _⟩ ?_
      refine lv_lstore_n (lv' := [(3, .long (F_X9_signed (xr ((16 : Int32) + xj).toNatClampNeg) (262143 : Int64))), (1, .long (F_X9_signed (xr ((16 : Int32) + xi).toNatClampNeg) (262143 : Int64))), (0, .ref hX)]) hx hb dX9_holds_155 rfl hl (by decide) rfl (fun ls hl => ?_)
      refine lv_aload_n hx hb dX9_holds_156 rfl (lv_at hl 2 rfl) ?_
      refine va_get (D := (dC, dI)) (ci := 6) (v := .int xo) (C := RX9) (T := TX9) (N := 24) hx hb hts mi_X9_holds_X9 hown hK hP 0 rfl rfl 16 (by decide) (hts (.fieldLink RX9 68 "ScoreboardCoreModel" "op" "I") mm_X9_holds_f68) (fun _ h9 => h9) rfl dX9_holds_157 ?_
      refine lv_iconst (v := (4 : Int32)) hx hb dX9_holds_160 (by decide) ?_
      refine lv_icmp_ne (x := xo) (y := (4 : Int32)) (tgt := 178) hx hb dX9_holds_161 (by decide) (fun c3 => ?_) (fun c3 => ?_)
      · refine lv_aload_n hx hb dX9_holds_178 rfl (lv_at hl 2 rfl) ?_
        refine va_get (D := (dC, dI)) (ci := 6) (v := .int xo) (C := RX9) (T := TX9) (N := 24) hx hb hts mi_X9_holds_X9 hown hK hP 0 rfl rfl 16 (by decide) (hts (.fieldLink RX9 68 "ScoreboardCoreModel" "op" "I") mm_X9_holds_f68) (fun _ h9 => h9) rfl dX9_holds_179 ?_
        refine lv_iconst (v := (5 : Int32)) hx hb dX9_holds_182 (by decide) ?_
        refine lv_icmp_ne (x := xo) (y := (5 : Int32)) (tgt := 200) hx hb dX9_holds_183 (by decide) (fun c4 => ?_) (fun c4 => ?_)
        · refine lv_aload_n hx hb dX9_holds_200 rfl (lv_at hl 2 rfl) ?_
          refine va_get (D := (dC, dI)) (ci := 6) (v := .int xo) (C := RX9) (T := TX9) (N := 24) hx hb hts mi_X9_holds_X9 hown hK hP 0 rfl rfl 16 (by decide) (hts (.fieldLink RX9 68 "ScoreboardCoreModel" "op" "I") mm_X9_holds_f68) (fun _ h9 => h9) rfl dX9_holds_201 ?_
          refine lv_bipush (v := (6 : Int32)) hx hb dX9_holds_204 (by decide) ?_
          refine lv_icmp_ne (x := xo) (y := (6 : Int32)) (tgt := 223) hx hb dX9_holds_206 (by decide) (fun c5 => ?_) (fun c5 => ?_)
          · refine lv_lload_n hx hb dX9_holds_223 rfl (lv_at hl 1 rfl) ?_
            refine lv_lload_n hx hb dX9_holds_224 rfl (lv_at hl 0 rfl) ?_
            refine lc_ge (x := (F_X9_signed (xr ((16 : Int32) + xi).toNatClampNeg) (262143 : Int64))) (y := (F_X9_signed (xr ((16 : Int32) + xj).toNatClampNeg) (262143 : Int64))) (tgt := 233) hx hb dX9_holds_225 dX9_holds_226 (by decide) (fun c6 => ?_) (fun c6 => ?_)
            · refine lv_iconst (v := (0 : Int32)) hx hb dX9_holds_233 (by decide) ?_
              have e9 : (F_X9_holds xo xi xj xr ) = (0 : Int32) := by rw [F_X9_holds, if_pos c1, if_neg c2, if_neg c3, if_neg c4, if_neg c5, if_pos c6]
              rw [e9] at hV
              subst hV
              exact roRetZ C0 rfl rfl dX9_holds_234
            · refine lv_iconst (v := (1 : Int32)) hx hb dX9_holds_229 (by decide) ?_
              refine lv_goto (tgt := 234) hx hb dX9_holds_230 (by decide) ?_
              have e9 : (F_X9_holds xo xi xj xr ) = (1 : Int32) := by rw [F_X9_holds, if_pos c1, if_neg c2, if_neg c3, if_neg c4, if_neg c5, if_neg c6]
              rw [e9] at hV
              subst hV
              exact roRetZ C0 rfl rfl dX9_holds_234
          · refine lv_lload_n hx hb dX9_holds_209 rfl (lv_at hl 1 rfl) ?_
            refine lv_lload_n hx hb dX9_holds_210 rfl (lv_at hl 0 rfl) ?_
            refine lc_lt (x := (F_X9_signed (xr ((16 : Int32) + xi).toNatClampNeg) (262143 : Int64))) (y := (F_X9_signed (xr ((16 : Int32) + xj).toNatClampNeg) (262143 : Int64))) (tgt := 219) hx hb dX9_holds_211 dX9_holds_212 (by decide) (fun c7 => ?_) (fun c7 => ?_)
            · refine lv_iconst (v := (0 : Int32)) hx hb dX9_holds_219 (by decide) ?_
              refine lv_goto (tgt := 234) hx hb dX9_holds_220 (by decide) ?_
              have e9 : (F_X9_holds xo xi xj xr ) = (0 : Int32) := by rw [F_X9_holds, if_pos c1, if_neg c2, if_neg c3, if_neg c4, if_pos c5, if_pos c7]
              rw [e9] at hV
              subst hV
              exact roRetZ C0 rfl rfl dX9_holds_234
            · refine lv_iconst (v := (1 : Int32)) hx hb dX9_holds_215 (by decide) ?_
              refine lv_goto (tgt := 234) hx hb dX9_holds_216 (by decide) ?_
              have e9 : (F_X9_holds xo xi xj xr ) = (1 : Int32) := by rw [F_X9_holds, if_pos c1, if_neg c2, if_neg c3, if_neg c4, if_pos c5, if_neg c7]
              rw [e9] at hV
              subst hV
              exact roRetZ C0 rfl rfl dX9_holds_234
        · refine lv_lload_n hx hb dX9_holds_186 rfl (lv_at hl 1 rfl) ?_
          refine lv_lload_n hx hb dX9_holds_187 rfl (lv_at hl 0 rfl) ?_
          refine lc_eq (x := (F_X9_signed (xr ((16 : Int32) + xi).toNatClampNeg) (262143 : Int64))) (y := (F_X9_signed (xr ((16 : Int32) + xj).toNatClampNeg) (262143 : Int64))) (tgt := 196) hx hb dX9_holds_188 dX9_holds_189 (by decide) (fun c8 => ?_) (fun c8 => ?_)
          · refine lv_iconst (v := (0 : Int32)) hx hb dX9_holds_196 (by decide) ?_
            refine lv_goto (tgt := 234) hx hb dX9_holds_197 (by decide) ?_
            have e9 : (F_X9_holds xo xi xj xr ) = (0 : Int32) := by rw [F_X9_holds, if_pos c1, if_neg c2, if_neg c3, if_pos c4, if_pos c8]
            rw [e9] at hV
            subst hV
            exact roRetZ C0 rfl rfl dX9_holds_234
          · refine lv_iconst (v := (1 : Int32)) hx hb dX9_holds_192 (by decide) ?_
            refine lv_goto (tgt := 234) hx hb dX9_holds_193 (by decide) ?_
            have e9 : (F_X9_holds xo xi xj xr ) = (1 : Int32) := by rw [F_X9_holds, if_pos c1, if_neg c2, if_neg c3, if_pos c4, if_neg c8]
            rw [e9] at hV
            subst hV
            exact roRetZ C0 rfl rfl dX9_holds_234
      · refine lv_lload_n hx hb dX9_holds_164 rfl (lv_at hl 1 rfl) ?_
        refine lv_lload_n hx hb dX9_holds_165 rfl (lv_at hl 0 rfl) ?_
        refine lc_ne (x := (F_X9_signed (xr ((16 : Int32) + xi).toNatClampNeg) (262143 : Int64))) (y := (F_X9_signed (xr ((16 : Int32) + xj).toNatClampNeg) (262143 : Int64))) (tgt := 174) hx hb dX9_holds_166 dX9_holds_167 (by decide) (fun c9 => ?_) (fun c9 => ?_)
        · refine lv_iconst (v := (0 : Int32)) hx hb dX9_holds_174 (by decide) ?_
          refine lv_goto (tgt := 234) hx hb dX9_holds_175 (by decide) ?_
          have e9 : (F_X9_holds xo xi xj xr ) = (0 : Int32) := by rw [F_X9_holds, if_pos c1, if_neg c2, if_pos c3, if_neg c9]
          rw [e9] at hV
          subst hV
          exact roRetZ C0 rfl rfl dX9_holds_234
        · refine lv_iconst (v := (1 : Int32)) hx hb dX9_holds_170 (by decide) ?_
          refine lv_goto (tgt := 234) hx hb dX9_holds_171 (by decide) ?_
          have e9 : (F_X9_holds xo xi xj xr ) = (1 : Int32) := by rw [F_X9_holds, if_pos c1, if_neg c2, if_pos c3, if_pos c9]
          rw [e9] at hV
          subst hV
          exact roRetZ C0 rfl rfl dX9_holds_234
    · refine lv_aload_n hx hb dX9_holds_18 rfl (lv_at hl 0 rfl) ?_
      refine va_get (D := (dC, dI)) (ci := 6) (v := .ref x3) (C := RX9) (T := TX9) (N := 24) hx hb hts mi_X9_holds_X9 hown hK hP 0 rfl rfl 3 (by decide) (hts (.fieldLink RX9 16 "ScoreboardCoreModel" "\x72" "[J") mm_X9_holds_f16) (fun _ h9 => h9) rfl dX9_holds_19 ?_
      refine lv_aload_n hx hb dX9_holds_22 rfl (lv_at hl 0 rfl) ?_
      refine va_get (D := (dC, dI)) (ci := 6) (v := .int xj) (C := RX9) (T := TX9) (N := 24) hx hb hts mi_X9_holds_X9 hown hK hP 0 rfl rfl 18 (by decide) (hts (.fieldLink RX9 83 "ScoreboardCoreModel" "j" "I") mm_X9_holds_f83) (fun _ h9 => h9) rfl dX9_holds_23 ?_
      refine va_lald (D := (dC, dI)) hx hb hK hP 3 1 rfl rfl hj.x dX9_holds_26 ?_
      refine lv_lstore_n (lv' := [(1, .long (xr xj.toNatClampNeg)), (0, .ref hX)]) hx hb dX9_holds_27 rfl hl (by decide) rfl (fun ls hl => ?_)
      refine lv_lload_n hx hb dX9_holds_28 rfl (lv_at hl 0 rfl) ?_
      refine lv_lconst (v := (0 : Int64)) hx hb dX9_holds_29 (by decide) ?_
      refine lc_eq (x := (xr xj.toNatClampNeg)) (y := (0 : Int64)) (tgt := 42) hx hb dX9_holds_30 dX9_holds_31 (by decide) (fun c10 => ?_) (fun c10 => ?_)
      · refine lv_iconst (v := (1 : Int32)) hx hb dX9_holds_42 (by decide) ?_
        refine lv_goto (tgt := 47) hx hb dX9_holds_43 (by decide) ?_
        refine lv_istore_n (lv' := [(3, .int (1 : Int32)), (1, .long (xr xj.toNatClampNeg)), (0, .ref hX)]) hx hb dX9_holds_47 rfl hl (by decide) rfl (fun ls hl => ?_)
        refine lv_lload_n hx hb dX9_holds_48 rfl (lv_at hl 1 rfl) ?_
        refine lv_ldc2 (v := (576460752303423487 : Int64)) hx hb hown (hts _ mm_X9_holds_k174) dX9_holds_49 ?_
        refine lc_le (x := (xr xj.toNatClampNeg)) (y := (576460752303423487 : Int64)) (tgt := 60) hx hb dX9_holds_52 dX9_holds_53 (by decide) (fun c11 => ?_) (fun c11 => ?_)
        · refine lv_iconst (v := (0 : Int32)) hx hb dX9_holds_60 (by decide) ?_
          refine lv_istore (lv' := [(4, .int (0 : Int32)), (3, .int (1 : Int32)), (1, .long (xr xj.toNatClampNeg)), (0, .ref hX)]) hx hb dX9_holds_61 hl (by decide) rfl (fun ls hl => ?_)
          refine lv_aload_n hx hb dX9_holds_63 rfl (lv_at hl 3 rfl) ?_
          refine va_get (D := (dC, dI)) (ci := 6) (v := .int xi) (C := RX9) (T := TX9) (N := 24) hx hb hts mi_X9_holds_X9 hown hK hP 0 rfl rfl 17 (by decide) (hts (.fieldLink RX9 71 "ScoreboardCoreModel" "i" "I") mm_X9_holds_f71) (fun _ h9 => h9) rfl dX9_holds_64 ?_
          refine lv_if_ne (x := xi) (tgt := 74) hx hb dX9_holds_67 (by decide) (fun c12 => ?_) (fun c12 => ?_)
          · refine lv_aload_n hx hb dX9_holds_74 rfl (lv_at hl 3 rfl) ?_
            refine va_get (D := (dC, dI)) (ci := 6) (v := .int xi) (C := RX9) (T := TX9) (N := 24) hx hb hts mi_X9_holds_X9 hown hK hP 0 rfl rfl 17 (by decide) (hts (.fieldLink RX9 71 "ScoreboardCoreModel" "i" "I") mm_X9_holds_f71) (fun _ h9 => h9) rfl dX9_holds_75 ?_
            refine lv_iconst (v := (1 : Int32)) hx hb dX9_holds_78 (by decide) ?_
            refine lv_icmp_ne (x := xi) (y := (1 : Int32)) (tgt := 94) hx hb dX9_holds_79 (by decide) (fun c13 => ?_) (fun c13 => ?_)
            · refine lv_aload_n hx hb dX9_holds_94 rfl (lv_at hl 3 rfl) ?_
              refine va_get (D := (dC, dI)) (ci := 6) (v := .int xi) (C := RX9) (T := TX9) (N := 24) hx hb hts mi_X9_holds_X9 hown hK hP 0 rfl rfl 17 (by decide) (hts (.fieldLink RX9 71 "ScoreboardCoreModel" "i" "I") mm_X9_holds_f71) (fun _ h9 => h9) rfl dX9_holds_95 ?_
              refine lv_iconst (v := (2 : Int32)) hx hb dX9_holds_98 (by decide) ?_
              refine lv_icmp_ne (x := xi) (y := (2 : Int32)) (tgt := 115) hx hb dX9_holds_99 (by decide) (fun c14 => ?_) (fun c14 => ?_)
              · refine lv_iload hx hb dX9_holds_115 (lv_at hl 0 rfl) ?_
                have e9 : (F_X9_holds xo xi xj xr ) = (0 : Int32) := by rw [F_X9_holds, if_pos c1, if_pos c2, if_pos c10, if_pos c11, if_neg c12, if_neg c13, if_neg c14]
                rw [e9] at hV
                subst hV
                exact roRetZ C0 rfl rfl dX9_holds_117
              · refine lv_iload hx hb dX9_holds_102 (lv_at hl 0 rfl) ?_
                refine lv_if_ne (x := (0 : Int32)) (tgt := 111) hx hb dX9_holds_104 (by decide) (fun c15 => ?_) (fun c15 => ?_)
                · refine lv_iconst (v := (0 : Int32)) hx hb dX9_holds_111 (by decide) ?_
                  refine lv_goto (tgt := 117) hx hb dX9_holds_112 (by decide) ?_
                  have e9 : (F_X9_holds xo xi xj xr ) = (0 : Int32) := by rw [F_X9_holds, if_pos c1, if_pos c2, if_pos c10, if_pos c11, if_neg c12, if_neg c13, if_pos c14, if_neg c15]
                  rw [e9] at hV
                  subst hV
                  exact roRetZ C0 rfl rfl dX9_holds_117
                · refine lv_iconst (v := (1 : Int32)) hx hb dX9_holds_107 (by decide) ?_
                  refine lv_goto (tgt := 117) hx hb dX9_holds_108 (by decide) ?_
                  have e9 : (F_X9_holds xo xi xj xr ) = (1 : Int32) := by rw [F_X9_holds, if_pos c1, if_pos c2, if_pos c10, if_pos c11, if_neg c12, if_neg c13, if_pos c14, if_pos c15]
                  rw [e9] at hV
                  subst hV
                  exact roRetZ C0 rfl rfl dX9_holds_117
            · refine lv_iload_n hx hb dX9_holds_82 rfl (lv_at hl 1 rfl) ?_
              refine lv_if_ne (x := (1 : Int32)) (tgt := 90) hx hb dX9_holds_83 (by decide) (fun c16 => ?_) (fun c16 => ?_)
              · refine lv_iconst (v := (0 : Int32)) hx hb dX9_holds_90 (by decide) ?_
                refine lv_goto (tgt := 117) hx hb dX9_holds_91 (by decide) ?_
                have e9 : (F_X9_holds xo xi xj xr ) = (0 : Int32) := by rw [F_X9_holds, if_pos c1, if_pos c2, if_pos c10, if_pos c11, if_neg c12, if_pos c13, if_neg c16]
                rw [e9] at hV
                subst hV
                exact roRetZ C0 rfl rfl dX9_holds_117
              · refine lv_iconst (v := (1 : Int32)) hx hb dX9_holds_86 (by decide) ?_
                refine lv_goto (tgt := 117) hx hb dX9_holds_87 (by decide) ?_
                have e9 : (F_X9_holds xo xi xj xr ) = (1 : Int32) := by rw [F_X9_holds, if_pos c1, if_pos c2, if_pos c10, if_pos c11, if_neg c12, if_pos c13, if_pos c16]
                rw [e9] at hV
                subst hV
                exact roRetZ C0 rfl rfl dX9_holds_117
          · refine lv_iload_n hx hb dX9_holds_70 rfl (lv_at hl 1 rfl) ?_
            refine lv_goto (tgt := 117) hx hb dX9_holds_71 (by decide) ?_
            have e9 : (F_X9_holds xo xi xj xr ) = (1 : Int32) := by rw [F_X9_holds, if_pos c1, if_pos c2, if_pos c10, if_pos c11, if_pos c12]
            rw [e9] at hV
            subst hV
            exact roRetZ C0 rfl rfl dX9_holds_117
        · refine lv_iconst (v := (1 : Int32)) hx hb dX9_holds_56 (by decide) ?_
          refine lv_goto (tgt := 61) hx hb dX9_holds_57 (by decide) ?_
          refine lv_istore (lv' := [(4, .int (1 : Int32)), (3, .int (1 : Int32)), (1, .long (xr xj.toNatClampNeg)), (0, .ref hX)]) hx hb dX9_holds_61 hl (by decide) rfl (fun ls hl => ?_)
          refine lv_aload_n hx hb dX9_holds_63 rfl (lv_at hl 3 rfl) ?_
          refine va_get (D := (dC, dI)) (ci := 6) (v := .int xi) (C := RX9) (T := TX9) (N := 24) hx hb hts mi_X9_holds_X9 hown hK hP 0 rfl rfl 17 (by decide) (hts (.fieldLink RX9 71 "ScoreboardCoreModel" "i" "I") mm_X9_holds_f71) (fun _ h9 => h9) rfl dX9_holds_64 ?_
          refine lv_if_ne (x := xi) (tgt := 74) hx hb dX9_holds_67 (by decide) (fun c17 => ?_) (fun c17 => ?_)
          · refine lv_aload_n hx hb dX9_holds_74 rfl (lv_at hl 3 rfl) ?_
            refine va_get (D := (dC, dI)) (ci := 6) (v := .int xi) (C := RX9) (T := TX9) (N := 24) hx hb hts mi_X9_holds_X9 hown hK hP 0 rfl rfl 17 (by decide) (hts (.fieldLink RX9 71 "ScoreboardCoreModel" "i" "I") mm_X9_holds_f71) (fun _ h9 => h9) rfl dX9_holds_75 ?_
            refine lv_iconst (v := (1 : Int32)) hx hb dX9_holds_78 (by decide) ?_
            refine lv_icmp_ne (x := xi) (y := (1 : Int32)) (tgt := 94) hx hb dX9_holds_79 (by decide) (fun c18 => ?_) (fun c18 => ?_)
            · refine lv_aload_n hx hb dX9_holds_94 rfl (lv_at hl 3 rfl) ?_
              refine va_get (D := (dC, dI)) (ci := 6) (v := .int xi) (C := RX9) (T := TX9) (N := 24) hx hb hts mi_X9_holds_X9 hown hK hP 0 rfl rfl 17 (by decide) (hts (.fieldLink RX9 71 "ScoreboardCoreModel" "i" "I") mm_X9_holds_f71) (fun _ h9 => h9) rfl dX9_holds_95 ?_
              refine lv_iconst (v := (2 : Int32)) hx hb dX9_holds_98 (by decide) ?_
              refine lv_icmp_ne (x := xi) (y := (2 : Int32)) (tgt := 115) hx hb dX9_holds_99 (by decide) (fun c19 => ?_) (fun c19 => ?_)
              · refine lv_iload hx hb dX9_holds_115 (lv_at hl 0 rfl) ?_
                have e9 : (F_X9_holds xo xi xj xr ) = (1 : Int32) := by rw [F_X9_holds, if_pos c1, if_pos c2, if_pos c10, if_neg c11, if_neg c17, if_neg c18, if_neg c19]
                rw [e9] at hV
                subst hV
                exact roRetZ C0 rfl rfl dX9_holds_117
              · refine lv_iload hx hb dX9_holds_102 (lv_at hl 0 rfl) ?_
                refine lv_if_ne (x := (1 : Int32)) (tgt := 111) hx hb dX9_holds_104 (by decide) (fun c20 => ?_) (fun c20 => ?_)
                · refine lv_iconst (v := (0 : Int32)) hx hb dX9_holds_111 (by decide) ?_
                  refine lv_goto (tgt := 117) hx hb dX9_holds_112 (by decide) ?_
                  have e9 : (F_X9_holds xo xi xj xr ) = (0 : Int32) := by rw [F_X9_holds, if_pos c1, if_pos c2, if_pos c10, if_neg c11, if_neg c17, if_neg c18, if_pos c19, if_neg c20]
                  rw [e9] at hV
                  subst hV
                  exact roRetZ C0 rfl rfl dX9_holds_117
                · refine lv_iconst (v := (1 : Int32)) hx hb dX9_holds_107 (by decide) ?_
                  refine lv_goto (tgt := 117) hx hb dX9_holds_108 (by decide) ?_
                  have e9 : (F_X9_holds xo xi xj xr ) = (1 : Int32) := by rw [F_X9_holds, if_pos c1, if_pos c2, if_pos c10, if_neg c11, if_neg c17, if_neg c18, if_pos c19, if_pos c20]
                  rw [e9] at hV
                  subst hV
                  exact roRetZ C0 rfl rfl dX9_holds_117
            · refine lv_iload_n hx hb dX9_holds_82 rfl (lv_at hl 1 rfl) ?_
              refine lv_if_ne (x := (1 : Int32)) (tgt := 90) hx hb dX9_holds_83 (by decide) (fun c21 => ?_) (fun c21 => ?_)
              · refine lv_iconst (v := (0 : Int32)) hx hb dX9_holds_90 (by decide) ?_
                refine lv_goto (tgt := 117) hx hb dX9_holds_91 (by decide) ?_
                have e9 : (F_X9_holds xo xi xj xr ) = (0 : Int32) := by rw [F_X9_holds, if_pos c1, if_pos c2, if_pos c10, if_neg c11, if_neg c17, if_pos c18, if_neg c21]
                rw [e9] at hV
                subst hV
                exact roRetZ C0 rfl rfl dX9_holds_117
              · refine lv_iconst (v := (1 : Int32)) hx hb dX9_holds_86 (by decide) ?_
                refine lv_goto (tgt := 117) hx hb dX9_holds_87 (by decide) ?_
                have e9 : (F_X9_holds xo xi xj xr ) = (1 : Int32) := by rw [F_X9_holds, if_pos c1, if_pos c2, if_pos c10, if_neg c11, if_neg c17, if_pos c18, if_pos c21]
                rw [e9] at hV
                subst hV
                exact roRetZ C0 rfl rfl dX9_holds_117
          · refine lv_iload_n hx hb dX9_holds_70 rfl (lv_at hl 1 rfl) ?_
            refine lv_goto (tgt := 117) hx hb dX9_holds_71 (by decide) ?_
            have e9 : (F_X9_holds xo xi xj xr ) = (1 : Int32) := by rw [F_X9_holds, if_pos c1, if_pos c2, if_pos c10, if_neg c11, if_pos c17]
            rw [e9] at hV
            subst hV
            exact roRetZ C0 rfl rfl dX9_holds_117
      · refine lv_lload_n hx hb dX9_holds_34 rfl (lv_at hl 0 rfl) ?_
        refine lv_ldc2 (v := (1152921504606846975 : Int64)) hx hb hown (hts _ mm_X9_holds_k42) dX9_holds_35 ?_
        refine lc_ne (x := (xr xj.toNatClampNeg)) (y := (1152921504606846975 : Int64)) (tgt := 46) hx hb dX9_holds_38 dX9_holds_39 (by decide) (fun c22 => ?_) (fun c22 => ?_)
        · refine lv_iconst (v := (0 : Int32)) hx hb dX9_holds_46 (by decide) ?_
          refine lv_istore_n (lv' := [(3, .int (0 : Int32)), (1, .long (xr xj.toNatClampNeg)), (0, .ref hX)]) hx hb dX9_holds_47 rfl hl (by decide) rfl (fun ls hl => ?_)
          refine lv_lload_n hx hb dX9_holds_48 rfl (lv_at hl 1 rfl) ?_
          refine lv_ldc2 (v := (576460752303423487 : Int64)) hx hb hown (hts _ mm_X9_holds_k174) dX9_holds_49 ?_
          refine lc_le (x := (xr xj.toNatClampNeg)) (y := (576460752303423487 : Int64)) (tgt := 60) hx hb dX9_holds_52 dX9_holds_53 (by decide) (fun c23 => ?_) (fun c23 => ?_)
          · refine lv_iconst (v := (0 : Int32)) hx hb dX9_holds_60 (by decide) ?_
            refine lv_istore (lv' := [(4, .int (0 : Int32)), (3, .int (0 : Int32)), (1, .long (xr xj.toNatClampNeg)), (0, .ref hX)]) hx hb dX9_holds_61 hl (by decide) rfl (fun ls hl => ?_)
            refine lv_aload_n hx hb dX9_holds_63 rfl (lv_at hl 3 rfl) ?_
            refine va_get (D := (dC, dI)) (ci := 6) (v := .int xi) (C := RX9) (T := TX9) (N := 24) hx hb hts mi_X9_holds_X9 hown hK hP 0 rfl rfl 17 (by decide) (hts (.fieldLink RX9 71 "ScoreboardCoreModel" "i" "I") mm_X9_holds_f71) (fun _ h9 => h9) rfl dX9_holds_64 ?_
            refine lv_if_ne (x := xi) (tgt := 74) hx hb dX9_holds_67 (by decide) (fun c24 => ?_) (fun c24 => ?_)
            · refine lv_aload_n hx hb dX9_holds_74 rfl (lv_at hl 3 rfl) ?_
              refine va_get (D := (dC, dI)) (ci := 6) (v := .int xi) (C := RX9) (T := TX9) (N := 24) hx hb hts mi_X9_holds_X9 hown hK hP 0 rfl rfl 17 (by decide) (hts (.fieldLink RX9 71 "ScoreboardCoreModel" "i" "I") mm_X9_holds_f71) (fun _ h9 => h9) rfl dX9_holds_75 ?_
              refine lv_iconst (v := (1 : Int32)) hx hb dX9_holds_78 (by decide) ?_
              refine lv_icmp_ne (x := xi) (y := (1 : Int32)) (tgt := 94) hx hb dX9_holds_79 (by decide) (fun c25 => ?_) (fun c25 => ?_)
              · refine lv_aload_n hx hb dX9_holds_94 rfl (lv_at hl 3 rfl) ?_
                refine va_get (D := (dC, dI)) (ci := 6) (v := .int xi) (C := RX9) (T := TX9) (N := 24) hx hb hts mi_X9_holds_X9 hown hK hP 0 rfl rfl 17 (by decide) (hts (.fieldLink RX9 71 "ScoreboardCoreModel" "i" "I") mm_X9_holds_f71) (fun _ h9 => h9) rfl dX9_holds_95 ?_
                refine lv_iconst (v := (2 : Int32)) hx hb dX9_holds_98 (by decide) ?_
                refine lv_icmp_ne (x := xi) (y := (2 : Int32)) (tgt := 115) hx hb dX9_holds_99 (by decide) (fun c26 => ?_) (fun c26 => ?_)
                · refine lv_iload hx hb dX9_holds_115 (lv_at hl 0 rfl) ?_
                  have e9 : (F_X9_holds xo xi xj xr ) = (0 : Int32) := by rw [F_X9_holds, if_pos c1, if_pos c2, if_neg c10, if_neg c22, if_pos c23, if_neg c24, if_neg c25, if_neg c26]
                  rw [e9] at hV
                  subst hV
                  exact roRetZ C0 rfl rfl dX9_holds_117
                · refine lv_iload hx hb dX9_holds_102 (lv_at hl 0 rfl) ?_
                  refine lv_if_ne (x := (0 : Int32)) (tgt := 111) hx hb dX9_holds_104 (by decide) (fun c27 => ?_) (fun c27 => ?_)
                  · refine lv_iconst (v := (0 : Int32)) hx hb dX9_holds_111 (by decide) ?_
                    refine lv_goto (tgt := 117) hx hb dX9_holds_112 (by decide) ?_
                    have e9 : (F_X9_holds xo xi xj xr ) = (0 : Int32) := by rw [F_X9_holds, if_pos c1, if_pos c2, if_neg c10, if_neg c22, if_pos c23, if_neg c24, if_neg c25, if_pos c26, if_neg c27]
                    rw [e9] at hV
                    subst hV
                    exact roRetZ C0 rfl rfl dX9_holds_117
                  · refine lv_iconst (v := (1 : Int32)) hx hb dX9_holds_107 (by decide) ?_
                    refine lv_goto (tgt := 117) hx hb dX9_holds_108 (by decide) ?_
                    have e9 : (F_X9_holds xo xi xj xr ) = (1 : Int32) := by rw [F_X9_holds, if_pos c1, if_pos c2, if_neg c10, if_neg c22, if_pos c23, if_neg c24, if_neg c25, if_pos c26, if_pos c27]
                    rw [e9] at hV
                    subst hV
                    exact roRetZ C0 rfl rfl dX9_holds_117
              · refine lv_iload_n hx hb dX9_holds_82 rfl (lv_at hl 1 rfl) ?_
                refine lv_if_ne (x := (0 : Int32)) (tgt := 90) hx hb dX9_holds_83 (by decide) (fun c28 => ?_) (fun c28 => ?_)
                · refine lv_iconst (v := (0 : Int32)) hx hb dX9_holds_90 (by decide) ?_
                  refine lv_goto (tgt := 117) hx hb dX9_holds_91 (by decide) ?_
                  have e9 : (F_X9_holds xo xi xj xr ) = (0 : Int32) := by rw [F_X9_holds, if_pos c1, if_pos c2, if_neg c10, if_neg c22, if_pos c23, if_neg c24, if_pos c25, if_neg c28]
                  rw [e9] at hV
                  subst hV
                  exact roRetZ C0 rfl rfl dX9_holds_117
                · refine lv_iconst (v := (1 : Int32)) hx hb dX9_holds_86 (by decide) ?_
                  refine lv_goto (tgt := 117) hx hb dX9_holds_87 (by decide) ?_
                  have e9 : (F_X9_holds xo xi xj xr ) = (1 : Int32) := by rw [F_X9_holds, if_pos c1, if_pos c2, if_neg c10, if_neg c22, if_pos c23, if_neg c24, if_pos c25, if_pos c28]
                  rw [e9] at hV
                  subst hV
                  exact roRetZ C0 rfl rfl dX9_holds_117
            · refine lv_iload_n hx hb dX9_holds_70 rfl (lv_at hl 1 rfl) ?_
              refine lv_goto (tgt := 117) hx hb dX9_holds_71 (by decide) ?_
              have e9 : (F_X9_holds xo xi xj xr ) = (0 : Int32) := by rw [F_X9_holds, if_pos c1, if_pos c2, if_neg c10, if_neg c22, if_pos c23, if_pos c24]
              rw [e9] at hV
              subst hV
              exact roRetZ C0 rfl rfl dX9_holds_117
          · refine lv_iconst (v := (1 : Int32)) hx hb dX9_holds_56 (by decide) ?_
            refine lv_goto (tgt := 61) hx hb dX9_holds_57 (by decide) ?_
            refine lv_istore (lv' := [(4, .int (1 : Int32)), (3, .int (0 : Int32)), (1, .long (xr xj.toNatClampNeg)), (0, .ref hX)]) hx hb dX9_holds_61 hl (by decide) rfl (fun ls hl => ?_)
            refine lv_aload_n hx hb dX9_holds_63 rfl (lv_at hl 3 rfl) ?_
            refine va_get (D := (dC, dI)) (ci := 6) (v := .int xi) (C := RX9) (T := TX9) (N := 24) hx hb hts mi_X9_holds_X9 hown hK hP 0 rfl rfl 17 (by decide) (hts (.fieldLink RX9 71 "ScoreboardCoreModel" "i" "I") mm_X9_holds_f71) (fun _ h9 => h9) rfl dX9_holds_64 ?_
            refine lv_if_ne (x := xi) (tgt := 74) hx hb dX9_holds_67 (by decide) (fun c29 => ?_) (fun c29 => ?_)
            · refine lv_aload_n hx hb dX9_holds_74 rfl (lv_at hl 3 rfl) ?_
              refine va_get (D := (dC, dI)) (ci := 6) (v := .int xi) (C := RX9) (T := TX9) (N := 24) hx hb hts mi_X9_holds_X9 hown hK hP 0 rfl rfl 17 (by decide) (hts (.fieldLink RX9 71 "ScoreboardCoreModel" "i" "I") mm_X9_holds_f71) (fun _ h9 => h9) rfl dX9_holds_75 ?_
              refine lv_iconst (v := (1 : Int32)) hx hb dX9_holds_78 (by decide) ?_
              refine lv_icmp_ne (x := xi) (y := (1 : Int32)) (tgt := 94) hx hb dX9_holds_79 (by decide) (fun c30 => ?_) (fun c30 => ?_)
              · refine lv_aload_n hx hb dX9_holds_94 rfl (lv_at hl 3 rfl) ?_
                refine va_get (D := (dC, dI)) (ci := 6) (v := .int xi) (C := RX9) (T := TX9) (N := 24) hx hb hts mi_X9_holds_X9 hown hK hP 0 rfl rfl 17 (by decide) (hts (.fieldLink RX9 71 "ScoreboardCoreModel" "i" "I") mm_X9_holds_f71) (fun _ h9 => h9) rfl dX9_holds_95 ?_
                refine lv_iconst (v := (2 : Int32)) hx hb dX9_holds_98 (by decide) ?_
                refine lv_icmp_ne (x := xi) (y := (2 : Int32)) (tgt := 115) hx hb dX9_holds_99 (by decide) (fun c31 => ?_) (fun c31 => ?_)
                · refine lv_iload hx hb dX9_holds_115 (lv_at hl 0 rfl) ?_
                  have e9 : (F_X9_holds xo xi xj xr ) = (1 : Int32) := by rw [F_X9_holds, if_pos c1, if_pos c2, if_neg c10, if_neg c22, if_neg c23, if_neg c29, if_neg c30, if_neg c31]
                  rw [e9] at hV
                  subst hV
                  exact roRetZ C0 rfl rfl dX9_holds_117
                · refine lv_iload hx hb dX9_holds_102 (lv_at hl 0 rfl) ?_
                  refine lv_if_ne (x := (1 : Int32)) (tgt := 111) hx hb dX9_holds_104 (by decide) (fun c32 => ?_) (fun c32 => ?_)
                  · refine lv_iconst (v := (0 : Int32)) hx hb dX9_holds_111 (by decide) ?_
                    refine lv_goto (tgt := 117) hx hb dX9_holds_112 (by decide) ?_
                    have e9 : (F_X9_holds xo xi xj xr ) = (0 : Int32) := by rw [F_X9_holds, if_pos c1, if_pos c2, if_neg c10, if_neg c22, if_neg c23, if_neg c29, if_neg c30, if_pos c31, if_neg c32]
                    rw [e9] at hV
                    subst hV
                    exact roRetZ C0 rfl rfl dX9_holds_117
                  · refine lv_iconst (v := (1 : Int32)) hx hb dX9_holds_107 (by decide) ?_
                    refine lv_goto (tgt := 117) hx hb dX9_holds_108 (by decide) ?_
                    have e9 : (F_X9_holds xo xi xj xr ) = (1 : Int32) := by rw [F_X9_holds, if_pos c1, if_pos c2, if_neg c10, if_neg c22, if_neg c23, if_neg c29, if_neg c30, if_pos c31, if_pos c32]
                    rw [e9] at hV
                    subst hV
                    exact roRetZ C0 rfl rfl dX9_holds_117
              · refine lv_iload_n hx hb dX9_holds_82 rfl (lv_at hl 1 rfl) ?_
                refine lv_if_ne (x := (0 : Int32)) (tgt := 90) hx hb dX9_holds_83 (by decide) (fun c33 => ?_) (fun c33 => ?_)
                · refine lv_iconst (v := (0 : Int32)) hx hb dX9_holds_90 (by decide) ?_
                  refine lv_goto (tgt := 117) hx hb dX9_holds_91 (by decide) ?_
                  have e9 : (F_X9_holds xo xi xj xr ) = (0 : Int32) := by rw [F_X9_holds, if_pos c1, if_pos c2, if_neg c10, if_neg c22, if_neg c23, if_neg c29, if_pos c30, if_neg c33]
                  rw [e9] at hV
                  subst hV
                  exact roRetZ C0 rfl rfl dX9_holds_117
                · refine lv_iconst (v := (1 : Int32)) hx hb dX9_holds_86 (by decide) ?_
                  refine lv_goto (tgt := 117) hx hb dX9_holds_87 (by decide) ?_
                  have e9 : (F_X9_holds xo xi xj xr ) = (1 : Int32) := by rw [F_X9_holds, if_pos c1, if_pos c2, if_neg c10, if_neg c22, if_neg c23, if_neg c29, if_pos c30, if_pos c33]
                  rw [e9] at hV
                  subst hV
                  exact roRetZ C0 rfl rfl dX9_holds_117
            · refine lv_iload_n hx hb dX9_holds_70 rfl (lv_at hl 1 rfl) ?_
              refine lv_goto (tgt := 117) hx hb dX9_holds_71 (by decide) ?_
              have e9 : (F_X9_holds xo xi xj xr ) = (0 : Int32) := by rw [F_X9_holds, if_pos c1, if_pos c2, if_neg c10, if_neg c22, if_neg c23, if_pos c29]
              rw [e9] at hV
              subst hV
              exact roRetZ C0 rfl rfl dX9_holds_117
        · refine lv_iconst (v := (1 : Int32)) hx hb dX9_holds_42 (by decide) ?_
          refine lv_goto (tgt := 47) hx hb dX9_holds_43 (by decide) ?_
          refine lv_istore_n (lv' := [(3, .int (1 : Int32)), (1, .long (xr xj.toNatClampNeg)), (0, .ref hX)]) hx hb dX9_holds_47 rfl hl (by decide) rfl (fun ls hl => ?_)
          refine lv_lload_n hx hb dX9_holds_48 rfl (lv_at hl 1 rfl) ?_
          refine lv_ldc2 (v := (576460752303423487 : Int64)) hx hb hown (hts _ mm_X9_holds_k174) dX9_holds_49 ?_
          refine lc_le (x := (xr xj.toNatClampNeg)) (y := (576460752303423487 : Int64)) (tgt := 60) hx hb dX9_holds_52 dX9_holds_53 (by decide) (fun c34 => ?_) (fun c34 => ?_)
          · refine lv_iconst (v := (0 : Int32)) hx hb dX9_holds_60 (by decide) ?_
            refine lv_istore (lv' := [(4, .int (0 : Int32)), (3, .int (1 : Int32)), (1, .long (xr xj.toNatClampNeg)), (0, .ref hX)]) hx hb dX9_holds_61 hl (by decide) rfl (fun ls hl => ?_)
            refine lv_aload_n hx hb dX9_holds_63 rfl (lv_at hl 3 rfl) ?_
            refine va_get (D := (dC, dI)) (ci := 6) (v := .int xi) (C := RX9) (T := TX9) (N := 24) hx hb hts mi_X9_holds_X9 hown hK hP 0 rfl rfl 17 (by decide) (hts (.fieldLink RX9 71 "ScoreboardCoreModel" "i" "I") mm_X9_holds_f71) (fun _ h9 => h9) rfl dX9_holds_64 ?_
            refine lv_if_ne (x := xi) (tgt := 74) hx hb dX9_holds_67 (by decide) (fun c35 => ?_) (fun c35 => ?_)
            · refine lv_aload_n hx hb dX9_holds_74 rfl (lv_at hl 3 rfl) ?_
              refine va_get (D := (dC, dI)) (ci := 6) (v := .int xi) (C := RX9) (T := TX9) (N := 24) hx hb hts mi_X9_holds_X9 hown hK hP 0 rfl rfl 17 (by decide) (hts (.fieldLink RX9 71 "ScoreboardCoreModel" "i" "I") mm_X9_holds_f71) (fun _ h9 => h9) rfl dX9_holds_75 ?_
              refine lv_iconst (v := (1 : Int32)) hx hb dX9_holds_78 (by decide) ?_
              refine lv_icmp_ne (x := xi) (y := (1 : Int32)) (tgt := 94) hx hb dX9_holds_79 (by decide) (fun c36 => ?_) (fun c36 => ?_)
              · refine lv_aload_n hx hb dX9_holds_94 rfl (lv_at hl 3 rfl) ?_
                refine va_get (D := (dC, dI)) (ci := 6) (v := .int xi) (C := RX9) (T := TX9) (N := 24) hx hb hts mi_X9_holds_X9 hown hK hP 0 rfl rfl 17 (by decide) (hts (.fieldLink RX9 71 "ScoreboardCoreModel" "i" "I") mm_X9_holds_f71) (fun _ h9 => h9) rfl dX9_holds_95 ?_
                refine lv_iconst (v := (2 : Int32)) hx hb dX9_holds_98 (by decide) ?_
                refine lv_icmp_ne (x := xi) (y := (2 : Int32)) (tgt := 115) hx hb dX9_holds_99 (by decide) (fun c37 => ?_) (fun c37 => ?_)
                · refine lv_iload hx hb dX9_holds_115 (lv_at hl 0 rfl) ?_
                  have e9 : (F_X9_holds xo xi xj xr ) = (0 : Int32) := by rw [F_X9_holds, if_pos c1, if_pos c2, if_neg c10, if_pos c22, if_pos c34, if_neg c35, if_neg c36, if_neg c37]
                  rw [e9] at hV
                  subst hV
                  exact roRetZ C0 rfl rfl dX9_holds_117
                · refine lv_iload hx hb dX9_holds_102 (lv_at hl 0 rfl) ?_
                  refine lv_if_ne (x := (0 : Int32)) (tgt := 111) hx hb dX9_holds_104 (by decide) (fun c38 => ?_) (fun c38 => ?_)
                  · refine lv_iconst (v := (0 : Int32)) hx hb dX9_holds_111 (by decide) ?_
                    refine lv_goto (tgt := 117) hx hb dX9_holds_112 (by decide) ?_
                    have e9 : (F_X9_holds xo xi xj xr ) = (0 : Int32) := by rw [F_X9_holds, if_pos c1, if_pos c2, if_neg c10, if_pos c22, if_pos c34, if_neg c35, if_neg c36, if_pos c37, if_neg c38]
                    rw [e9] at hV
                    subst hV
                    exact roRetZ C0 rfl rfl dX9_holds_117
                  · refine lv_iconst (v := (1 : Int32)) hx hb dX9_holds_107 (by decide) ?_
                    refine lv_goto (tgt := 117) hx hb dX9_holds_108 (by decide) ?_
                    have e9 : (F_X9_holds xo xi xj xr ) = (1 : Int32) := by rw [F_X9_holds, if_pos c1, if_pos c2, if_neg c10, if_pos c22, if_pos c34, if_neg c35, if_neg c36, if_pos c37, if_pos c38]
                    rw [e9] at hV
                    subst hV
                    exact roRetZ C0 rfl rfl dX9_holds_117
              · refine lv_iload_n hx hb dX9_holds_82 rfl (lv_at hl 1 rfl) ?_
                refine lv_if_ne (x := (1 : Int32)) (tgt := 90) hx hb dX9_holds_83 (by decide) (fun c39 => ?_) (fun c39 => ?_)
                · refine lv_iconst (v := (0 : Int32)) hx hb dX9_holds_90 (by decide) ?_
                  refine lv_goto (tgt := 117) hx hb dX9_holds_91 (by decide) ?_
                  have e9 : (F_X9_holds xo xi xj xr ) = (0 : Int32) := by rw [F_X9_holds, if_pos c1, if_pos c2, if_neg c10, if_pos c22, if_pos c34, if_neg c35, if_pos c36, if_neg c39]
                  rw [e9] at hV
                  subst hV
                  exact roRetZ C0 rfl rfl dX9_holds_117
                · refine lv_iconst (v := (1 : Int32)) hx hb dX9_holds_86 (by decide) ?_
                  refine lv_goto (tgt := 117) hx hb dX9_holds_87 (by decide) ?_
                  have e9 : (F_X9_holds xo xi xj xr ) = (1 : Int32) := by rw [F_X9_holds, if_pos c1, if_pos c2, if_neg c10, if_pos c22, if_pos c34, if_neg c35, if_pos c36, if_pos c39]
                  rw [e9] at hV
                  subst hV
                  exact roRetZ C0 rfl rfl dX9_holds_117
            · refine lv_iload_n hx hb dX9_holds_70 rfl (lv_at hl 1 rfl) ?_
              refine lv_goto (tgt := 117) hx hb dX9_holds_71 (by decide) ?_
              have e9 : (F_X9_holds xo xi xj xr ) = (1 : Int32) := by rw [F_X9_holds, if_pos c1, if_pos c2, if_neg c10, if_pos c22, if_pos c34, if_pos c35]
              rw [e9] at hV
              subst hV
              exact roRetZ C0 rfl rfl dX9_holds_117
          · refine lv_iconst (v := (1 : Int32)) hx hb dX9_holds_56 (by decide) ?_
            refine lv_goto (tgt := 61) hx hb dX9_holds_57 (by decide) ?_
            refine lv_istore (lv' := [(4, .int (1 : Int32)), (3, .int (1 : Int32)), (1, .long (xr xj.toNatClampNeg)), (0, .ref hX)]) hx hb dX9_holds_61 hl (by decide) rfl (fun ls hl => ?_)
            refine lv_aload_n hx hb dX9_holds_63 rfl (lv_at hl 3 rfl) ?_
            refine va_get (D := (dC, dI)) (ci := 6) (v := .int xi) (C := RX9) (T := TX9) (N := 24) hx hb hts mi_X9_holds_X9 hown hK hP 0 rfl rfl 17 (by decide) (hts (.fieldLink RX9 71 "ScoreboardCoreModel" "i" "I") mm_X9_holds_f71) (fun _ h9 => h9) rfl dX9_holds_64 ?_
            refine lv_if_ne (x := xi) (tgt := 74) hx hb dX9_holds_67 (by decide) (fun c40 => ?_) (fun c40 => ?_)
            · refine lv_aload_n hx hb dX9_holds_74 rfl (lv_at hl 3 rfl) ?_
              refine va_get (D := (dC, dI)) (ci := 6) (v := .int xi) (C := RX9) (T := TX9) (N := 24) hx hb hts mi_X9_holds_X9 hown hK hP 0 rfl rfl 17 (by decide) (hts (.fieldLink RX9 71 "ScoreboardCoreModel" "i" "I") mm_X9_holds_f71) (fun _ h9 => h9) rfl dX9_holds_75 ?_
              refine lv_iconst (v := (1 : Int32)) hx hb dX9_holds_78 (by decide) ?_
              refine lv_icmp_ne (x := xi) (y := (1 : Int32)) (tgt := 94) hx hb dX9_holds_79 (by decide) (fun c41 => ?_) (fun c41 => ?_)
              · refine lv_aload_n hx hb dX9_holds_94 rfl (lv_at hl 3 rfl) ?_
                refine va_get (D := (dC, dI)) (ci := 6) (v := .int xi) (C := RX9) (T := TX9) (N := 24) hx hb hts mi_X9_holds_X9 hown hK hP 0 rfl rfl 17 (by decide) (hts (.fieldLink RX9 71 "ScoreboardCoreModel" "i" "I") mm_X9_holds_f71) (fun _ h9 => h9) rfl dX9_holds_95 ?_
                refine lv_iconst (v := (2 : Int32)) hx hb dX9_holds_98 (by decide) ?_
                refine lv_icmp_ne (x := xi) (y := (2 : Int32)) (tgt := 115) hx hb dX9_holds_99 (by decide) (fun c42 => ?_) (fun c42 => ?_)
                · refine lv_iload hx hb dX9_holds_115 (lv_at hl 0 rfl) ?_
                  have e9 : (F_X9_holds xo xi xj xr ) = (1 : Int32) := by rw [F_X9_holds, if_pos c1, if_pos c2, if_neg c10, if_pos c22, if_neg c34, if_neg c40, if_neg c41, if_neg c42]
                  rw [e9] at hV
                  subst hV
                  exact roRetZ C0 rfl rfl dX9_holds_117
                · refine lv_iload hx hb dX9_holds_102 (lv_at hl 0 rfl) ?_
                  refine lv_if_ne (x := (1 : Int32)) (tgt := 111) hx hb dX9_holds_104 (by decide) (fun c43 => ?_) (fun c43 => ?_)
                  · refine lv_iconst (v := (0 : Int32)) hx hb dX9_holds_111 (by decide) ?_
                    refine lv_goto (tgt := 117) hx hb dX9_holds_112 (by decide) ?_
                    have e9 : (F_X9_holds xo xi xj xr ) = (0 : Int32) := by rw [F_X9_holds, if_pos c1, if_pos c2, if_neg c10, if_pos c22, if_neg c34, if_neg c40, if_neg c41, if_pos c42, if_neg c43]
                    rw [e9] at hV
                    subst hV
                    exact roRetZ C0 rfl rfl dX9_holds_117
                  · refine lv_iconst (v := (1 : Int32)) hx hb dX9_holds_107 (by decide) ?_
                    refine lv_goto (tgt := 117) hx hb dX9_holds_108 (by decide) ?_
                    have e9 : (F_X9_holds xo xi xj xr ) = (1 : Int32) := by rw [F_X9_holds, if_pos c1, if_pos c2, if_neg c10, if_pos c22, if_neg c34, if_neg c40, if_neg c41, if_pos c42, if_pos c43]
                    rw [e9] at hV
                    subst hV
                    exact roRetZ C0 rfl rfl dX9_holds_117
              · refine lv_iload_n hx hb dX9_holds_82 rfl (lv_at hl 1 rfl) ?_
                refine lv_if_ne (x := (1 : Int32)) (tgt := 90) hx hb dX9_holds_83 (by decide) (fun c44 => ?_) (fun c44 => ?_)
                · refine lv_iconst (v := (0 : Int32)) hx hb dX9_holds_90 (by decide) ?_
                  refine lv_goto (tgt := 117) hx hb dX9_holds_91 (by decide) ?_
                  have e9 : (F_X9_holds xo xi xj xr ) = (0 : Int32) := by rw [F_X9_holds, if_pos c1, if_pos c2, if_neg c10, if_pos c22, if_neg c34, if_neg c40, if_pos c41, if_neg c44]
                  rw [e9] at hV
                  subst hV
                  exact roRetZ C0 rfl rfl dX9_holds_117
                · refine lv_iconst (v := (1 : Int32)) hx hb dX9_holds_86 (by decide) ?_
                  refine lv_goto (tgt := 117) hx hb dX9_holds_87 (by decide) ?_
                  have e9 : (F_X9_holds xo xi xj xr ) = (1 : Int32) := by rw [F_X9_holds, if_pos c1, if_pos c2, if_neg c10, if_pos c22, if_neg c34, if_neg c40, if_pos c41, if_pos c44]
                  rw [e9] at hV
                  subst hV
                  exact roRetZ C0 rfl rfl dX9_holds_117
            · refine lv_iload_n hx hb dX9_holds_70 rfl (lv_at hl 1 rfl) ?_
              refine lv_goto (tgt := 117) hx hb dX9_holds_71 (by decide) ?_
              have e9 : (F_X9_holds xo xi xj xr ) = (1 : Int32) := by rw [F_X9_holds, if_pos c1, if_pos c2, if_neg c10, if_pos c22, if_neg c34, if_pos c40]
              rw [e9] at hV
              subst hV
              exact roRetZ C0 rfl rfl dX9_holds_117
  · refine lv_iconst (v := (1 : Int32)) hx hb dX9_holds_8 (by decide) ?_
    have e9 : (F_X9_holds xo xi xj xr ) = (1 : Int32) := by rw [F_X9_holds, if_neg c1]
    rw [e9] at hV
    subst hV
    exact roRetZ C0 rfl rfl dX9_holds_9
theorem c_X9_holds (l : Launch) (dC : Nat → ClassId) (dI : Nat → Nat → Nat) (cI cJ : ClassId) (hX x1 x2 x3 x4 x5 x6 x7 x8 : Nat) (xt : Int32) (xw : Int32) (xp : Int32) (xs : Int32) (xc : Int64) (xM : Int64) (xE : Int64) (xL : Int64) (xo : Int32) (xi : Int32) (xj : Int32) (xk : Int32) (xn : Int32) (xz : Int32) (xa : Int32) (xg : Int32) (xmw : Nat → Int64) (xmp : Nat → Int64) (xr : Nat → Int64) (xd : Nat → Int32) (xwt : Nat → Int64) (xf : Nat → Int64) (xrd : Nat → Int64) (xu : Nat → Int64) (hi : R8 xi) (hj : R8 xj) (hk : R8 xk) : RoI l yX9_holds wsX9_holds rm_X9_holds (dC, dI) [(cI, .int), (cJ, .long)] [(hX, .inr (6, [.int xt, .ref x1, .ref x2, .ref x3, .int xw, .int xp, .int xs, .long xc, .ref x4, .ref x5, .ref x6, .ref x7, .ref x8, .long xM, .long xE, .long xL, .int xo, .int xi, .int xj, .int xk, .int xn, .int xz, .int xa, .int xg])), (x1, .inl (cJ, 512, .inr (.inl xmw))), (x2, .inl (cJ, 512, .inr (.inl xmp))), (x3, .inl (cJ, 24, .inr (.inl xr))), (x4, .inl (cI, 8, .inl xd)), (x5, .inl (cJ, 5, .inr (.inl xwt))), (x6, .inl (cJ, 24, .inr (.inl xf))), (x7, .inl (cJ, 24, .inr (.inl xrd))), (x8, .inl (cJ, 6, .inr (.inl xu)))] [.ref hX] (F_X9_holds xo xi xj xr ) := by
  refine RoI.mk (cc := cX9_holds) (nL := 5) (ret := (some .boolean)) [(0, .ref hX)] (by decide) rfl (Nat.le_of_ble_eq_true rfl) rfl ?_
  intro p e s m below meth c C0 hP hK ls hl
  exact w_X9_holds dC dI cI cJ hX x1 x2 x3 x4 x5 x6 x7 x8 xt xw xp xs xc xM xE xL xo xi xj xk xn xz xa xg xmw xmp xr xd xwt xf xrd xu C0 hK hP hi hj hk rfl ls hl

-- X9_goOn
def F_X9_goOn (xw : Int32) (xp : Int32) (xz : Int32) : Int32 × Int32 :=
  (if (xp + xz) ≤ (3 : Int32) then (xw, (xp + xz)) else ((xw + (1 : Int32)), (0 : Int32)))
abbrev rm_X9_goOn : Room := { frames := 0, cells := 0, slots := 0, locals := 0 }
set_option maxRecDepth 20000 in
theorem mi_X9_goOn_X9 : ∀ w ∈ wsX90, w ∈ wsX9_goOn := by decide +kernel
set_option maxRecDepth 20000 in
theorem mm_X9_goOn_f50 : Cond.fieldLink RX9 50 "ScoreboardCoreModel" "word" "I" ∈ wsX9_goOn := by decide +kernel
set_option maxRecDepth 20000 in
theorem mm_X9_goOn_f53 : Cond.fieldLink RX9 53 "ScoreboardCoreModel" "parcel" "I" ∈ wsX9_goOn := by decide +kernel
set_option maxRecDepth 20000 in
theorem mm_X9_goOn_f74 : Cond.fieldLink RX9 74 "ScoreboardCoreModel" "size" "I" ∈ wsX9_goOn := by decide +kernel
set_option maxHeartbeats 4000000 in
set_option maxRecDepth 100000 in
theorem w_X9_goOn {p : Program} {l : Launch} {e : Env} {s : State} {m : MethodId} {below : List Frame} {meth : Method} {c : Code} {args : Array Value} (dC : Nat → ClassId) (dI : Nat → Nat → Nat) (cI cJ : ClassId) (hX x1 x2 x3 x4 x5 x6 x7 x8 : Nat) (xt : Int32) (xw : Int32) (xp : Int32) (xs : Int32) (xc : Int64) (xM : Int64) (xE : Int64) (xL : Int64) (xo : Int32) (xi : Int32) (xj : Int32) (xk : Int32) (xn : Int32) (xz : Int32) (xa : Int32) (xg : Int32) (xmw : Nat → Int64) (xmp : Nat → Int64) (xr : Nat → Int64) (xd : Nat → Int32) (xwt : Nat → Int64) (xf : Nat → Int64) (xrd : Nat → Int64) (xu : Nat → Int64) {w0 : va_W} (C0 : Cx p s m meth c cX9_goOn 1 none wsX9_goOn RX9 args) (hK : va_K (dC, dI) vwCl [(cI, .int), (cJ, .long)] s) (hZ : Zs false (va_A w0 s.heap.size) s s.heap) {V : Int32 × Int32} (hV : (F_X9_goOn xw xp xz ) = V) (ls : Array Slot) (hl : lv_has ls 1 [(0, .ref hX)]) {H : Heap} {locs : List Loc} (hP : va_P (dC, dI) vwCl [(hX, .inr (6, [.int xt, .ref x1, .ref x2, .ref x3, .int xw, .int xp, .int xs, .long xc, .ref x4, .ref x5, .ref x6, .ref x7, .ref x8, .long xM, .long xE, .long xL, .int xo, .int xi, .int xj, .int xk, .int xn, .int xz, .int xa, .int xg])), (x1, .inl (cJ, 512, .inr (.inl xmw))), (x2, .inl (cJ, 512, .inr (.inl xmp))), (x3, .inl (cJ, 24, .inr (.inl xr))), (x4, .inl (cI, 8, .inl xd)), (x5, .inl (cJ, 5, .inr (.inl xwt))), (x6, .inl (cJ, 24, .inr (.inl xf))), (x7, .inl (cJ, 24, .inr (.inl xrd))), (x8, .inl (cJ, 6, .inr (.inl xu)))] H) (hD : va_D (va_A w0 s.heap.size) [(hX, .inr (6, [.int xt, .ref x1, .ref x2, .ref x3, .int xw, .int xp, .int xs, .long xc, .ref x4, .ref x5, .ref x6, .ref x7, .ref x8, .long xM, .long xE, .long xL, .int xo, .int xi, .int xj, .int xk, .int xn, .int xz, .int xa, .int xg])), (x1, .inl (cJ, 512, .inr (.inl xmw))), (x2, .inl (cJ, 512, .inr (.inl xmp))), (x3, .inl (cJ, 24, .inr (.inl xr))), (x4, .inl (cI, 8, .inl xd)), (x5, .inl (cJ, 5, .inr (.inl xwt))), (x6, .inl (cJ, 24, .inr (.inl xf))), (x7, .inl (cJ, 24, .inr (.inl xrd))), (x8, .inl (cJ, 6, .inr (.inl xu)))]) (hS : va_S (va_A w0 s.heap.size) s.heap H locs) : W p l e rm_X9_goOn s m args below meth c H locs 0 0 (MQ below (QV (dC, dI) [(cI, .int), (cJ, .long)] w0 [(hX, .inr (6, [.int xt, .ref x1, .ref x2, .ref x3, .int V.1, .int V.2, .int xs, .long xc, .ref x4, .ref x5, .ref x6, .ref x7, .ref x8, .long xM, .long xE, .long xL, .int xo, .int xi, .int xj, .int xk, .int xn, .int xz, .int xa, .int xg])), (x1, .inl (cJ, 512, .inr (.inl xmw))), (x2, .inl (cJ, 512, .inr (.inl xmp))), (x3, .inl (cJ, 24, .inr (.inl xr))), (x4, .inl (cI, 8, .inl xd)), (x5, .inl (cJ, 5, .inr (.inl xwt))), (x6, .inl (cJ, 24, .inr (.inl xf))), (x7, .inl (cJ, 24, .inr (.inl xrd))), (x8, .inl (cJ, 6, .inr (.inl xu)))] s.heap.size) args s 0 0 (va_A w0 s.heap.size)) (F0 m 0 ls []) := by
  obtain ⟨hx, hb, hr, hlk, hml, hown, hts⟩ := id C0
  have hA : ∀ q : Nat, s.heap.size ≤ q → va_A w0 s.heap.size q := fun q h => Or.inr h
  refine lv_aload_n hx hb dX9_goOn_0 rfl (lv_at hl 0 rfl) ?_
  refine lv_aload_n hx hb dX9_goOn_1 rfl (lv_at hl 0 rfl) ?_
  refine va_get (D := (dC, dI)) (ci := 6) (v := .int xp) (C := RX9) (T := TX9) (N := 24) hx hb hts mi_X9_goOn_X9 hown hK hP 0 rfl rfl 5 (by decide) (hts (.fieldLink RX9 53 "ScoreboardCoreModel" "parcel" "I") mm_X9_goOn_f53) (fun _ h9 => h9) rfl dX9_goOn_2 ?_
  refine lv_aload_n hx hb dX9_goOn_5 rfl (lv_at hl 0 rfl) ?_
  refine va_get (D := (dC, dI)) (ci := 6) (v := .int xz) (C := RX9) (T := TX9) (N := 24) hx hb hts mi_X9_goOn_X9 hown hK hP 0 rfl rfl 21 (by decide) (hts (.fieldLink RX9 74 "ScoreboardCoreModel" "size" "I") mm_X9_goOn_f74) (fun _ h9 => h9) rfl dX9_goOn_6 ?_
  refine lv_iadd hx hb dX9_goOn_9 ?_
  refine va_put (D := (dC, dI)) (ci := 6) (v := .int (xp + xz)) (ty := .int) (C := RX9) (T := TX9) (N := 24) hx hb hts mi_X9_goOn_X9 tyX9 tyX9_ok nmX9 hown hK hP hD hS 0 rfl rfl 5 (by decide) (hts (.fieldLink RX9 53 "ScoreboardCoreModel" "parcel" "I") mm_X9_goOn_f53) (fun _ h9 => h9) rfl (by decide +kernel) rfl rfl (Nat.le_of_ble_eq_true rfl) dX9_goOn_10 (fun H locs hP hD hS => ?_)
  have hP : va_P (dC, dI) vwCl [(hX, .inr (6, [.int xt, .ref x1, .ref x2, .ref x3, .int xw, .int (xp + xz), .int xs, .long xc, .ref x4, .ref x5, .ref x6, .ref x7, .ref x8, .long xM, .long xE, .long xL, .int xo, .int xi, .int xj, .int xk, .int xn, .int xz, .int xa, .int xg])), (x1, .inl (cJ, 512, .inr (.inl xmw))), (x2, .inl (cJ, 512, .inr (.inl xmp))), (x3, .inl (cJ, 24, .inr (.inl xr))), (x4, .inl (cI, 8, .inl xd)), (x5, .inl (cJ, 5, .inr (.inl xwt))), (x6, .inl (cJ, 24, .inr (.inl xf))), (x7, .inl (cJ, 24, .inr (.inl xrd))), (x8, .inl (cJ, 6, .inr (.inl xu)))] H := hP
  have hD : va_D (va_A w0 s.heap.size) [(hX, .inr (6, [.int xt, .ref x1, .ref x2, .ref x3, .int xw, .int (xp + xz), .int xs, .long xc, .ref x4, .ref x5, .ref x6, .ref x7, .ref x8, .long xM, .long xE, .long xL, .int xo, .int xi, .int xj, .int xk, .int xn, .int xz, .int xa, .int xg])), (x1, .inl (cJ, 512, .inr (.inl xmw))), (x2, .inl (cJ, 512, .inr (.inl xmp))), (x3, .inl (cJ, 24, .inr (.inl xr))), (x4, .inl (cI, 8, .inl xd)), (x5, .inl (cJ, 5, .inr (.inl xwt))), (x6, .inl (cJ, 24, .inr (.inl xf))), (x7, .inl (cJ, 24, .inr (.inl xrd))), (x8, .inl (cJ, 6, .inr (.inl xu)))] := hD
  refine lv_aload_n hx hb dX9_goOn_13 rfl (lv_at hl 0 rfl) ?_
  refine va_get (D := (dC, dI)) (ci := 6) (v := .int (xp + xz)) (C := RX9) (T := TX9) (N := 24) hx hb hts mi_X9_goOn_X9 hown hK hP 0 rfl rfl 5 (by decide) (hts (.fieldLink RX9 53 "ScoreboardCoreModel" "parcel" "I") mm_X9_goOn_f53) (fun _ h9 => h9) rfl dX9_goOn_14 ?_
  refine lv_iconst (v := (3 : Int32)) hx hb dX9_goOn_17 (by decide) ?_
  refine lv_icmp_le (x := (xp + xz)) (y := (3 : Int32)) (tgt := 36) hx hb dX9_goOn_18 (by decide) (fun c1 => ?_) (fun c1 => ?_)
  · have e9 : (F_X9_goOn xw xp xz ) = (xw, (xp + xz)) := by rw [F_X9_goOn, if_pos c1]
    rw [e9] at hV
    subst hV
    exact wrRetV C0 hK hP hD hS dX9_goOn_36
  · refine lv_aload_n hx hb dX9_goOn_21 rfl (lv_at hl 0 rfl) ?_
    refine lv_dup hx hb dX9_goOn_22 rfl ?_
    refine va_get (D := (dC, dI)) (ci := 6) (v := .int xw) (C := RX9) (T := TX9) (N := 24) hx hb hts mi_X9_goOn_X9 hown hK hP 0 rfl rfl 4 (by decide) (hts (.fieldLink RX9 50 "ScoreboardCoreModel" "word" "I") mm_X9_goOn_f50) (fun _ h9 => h9) rfl dX9_goOn_23 ?_
    refine lv_iconst (v := (1 : Int32)) hx hb dX9_goOn_26 (by decide) ?_
    refine lv_iadd hx hb dX9_goOn_27 ?_
    refine va_put (D := (dC, dI)) (ci := 6) (v := .int (xw + (1 : Int32))) (ty := .int) (C := RX9) (T := TX9) (N := 24) hx hb hts mi_X9_goOn_X9 tyX9 tyX9_ok nmX9 hown hK hP hD hS 0 rfl rfl 4 (by decide) (hts (.fieldLink RX9 50 "ScoreboardCoreModel" "word" "I") mm_X9_goOn_f50) (fun _ h9 => h9) rfl (by decide +kernel) rfl rfl (Nat.le_of_ble_eq_true rfl) dX9_goOn_28 (fun H locs hP hD hS => ?_)
    have hP : va_P (dC, dI) vwCl [(hX, .inr (6, [.int xt, .ref x1, .ref x2, .ref x3, .int (xw + (1 : Int32)), .int (xp + xz), .int xs, .long xc, .ref x4, .ref x5, .ref x6, .ref x7, .ref x8, .long xM, .long xE, .long xL, .int xo, .int xi, .int xj, .int xk, .int xn, .int xz, .int xa, .int xg])), (x1, .inl (cJ, 512, .inr (.inl xmw))), (x2, .inl (cJ, 512, .inr (.inl xmp))), (x3, .inl (cJ, 24, .inr (.inl xr))), (x4, .inl (cI, 8, .inl xd)), (x5, .inl (cJ, 5, .inr (.inl xwt))), (x6, .inl (cJ, 24, .inr (.inl xf))), (x7, .inl (cJ, 24, .inr (.inl xrd))), (x8, .inl (cJ, 6, .inr (.inl xu)))] H := hP
    have hD : va_D (va_A w0 s.heap.size) [(hX, .inr (6, [.int xt, .ref x1, .ref x2, .ref x3, .int (xw + (1 : Int32)), .int (xp + xz), .int xs, .long xc, .ref x4, .ref x5, .ref x6, .ref x7, .ref x8, .long xM, .long xE, .long xL, .int xo, .int xi, .int xj, .int xk, .int xn, .int xz, .int xa, .int xg])), (x1, .inl (cJ, 512, .inr (.inl xmw))), (x2, .inl (cJ, 512, .inr (.inl xmp))), (x3, .inl (cJ, 24, .inr (.inl xr))), (x4, .inl (cI, 8, .inl xd)), (x5, .inl (cJ, 5, .inr (.inl xwt))), (x6, .inl (cJ, 24, .inr (.inl xf))), (x7, .inl (cJ, 24, .inr (.inl xrd))), (x8, .inl (cJ, 6, .inr (.inl xu)))] := hD
    refine lv_aload_n hx hb dX9_goOn_31 rfl (lv_at hl 0 rfl) ?_
    refine lv_iconst (v := (0 : Int32)) hx hb dX9_goOn_32 (by decide) ?_
    refine va_put (D := (dC, dI)) (ci := 6) (v := .int (0 : Int32)) (ty := .int) (C := RX9) (T := TX9) (N := 24) hx hb hts mi_X9_goOn_X9 tyX9 tyX9_ok nmX9 hown hK hP hD hS 0 rfl rfl 5 (by decide) (hts (.fieldLink RX9 53 "ScoreboardCoreModel" "parcel" "I") mm_X9_goOn_f53) (fun _ h9 => h9) rfl (by decide +kernel) rfl rfl (Nat.le_of_ble_eq_true rfl) dX9_goOn_33 (fun H locs hP hD hS => ?_)
    have hP : va_P (dC, dI) vwCl [(hX, .inr (6, [.int xt, .ref x1, .ref x2, .ref x3, .int (xw + (1 : Int32)), .int (0 : Int32), .int xs, .long xc, .ref x4, .ref x5, .ref x6, .ref x7, .ref x8, .long xM, .long xE, .long xL, .int xo, .int xi, .int xj, .int xk, .int xn, .int xz, .int xa, .int xg])), (x1, .inl (cJ, 512, .inr (.inl xmw))), (x2, .inl (cJ, 512, .inr (.inl xmp))), (x3, .inl (cJ, 24, .inr (.inl xr))), (x4, .inl (cI, 8, .inl xd)), (x5, .inl (cJ, 5, .inr (.inl xwt))), (x6, .inl (cJ, 24, .inr (.inl xf))), (x7, .inl (cJ, 24, .inr (.inl xrd))), (x8, .inl (cJ, 6, .inr (.inl xu)))] H := hP
    have hD : va_D (va_A w0 s.heap.size) [(hX, .inr (6, [.int xt, .ref x1, .ref x2, .ref x3, .int (xw + (1 : Int32)), .int (0 : Int32), .int xs, .long xc, .ref x4, .ref x5, .ref x6, .ref x7, .ref x8, .long xM, .long xE, .long xL, .int xo, .int xi, .int xj, .int xk, .int xn, .int xz, .int xa, .int xg])), (x1, .inl (cJ, 512, .inr (.inl xmw))), (x2, .inl (cJ, 512, .inr (.inl xmp))), (x3, .inl (cJ, 24, .inr (.inl xr))), (x4, .inl (cI, 8, .inl xd)), (x5, .inl (cJ, 5, .inr (.inl xwt))), (x6, .inl (cJ, 24, .inr (.inl xf))), (x7, .inl (cJ, 24, .inr (.inl xrd))), (x8, .inl (cJ, 6, .inr (.inl xu)))] := hD
    have e9 : (F_X9_goOn xw xp xz ) = ((xw + (1 : Int32)), (0 : Int32)) := by rw [F_X9_goOn, if_neg c1]
    rw [e9] at hV
    subst hV
    exact wrRetV C0 hK hP hD hS dX9_goOn_36
theorem c_X9_goOn (l : Launch) (dC : Nat → ClassId) (dI : Nat → Nat → Nat) (cI cJ : ClassId) (hX x1 x2 x3 x4 x5 x6 x7 x8 : Nat) (xt : Int32) (xw : Int32) (xp : Int32) (xs : Int32) (xc : Int64) (xM : Int64) (xE : Int64) (xL : Int64) (xo : Int32) (xi : Int32) (xj : Int32) (xk : Int32) (xn : Int32) (xz : Int32) (xa : Int32) (xg : Int32) (xmw : Nat → Int64) (xmp : Nat → Int64) (xr : Nat → Int64) (xd : Nat → Int32) (xwt : Nat → Int64) (xf : Nat → Int64) (xrd : Nat → Int64) (xu : Nat → Int64) : WrV false l yX9_goOn wsX9_goOn rm_X9_goOn (dC, dI) [(cI, .int), (cJ, .long)] [(hX, .inr (6, [.int xt, .ref x1, .ref x2, .ref x3, .int xw, .int xp, .int xs, .long xc, .ref x4, .ref x5, .ref x6, .ref x7, .ref x8, .long xM, .long xE, .long xL, .int xo, .int xi, .int xj, .int xk, .int xn, .int xz, .int xa, .int xg])), (x1, .inl (cJ, 512, .inr (.inl xmw))), (x2, .inl (cJ, 512, .inr (.inl xmp))), (x3, .inl (cJ, 24, .inr (.inl xr))), (x4, .inl (cI, 8, .inl xd)), (x5, .inl (cJ, 5, .inr (.inl xwt))), (x6, .inl (cJ, 24, .inr (.inl xf))), (x7, .inl (cJ, 24, .inr (.inl xrd))), (x8, .inl (cJ, 6, .inr (.inl xu)))] [(hX, .inr (6, [.int xt, .ref x1, .ref x2, .ref x3, .int ((F_X9_goOn xw xp xz ).1), .int ((F_X9_goOn xw xp xz ).2), .int xs, .long xc, .ref x4, .ref x5, .ref x6, .ref x7, .ref x8, .long xM, .long xE, .long xL, .int xo, .int xi, .int xj, .int xk, .int xn, .int xz, .int xa, .int xg])), (x1, .inl (cJ, 512, .inr (.inl xmw))), (x2, .inl (cJ, 512, .inr (.inl xmp))), (x3, .inl (cJ, 24, .inr (.inl xr))), (x4, .inl (cI, 8, .inl xd)), (x5, .inl (cJ, 5, .inr (.inl xwt))), (x6, .inl (cJ, 24, .inr (.inl xf))), (x7, .inl (cJ, 24, .inr (.inl xrd))), (x8, .inl (cJ, 6, .inr (.inl xu)))] [.ref hX] := by
  refine WrV.mk (cc := cX9_goOn) (nL := 1) (ret := none) [(0, .ref hX)] (by decide) rfl (Nat.le_of_ble_eq_true rfl) rfl ?_
  intro p e s m below meth c C0 hP hK hD hS hZ ls hl
  exact w_X9_goOn dC dI cI cJ hX x1 x2 x3 x4 x5 x6 x7 x8 xt xw xp xs xc xM xE xL xo xi xj xk xn xz xa xg xmw xmp xr xd xwt xf xrd xu C0 hK hZ rfl ls hl hP hD hS

-- X9_halt
def F_X9_halt (a : Int32) : Int32 :=
  a
abbrev rm_X9_halt : Room := { frames := 0, cells := 0, slots := 0, locals := 0 }
set_option maxRecDepth 20000 in
theorem mi_X9_halt_X9 : ∀ w ∈ wsX90, w ∈ wsX9_halt := by decide +kernel
set_option maxRecDepth 20000 in
theorem mm_X9_halt_f19 : Cond.fieldLink RX9 19 "ScoreboardCoreModel" "stop" "I" ∈ wsX9_halt := by decide +kernel
set_option maxHeartbeats 4000000 in
set_option maxRecDepth 100000 in
theorem w_X9_halt {p : Program} {l : Launch} {e : Env} {s : State} {m : MethodId} {below : List Frame} {meth : Method} {c : Code} {args : Array Value} (dC : Nat → ClassId) (dI : Nat → Nat → Nat) (cI cJ : ClassId) (hX x1 x2 x3 x4 x5 x6 x7 x8 : Nat) (a : Int32) (xt : Int32) (xw : Int32) (xp : Int32) (xs : Int32) (xc : Int64) (xM : Int64) (xE : Int64) (xL : Int64) (xo : Int32) (xi : Int32) (xj : Int32) (xk : Int32) (xn : Int32) (xz : Int32) (xa : Int32) (xg : Int32) (xmw : Nat → Int64) (xmp : Nat → Int64) (xr : Nat → Int64) (xd : Nat → Int32) (xwt : Nat → Int64) (xf : Nat → Int64) (xrd : Nat → Int64) (xu : Nat → Int64) {w0 : va_W} (C0 : Cx p s m meth c cX9_halt 2 none wsX9_halt RX9 args) (hK : va_K (dC, dI) vwCl [(cI, .int), (cJ, .long)] s) (hZ : Zs false (va_A w0 s.heap.size) s s.heap) {V : Int32} (hV : (F_X9_halt a ) = V) (ls : Array Slot) (hl : lv_has ls 2 [(0, .ref hX), (1, .int a)]) {H : Heap} {locs : List Loc} (hP : va_P (dC, dI) vwCl [(hX, .inr (6, [.int xt, .ref x1, .ref x2, .ref x3, .int xw, .int xp, .int xs, .long xc, .ref x4, .ref x5, .ref x6, .ref x7, .ref x8, .long xM, .long xE, .long xL, .int xo, .int xi, .int xj, .int xk, .int xn, .int xz, .int xa, .int xg])), (x1, .inl (cJ, 512, .inr (.inl xmw))), (x2, .inl (cJ, 512, .inr (.inl xmp))), (x3, .inl (cJ, 24, .inr (.inl xr))), (x4, .inl (cI, 8, .inl xd)), (x5, .inl (cJ, 5, .inr (.inl xwt))), (x6, .inl (cJ, 24, .inr (.inl xf))), (x7, .inl (cJ, 24, .inr (.inl xrd))), (x8, .inl (cJ, 6, .inr (.inl xu)))] H) (hD : va_D (va_A w0 s.heap.size) [(hX, .inr (6, [.int xt, .ref x1, .ref x2, .ref x3, .int xw, .int xp, .int xs, .long xc, .ref x4, .ref x5, .ref x6, .ref x7, .ref x8, .long xM, .long xE, .long xL, .int xo, .int xi, .int xj, .int xk, .int xn, .int xz, .int xa, .int xg])), (x1, .inl (cJ, 512, .inr (.inl xmw))), (x2, .inl (cJ, 512, .inr (.inl xmp))), (x3, .inl (cJ, 24, .inr (.inl xr))), (x4, .inl (cI, 8, .inl xd)), (x5, .inl (cJ, 5, .inr (.inl xwt))), (x6, .inl (cJ, 24, .inr (.inl xf))), (x7, .inl (cJ, 24, .inr (.inl xrd))), (x8, .inl (cJ, 6, .inr (.inl xu)))]) (hS : va_S (va_A w0 s.heap.size) s.heap H locs) : W p l e rm_X9_halt s m args below meth c H locs 0 0 (MQ below (QV (dC, dI) [(cI, .int), (cJ, .long)] w0 [(hX, .inr (6, [.int xt, .ref x1, .ref x2, .ref x3, .int xw, .int xp, .int V, .long xc, .ref x4, .ref x5, .ref x6, .ref x7, .ref x8, .long xM, .long xE, .long xL, .int xo, .int xi, .int xj, .int xk, .int xn, .int xz, .int xa, .int xg])), (x1, .inl (cJ, 512, .inr (.inl xmw))), (x2, .inl (cJ, 512, .inr (.inl xmp))), (x3, .inl (cJ, 24, .inr (.inl xr))), (x4, .inl (cI, 8, .inl xd)), (x5, .inl (cJ, 5, .inr (.inl xwt))), (x6, .inl (cJ, 24, .inr (.inl xf))), (x7, .inl (cJ, 24, .inr (.inl xrd))), (x8, .inl (cJ, 6, .inr (.inl xu)))] s.heap.size) args s 0 0 (va_A w0 s.heap.size)) (F0 m 0 ls []) := by
  obtain ⟨hx, hb, hr, hlk, hml, hown, hts⟩ := id C0
  have hA : ∀ q : Nat, s.heap.size ≤ q → va_A w0 s.heap.size q := fun q h => Or.inr h
  refine lv_aload_n hx hb dX9_halt_0 rfl (lv_at hl 0 rfl) ?_
  refine lv_iload_n hx hb dX9_halt_1 rfl (lv_at hl 1 rfl) ?_
  refine va_put (D := (dC, dI)) (ci := 6) (v := .int a) (ty := .int) (C := RX9) (T := TX9) (N := 24) hx hb hts mi_X9_halt_X9 tyX9 tyX9_ok nmX9 hown hK hP hD hS 0 rfl rfl 6 (by decide) (hts (.fieldLink RX9 19 "ScoreboardCoreModel" "stop" "I") mm_X9_halt_f19) (fun _ h9 => h9) rfl (by decide +kernel) rfl rfl (Nat.le_of_ble_eq_true rfl) dX9_halt_2 (fun H locs hP hD hS => ?_)
  have hP : va_P (dC, dI) vwCl [(hX, .inr (6, [.int xt, .ref x1, .ref x2, .ref x3, .int xw, .int xp, .int a, .long xc, .ref x4, .ref x5, .ref x6, .ref x7, .ref x8, .long xM, .long xE, .long xL, .int xo, .int xi, .int xj, .int xk, .int xn, .int xz, .int xa, .int xg])), (x1, .inl (cJ, 512, .inr (.inl xmw))), (x2, .inl (cJ, 512, .inr (.inl xmp))), (x3, .inl (cJ, 24, .inr (.inl xr))), (x4, .inl (cI, 8, .inl xd)), (x5, .inl (cJ, 5, .inr (.inl xwt))), (x6, .inl (cJ, 24, .inr (.inl xf))), (x7, .inl (cJ, 24, .inr (.inl xrd))), (x8, .inl (cJ, 6, .inr (.inl xu)))] H := hP
  have hD : va_D (va_A w0 s.heap.size) [(hX, .inr (6, [.int xt, .ref x1, .ref x2, .ref x3, .int xw, .int xp, .int a, .long xc, .ref x4, .ref x5, .ref x6, .ref x7, .ref x8, .long xM, .long xE, .long xL, .int xo, .int xi, .int xj, .int xk, .int xn, .int xz, .int xa, .int xg])), (x1, .inl (cJ, 512, .inr (.inl xmw))), (x2, .inl (cJ, 512, .inr (.inl xmp))), (x3, .inl (cJ, 24, .inr (.inl xr))), (x4, .inl (cI, 8, .inl xd)), (x5, .inl (cJ, 5, .inr (.inl xwt))), (x6, .inl (cJ, 24, .inr (.inl xf))), (x7, .inl (cJ, 24, .inr (.inl xrd))), (x8, .inl (cJ, 6, .inr (.inl xu)))] := hD
  have e9 : (F_X9_halt a ) = a := by rw [F_X9_halt]
  rw [e9] at hV
  subst hV
  exact wrRetV C0 hK hP hD hS dX9_halt_5
theorem c_X9_halt (l : Launch) (dC : Nat → ClassId) (dI : Nat → Nat → Nat) (cI cJ : ClassId) (hX x1 x2 x3 x4 x5 x6 x7 x8 : Nat) (a : Int32) (xt : Int32) (xw : Int32) (xp : Int32) (xs : Int32) (xc : Int64) (xM : Int64) (xE : Int64) (xL : Int64) (xo : Int32) (xi : Int32) (xj : Int32) (xk : Int32) (xn : Int32) (xz : Int32) (xa : Int32) (xg : Int32) (xmw : Nat → Int64) (xmp : Nat → Int64) (xr : Nat → Int64) (xd : Nat → Int32) (xwt : Nat → Int64) (xf : Nat → Int64) (xrd : Nat → Int64) (xu : Nat → Int64) : WrV false l yX9_halt wsX9_halt rm_X9_halt (dC, dI) [(cI, .int), (cJ, .long)] [(hX, .inr (6, [.int xt, .ref x1, .ref x2, .ref x3, .int xw, .int xp, .int xs, .long xc, .ref x4, .ref x5, .ref x6, .ref x7, .ref x8, .long xM, .long xE, .long xL, .int xo, .int xi, .int xj, .int xk, .int xn, .int xz, .int xa, .int xg])), (x1, .inl (cJ, 512, .inr (.inl xmw))), (x2, .inl (cJ, 512, .inr (.inl xmp))), (x3, .inl (cJ, 24, .inr (.inl xr))), (x4, .inl (cI, 8, .inl xd)), (x5, .inl (cJ, 5, .inr (.inl xwt))), (x6, .inl (cJ, 24, .inr (.inl xf))), (x7, .inl (cJ, 24, .inr (.inl xrd))), (x8, .inl (cJ, 6, .inr (.inl xu)))] [(hX, .inr (6, [.int xt, .ref x1, .ref x2, .ref x3, .int xw, .int xp, .int (F_X9_halt a ), .long xc, .ref x4, .ref x5, .ref x6, .ref x7, .ref x8, .long xM, .long xE, .long xL, .int xo, .int xi, .int xj, .int xk, .int xn, .int xz, .int xa, .int xg])), (x1, .inl (cJ, 512, .inr (.inl xmw))), (x2, .inl (cJ, 512, .inr (.inl xmp))), (x3, .inl (cJ, 24, .inr (.inl xr))), (x4, .inl (cI, 8, .inl xd)), (x5, .inl (cJ, 5, .inr (.inl xwt))), (x6, .inl (cJ, 24, .inr (.inl xf))), (x7, .inl (cJ, 24, .inr (.inl xrd))), (x8, .inl (cJ, 6, .inr (.inl xu)))] [.ref hX, .int a] := by
  refine WrV.mk (cc := cX9_halt) (nL := 2) (ret := none) [(0, .ref hX), (1, .int a)] (by decide) rfl (Nat.le_of_ble_eq_true rfl) rfl ?_
  intro p e s m below meth c C0 hP hK hD hS hZ ls hl
  exact w_X9_halt dC dI cI cJ hX x1 x2 x3 x4 x5 x6 x7 x8 a xt xw xp xs xc xM xE xL xo xi xj xk xn xz xa xg xmw xmp xr xd xwt xf xrd xu C0 hK hZ rfl ls hl hP hD hS

-- X9_jump
def F_X9_jump_309 (v4 : Int32) (xw' : Int32) (xp' : Int32) (xE' : Int64) (xL' : Int64) (xa' : Int32) (xmw' : Nat → Int64) (xmp' : Nat → Int64) (xd' : Nat → Int32) (xwt' : Nat → Int64) : Int32 × Int32 × Int64 × Int64 × Int32 × (Nat → Int64) × (Nat → Int64) × (Nat → Int32) × (Nat → Int64) :=
  (v4, (0 : Int32), xE', xL', xa', xmw', xmp', xd', xwt')
def F_X9_jump_301 (xn : Int32) (xw' : Int32) (xp' : Int32) (xE' : Int64) (xL' : Int64) (xa' : Int32) (xmw' : Nat → Int64) (xmp' : Nat → Int64) (xd' : Nat → Int32) (xwt' : Nat → Int64) : Int32 × Int32 × Int64 × Int64 × Int32 × (Nat → Int64) × (Nat → Int64) × (Nat → Int32) × (Nat → Int64) :=
  (F_X9_jump_309 (xn + (1 : Int32)) xw' xp' xE' xL' xa' xmw' xmp' xd' xwt')
def F_X9_jump_240 (xo : Int32) (xn : Int32) (t0 : Int32) (xw' : Int32) (xp' : Int32) (xE' : Int64) (xL' : Int64) (xa' : Int32) (xmw' : Nat → Int64) (xmp' : Nat → Int64) (xd' : Nat → Int32) (xwt' : Nat → Int64) : Int32 × Int32 × Int64 × Int64 × Int32 × (Nat → Int64) × (Nat → Int64) × (Nat → Int32) × (Nat → Int64) :=
  (if xo = (1 : Int32) then (if (512 : Int32) ≤ xn then (F_X9_jump_301 xn xw' xp' xE' xL' xa' xmw' xmp' xd' xwt') else (F_X9_jump_301 xn xw' xp' xE' xL' xa' (vp_updL xmw' xn.toNatClampNeg ((72057594037927936 : Int64) ||| ((xw' + (1 : Int32)).toInt64 <<< ((30 : Int32).toInt64 &&& 63)))) (vp_updL xmp' xn.toNatClampNeg ((vp_updL xmw' xn.toNatClampNeg ((72057594037927936 : Int64) ||| ((xw' + (1 : Int32)).toInt64 <<< ((30 : Int32).toInt64 &&& 63)))) xn.toNatClampNeg)) xd' xwt')) else (F_X9_jump_309 t0 xw' xp' xE' xL' xa' xmw' xmp' xd' xwt'))
def F_X9_jump_177 (xo : Int32) (xi : Int32) (xn : Int32) (xz : Int32) (xr : Nat → Int64) (v3 : Int32) (t0 : Int64) (t1 : Int64) (xw' : Int32) (xp' : Int32) (xE' : Int64) (xL' : Int64) (xa' : Int32) (xmw' : Nat → Int64) (xmp' : Nat → Int64) (xd' : Nat → Int32) (xwt' : Nat → Int64) : Int32 × Int32 × Int64 × Int64 × Int32 × (Nat → Int64) × (Nat → Int64) × (Nat → Int32) × (Nat → Int64) :=
  (if v3 = 0 then (((F_X9_goOn xw' xp' xz).1), ((F_X9_goOn xw' xp' xz).2), (t1 + t0), xL', xa', xmw', xmp', xd', xwt') else (if xo = (2 : Int32) then (F_X9_jump_240 xo xn ((F_X9_sum (xr ((16 : Int32) + xi).toNatClampNeg) xn.toInt64 (262143 : Int64)).toInt32) xw' xp' (t1 + t0) xL' xa' xmw' xmp' (upd xd' (7 : Int32).toNatClampNeg ((xd' (7 : Int32).toNatClampNeg) + (1 : Int32))) xwt') else (F_X9_jump_240 xo xn xn xw' xp' (t1 + t0) xL' xa' xmw' xmp' (upd xd' (7 : Int32).toNatClampNeg ((xd' (7 : Int32).toNatClampNeg) + (1 : Int32))) xwt')))
def F_X9_jump_114 (xo : Int32) (xi : Int32) (xj : Int32) (xn : Int32) (xz : Int32) (xr : Nat → Int64) (t0 : Int64) (xw' : Int32) (xp' : Int32) (xE' : Int64) (xL' : Int64) (xa' : Int32) (xmw' : Nat → Int64) (xmp' : Nat → Int64) (xd' : Nat → Int32) (xwt' : Nat → Int64) : Int32 × Int32 × Int64 × Int64 × Int32 × (Nat → Int64) × (Nat → Int64) × (Nat → Int32) × (Nat → Int64) :=
  (if (F_X9_holds xo xi xj xr) = 0 then (F_X9_jump_177 xo xi xn xz xr (F_X9_holds xo xi xj xr) (4 : Int64) t0 xw' xp' xE' (F_X9_later xL' t0) xa' xmw' xmp' (upd xd' (6 : Int32).toNatClampNeg ((xd' (6 : Int32).toNatClampNeg) + (1 : Int32))) (vp_updL xwt' (2 : Int32).toNatClampNeg (((xwt' (2 : Int32).toNatClampNeg) + t0) - xE'))) else (F_X9_jump_177 xo xi xn xz xr (F_X9_holds xo xi xj xr) (8 : Int64) t0 xw' xp' xE' (F_X9_later xL' t0) xa' xmw' xmp' (upd xd' (6 : Int32).toNatClampNeg ((xd' (6 : Int32).toNatClampNeg) + (1 : Int32))) (vp_updL xwt' (2 : Int32).toNatClampNeg (((xwt' (2 : Int32).toNatClampNeg) + t0) - xE'))))
def F_X9_jump_76 (xM : Int64) (xo : Int32) (xi : Int32) (xj : Int32) (xn : Int32) (xz : Int32) (xr : Nat → Int64) (xf : Nat → Int64) (xw' : Int32) (xp' : Int32) (xE' : Int64) (xL' : Int64) (xa' : Int32) (xmw' : Nat → Int64) (xmp' : Nat → Int64) (xd' : Nat → Int32) (xwt' : Nat → Int64) : Int32 × Int32 × Int64 × Int64 × Int32 × (Nat → Int64) × (Nat → Int64) × (Nat → Int32) × (Nat → Int64) :=
  (if xo = (1 : Int32) then (F_X9_jump_114 xo xi xj xn xz xr (F_X9_later (F_X9_later xE' (F_X9_freeFrom xa' xf)) (xM + (1 : Int64))) xw' xp' xE' xL' xa' xmw' xmp' xd' xwt') else (F_X9_jump_114 xo xi xj xn xz xr (F_X9_later xE' (F_X9_freeFrom xa' xf)) xw' xp' xE' xL' xa' xmw' xmp' xd' xwt'))
def F_X9_jump (xw : Int32) (xp : Int32) (xM : Int64) (xE : Int64) (xL : Int64) (xo : Int32) (xi : Int32) (xj : Int32) (xn : Int32) (xz : Int32) (xmw : Nat → Int64) (xmp : Nat → Int64) (xr : Nat → Int64) (xd : Nat → Int32) (xwt : Nat → Int64) (xf : Nat → Int64) : Int32 × Int32 × Int64 × Int64 × Int32 × (Nat → Int64) × (Nat → Int64) × (Nat → Int32) × (Nat → Int64) :=
  (if xo = (2 : Int32) then (F_X9_jump_76 xM xo xi xj xn xz xr xf xw xp xE xL (F_X9_need ((16 : Int32) + xi) (0 : Int32)) xmw xmp xd xwt) else (if xo = (3 : Int32) then (F_X9_jump_76 xM xo xi xj xn xz xr xf xw xp xE xL (F_X9_need xj (0 : Int32)) xmw xmp xd xwt) else (if xo ≤ (3 : Int32) then (F_X9_jump_76 xM xo xi xj xn xz xr xf xw xp xE xL (0 : Int32) xmw xmp xd xwt) else (F_X9_jump_76 xM xo xi xj xn xz xr xf xw xp xE xL (F_X9_need ((16 : Int32) + xj) (F_X9_need ((16 : Int32) + xi) (0 : Int32))) xmw xmp xd xwt))))
abbrev rm_X9_jump : Room := { frames := 2, cells := 0, slots := 0, locals := 47 }
set_option maxRecDepth 20000 in
theorem mi_X9_jump_X9 : ∀ w ∈ wsX90, w ∈ wsX9_jump := by decide +kernel
set_option maxRecDepth 20000 in
theorem mm_X9_jump_f13 : Cond.fieldLink RX9 13 "ScoreboardCoreModel" "program" "[J" ∈ wsX9_jump := by decide +kernel
set_option maxRecDepth 20000 in
theorem mm_X9_jump_f152 : Cond.fieldLink RX9 152 "ScoreboardCoreModel" "earliest" "J" ∈ wsX9_jump := by decide +kernel
set_option maxRecDepth 20000 in
theorem mm_X9_jump_f16 : Cond.fieldLink RX9 16 "ScoreboardCoreModel" "\x72" "[J" ∈ wsX9_jump := by decide +kernel
set_option maxRecDepth 20000 in
theorem mm_X9_jump_f164 : Cond.fieldLink RX9 164 "ScoreboardCoreModel" "memoryEnd" "J" ∈ wsX9_jump := by decide +kernel
set_option maxRecDepth 20000 in
theorem mm_X9_jump_f167 : Cond.fieldLink RX9 167 "ScoreboardCoreModel" "last" "J" ∈ wsX9_jump := by decide +kernel
set_option maxRecDepth 20000 in
theorem mm_X9_jump_f23 : Cond.fieldLink RX9 23 "ScoreboardCoreModel" "done" "[I" ∈ wsX9_jump := by decide +kernel
set_option maxRecDepth 20000 in
theorem mm_X9_jump_f27 : Cond.fieldLink RX9 27 "ScoreboardCoreModel" "waited" "[J" ∈ wsX9_jump := by decide +kernel
set_option maxRecDepth 20000 in
theorem mm_X9_jump_f50 : Cond.fieldLink RX9 50 "ScoreboardCoreModel" "word" "I" ∈ wsX9_jump := by decide +kernel
set_option maxRecDepth 20000 in
theorem mm_X9_jump_f53 : Cond.fieldLink RX9 53 "ScoreboardCoreModel" "parcel" "I" ∈ wsX9_jump := by decide +kernel
set_option maxRecDepth 20000 in
theorem mm_X9_jump_f68 : Cond.fieldLink RX9 68 "ScoreboardCoreModel" "op" "I" ∈ wsX9_jump := by decide +kernel
set_option maxRecDepth 20000 in
theorem mm_X9_jump_f7 : Cond.fieldLink RX9 7 "ScoreboardCoreModel" "memory" "[J" ∈ wsX9_jump := by decide +kernel
set_option maxRecDepth 20000 in
theorem mm_X9_jump_f71 : Cond.fieldLink RX9 71 "ScoreboardCoreModel" "i" "I" ∈ wsX9_jump := by decide +kernel
set_option maxRecDepth 20000 in
theorem mm_X9_jump_f83 : Cond.fieldLink RX9 83 "ScoreboardCoreModel" "j" "I" ∈ wsX9_jump := by decide +kernel
set_option maxRecDepth 20000 in
theorem mm_X9_jump_f93 : Cond.fieldLink RX9 93 "ScoreboardCoreModel" "number" "I" ∈ wsX9_jump := by decide +kernel
set_option maxRecDepth 20000 in
theorem mm_X9_jump_f96 : Cond.fieldLink RX9 96 "ScoreboardCoreModel" "needs" "I" ∈ wsX9_jump := by decide +kernel
set_option maxRecDepth 20000 in
theorem mm_X9_jump_iX9 : Cond.initialized RX9 ∈ wsX9_jump := by decide +kernel
set_option maxRecDepth 20000 in
theorem mm_X9_jump_k160 : Cond.constantLong RX9 160 (8) ∈ wsX9_jump := by decide +kernel
set_option maxRecDepth 20000 in
theorem mm_X9_jump_k182 : Cond.constantLong RX9 182 (4) ∈ wsX9_jump := by decide +kernel
set_option maxRecDepth 20000 in
theorem mm_X9_jump_k187 : Cond.constantLong RX9 187 (72057594037927936) ∈ wsX9_jump := by decide +kernel
set_option maxRecDepth 20000 in
theorem mm_X9_jump_k44 : Cond.constantLong RX9 44 (262143) ∈ wsX9_jump := by decide +kernel
set_option maxRecDepth 20000 in
theorem mm_X9_jump_l102 : Cond.methodLink RX9 102 yX9_need ∈ wsX9_jump := by decide +kernel
set_option maxRecDepth 20000 in
theorem mm_X9_jump_l144 : Cond.methodLink RX9 144 yX9_later ∈ wsX9_jump := by decide +kernel
set_option maxRecDepth 20000 in
theorem mm_X9_jump_l156 : Cond.methodLink RX9 156 yX9_freeFrom ∈ wsX9_jump := by decide +kernel
set_option maxRecDepth 20000 in
theorem mm_X9_jump_l179 : Cond.methodLink RX9 179 yX9_holds ∈ wsX9_jump := by decide +kernel
set_option maxRecDepth 20000 in
theorem mm_X9_jump_l184 : Cond.methodLink RX9 184 yX9_goOn ∈ wsX9_jump := by decide +kernel
set_option maxRecDepth 20000 in
theorem mm_X9_jump_l56 : Cond.methodLink RX9 56 yX9_sum ∈ wsX9_jump := by decide +kernel
set_option maxRecDepth 20000 in
theorem mm_X9_jump_nX9_freeFrom : Cond.instanceMethod yX9_freeFrom ∈ wsX9_jump := by decide +kernel
set_option maxRecDepth 20000 in
theorem mm_X9_jump_nX9_goOn : Cond.instanceMethod yX9_goOn ∈ wsX9_jump := by decide +kernel
set_option maxRecDepth 20000 in
theorem mm_X9_jump_nX9_holds : Cond.instanceMethod yX9_holds ∈ wsX9_jump := by decide +kernel
set_option maxRecDepth 20000 in
theorem mm_X9_jump_nX9_need : Cond.instanceMethod yX9_need ∈ wsX9_jump := by decide +kernel
set_option maxRecDepth 20000 in
theorem mm_X9_jump_sX9_freeFrom : Cond.selects RX9 yX9_freeFrom yX9_freeFrom ∈ wsX9_jump := by decide +kernel
set_option maxRecDepth 20000 in
theorem mm_X9_jump_sX9_goOn : Cond.selects RX9 yX9_goOn yX9_goOn ∈ wsX9_jump := by decide +kernel
set_option maxRecDepth 20000 in
theorem mm_X9_jump_sX9_holds : Cond.selects RX9 yX9_holds yX9_holds ∈ wsX9_jump := by decide +kernel
set_option maxRecDepth 20000 in
theorem mm_X9_jump_sX9_need : Cond.selects RX9 yX9_need yX9_need ∈ wsX9_jump := by decide +kernel
set_option maxRecDepth 20000 in
theorem mm_X9_jump_tX9_later : Cond.static yX9_later ∈ wsX9_jump := by decide +kernel
set_option maxRecDepth 20000 in
theorem mm_X9_jump_tX9_sum : Cond.static yX9_sum ∈ wsX9_jump := by decide +kernel
set_option maxHeartbeats 4000000 in
set_option maxRecDepth 100000 in
theorem j_X9_jump_309 {p : Program} {l : Launch} {e : Env} {s : State} {m : MethodId} {below : List Frame} {meth : Method} {c : Code} {args : Array Value} (dC : Nat → ClassId) (dI : Nat → Nat → Nat) (cI cJ : ClassId) (hX x1 x2 x3 x4 x5 x6 x7 x8 : Nat) (xt : Int32) (xw : Int32) (xp : Int32) (xs : Int32) (xc : Int64) (xM : Int64) (xE : Int64) (xL : Int64) (xo : Int32) (xi : Int32) (xj : Int32) (xk : Int32) (xn : Int32) (xz : Int32) (xa : Int32) (xg : Int32) (xmw : Nat → Int64) (xmp : Nat → Int64) (xr : Nat → Int64) (xd : Nat → Int32) (xwt : Nat → Int64) (xf : Nat → Int64) (xrd : Nat → Int64) (xu : Nat → Int64) {w0 : va_W} (C0 : Cx p s m meth c cX9_jump 5 none wsX9_jump RX9 args) (hK : va_K (dC, dI) vwCl [(cI, .int), (cJ, .long)] s) (hZ : Zs false (va_A w0 s.heap.size) s s.heap) (hi : R8 xi) (hj : R8 xj) (hk : R8 xk) (hnum : ¬ xn < 0) (v4 : Int32) (xw' : Int32) (xp' : Int32) (xE' : Int64) (xL' : Int64) (xa' : Int32) (xmw' : Nat → Int64) (xmp' : Nat → Int64) (xd' : Nat → Int32) (xwt' : Nat → Int64) {V : Int32 × Int32 × Int64 × Int64 × Int32 × (Nat → Int64) × (Nat → Int64) × (Nat → Int32) × (Nat → Int64)} (hV : (F_X9_jump_309 v4 xw' xp' xE' xL' xa' xmw' xmp' xd' xwt') = V) (ls : Array Slot) (hl : lv_has ls 5 [(0, .ref hX), (4, .int v4)]) {H : Heap} {locs : List Loc} (hP : va_P (dC, dI) vwCl [(hX, .inr (6, [.int xt, .ref x1, .ref x2, .ref x3, .int xw', .int xp', .int xs, .long xc, .ref x4, .ref x5, .ref x6, .ref x7, .ref x8, .long xM, .long xE', .long xL', .int xo, .int xi, .int xj, .int xk, .int xn, .int xz, .int xa', .int xg])), (x1, .inl (cJ, 512, .inr (.inl xmw'))), (x2, .inl (cJ, 512, .inr (.inl xmp'))), (x3, .inl (cJ, 24, .inr (.inl xr))), (x4, .inl (cI, 8, .inl xd')), (x5, .inl (cJ, 5, .inr (.inl xwt'))), (x6, .inl (cJ, 24, .inr (.inl xf))), (x7, .inl (cJ, 24, .inr (.inl xrd))), (x8, .inl (cJ, 6, .inr (.inl xu)))] H) (hD : va_D (va_A w0 s.heap.size) [(hX, .inr (6, [.int xt, .ref x1, .ref x2, .ref x3, .int xw', .int xp', .int xs, .long xc, .ref x4, .ref x5, .ref x6, .ref x7, .ref x8, .long xM, .long xE', .long xL', .int xo, .int xi, .int xj, .int xk, .int xn, .int xz, .int xa', .int xg])), (x1, .inl (cJ, 512, .inr (.inl xmw'))), (x2, .inl (cJ, 512, .inr (.inl xmp'))), (x3, .inl (cJ, 24, .inr (.inl xr))), (x4, .inl (cI, 8, .inl xd')), (x5, .inl (cJ, 5, .inr (.inl xwt'))), (x6, .inl (cJ, 24, .inr (.inl xf))), (x7, .inl (cJ, 24, .inr (.inl xrd))), (x8, .inl (cJ, 6, .inr (.inl xu)))]) (hS : va_S (va_A w0 s.heap.size) s.heap H locs) : W p l e rm_X9_jump s m args below meth c H locs 0 0 (MQ below (QV (dC, dI) [(cI, .int), (cJ, .long)] w0 [(hX, .inr (6, [.int xt, .ref x1, .ref x2, .ref x3, .int V.1, .int V.2.1, .int xs, .long xc, .ref x4, .ref x5, .ref x6, .ref x7, .ref x8, .long xM, .long V.2.2.1, .long V.2.2.2.1, .int xo, .int xi, .int xj, .int xk, .int xn, .int xz, .int V.2.2.2.2.1, .int xg])), (x1, .inl (cJ, 512, .inr (.inl V.2.2.2.2.2.1))), (x2, .inl (cJ, 512, .inr (.inl V.2.2.2.2.2.2.1))), (x3, .inl (cJ, 24, .inr (.inl xr))), (x4, .inl (cI, 8, .inl V.2.2.2.2.2.2.2.1)), (x5, .inl (cJ, 5, .inr (.inl V.2.2.2.2.2.2.2.2))), (x6, .inl (cJ, 24, .inr (.inl xf))), (x7, .inl (cJ, 24, .inr (.inl xrd))), (x8, .inl (cJ, 6, .inr (.inl xu)))] s.heap.size) args s 0 0 (va_A w0 s.heap.size)) (F0 m 309 ls []) := by
  obtain ⟨hx, hb, hr, hlk, hml, hown, hts⟩ := id C0
  have hA : ∀ q : Nat, s.heap.size ≤ q → va_A w0 s.heap.size q := fun q h => Or.inr h
  refine lv_aload_n hx hb dX9_jump_309 rfl (lv_at hl 0 rfl) ?_
  refine lv_iload hx hb dX9_jump_310 (lv_at hl 1 rfl) ?_
  refine va_put (D := (dC, dI)) (ci := 6) (v := .int v4) (ty := .int) (C := RX9) (T := TX9) (N := 24) hx hb hts mi_X9_jump_X9 tyX9 tyX9_ok nmX9 hown hK hP hD hS 0 rfl rfl 4 (by decide) (hts (.fieldLink RX9 50 "ScoreboardCoreModel" "word" "I") mm_X9_jump_f50) (fun _ h9 => h9) rfl (by decide +kernel) rfl rfl (Nat.le_of_ble_eq_true rfl) dX9_jump_312 (fun H locs hP hD hS => ?_)
  have hP : va_P (dC, dI) vwCl [(hX, .inr (6, [.int xt, .ref x1, .ref x2, .ref x3, .int v4, .int xp', .int xs, .long xc, .ref x4, .ref x5, .ref x6, .ref x7, .ref x8, .long xM, .long xE', .long xL', .int xo, .int xi, .int xj, .int xk, .int xn, .int xz, .int xa', .int xg])), (x1, .inl (cJ, 512, .inr (.inl xmw'))), (x2, .inl (cJ, 512, .inr (.inl xmp'))), (x3, .inl (cJ, 24, .inr (.inl xr))), (x4, .inl (cI, 8, .inl xd')), (x5, .inl (cJ, 5, .inr (.inl xwt'))), (x6, .inl (cJ, 24, .inr (.inl xf))), (x7, .inl (cJ, 24, .inr (.inl xrd))), (x8, .inl (cJ, 6, .inr (.inl xu)))] H := hP
  have hD : va_D (va_A w0 s.heap.size) [(hX, .inr (6, [.int xt, .ref x1, .ref x2, .ref x3, .int v4, .int xp', .int xs, .long xc, .ref x4, .ref x5, .ref x6, .ref x7, .ref x8, .long xM, .long xE', .long xL', .int xo, .int xi, .int xj, .int xk, .int xn, .int xz, .int xa', .int xg])), (x1, .inl (cJ, 512, .inr (.inl xmw'))), (x2, .inl (cJ, 512, .inr (.inl xmp'))), (x3, .inl (cJ, 24, .inr (.inl xr))), (x4, .inl (cI, 8, .inl xd')), (x5, .inl (cJ, 5, .inr (.inl xwt'))), (x6, .inl (cJ, 24, .inr (.inl xf))), (x7, .inl (cJ, 24, .inr (.inl xrd))), (x8, .inl (cJ, 6, .inr (.inl xu)))] := hD
  refine lv_aload_n hx hb dX9_jump_315 rfl (lv_at hl 0 rfl) ?_
  refine lv_iconst (v := (0 : Int32)) hx hb dX9_jump_316 (by decide) ?_
  refine va_put (D := (dC, dI)) (ci := 6) (v := .int (0 : Int32)) (ty := .int) (C := RX9) (T := TX9) (N := 24) hx hb hts mi_X9_jump_X9 tyX9 tyX9_ok nmX9 hown hK hP hD hS 0 rfl rfl 5 (by decide) (hts (.fieldLink RX9 53 "ScoreboardCoreModel" "parcel" "I") mm_X9_jump_f53) (fun _ h9 => h9) rfl (by decide +kernel) rfl rfl (Nat.le_of_ble_eq_true rfl) dX9_jump_317 (fun H locs hP hD hS => ?_)
  have hP : va_P (dC, dI) vwCl [(hX, .inr (6, [.int xt, .ref x1, .ref x2, .ref x3, .int v4, .int (0 : Int32), .int xs, .long xc, .ref x4, .ref x5, .ref x6, .ref x7, .ref x8, .long xM, .long xE', .long xL', .int xo, .int xi, .int xj, .int xk, .int xn, .int xz, .int xa', .int xg])), (x1, .inl (cJ, 512, .inr (.inl xmw'))), (x2, .inl (cJ, 512, .inr (.inl xmp'))), (x3, .inl (cJ, 24, .inr (.inl xr))), (x4, .inl (cI, 8, .inl xd')), (x5, .inl (cJ, 5, .inr (.inl xwt'))), (x6, .inl (cJ, 24, .inr (.inl xf))), (x7, .inl (cJ, 24, .inr (.inl xrd))), (x8, .inl (cJ, 6, .inr (.inl xu)))] H := hP
  have hD : va_D (va_A w0 s.heap.size) [(hX, .inr (6, [.int xt, .ref x1, .ref x2, .ref x3, .int v4, .int (0 : Int32), .int xs, .long xc, .ref x4, .ref x5, .ref x6, .ref x7, .ref x8, .long xM, .long xE', .long xL', .int xo, .int xi, .int xj, .int xk, .int xn, .int xz, .int xa', .int xg])), (x1, .inl (cJ, 512, .inr (.inl xmw'))), (x2, .inl (cJ, 512, .inr (.inl xmp'))), (x3, .inl (cJ, 24, .inr (.inl xr))), (x4, .inl (cI, 8, .inl xd')), (x5, .inl (cJ, 5, .inr (.inl xwt'))), (x6, .inl (cJ, 24, .inr (.inl xf))), (x7, .inl (cJ, 24, .inr (.inl xrd))), (x8, .inl (cJ, 6, .inr (.inl xu)))] := hD
  have e9 : (F_X9_jump_309 v4 xw' xp' xE' xL' xa' xmw' xmp' xd' xwt') = (v4, (0 : Int32), xE', xL', xa', xmw', xmp', xd', xwt') := by rw [F_X9_jump_309]
  rw [e9] at hV
  subst hV
  exact wrRetV C0 hK hP hD hS dX9_jump_320
set_option maxHeartbeats 4000000 in
set_option maxRecDepth 100000 in
theorem j_X9_jump_301 {p : Program} {l : Launch} {e : Env} {s : State} {m : MethodId} {below : List Frame} {meth : Method} {c : Code} {args : Array Value} (dC : Nat → ClassId) (dI : Nat → Nat → Nat) (cI cJ : ClassId) (hX x1 x2 x3 x4 x5 x6 x7 x8 : Nat) (xt : Int32) (xw : Int32) (xp : Int32) (xs : Int32) (xc : Int64) (xM : Int64) (xE : Int64) (xL : Int64) (xo : Int32) (xi : Int32) (xj : Int32) (xk : Int32) (xn : Int32) (xz : Int32) (xa : Int32) (xg : Int32) (xmw : Nat → Int64) (xmp : Nat → Int64) (xr : Nat → Int64) (xd : Nat → Int32) (xwt : Nat → Int64) (xf : Nat → Int64) (xrd : Nat → Int64) (xu : Nat → Int64) {w0 : va_W} (C0 : Cx p s m meth c cX9_jump 5 none wsX9_jump RX9 args) (hK : va_K (dC, dI) vwCl [(cI, .int), (cJ, .long)] s) (hZ : Zs false (va_A w0 s.heap.size) s s.heap) (hi : R8 xi) (hj : R8 xj) (hk : R8 xk) (hnum : ¬ xn < 0) (xw' : Int32) (xp' : Int32) (xE' : Int64) (xL' : Int64) (xa' : Int32) (xmw' : Nat → Int64) (xmp' : Nat → Int64) (xd' : Nat → Int32) (xwt' : Nat → Int64) {V : Int32 × Int32 × Int64 × Int64 × Int32 × (Nat → Int64) × (Nat → Int64) × (Nat → Int32) × (Nat → Int64)} (hV : (F_X9_jump_301 xn xw' xp' xE' xL' xa' xmw' xmp' xd' xwt') = V) (ls : Array Slot) (hl : lv_has ls 5 [(0, .ref hX)]) {H : Heap} {locs : List Loc} (hP : va_P (dC, dI) vwCl [(hX, .inr (6, [.int xt, .ref x1, .ref x2, .ref x3, .int xw', .int xp', .int xs, .long xc, .ref x4, .ref x5, .ref x6, .ref x7, .ref x8, .long xM, .long xE', .long xL', .int xo, .int xi, .int xj, .int xk, .int xn, .int xz, .int xa', .int xg])), (x1, .inl (cJ, 512, .inr (.inl xmw'))), (x2, .inl (cJ, 512, .inr (.inl xmp'))), (x3, .inl (cJ, 24, .inr (.inl xr))), (x4, .inl (cI, 8, .inl xd')), (x5, .inl (cJ, 5, .inr (.inl xwt'))), (x6, .inl (cJ, 24, .inr (.inl xf))), (x7, .inl (cJ, 24, .inr (.inl xrd))), (x8, .inl (cJ, 6, .inr (.inl xu)))] H) (hD : va_D (va_A w0 s.heap.size) [(hX, .inr (6, [.int xt, .ref x1, .ref x2, .ref x3, .int xw', .int xp', .int xs, .long xc, .ref x4, .ref x5, .ref x6, .ref x7, .ref x8, .long xM, .long xE', .long xL', .int xo, .int xi, .int xj, .int xk, .int xn, .int xz, .int xa', .int xg])), (x1, .inl (cJ, 512, .inr (.inl xmw'))), (x2, .inl (cJ, 512, .inr (.inl xmp'))), (x3, .inl (cJ, 24, .inr (.inl xr))), (x4, .inl (cI, 8, .inl xd')), (x5, .inl (cJ, 5, .inr (.inl xwt'))), (x6, .inl (cJ, 24, .inr (.inl xf))), (x7, .inl (cJ, 24, .inr (.inl xrd))), (x8, .inl (cJ, 6, .inr (.inl xu)))]) (hS : va_S (va_A w0 s.heap.size) s.heap H locs) : W p l e rm_X9_jump s m args below meth c H locs 0 0 (MQ below (QV (dC, dI) [(cI, .int), (cJ, .long)] w0 [(hX, .inr (6, [.int xt, .ref x1, .ref x2, .ref x3, .int V.1, .int V.2.1, .int xs, .long xc, .ref x4, .ref x5, .ref x6, .ref x7, .ref x8, .long xM, .long V.2.2.1, .long V.2.2.2.1, .int xo, .int xi, .int xj, .int xk, .int xn, .int xz, .int V.2.2.2.2.1, .int xg])), (x1, .inl (cJ, 512, .inr (.inl V.2.2.2.2.2.1))), (x2, .inl (cJ, 512, .inr (.inl V.2.2.2.2.2.2.1))), (x3, .inl (cJ, 24, .inr (.inl xr))), (x4, .inl (cI, 8, .inl V.2.2.2.2.2.2.2.1)), (x5, .inl (cJ, 5, .inr (.inl V.2.2.2.2.2.2.2.2))), (x6, .inl (cJ, 24, .inr (.inl xf))), (x7, .inl (cJ, 24, .inr (.inl xrd))), (x8, .inl (cJ, 6, .inr (.inl xu)))] s.heap.size) args s 0 0 (va_A w0 s.heap.size)) (F0 m 301 ls []) := by
  obtain ⟨hx, hb, hr, hlk, hml, hown, hts⟩ := id C0
  have hA : ∀ q : Nat, s.heap.size ≤ q → va_A w0 s.heap.size q := fun q h => Or.inr h
  refine lv_aload_n hx hb dX9_jump_301 rfl (lv_at hl 0 rfl) ?_
  refine va_get (D := (dC, dI)) (ci := 6) (v := .int xn) (C := RX9) (T := TX9) (N := 24) hx hb hts mi_X9_jump_X9 hown hK hP 0 rfl rfl 20 (by decide) (hts (.fieldLink RX9 93 "ScoreboardCoreModel" "number" "I") mm_X9_jump_f93) (fun _ h9 => h9) rfl dX9_jump_302 ?_
  refine lv_iconst (v := (1 : Int32)) hx hb dX9_jump_305 (by decide) ?_
  refine lv_iadd hx hb dX9_jump_306 ?_
  refine lv_istore (lv' := [(4, .int (xn + (1 : Int32))), (0, .ref hX)]) hx hb dX9_jump_307 hl (by decide) rfl (fun ls hl => ?_)
  have e9 : (F_X9_jump_301 xn xw' xp' xE' xL' xa' xmw' xmp' xd' xwt') = (F_X9_jump_309 (xn + (1 : Int32)) xw' xp' xE' xL' xa' xmw' xmp' xd' xwt') := by rw [F_X9_jump_301]
  rw [e9] at hV
  exact j_X9_jump_309 dC dI cI cJ hX x1 x2 x3 x4 x5 x6 x7 x8 xt xw xp xs xc xM xE xL xo xi xj xk xn xz xa xg xmw xmp xr xd xwt xf xrd xu C0 hK hZ hi hj hk hnum (xn + (1 : Int32)) xw' xp' xE' xL' xa' xmw' xmp' xd' xwt' hV ls (lv_sub hl [1, 0] rfl) hP hD hS
set_option maxHeartbeats 4000000 in
set_option maxRecDepth 100000 in
theorem j_X9_jump_240 {p : Program} {l : Launch} {e : Env} {s : State} {m : MethodId} {below : List Frame} {meth : Method} {c : Code} {args : Array Value} (dC : Nat → ClassId) (dI : Nat → Nat → Nat) (cI cJ : ClassId) (hX x1 x2 x3 x4 x5 x6 x7 x8 : Nat) (xt : Int32) (xw : Int32) (xp : Int32) (xs : Int32) (xc : Int64) (xM : Int64) (xE : Int64) (xL : Int64) (xo : Int32) (xi : Int32) (xj : Int32) (xk : Int32) (xn : Int32) (xz : Int32) (xa : Int32) (xg : Int32) (xmw : Nat → Int64) (xmp : Nat → Int64) (xr : Nat → Int64) (xd : Nat → Int32) (xwt : Nat → Int64) (xf : Nat → Int64) (xrd : Nat → Int64) (xu : Nat → Int64) {w0 : va_W} (C0 : Cx p s m meth c cX9_jump 5 none wsX9_jump RX9 args) (hK : va_K (dC, dI) vwCl [(cI, .int), (cJ, .long)] s) (hZ : Zs false (va_A w0 s.heap.size) s s.heap) (hi : R8 xi) (hj : R8 xj) (hk : R8 xk) (hnum : ¬ xn < 0) (t0 : Int32) (xw' : Int32) (xp' : Int32) (xE' : Int64) (xL' : Int64) (xa' : Int32) (xmw' : Nat → Int64) (xmp' : Nat → Int64) (xd' : Nat → Int32) (xwt' : Nat → Int64) {V : Int32 × Int32 × Int64 × Int64 × Int32 × (Nat → Int64) × (Nat → Int64) × (Nat → Int32) × (Nat → Int64)} (hV : (F_X9_jump_240 xo xn t0 xw' xp' xE' xL' xa' xmw' xmp' xd' xwt') = V) (ls : Array Slot) (hl : lv_has ls 5 [(0, .ref hX)]) {H : Heap} {locs : List Loc} (hP : va_P (dC, dI) vwCl [(hX, .inr (6, [.int xt, .ref x1, .ref x2, .ref x3, .int xw', .int xp', .int xs, .long xc, .ref x4, .ref x5, .ref x6, .ref x7, .ref x8, .long xM, .long xE', .long xL', .int xo, .int xi, .int xj, .int xk, .int xn, .int xz, .int xa', .int xg])), (x1, .inl (cJ, 512, .inr (.inl xmw'))), (x2, .inl (cJ, 512, .inr (.inl xmp'))), (x3, .inl (cJ, 24, .inr (.inl xr))), (x4, .inl (cI, 8, .inl xd')), (x5, .inl (cJ, 5, .inr (.inl xwt'))), (x6, .inl (cJ, 24, .inr (.inl xf))), (x7, .inl (cJ, 24, .inr (.inl xrd))), (x8, .inl (cJ, 6, .inr (.inl xu)))] H) (hD : va_D (va_A w0 s.heap.size) [(hX, .inr (6, [.int xt, .ref x1, .ref x2, .ref x3, .int xw', .int xp', .int xs, .long xc, .ref x4, .ref x5, .ref x6, .ref x7, .ref x8, .long xM, .long xE', .long xL', .int xo, .int xi, .int xj, .int xk, .int xn, .int xz, .int xa', .int xg])), (x1, .inl (cJ, 512, .inr (.inl xmw'))), (x2, .inl (cJ, 512, .inr (.inl xmp'))), (x3, .inl (cJ, 24, .inr (.inl xr))), (x4, .inl (cI, 8, .inl xd')), (x5, .inl (cJ, 5, .inr (.inl xwt'))), (x6, .inl (cJ, 24, .inr (.inl xf))), (x7, .inl (cJ, 24, .inr (.inl xrd))), (x8, .inl (cJ, 6, .inr (.inl xu)))]) (hS : va_S (va_A w0 s.heap.size) s.heap H locs) : W p l e rm_X9_jump s m args below meth c H locs 0 0 (MQ below (QV (dC, dI) [(cI, .int), (cJ, .long)] w0 [(hX, .inr (6, [.int xt, .ref x1, .ref x2, .ref x3, .int V.1, .int V.2.1, .int xs, .long xc, .ref x4, .ref x5, .ref x6, .ref x7, .ref x8, .long xM, .long V.2.2.1, .long V.2.2.2.1, .int xo, .int xi, .int xj, .int xk, .int xn, .int xz, .int V.2.2.2.2.1, .int xg])), (x1, .inl (cJ, 512, .inr (.inl V.2.2.2.2.2.1))), (x2, .inl (cJ, 512, .inr (.inl V.2.2.2.2.2.2.1))), (x3, .inl (cJ, 24, .inr (.inl xr))), (x4, .inl (cI, 8, .inl V.2.2.2.2.2.2.2.1)), (x5, .inl (cJ, 5, .inr (.inl V.2.2.2.2.2.2.2.2))), (x6, .inl (cJ, 24, .inr (.inl xf))), (x7, .inl (cJ, 24, .inr (.inl xrd))), (x8, .inl (cJ, 6, .inr (.inl xu)))] s.heap.size) args s 0 0 (va_A w0 s.heap.size)) (F0 m 240 ls [.int t0]) := by
  obtain ⟨hx, hb, hr, hlk, hml, hown, hts⟩ := id C0
  have hA : ∀ q : Nat, s.heap.size ≤ q → va_A w0 s.heap.size q := fun q h => Or.inr h
  refine lv_istore (lv' := [(4, .int t0), (0, .ref hX)]) hx hb dX9_jump_240 hl (by decide) rfl (fun ls hl => ?_)
  refine lv_aload_n hx hb dX9_jump_242 rfl (lv_at hl 1 rfl) ?_
  refine va_get (D := (dC, dI)) (ci := 6) (v := .int xo) (C := RX9) (T := TX9) (N := 24) hx hb hts mi_X9_jump_X9 hown hK hP 0 rfl rfl 16 (by decide) (hts (.fieldLink RX9 68 "ScoreboardCoreModel" "op" "I") mm_X9_jump_f68) (fun _ h9 => h9) rfl dX9_jump_243 ?_
  refine lv_iconst (v := (1 : Int32)) hx hb dX9_jump_246 (by decide) ?_
  refine lv_icmp_ne (x := xo) (y := (1 : Int32)) (tgt := 309) hx hb dX9_jump_247 (by decide) (fun c1 => ?_) (fun c1 => ?_)
  · have e9 : (F_X9_jump_240 xo xn t0 xw' xp' xE' xL' xa' xmw' xmp' xd' xwt') = (F_X9_jump_309 t0 xw' xp' xE' xL' xa' xmw' xmp' xd' xwt') := by rw [F_X9_jump_240, if_neg c1]
    rw [e9] at hV
    exact j_X9_jump_309 dC dI cI cJ hX x1 x2 x3 x4 x5 x6 x7 x8 xt xw xp xs xc xM xE xL xo xi xj xk xn xz xa xg xmw xmp xr xd xwt xf xrd xu C0 hK hZ hi hj hk hnum t0 xw' xp' xE' xL' xa' xmw' xmp' xd' xwt' hV ls (lv_sub hl [1, 0] rfl) hP hD hS
  · refine lv_aload_n hx hb dX9_jump_250 rfl (lv_at hl 1 rfl) ?_
    refine va_get (D := (dC, dI)) (ci := 6) (v := .int xn) (C := RX9) (T := TX9) (N := 24) hx hb hts mi_X9_jump_X9 hown hK hP 0 rfl rfl 20 (by decide) (hts (.fieldLink RX9 93 "ScoreboardCoreModel" "number" "I") mm_X9_jump_f93) (fun _ h9 => h9) rfl dX9_jump_251 ?_
    refine lv_sipush (v := (512 : Int32)) hx hb dX9_jump_254 (by decide) ?_
    refine lv_icmp_ge (x := xn) (y := (512 : Int32)) (tgt := 301) hx hb dX9_jump_257 (by decide) (fun c2 => ?_) (fun c2 => ?_)
    · have e9 : (F_X9_jump_240 xo xn t0 xw' xp' xE' xL' xa' xmw' xmp' xd' xwt') = (F_X9_jump_301 xn xw' xp' xE' xL' xa' xmw' xmp' xd' xwt') := by rw [F_X9_jump_240, if_pos c1, if_pos c2]
      rw [e9] at hV
      exact j_X9_jump_301 dC dI cI cJ hX x1 x2 x3 x4 x5 x6 x7 x8 xt xw xp xs xc xM xE xL xo xi xj xk xn xz xa xg xmw xmp xr xd xwt xf xrd xu C0 hK hZ hi hj hk hnum xw' xp' xE' xL' xa' xmw' xmp' xd' xwt' hV ls (lv_sub hl [1] rfl) hP hD hS
    · refine lv_aload_n hx hb dX9_jump_260 rfl (lv_at hl 1 rfl) ?_
      refine va_get (D := (dC, dI)) (ci := 6) (v := .ref x1) (C := RX9) (T := TX9) (N := 24) hx hb hts mi_X9_jump_X9 hown hK hP 0 rfl rfl 1 (by decide) (hts (.fieldLink RX9 7 "ScoreboardCoreModel" "memory" "[J") mm_X9_jump_f7) (fun _ h9 => h9) rfl dX9_jump_261 ?_
      refine lv_aload_n hx hb dX9_jump_264 rfl (lv_at hl 1 rfl) ?_
      refine va_get (D := (dC, dI)) (ci := 6) (v := .int xn) (C := RX9) (T := TX9) (N := 24) hx hb hts mi_X9_jump_X9 hown hK hP 0 rfl rfl 20 (by decide) (hts (.fieldLink RX9 93 "ScoreboardCoreModel" "number" "I") mm_X9_jump_f93) (fun _ h9 => h9) rfl dX9_jump_265 ?_
      refine lv_ldc2 (v := (72057594037927936 : Int64)) hx hb hown (hts _ mm_X9_jump_k187) dX9_jump_268 ?_
      refine lv_aload_n hx hb dX9_jump_271 rfl (lv_at hl 1 rfl) ?_
      refine va_get (D := (dC, dI)) (ci := 6) (v := .int xw') (C := RX9) (T := TX9) (N := 24) hx hb hts mi_X9_jump_X9 hown hK hP 0 rfl rfl 4 (by decide) (hts (.fieldLink RX9 50 "ScoreboardCoreModel" "word" "I") mm_X9_jump_f50) (fun _ h9 => h9) rfl dX9_jump_272 ?_
      refine lv_iconst (v := (1 : Int32)) hx hb dX9_jump_275 (by decide) ?_
      refine lv_iadd hx hb dX9_jump_276 ?_
      refine lv_i2l hx hb dX9_jump_277 rfl ?_
      refine lv_bipush (v := (30 : Int32)) hx hb dX9_jump_278 (by decide) ?_
      refine lv_lshl hx hb dX9_jump_280 rfl ?_
      refine lv_lor hx hb dX9_jump_281 ?_
      refine va_last (D := (dC, dI)) hx hb hK hP hD hS 1 1 rfl rfl (by first | exact rngL (n := 512) rfl hnum (by assumption) | exact rng (n := 512) rfl hnum (by assumption)) dX9_jump_282 (fun H locs hP hD hS => ?_)
      have hP : va_P (dC, dI) vwCl [(hX, .inr (6, [.int xt, .ref x1, .ref x2, .ref x3, .int xw', .int xp', .int xs, .long xc, .ref x4, .ref x5, .ref x6, .ref x7, .ref x8, .long xM, .long xE', .long xL', .int xo, .int xi, .int xj, .int xk, .int xn, .int xz, .int xa', .int xg])), (x1, .inl (cJ, 512, .inr (.inl (vp_updL xmw' xn.toNatClampNeg ((72057594037927936 : Int64) ||| ((xw' + (1 : Int32)).toInt64 <<< ((30 : Int32).toInt64 &&& 63))))))), (x2, .inl (cJ, 512, .inr (.inl xmp'))), (x3, .inl (cJ, 24, .inr (.inl xr))), (x4, .inl (cI, 8, .inl xd')), (x5, .inl (cJ, 5, .inr (.inl xwt'))), (x6, .inl (cJ, 24, .inr (.inl xf))), (x7, .inl (cJ, 24, .inr (.inl xrd))), (x8, .inl (cJ, 6, .inr (.inl xu)))] H := hP
      have hD : va_D (va_A w0 s.heap.size) [(hX, .inr (6, [.int xt, .ref x1, .ref x2, .ref x3, .int xw', .int xp', .int xs, .long xc, .ref x4, .ref x5, .ref x6, .ref x7, .ref x8, .long xM, .long xE', .long xL', .int xo, .int xi, .int xj, .int xk, .int xn, .int xz, .int xa', .int xg])), (x1, .inl (cJ, 512, .inr (.inl (vp_updL xmw' xn.toNatClampNeg ((72057594037927936 : Int64) ||| ((xw' + (1 : Int32)).toInt64 <<< ((30 : Int32).toInt64 &&& 63))))))), (x2, .inl (cJ, 512, .inr (.inl xmp'))), (x3, .inl (cJ, 24, .inr (.inl xr))), (x4, .inl (cI, 8, .inl xd')), (x5, .inl (cJ, 5, .inr (.inl xwt'))), (x6, .inl (cJ, 24, .inr (.inl xf))), (x7, .inl (cJ, 24, .inr (.inl xrd))), (x8, .inl (cJ, 6, .inr (.inl xu)))] := hD
      refine lv_aload_n hx hb dX9_jump_283 rfl (lv_at hl 1 rfl) ?_
      refine va_get (D := (dC, dI)) (ci := 6) (v := .ref x2) (C := RX9) (T := TX9) (N := 24) hx hb hts mi_X9_jump_X9 hown hK hP 0 rfl rfl 2 (by decide) (hts (.fieldLink RX9 13 "ScoreboardCoreModel" "program" "[J") mm_X9_jump_f13) (fun _ h9 => h9) rfl dX9_jump_284 ?_
      refine lv_aload_n hx hb dX9_jump_287 rfl (lv_at hl 1 rfl) ?_
      refine va_get (D := (dC, dI)) (ci := 6) (v := .int xn) (C := RX9) (T := TX9) (N := 24) hx hb hts mi_X9_jump_X9 hown hK hP 0 rfl rfl 20 (by decide) (hts (.fieldLink RX9 93 "ScoreboardCoreModel" "number" "I") mm_X9_jump_f93) (fun _ h9 => h9) rfl dX9_jump_288 ?_
      refine lv_aload_n hx hb dX9_jump_291 rfl (lv_at hl 1 rfl) ?_
      refine va_get (D := (dC, dI)) (ci := 6) (v := .ref x1) (C := RX9) (T := TX9) (N := 24) hx hb hts mi_X9_jump_X9 hown hK hP 0 rfl rfl 1 (by decide) (hts (.fieldLink RX9 7 "ScoreboardCoreModel" "memory" "[J") mm_X9_jump_f7) (fun _ h9 => h9) rfl dX9_jump_292 ?_
      refine lv_aload_n hx hb dX9_jump_295 rfl (lv_at hl 1 rfl) ?_
      refine va_get (D := (dC, dI)) (ci := 6) (v := .int xn) (C := RX9) (T := TX9) (N := 24) hx hb hts mi_X9_jump_X9 hown hK hP 0 rfl rfl 20 (by decide) (hts (.fieldLink RX9 93 "ScoreboardCoreModel" "number" "I") mm_X9_jump_f93) (fun _ h9 => h9) rfl dX9_jump_296 ?_
      refine va_lald (D := (dC, dI)) hx hb hK hP 1 1 rfl rfl (by first | exact rngL (n := 512) rfl hnum (by assumption) | exact rng (n := 512) rfl hnum (by assumption)) dX9_jump_299 ?_
      refine va_last (D := (dC, dI)) hx hb hK hP hD hS 2 1 rfl rfl (by first | exact rngL (n := 512) rfl hnum (by assumption) | exact rng (n := 512) rfl hnum (by assumption)) dX9_jump_300 (fun H locs hP hD hS => ?_)
      have hP : va_P (dC, dI) vwCl [(hX, .inr (6, [.int xt, .ref x1, .ref x2, .ref x3, .int xw', .int xp', .int xs, .long xc, .ref x4, .ref x5, .ref x6, .ref x7, .ref x8, .long xM, .long xE', .long xL', .int xo, .int xi, .int xj, .int xk, .int xn, .int xz, .int xa', .int xg])), (x1, .inl (cJ, 512, .inr (.inl (vp_updL xmw' xn.toNatClampNeg ((72057594037927936 : Int64) ||| ((xw' + (1 : Int32)).toInt64 <<< ((30 : Int32).toInt64 &&& 63))))))), (x2, .inl (cJ, 512, .inr (.inl (vp_updL xmp' xn.toNatClampNeg ((vp_updL xmw' xn.toNatClampNeg ((72057594037927936 : Int64) ||| ((xw' + (1 : Int32)).toInt64 <<< ((30 : Int32).toInt64 &&& 63)))) xn.toNatClampNeg))))), (x3, .inl (cJ, 24, .inr (.inl xr))), (x4, .inl (cI, 8, .inl xd')), (x5, .inl (cJ, 5, .inr (.inl xwt'))), (x6, .inl (cJ, 24, .inr (.inl xf))), (x7, .inl (cJ, 24, .inr (.inl xrd))), (x8, .inl (cJ, 6, .inr (.inl xu)))] H := hP
      have hD : va_D (va_A w0 s.heap.size) [(hX, .inr (6, [.int xt, .ref x1, .ref x2, .ref x3, .int xw', .int xp', .int xs, .long xc, .ref x4, .ref x5, .ref x6, .ref x7, .ref x8, .long xM, .long xE', .long xL', .int xo, .int xi, .int xj, .int xk, .int xn, .int xz, .int xa', .int xg])), (x1, .inl (cJ, 512, .inr (.inl (vp_updL xmw' xn.toNatClampNeg ((72057594037927936 : Int64) ||| ((xw' + (1 : Int32)).toInt64 <<< ((30 : Int32).toInt64 &&& 63))))))), (x2, .inl (cJ, 512, .inr (.inl (vp_updL xmp' xn.toNatClampNeg ((vp_updL xmw' xn.toNatClampNeg ((72057594037927936 : Int64) ||| ((xw' + (1 : Int32)).toInt64 <<< ((30 : Int32).toInt64 &&& 63)))) xn.toNatClampNeg))))), (x3, .inl (cJ, 24, .inr (.inl xr))), (x4, .inl (cI, 8, .inl xd')), (x5, .inl (cJ, 5, .inr (.inl xwt'))), (x6, .inl (cJ, 24, .inr (.inl xf))), (x7, .inl (cJ, 24, .inr (.inl xrd))), (x8, .inl (cJ, 6, .inr (.inl xu)))] := hD
      have e9 : (F_X9_jump_240 xo xn t0 xw' xp' xE' xL' xa' xmw' xmp' xd' xwt') = (F_X9_jump_301 xn xw' xp' xE' xL' xa' (vp_updL xmw' xn.toNatClampNeg ((72057594037927936 : Int64) ||| ((xw' + (1 : Int32)).toInt64 <<< ((30 : Int32).toInt64 &&& 63)))) (vp_updL xmp' xn.toNatClampNeg ((vp_updL xmw' xn.toNatClampNeg ((72057594037927936 : Int64) ||| ((xw' + (1 : Int32)).toInt64 <<< ((30 : Int32).toInt64 &&& 63)))) xn.toNatClampNeg)) xd' xwt') := by rw [F_X9_jump_240, if_pos c1, if_neg c2]
      rw [e9] at hV
      exact j_X9_jump_301 dC dI cI cJ hX x1 x2 x3 x4 x5 x6 x7 x8 xt xw xp xs xc xM xE xL xo xi xj xk xn xz xa xg xmw xmp xr xd xwt xf xrd xu C0 hK hZ hi hj hk hnum xw' xp' xE' xL' xa' (vp_updL xmw' xn.toNatClampNeg ((72057594037927936 : Int64) ||| ((xw' + (1 : Int32)).toInt64 <<< ((30 : Int32).toInt64 &&& 63)))) (vp_updL xmp' xn.toNatClampNeg ((vp_updL xmw' xn.toNatClampNeg ((72057594037927936 : Int64) ||| ((xw' + (1 : Int32)).toInt64 <<< ((30 : Int32).toInt64 &&& 63)))) xn.toNatClampNeg)) xd' xwt' hV ls (lv_sub hl [1] rfl) hP hD hS
set_option maxHeartbeats 4000000 in
set_option maxRecDepth 100000 in
theorem j_X9_jump_177 {p : Program} {l : Launch} {e : Env} {s : State} {m : MethodId} {below : List Frame} {meth : Method} {c : Code} {args : Array Value} (dC : Nat → ClassId) (dI : Nat → Nat → Nat) (cI cJ : ClassId) (hX x1 x2 x3 x4 x5 x6 x7 x8 : Nat) (xt : Int32) (xw : Int32) (xp : Int32) (xs : Int32) (xc : Int64) (xM : Int64) (xE : Int64) (xL : Int64) (xo : Int32) (xi : Int32) (xj : Int32) (xk : Int32) (xn : Int32) (xz : Int32) (xa : Int32) (xg : Int32) (xmw : Nat → Int64) (xmp : Nat → Int64) (xr : Nat → Int64) (xd : Nat → Int32) (xwt : Nat → Int64) (xf : Nat → Int64) (xrd : Nat → Int64) (xu : Nat → Int64) {w0 : va_W} (C0 : Cx p s m meth c cX9_jump 5 none wsX9_jump RX9 args) (hK : va_K (dC, dI) vwCl [(cI, .int), (cJ, .long)] s) (hZ : Zs false (va_A w0 s.heap.size) s s.heap) (hi : R8 xi) (hj : R8 xj) (hk : R8 xk) (hnum : ¬ xn < 0) (v3 : Int32) (t0 : Int64) (t1 : Int64) (xw' : Int32) (xp' : Int32) (xE' : Int64) (xL' : Int64) (xa' : Int32) (xmw' : Nat → Int64) (xmp' : Nat → Int64) (xd' : Nat → Int32) (xwt' : Nat → Int64) {V : Int32 × Int32 × Int64 × Int64 × Int32 × (Nat → Int64) × (Nat → Int64) × (Nat → Int32) × (Nat → Int64)} (hV : (F_X9_jump_177 xo xi xn xz xr v3 t0 t1 xw' xp' xE' xL' xa' xmw' xmp' xd' xwt') = V) (ls : Array Slot) (hl : lv_has ls 5 [(0, .ref hX), (3, .int v3)]) {H : Heap} {locs : List Loc} (hP : va_P (dC, dI) vwCl [(hX, .inr (6, [.int xt, .ref x1, .ref x2, .ref x3, .int xw', .int xp', .int xs, .long xc, .ref x4, .ref x5, .ref x6, .ref x7, .ref x8, .long xM, .long xE', .long xL', .int xo, .int xi, .int xj, .int xk, .int xn, .int xz, .int xa', .int xg])), (x1, .inl (cJ, 512, .inr (.inl xmw'))), (x2, .inl (cJ, 512, .inr (.inl xmp'))), (x3, .inl (cJ, 24, .inr (.inl xr))), (x4, .inl (cI, 8, .inl xd')), (x5, .inl (cJ, 5, .inr (.inl xwt'))), (x6, .inl (cJ, 24, .inr (.inl xf))), (x7, .inl (cJ, 24, .inr (.inl xrd))), (x8, .inl (cJ, 6, .inr (.inl xu)))] H) (hD : va_D (va_A w0 s.heap.size) [(hX, .inr (6, [.int xt, .ref x1, .ref x2, .ref x3, .int xw', .int xp', .int xs, .long xc, .ref x4, .ref x5, .ref x6, .ref x7, .ref x8, .long xM, .long xE', .long xL', .int xo, .int xi, .int xj, .int xk, .int xn, .int xz, .int xa', .int xg])), (x1, .inl (cJ, 512, .inr (.inl xmw'))), (x2, .inl (cJ, 512, .inr (.inl xmp'))), (x3, .inl (cJ, 24, .inr (.inl xr))), (x4, .inl (cI, 8, .inl xd')), (x5, .inl (cJ, 5, .inr (.inl xwt'))), (x6, .inl (cJ, 24, .inr (.inl xf))), (x7, .inl (cJ, 24, .inr (.inl xrd))), (x8, .inl (cJ, 6, .inr (.inl xu)))]) (hS : va_S (va_A w0 s.heap.size) s.heap H locs) : W p l e rm_X9_jump s m args below meth c H locs 0 0 (MQ below (QV (dC, dI) [(cI, .int), (cJ, .long)] w0 [(hX, .inr (6, [.int xt, .ref x1, .ref x2, .ref x3, .int V.1, .int V.2.1, .int xs, .long xc, .ref x4, .ref x5, .ref x6, .ref x7, .ref x8, .long xM, .long V.2.2.1, .long V.2.2.2.1, .int xo, .int xi, .int xj, .int xk, .int xn, .int xz, .int V.2.2.2.2.1, .int xg])), (x1, .inl (cJ, 512, .inr (.inl V.2.2.2.2.2.1))), (x2, .inl (cJ, 512, .inr (.inl V.2.2.2.2.2.2.1))), (x3, .inl (cJ, 24, .inr (.inl xr))), (x4, .inl (cI, 8, .inl V.2.2.2.2.2.2.2.1)), (x5, .inl (cJ, 5, .inr (.inl V.2.2.2.2.2.2.2.2))), (x6, .inl (cJ, 24, .inr (.inl xf))), (x7, .inl (cJ, 24, .inr (.inl xrd))), (x8, .inl (cJ, 6, .inr (.inl xu)))] s.heap.size) args s 0 0 (va_A w0 s.heap.size)) (F0 m 177 ls [.long t0, .long t1, .ref hX]) := by
  obtain ⟨hx, hb, hr, hlk, hml, hown, hts⟩ := id C0
  have hA : ∀ q : Nat, s.heap.size ≤ q → va_A w0 s.heap.size q := fun q h => Or.inr h
  refine lv_ladd hx hb dX9_jump_177 ?_
  refine va_put (D := (dC, dI)) (ci := 6) (v := .long (t1 + t0)) (ty := .long) (C := RX9) (T := TX9) (N := 24) hx hb hts mi_X9_jump_X9 tyX9 tyX9_ok nmX9 hown hK hP hD hS 0 rfl rfl 14 (by decide) (hts (.fieldLink RX9 152 "ScoreboardCoreModel" "earliest" "J") mm_X9_jump_f152) (fun _ h9 => h9) rfl (by decide +kernel) rfl rfl (Nat.le_of_ble_eq_true rfl) dX9_jump_178 (fun H locs hP hD hS => ?_)
  have hP : va_P (dC, dI) vwCl [(hX, .inr (6, [.int xt, .ref x1, .ref x2, .ref x3, .int xw', .int xp', .int xs, .long xc, .ref x4, .ref x5, .ref x6, .ref x7, .ref x8, .long xM, .long (t1 + t0), .long xL', .int xo, .int xi, .int xj, .int xk, .int xn, .int xz, .int xa', .int xg])), (x1, .inl (cJ, 512, .inr (.inl xmw'))), (x2, .inl (cJ, 512, .inr (.inl xmp'))), (x3, .inl (cJ, 24, .inr (.inl xr))), (x4, .inl (cI, 8, .inl xd')), (x5, .inl (cJ, 5, .inr (.inl xwt'))), (x6, .inl (cJ, 24, .inr (.inl xf))), (x7, .inl (cJ, 24, .inr (.inl xrd))), (x8, .inl (cJ, 6, .inr (.inl xu)))] H := hP
  have hD : va_D (va_A w0 s.heap.size) [(hX, .inr (6, [.int xt, .ref x1, .ref x2, .ref x3, .int xw', .int xp', .int xs, .long xc, .ref x4, .ref x5, .ref x6, .ref x7, .ref x8, .long xM, .long (t1 + t0), .long xL', .int xo, .int xi, .int xj, .int xk, .int xn, .int xz, .int xa', .int xg])), (x1, .inl (cJ, 512, .inr (.inl xmw'))), (x2, .inl (cJ, 512, .inr (.inl xmp'))), (x3, .inl (cJ, 24, .inr (.inl xr))), (x4, .inl (cI, 8, .inl xd')), (x5, .inl (cJ, 5, .inr (.inl xwt'))), (x6, .inl (cJ, 24, .inr (.inl xf))), (x7, .inl (cJ, 24, .inr (.inl xrd))), (x8, .inl (cJ, 6, .inr (.inl xu)))] := hD
  refine lv_iload_n hx hb dX9_jump_181 rfl (lv_at hl 1 rfl) ?_
  refine lv_if_ne (x := v3) (tgt := 190) hx hb dX9_jump_182 (by decide) (fun c1 => ?_) (fun c1 => ?_)
  · refine lv_aload_n hx hb dX9_jump_190 rfl (lv_at hl 0 rfl) ?_
    refine va_get (D := (dC, dI)) (ci := 6) (v := .ref x4) (C := RX9) (T := TX9) (N := 24) hx hb hts mi_X9_jump_X9 hown hK hP 0 rfl rfl 8 (by decide) (hts (.fieldLink RX9 23 "ScoreboardCoreModel" "done" "[I") mm_X9_jump_f23) (fun _ h9 => h9) rfl dX9_jump_191 ?_
    refine lv_bipush (v := (7 : Int32)) hx hb dX9_jump_194 (by decide) ?_
    refine lv_dup2_11 hx hb dX9_jump_196 rfl rfl ?_
    refine va_iald (D := (dC, dI)) hx hb hK hP 4 0 rfl rfl (vpd (by decide)) dX9_jump_197 ?_
    refine lv_iconst (v := (1 : Int32)) hx hb dX9_jump_198 (by decide) ?_
    refine lv_iadd hx hb dX9_jump_199 ?_
    refine va_iast (D := (dC, dI)) hx hb hK hP hD hS 4 0 rfl rfl (vpd (by decide)) dX9_jump_200 (fun H locs hP hD hS => ?_)
    have hP : va_P (dC, dI) vwCl [(hX, .inr (6, [.int xt, .ref x1, .ref x2, .ref x3, .int xw', .int xp', .int xs, .long xc, .ref x4, .ref x5, .ref x6, .ref x7, .ref x8, .long xM, .long (t1 + t0), .long xL', .int xo, .int xi, .int xj, .int xk, .int xn, .int xz, .int xa', .int xg])), (x1, .inl (cJ, 512, .inr (.inl xmw'))), (x2, .inl (cJ, 512, .inr (.inl xmp'))), (x3, .inl (cJ, 24, .inr (.inl xr))), (x4, .inl (cI, 8, .inl (upd xd' (7 : Int32).toNatClampNeg ((xd' (7 : Int32).toNatClampNeg) + (1 : Int32))))), (x5, .inl (cJ, 5, .inr (.inl xwt'))), (x6, .inl (cJ, 24, .inr (.inl xf))), (x7, .inl (cJ, 24, .inr (.inl xrd))), (x8, .inl (cJ, 6, .inr (.inl xu)))] H := hP
    have hD : va_D (va_A w0 s.heap.size) [(hX, .inr (6, [.int xt, .ref x1, .ref x2, .ref x3, .int xw', .int xp', .int xs, .long xc, .ref x4, .ref x5, .ref x6, .ref x7, .ref x8, .long xM, .long (t1 + t0), .long xL', .int xo, .int xi, .int xj, .int xk, .int xn, .int xz, .int xa', .int xg])), (x1, .inl (cJ, 512, .inr (.inl xmw'))), (x2, .inl (cJ, 512, .inr (.inl xmp'))), (x3, .inl (cJ, 24, .inr (.inl xr))), (x4, .inl (cI, 8, .inl (upd xd' (7 : Int32).toNatClampNeg ((xd' (7 : Int32).toNatClampNeg) + (1 : Int32))))), (x5, .inl (cJ, 5, .inr (.inl xwt'))), (x6, .inl (cJ, 24, .inr (.inl xf))), (x7, .inl (cJ, 24, .inr (.inl xrd))), (x8, .inl (cJ, 6, .inr (.inl xu)))] := hD
    refine lv_aload_n hx hb dX9_jump_201 rfl (lv_at hl 0 rfl) ?_
    refine va_get (D := (dC, dI)) (ci := 6) (v := .int xo) (C := RX9) (T := TX9) (N := 24) hx hb hts mi_X9_jump_X9 hown hK hP 0 rfl rfl 16 (by decide) (hts (.fieldLink RX9 68 "ScoreboardCoreModel" "op" "I") mm_X9_jump_f68) (fun _ h9 => h9) rfl dX9_jump_202 ?_
    refine lv_iconst (v := (2 : Int32)) hx hb dX9_jump_205 (by decide) ?_
    refine lv_icmp_ne (x := xo) (y := (2 : Int32)) (tgt := 236) hx hb dX9_jump_206 (by decide) (fun c2 => ?_) (fun c2 => ?_)
    · refine lv_aload_n hx hb dX9_jump_236 rfl (lv_at hl 0 rfl) ?_
      refine va_get (D := (dC, dI)) (ci := 6) (v := .int xn) (C := RX9) (T := TX9) (N := 24) hx hb hts mi_X9_jump_X9 hown hK hP 0 rfl rfl 20 (by decide) (hts (.fieldLink RX9 93 "ScoreboardCoreModel" "number" "I") mm_X9_jump_f93) (fun _ h9 => h9) rfl dX9_jump_237 ?_
      have e9 : (F_X9_jump_177 xo xi xn xz xr v3 t0 t1 xw' xp' xE' xL' xa' xmw' xmp' xd' xwt') = (F_X9_jump_240 xo xn xn xw' xp' (t1 + t0) xL' xa' xmw' xmp' (upd xd' (7 : Int32).toNatClampNeg ((xd' (7 : Int32).toNatClampNeg) + (1 : Int32))) xwt') := by rw [F_X9_jump_177, if_neg c1, if_neg c2]
      rw [e9] at hV
      exact j_X9_jump_240 dC dI cI cJ hX x1 x2 x3 x4 x5 x6 x7 x8 xt xw xp xs xc xM xE xL xo xi xj xk xn xz xa xg xmw xmp xr xd xwt xf xrd xu C0 hK hZ hi hj hk hnum xn xw' xp' (t1 + t0) xL' xa' xmw' xmp' (upd xd' (7 : Int32).toNatClampNeg ((xd' (7 : Int32).toNatClampNeg) + (1 : Int32))) xwt' hV ls (lv_sub hl [0] rfl) hP hD hS
    · refine lv_aload_n hx hb dX9_jump_209 rfl (lv_at hl 0 rfl) ?_
      refine va_get (D := (dC, dI)) (ci := 6) (v := .ref x3) (C := RX9) (T := TX9) (N := 24) hx hb hts mi_X9_jump_X9 hown hK hP 0 rfl rfl 3 (by decide) (hts (.fieldLink RX9 16 "ScoreboardCoreModel" "\x72" "[J") mm_X9_jump_f16) (fun _ h9 => h9) rfl dX9_jump_210 ?_
      refine lv_bipush (v := (16 : Int32)) hx hb dX9_jump_213 (by decide) ?_
      refine lv_aload_n hx hb dX9_jump_215 rfl (lv_at hl 0 rfl) ?_
      refine va_get (D := (dC, dI)) (ci := 6) (v := .int xi) (C := RX9) (T := TX9) (N := 24) hx hb hts mi_X9_jump_X9 hown hK hP 0 rfl rfl 17 (by decide) (hts (.fieldLink RX9 71 "ScoreboardCoreModel" "i" "I") mm_X9_jump_f71) (fun _ h9 => h9) rfl dX9_jump_216 ?_
      refine lv_iadd hx hb dX9_jump_219 ?_
      refine va_lald (D := (dC, dI)) hx hb hK hP 3 1 rfl rfl hi.b dX9_jump_220 ?_
      refine lv_aload_n hx hb dX9_jump_221 rfl (lv_at hl 0 rfl) ?_
      refine va_get (D := (dC, dI)) (ci := 6) (v := .int xn) (C := RX9) (T := TX9) (N := 24) hx hb hts mi_X9_jump_X9 hown hK hP 0 rfl rfl 20 (by decide) (hts (.fieldLink RX9 93 "ScoreboardCoreModel" "number" "I") mm_X9_jump_f93) (fun _ h9 => h9) rfl dX9_jump_222 ?_
      refine lv_i2l hx hb dX9_jump_225 rfl ?_
      refine lv_ldc2 (v := (262143 : Int64)) hx hb hown (hts _ mm_X9_jump_k44) dX9_jump_226 ?_
      refine roSl (As := [.long (xr ((16 : Int32) + xi).toNatClampNeg), .long xn.toInt64, .long (262143 : Int64)]) (rest := []) (bytes := cX9_sum) (maxL := 8) (rty := (some .long)) (n := 3) C0 (c_X9_sum l dC dI cI cJ (xr ((16 : Int32) + xi).toNatClampNeg) xn.toInt64 (262143 : Int64)) ⟨rfl, rfl, rfl, by decide +kernel, by decide, by decide⟩ ggX9_jump_X9_sum mm_X9_jump_iX9 mm_X9_jump_l56 mm_X9_jump_tX9_sum (hP.sub (ws' := []) [] rfl) hK hl.1 rfl rfl (Nat.le_of_ble_eq_true rfl) dX9_jump_229 ⟨Nat.zero_le _, Nat.zero_le _⟩ ?_
      refine lv_l2i hx hb dX9_jump_232 rfl ?_
      refine lv_goto (tgt := 240) hx hb dX9_jump_233 (by decide) ?_
      have e9 : (F_X9_jump_177 xo xi xn xz xr v3 t0 t1 xw' xp' xE' xL' xa' xmw' xmp' xd' xwt') = (F_X9_jump_240 xo xn ((F_X9_sum (xr ((16 : Int32) + xi).toNatClampNeg) xn.toInt64 (262143 : Int64)).toInt32) xw' xp' (t1 + t0) xL' xa' xmw' xmp' (upd xd' (7 : Int32).toNatClampNeg ((xd' (7 : Int32).toNatClampNeg) + (1 : Int32))) xwt') := by rw [F_X9_jump_177, if_neg c1, if_pos c2]
      rw [e9] at hV
      exact j_X9_jump_240 dC dI cI cJ hX x1 x2 x3 x4 x5 x6 x7 x8 xt xw xp xs xc xM xE xL xo xi xj xk xn xz xa xg xmw xmp xr xd xwt xf xrd xu C0 hK hZ hi hj hk hnum ((F_X9_sum (xr ((16 : Int32) + xi).toNatClampNeg) xn.toInt64 (262143 : Int64)).toInt32) xw' xp' (t1 + t0) xL' xa' xmw' xmp' (upd xd' (7 : Int32).toNatClampNeg ((xd' (7 : Int32).toNatClampNeg) + (1 : Int32))) xwt' hV ls (lv_sub hl [0] rfl) hP hD hS
  · refine lv_aload_n hx hb dX9_jump_185 rfl (lv_at hl 0 rfl) ?_
    refine wrVv (As := []) (rest := []) (bytes := cX9_goOn) (maxL := 1) (rty := none) (n := 0) (ci := 6) C0 (c_X9_goOn l dC dI cI cJ hX x1 x2 x3 x4 x5 x6 x7 x8 xt xw' xp' xs xc xM (t1 + t0) xL' xo xi xj xk xn xz xa' xg xmw' xmp' xr xd' xwt' xf xrd xu) ⟨rfl, rfl, rfl, by decide +kernel, by decide, by decide⟩ ggX9_jump_X9_goOn mm_X9_jump_iX9 mm_X9_jump_l184 mm_X9_jump_nX9_goOn mm_X9_jump_sX9_goOn rfl rfl hP hD hK hS hA (Zs.no _ _ _) [0, 1, 2, 3, 4, 5, 6, 7, 8] [] [0, 1, 2, 3, 4, 5, 6, 7, 8] [] [(hX, .inr (6, [.int xt, .ref x1, .ref x2, .ref x3, .int ((F_X9_goOn xw' xp' xz).1), .int ((F_X9_goOn xw' xp' xz).2), .int xs, .long xc, .ref x4, .ref x5, .ref x6, .ref x7, .ref x8, .long xM, .long (t1 + t0), .long xL', .int xo, .int xi, .int xj, .int xk, .int xn, .int xz, .int xa', .int xg])), (x1, .inl (cJ, 512, .inr (.inl xmw'))), (x2, .inl (cJ, 512, .inr (.inl xmp'))), (x3, .inl (cJ, 24, .inr (.inl xr))), (x4, .inl (cI, 8, .inl xd')), (x5, .inl (cJ, 5, .inr (.inl xwt'))), (x6, .inl (cJ, 24, .inr (.inl xf))), (x7, .inl (cJ, 24, .inr (.inl xrd))), (x8, .inl (cJ, 6, .inr (.inl xu)))] rfl (by decide) (hP.sub (ws' := [(hX, .inr (6, [.int xt, .ref x1, .ref x2, .ref x3, .int xw', .int xp', .int xs, .long xc, .ref x4, .ref x5, .ref x6, .ref x7, .ref x8, .long xM, .long (t1 + t0), .long xL', .int xo, .int xi, .int xj, .int xk, .int xn, .int xz, .int xa', .int xg])), (x1, .inl (cJ, 512, .inr (.inl xmw'))), (x2, .inl (cJ, 512, .inr (.inl xmp'))), (x3, .inl (cJ, 24, .inr (.inl xr))), (x4, .inl (cI, 8, .inl xd')), (x5, .inl (cJ, 5, .inr (.inl xwt'))), (x6, .inl (cJ, 24, .inr (.inl xf))), (x7, .inl (cJ, 24, .inr (.inl xrd))), (x8, .inl (cJ, 6, .inr (.inl xu)))]) [0, 1, 2, 3, 4, 5, 6, 7, 8] rfl) rfl (by decide) (by decide) (by decide) rfl hl.1 rfl rfl (Nat.le_of_ble_eq_true rfl) dX9_jump_186 ⟨Nat.zero_le _, Nat.zero_le _⟩ (fun H locs hP hD hS => ?_)
    have e9 : (F_X9_jump_177 xo xi xn xz xr v3 t0 t1 xw' xp' xE' xL' xa' xmw' xmp' xd' xwt') = (((F_X9_goOn xw' xp' xz).1), ((F_X9_goOn xw' xp' xz).2), (t1 + t0), xL', xa', xmw', xmp', xd', xwt') := by rw [F_X9_jump_177, if_pos c1]
    rw [e9] at hV
    subst hV
    exact wrRetV C0 hK hP hD hS dX9_jump_189
set_option maxHeartbeats 4000000 in
set_option maxRecDepth 100000 in
theorem j_X9_jump_114 {p : Program} {l : Launch} {e : Env} {s : State} {m : MethodId} {below : List Frame} {meth : Method} {c : Code} {args : Array Value} (dC : Nat → ClassId) (dI : Nat → Nat → Nat) (cI cJ : ClassId) (hX x1 x2 x3 x4 x5 x6 x7 x8 : Nat) (xt : Int32) (xw : Int32) (xp : Int32) (xs : Int32) (xc : Int64) (xM : Int64) (xE : Int64) (xL : Int64) (xo : Int32) (xi : Int32) (xj : Int32) (xk : Int32) (xn : Int32) (xz : Int32) (xa : Int32) (xg : Int32) (xmw : Nat → Int64) (xmp : Nat → Int64) (xr : Nat → Int64) (xd : Nat → Int32) (xwt : Nat → Int64) (xf : Nat → Int64) (xrd : Nat → Int64) (xu : Nat → Int64) {w0 : va_W} (C0 : Cx p s m meth c cX9_jump 5 none wsX9_jump RX9 args) (hK : va_K (dC, dI) vwCl [(cI, .int), (cJ, .long)] s) (hZ : Zs false (va_A w0 s.heap.size) s s.heap) (hi : R8 xi) (hj : R8 xj) (hk : R8 xk) (hnum : ¬ xn < 0) (t0 : Int64) (xw' : Int32) (xp' : Int32) (xE' : Int64) (xL' : Int64) (xa' : Int32) (xmw' : Nat → Int64) (xmp' : Nat → Int64) (xd' : Nat → Int32) (xwt' : Nat → Int64) {V : Int32 × Int32 × Int64 × Int64 × Int32 × (Nat → Int64) × (Nat → Int64) × (Nat → Int32) × (Nat → Int64)} (hV : (F_X9_jump_114 xo xi xj xn xz xr t0 xw' xp' xE' xL' xa' xmw' xmp' xd' xwt') = V) (ls : Array Slot) (hl : lv_has ls 5 [(0, .ref hX)]) {H : Heap} {locs : List Loc} (hP : va_P (dC, dI) vwCl [(hX, .inr (6, [.int xt, .ref x1, .ref x2, .ref x3, .int xw', .int xp', .int xs, .long xc, .ref x4, .ref x5, .ref x6, .ref x7, .ref x8, .long xM, .long xE', .long xL', .int xo, .int xi, .int xj, .int xk, .int xn, .int xz, .int xa', .int xg])), (x1, .inl (cJ, 512, .inr (.inl xmw'))), (x2, .inl (cJ, 512, .inr (.inl xmp'))), (x3, .inl (cJ, 24, .inr (.inl xr))), (x4, .inl (cI, 8, .inl xd')), (x5, .inl (cJ, 5, .inr (.inl xwt'))), (x6, .inl (cJ, 24, .inr (.inl xf))), (x7, .inl (cJ, 24, .inr (.inl xrd))), (x8, .inl (cJ, 6, .inr (.inl xu)))] H) (hD : va_D (va_A w0 s.heap.size) [(hX, .inr (6, [.int xt, .ref x1, .ref x2, .ref x3, .int xw', .int xp', .int xs, .long xc, .ref x4, .ref x5, .ref x6, .ref x7, .ref x8, .long xM, .long xE', .long xL', .int xo, .int xi, .int xj, .int xk, .int xn, .int xz, .int xa', .int xg])), (x1, .inl (cJ, 512, .inr (.inl xmw'))), (x2, .inl (cJ, 512, .inr (.inl xmp'))), (x3, .inl (cJ, 24, .inr (.inl xr))), (x4, .inl (cI, 8, .inl xd')), (x5, .inl (cJ, 5, .inr (.inl xwt'))), (x6, .inl (cJ, 24, .inr (.inl xf))), (x7, .inl (cJ, 24, .inr (.inl xrd))), (x8, .inl (cJ, 6, .inr (.inl xu)))]) (hS : va_S (va_A w0 s.heap.size) s.heap H locs) : W p l e rm_X9_jump s m args below meth c H locs 0 0 (MQ below (QV (dC, dI) [(cI, .int), (cJ, .long)] w0 [(hX, .inr (6, [.int xt, .ref x1, .ref x2, .ref x3, .int V.1, .int V.2.1, .int xs, .long xc, .ref x4, .ref x5, .ref x6, .ref x7, .ref x8, .long xM, .long V.2.2.1, .long V.2.2.2.1, .int xo, .int xi, .int xj, .int xk, .int xn, .int xz, .int V.2.2.2.2.1, .int xg])), (x1, .inl (cJ, 512, .inr (.inl V.2.2.2.2.2.1))), (x2, .inl (cJ, 512, .inr (.inl V.2.2.2.2.2.2.1))), (x3, .inl (cJ, 24, .inr (.inl xr))), (x4, .inl (cI, 8, .inl V.2.2.2.2.2.2.2.1)), (x5, .inl (cJ, 5, .inr (.inl V.2.2.2.2.2.2.2.2))), (x6, .inl (cJ, 24, .inr (.inl xf))), (x7, .inl (cJ, 24, .inr (.inl xrd))), (x8, .inl (cJ, 6, .inr (.inl xu)))] s.heap.size) args s 0 0 (va_A w0 s.heap.size)) (F0 m 114 ls [.long t0]) := by
  obtain ⟨hx, hb, hr, hlk, hml, hown, hts⟩ := id C0
  have hA : ∀ q : Nat, s.heap.size ≤ q → va_A w0 s.heap.size q := fun q h => Or.inr h
  refine lv_lstore_n (lv' := [(1, .long t0), (0, .ref hX)]) hx hb dX9_jump_114 rfl hl (by decide) rfl (fun ls hl => ?_)
  refine lv_aload_n hx hb dX9_jump_115 rfl (lv_at hl 1 rfl) ?_
  refine va_get (D := (dC, dI)) (ci := 6) (v := .ref x5) (C := RX9) (T := TX9) (N := 24) hx hb hts mi_X9_jump_X9 hown hK hP 0 rfl rfl 9 (by decide) (hts (.fieldLink RX9 27 "ScoreboardCoreModel" "waited" "[J") mm_X9_jump_f27) (fun _ h9 => h9) rfl dX9_jump_116 ?_
  refine lv_iconst (v := (2 : Int32)) hx hb dX9_jump_119 (by decide) ?_
  refine lv_aload_n hx hb dX9_jump_120 rfl (lv_at hl 1 rfl) ?_
  refine va_get (D := (dC, dI)) (ci := 6) (v := .ref x5) (C := RX9) (T := TX9) (N := 24) hx hb hts mi_X9_jump_X9 hown hK hP 0 rfl rfl 9 (by decide) (hts (.fieldLink RX9 27 "ScoreboardCoreModel" "waited" "[J") mm_X9_jump_f27) (fun _ h9 => h9) rfl dX9_jump_121 ?_
  refine lv_iconst (v := (2 : Int32)) hx hb dX9_jump_124 (by decide) ?_
  refine va_lald (D := (dC, dI)) hx hb hK hP 5 1 rfl rfl (vpd (by decide)) dX9_jump_125 ?_
  refine lv_lload_n hx hb dX9_jump_126 rfl (lv_at hl 0 rfl) ?_
  refine lv_ladd hx hb dX9_jump_127 ?_
  refine lv_aload_n hx hb dX9_jump_128 rfl (lv_at hl 1 rfl) ?_
  refine va_get (D := (dC, dI)) (ci := 6) (v := .long xE') (C := RX9) (T := TX9) (N := 24) hx hb hts mi_X9_jump_X9 hown hK hP 0 rfl rfl 14 (by decide) (hts (.fieldLink RX9 152 "ScoreboardCoreModel" "earliest" "J") mm_X9_jump_f152) (fun _ h9 => h9) rfl dX9_jump_129 ?_
  refine lv_lsub hx hb dX9_jump_132 ?_
  refine va_last (D := (dC, dI)) hx hb hK hP hD hS 5 1 rfl rfl (vpd (by decide)) dX9_jump_133 (fun H locs hP hD hS => ?_)
  have hP : va_P (dC, dI) vwCl [(hX, .inr (6, [.int xt, .ref x1, .ref x2, .ref x3, .int xw', .int xp', .int xs, .long xc, .ref x4, .ref x5, .ref x6, .ref x7, .ref x8, .long xM, .long xE', .long xL', .int xo, .int xi, .int xj, .int xk, .int xn, .int xz, .int xa', .int xg])), (x1, .inl (cJ, 512, .inr (.inl xmw'))), (x2, .inl (cJ, 512, .inr (.inl xmp'))), (x3, .inl (cJ, 24, .inr (.inl xr))), (x4, .inl (cI, 8, .inl xd')), (x5, .inl (cJ, 5, .inr (.inl (vp_updL xwt' (2 : Int32).toNatClampNeg (((xwt' (2 : Int32).toNatClampNeg) + t0) - xE'))))), (x6, .inl (cJ, 24, .inr (.inl xf))), (x7, .inl (cJ, 24, .inr (.inl xrd))), (x8, .inl (cJ, 6, .inr (.inl xu)))] H := hP
  have hD : va_D (va_A w0 s.heap.size) [(hX, .inr (6, [.int xt, .ref x1, .ref x2, .ref x3, .int xw', .int xp', .int xs, .long xc, .ref x4, .ref x5, .ref x6, .ref x7, .ref x8, .long xM, .long xE', .long xL', .int xo, .int xi, .int xj, .int xk, .int xn, .int xz, .int xa', .int xg])), (x1, .inl (cJ, 512, .inr (.inl xmw'))), (x2, .inl (cJ, 512, .inr (.inl xmp'))), (x3, .inl (cJ, 24, .inr (.inl xr))), (x4, .inl (cI, 8, .inl xd')), (x5, .inl (cJ, 5, .inr (.inl (vp_updL xwt' (2 : Int32).toNatClampNeg (((xwt' (2 : Int32).toNatClampNeg) + t0) - xE'))))), (x6, .inl (cJ, 24, .inr (.inl xf))), (x7, .inl (cJ, 24, .inr (.inl xrd))), (x8, .inl (cJ, 6, .inr (.inl xu)))] := hD
  refine lv_aload_n hx hb dX9_jump_134 rfl (lv_at hl 1 rfl) ?_
  refine lv_aload_n hx hb dX9_jump_135 rfl (lv_at hl 1 rfl) ?_
  refine va_get (D := (dC, dI)) (ci := 6) (v := .long xL') (C := RX9) (T := TX9) (N := 24) hx hb hts mi_X9_jump_X9 hown hK hP 0 rfl rfl 15 (by decide) (hts (.fieldLink RX9 167 "ScoreboardCoreModel" "last" "J") mm_X9_jump_f167) (fun _ h9 => h9) rfl dX9_jump_136 ?_
  refine lv_lload_n hx hb dX9_jump_139 rfl (lv_at hl 0 rfl) ?_
  refine roSl (As := [.long xL', .long t0]) (rest := [.ref hX]) (bytes := cX9_later) (maxL := 4) (rty := (some .long)) (n := 2) C0 (c_X9_later l dC dI cI cJ xL' t0) ⟨rfl, rfl, rfl, by decide +kernel, by decide, by decide⟩ ggX9_jump_X9_later mm_X9_jump_iX9 mm_X9_jump_l144 mm_X9_jump_tX9_later (hP.sub (ws' := []) [] rfl) hK hl.1 rfl rfl (Nat.le_of_ble_eq_true rfl) dX9_jump_140 ⟨Nat.zero_le _, Nat.zero_le _⟩ ?_
  refine va_put (D := (dC, dI)) (ci := 6) (v := .long (F_X9_later xL' t0)) (ty := .long) (C := RX9) (T := TX9) (N := 24) hx hb hts mi_X9_jump_X9 tyX9 tyX9_ok nmX9 hown hK hP hD hS 0 rfl rfl 15 (by decide) (hts (.fieldLink RX9 167 "ScoreboardCoreModel" "last" "J") mm_X9_jump_f167) (fun _ h9 => h9) rfl (by decide +kernel) rfl rfl (Nat.le_of_ble_eq_true rfl) dX9_jump_143 (fun H locs hP hD hS => ?_)
  have hP : va_P (dC, dI) vwCl [(hX, .inr (6, [.int xt, .ref x1, .ref x2, .ref x3, .int xw', .int xp', .int xs, .long xc, .ref x4, .ref x5, .ref x6, .ref x7, .ref x8, .long xM, .long xE', .long (F_X9_later xL' t0), .int xo, .int xi, .int xj, .int xk, .int xn, .int xz, .int xa', .int xg])), (x1, .inl (cJ, 512, .inr (.inl xmw'))), (x2, .inl (cJ, 512, .inr (.inl xmp'))), (x3, .inl (cJ, 24, .inr (.inl xr))), (x4, .inl (cI, 8, .inl xd')), (x5, .inl (cJ, 5, .inr (.inl (vp_updL xwt' (2 : Int32).toNatClampNeg (((xwt' (2 : Int32).toNatClampNeg) + t0) - xE'))))), (x6, .inl (cJ, 24, .inr (.inl xf))), (x7, .inl (cJ, 24, .inr (.inl xrd))), (x8, .inl (cJ, 6, .inr (.inl xu)))] H := hP
  have hD : va_D (va_A w0 s.heap.size) [(hX, .inr (6, [.int xt, .ref x1, .ref x2, .ref x3, .int xw', .int xp', .int xs, .long xc, .ref x4, .ref x5, .ref x6, .ref x7, .ref x8, .long xM, .long xE', .long (F_X9_later xL' t0), .int xo, .int xi, .int xj, .int xk, .int xn, .int xz, .int xa', .int xg])), (x1, .inl (cJ, 512, .inr (.inl xmw'))), (x2, .inl (cJ, 512, .inr (.inl xmp'))), (x3, .inl (cJ, 24, .inr (.inl xr))), (x4, .inl (cI, 8, .inl xd')), (x5, .inl (cJ, 5, .inr (.inl (vp_updL xwt' (2 : Int32).toNatClampNeg (((xwt' (2 : Int32).toNatClampNeg) + t0) - xE'))))), (x6, .inl (cJ, 24, .inr (.inl xf))), (x7, .inl (cJ, 24, .inr (.inl xrd))), (x8, .inl (cJ, 6, .inr (.inl xu)))] := hD
  refine lv_aload_n hx hb dX9_jump_146 rfl (lv_at hl 1 rfl) ?_
  refine va_get (D := (dC, dI)) (ci := 6) (v := .ref x4) (C := RX9) (T := TX9) (N := 24) hx hb hts mi_X9_jump_X9 hown hK hP 0 rfl rfl 8 (by decide) (hts (.fieldLink RX9 23 "ScoreboardCoreModel" "done" "[I") mm_X9_jump_f23) (fun _ h9 => h9) rfl dX9_jump_147 ?_
  refine lv_bipush (v := (6 : Int32)) hx hb dX9_jump_150 (by decide) ?_
  refine lv_dup2_11 hx hb dX9_jump_152 rfl rfl ?_
  refine va_iald (D := (dC, dI)) hx hb hK hP 4 0 rfl rfl (vpd (by decide)) dX9_jump_153 ?_
  refine lv_iconst (v := (1 : Int32)) hx hb dX9_jump_154 (by decide) ?_
  refine lv_iadd hx hb dX9_jump_155 ?_
  refine va_iast (D := (dC, dI)) hx hb hK hP hD hS 4 0 rfl rfl (vpd (by decide)) dX9_jump_156 (fun H locs hP hD hS => ?_)
  have hP : va_P (dC, dI) vwCl [(hX, .inr (6, [.int xt, .ref x1, .ref x2, .ref x3, .int xw', .int xp', .int xs, .long xc, .ref x4, .ref x5, .ref x6, .ref x7, .ref x8, .long xM, .long xE', .long (F_X9_later xL' t0), .int xo, .int xi, .int xj, .int xk, .int xn, .int xz, .int xa', .int xg])), (x1, .inl (cJ, 512, .inr (.inl xmw'))), (x2, .inl (cJ, 512, .inr (.inl xmp'))), (x3, .inl (cJ, 24, .inr (.inl xr))), (x4, .inl (cI, 8, .inl (upd xd' (6 : Int32).toNatClampNeg ((xd' (6 : Int32).toNatClampNeg) + (1 : Int32))))), (x5, .inl (cJ, 5, .inr (.inl (vp_updL xwt' (2 : Int32).toNatClampNeg (((xwt' (2 : Int32).toNatClampNeg) + t0) - xE'))))), (x6, .inl (cJ, 24, .inr (.inl xf))), (x7, .inl (cJ, 24, .inr (.inl xrd))), (x8, .inl (cJ, 6, .inr (.inl xu)))] H := hP
  have hD : va_D (va_A w0 s.heap.size) [(hX, .inr (6, [.int xt, .ref x1, .ref x2, .ref x3, .int xw', .int xp', .int xs, .long xc, .ref x4, .ref x5, .ref x6, .ref x7, .ref x8, .long xM, .long xE', .long (F_X9_later xL' t0), .int xo, .int xi, .int xj, .int xk, .int xn, .int xz, .int xa', .int xg])), (x1, .inl (cJ, 512, .inr (.inl xmw'))), (x2, .inl (cJ, 512, .inr (.inl xmp'))), (x3, .inl (cJ, 24, .inr (.inl xr))), (x4, .inl (cI, 8, .inl (upd xd' (6 : Int32).toNatClampNeg ((xd' (6 : Int32).toNatClampNeg) + (1 : Int32))))), (x5, .inl (cJ, 5, .inr (.inl (vp_updL xwt' (2 : Int32).toNatClampNeg (((xwt' (2 : Int32).toNatClampNeg) + t0) - xE'))))), (x6, .inl (cJ, 24, .inr (.inl xf))), (x7, .inl (cJ, 24, .inr (.inl xrd))), (x8, .inl (cJ, 6, .inr (.inl xu)))] := hD
  refine lv_aload_n hx hb dX9_jump_157 rfl (lv_at hl 1 rfl) ?_
  refine roVi (As := []) (rest := []) (bytes := cX9_holds) (maxL := 5) (rty := (some .boolean)) (n := 0) (ci := 6) C0 (c_X9_holds l dC dI cI cJ hX x1 x2 x3 x4 x5 x6 x7 x8 xt xw' xp' xs xc xM xE' (F_X9_later xL' t0) xo xi xj xk xn xz xa' xg xmw' xmp' xr (upd xd' (6 : Int32).toNatClampNeg ((xd' (6 : Int32).toNatClampNeg) + (1 : Int32))) (vp_updL xwt' (2 : Int32).toNatClampNeg (((xwt' (2 : Int32).toNatClampNeg) + t0) - xE')) xf xrd xu hi hj hk) ⟨rfl, rfl, rfl, by decide +kernel, by decide, by decide⟩ ggX9_jump_X9_holds mm_X9_jump_iX9 mm_X9_jump_l179 mm_X9_jump_nX9_holds mm_X9_jump_sX9_holds rfl rfl (hP.sub (ws' := [(hX, .inr (6, [.int xt, .ref x1, .ref x2, .ref x3, .int xw', .int xp', .int xs, .long xc, .ref x4, .ref x5, .ref x6, .ref x7, .ref x8, .long xM, .long xE', .long (F_X9_later xL' t0), .int xo, .int xi, .int xj, .int xk, .int xn, .int xz, .int xa', .int xg])), (x1, .inl (cJ, 512, .inr (.inl xmw'))), (x2, .inl (cJ, 512, .inr (.inl xmp'))), (x3, .inl (cJ, 24, .inr (.inl xr))), (x4, .inl (cI, 8, .inl (upd xd' (6 : Int32).toNatClampNeg ((xd' (6 : Int32).toNatClampNeg) + (1 : Int32))))), (x5, .inl (cJ, 5, .inr (.inl (vp_updL xwt' (2 : Int32).toNatClampNeg (((xwt' (2 : Int32).toNatClampNeg) + t0) - xE'))))), (x6, .inl (cJ, 24, .inr (.inl xf))), (x7, .inl (cJ, 24, .inr (.inl xrd))), (x8, .inl (cJ, 6, .inr (.inl xu)))]) [0, 1, 2, 3, 4, 5, 6, 7, 8] rfl) hK hl.1 rfl rfl (Nat.le_of_ble_eq_true rfl) dX9_jump_158 ⟨Nat.zero_le _, Nat.zero_le _⟩ ?_
  refine lv_istore_n (lv' := [(3, .int (F_X9_holds xo xi xj xr)), (1, .long t0), (0, .ref hX)]) hx hb dX9_jump_161 rfl hl (by decide) rfl (fun ls hl => ?_)
  refine lv_aload_n hx hb dX9_jump_162 rfl (lv_at hl 2 rfl) ?_
  refine lv_lload_n hx hb dX9_jump_163 rfl (lv_at hl 1 rfl) ?_
  refine lv_iload_n hx hb dX9_jump_164 rfl (lv_at hl 0 rfl) ?_
  refine lv_if_eq (x := (F_X9_holds xo xi xj xr)) (tgt := 174) hx hb dX9_jump_165 (by decide) (fun c1 => ?_) (fun c1 => ?_)
  · refine lv_ldc2 (v := (4 : Int64)) hx hb hown (hts _ mm_X9_jump_k182) dX9_jump_174 ?_
    have e9 : (F_X9_jump_114 xo xi xj xn xz xr t0 xw' xp' xE' xL' xa' xmw' xmp' xd' xwt') = (F_X9_jump_177 xo xi xn xz xr (F_X9_holds xo xi xj xr) (4 : Int64) t0 xw' xp' xE' (F_X9_later xL' t0) xa' xmw' xmp' (upd xd' (6 : Int32).toNatClampNeg ((xd' (6 : Int32).toNatClampNeg) + (1 : Int32))) (vp_updL xwt' (2 : Int32).toNatClampNeg (((xwt' (2 : Int32).toNatClampNeg) + t0) - xE'))) := by rw [F_X9_jump_114, if_pos c1]
    rw [e9] at hV
    exact j_X9_jump_177 dC dI cI cJ hX x1 x2 x3 x4 x5 x6 x7 x8 xt xw xp xs xc xM xE xL xo xi xj xk xn xz xa xg xmw xmp xr xd xwt xf xrd xu C0 hK hZ hi hj hk hnum (F_X9_holds xo xi xj xr) (4 : Int64) t0 xw' xp' xE' (F_X9_later xL' t0) xa' xmw' xmp' (upd xd' (6 : Int32).toNatClampNeg ((xd' (6 : Int32).toNatClampNeg) + (1 : Int32))) (vp_updL xwt' (2 : Int32).toNatClampNeg (((xwt' (2 : Int32).toNatClampNeg) + t0) - xE')) hV ls (lv_sub hl [2, 0] rfl) hP hD hS
  · refine lv_ldc2 (v := (8 : Int64)) hx hb hown (hts _ mm_X9_jump_k160) dX9_jump_168 ?_
    refine lv_goto (tgt := 177) hx hb dX9_jump_171 (by decide) ?_
    have e9 : (F_X9_jump_114 xo xi xj xn xz xr t0 xw' xp' xE' xL' xa' xmw' xmp' xd' xwt') = (F_X9_jump_177 xo xi xn xz xr (F_X9_holds xo xi xj xr) (8 : Int64) t0 xw' xp' xE' (F_X9_later xL' t0) xa' xmw' xmp' (upd xd' (6 : Int32).toNatClampNeg ((xd' (6 : Int32).toNatClampNeg) + (1 : Int32))) (vp_updL xwt' (2 : Int32).toNatClampNeg (((xwt' (2 : Int32).toNatClampNeg) + t0) - xE'))) := by rw [F_X9_jump_114, if_neg c1]
    rw [e9] at hV
    exact j_X9_jump_177 dC dI cI cJ hX x1 x2 x3 x4 x5 x6 x7 x8 xt xw xp xs xc xM xE xL xo xi xj xk xn xz xa xg xmw xmp xr xd xwt xf xrd xu C0 hK hZ hi hj hk hnum (F_X9_holds xo xi xj xr) (8 : Int64) t0 xw' xp' xE' (F_X9_later xL' t0) xa' xmw' xmp' (upd xd' (6 : Int32).toNatClampNeg ((xd' (6 : Int32).toNatClampNeg) + (1 : Int32))) (vp_updL xwt' (2 : Int32).toNatClampNeg (((xwt' (2 : Int32).toNatClampNeg) + t0) - xE')) hV ls (lv_sub hl [2, 0] rfl) hP hD hS
set_option maxHeartbeats 4000000 in
set_option maxRecDepth 100000 in
theorem j_X9_jump_76 {p : Program} {l : Launch} {e : Env} {s : State} {m : MethodId} {below : List Frame} {meth : Method} {c : Code} {args : Array Value} (dC : Nat → ClassId) (dI : Nat → Nat → Nat) (cI cJ : ClassId) (hX x1 x2 x3 x4 x5 x6 x7 x8 : Nat) (xt : Int32) (xw : Int32) (xp : Int32) (xs : Int32) (xc : Int64) (xM : Int64) (xE : Int64) (xL : Int64) (xo : Int32) (xi : Int32) (xj : Int32) (xk : Int32) (xn : Int32) (xz : Int32) (xa : Int32) (xg : Int32) (xmw : Nat → Int64) (xmp : Nat → Int64) (xr : Nat → Int64) (xd : Nat → Int32) (xwt : Nat → Int64) (xf : Nat → Int64) (xrd : Nat → Int64) (xu : Nat → Int64) {w0 : va_W} (C0 : Cx p s m meth c cX9_jump 5 none wsX9_jump RX9 args) (hK : va_K (dC, dI) vwCl [(cI, .int), (cJ, .long)] s) (hZ : Zs false (va_A w0 s.heap.size) s s.heap) (hi : R8 xi) (hj : R8 xj) (hk : R8 xk) (hnum : ¬ xn < 0) (xw' : Int32) (xp' : Int32) (xE' : Int64) (xL' : Int64) (xa' : Int32) (xmw' : Nat → Int64) (xmp' : Nat → Int64) (xd' : Nat → Int32) (xwt' : Nat → Int64) {V : Int32 × Int32 × Int64 × Int64 × Int32 × (Nat → Int64) × (Nat → Int64) × (Nat → Int32) × (Nat → Int64)} (hV : (F_X9_jump_76 xM xo xi xj xn xz xr xf xw' xp' xE' xL' xa' xmw' xmp' xd' xwt') = V) (ls : Array Slot) (hl : lv_has ls 5 [(0, .ref hX)]) {H : Heap} {locs : List Loc} (hP : va_P (dC, dI) vwCl [(hX, .inr (6, [.int xt, .ref x1, .ref x2, .ref x3, .int xw', .int xp', .int xs, .long xc, .ref x4, .ref x5, .ref x6, .ref x7, .ref x8, .long xM, .long xE', .long xL', .int xo, .int xi, .int xj, .int xk, .int xn, .int xz, .int xa', .int xg])), (x1, .inl (cJ, 512, .inr (.inl xmw'))), (x2, .inl (cJ, 512, .inr (.inl xmp'))), (x3, .inl (cJ, 24, .inr (.inl xr))), (x4, .inl (cI, 8, .inl xd')), (x5, .inl (cJ, 5, .inr (.inl xwt'))), (x6, .inl (cJ, 24, .inr (.inl xf))), (x7, .inl (cJ, 24, .inr (.inl xrd))), (x8, .inl (cJ, 6, .inr (.inl xu)))] H) (hD : va_D (va_A w0 s.heap.size) [(hX, .inr (6, [.int xt, .ref x1, .ref x2, .ref x3, .int xw', .int xp', .int xs, .long xc, .ref x4, .ref x5, .ref x6, .ref x7, .ref x8, .long xM, .long xE', .long xL', .int xo, .int xi, .int xj, .int xk, .int xn, .int xz, .int xa', .int xg])), (x1, .inl (cJ, 512, .inr (.inl xmw'))), (x2, .inl (cJ, 512, .inr (.inl xmp'))), (x3, .inl (cJ, 24, .inr (.inl xr))), (x4, .inl (cI, 8, .inl xd')), (x5, .inl (cJ, 5, .inr (.inl xwt'))), (x6, .inl (cJ, 24, .inr (.inl xf))), (x7, .inl (cJ, 24, .inr (.inl xrd))), (x8, .inl (cJ, 6, .inr (.inl xu)))]) (hS : va_S (va_A w0 s.heap.size) s.heap H locs) : W p l e rm_X9_jump s m args below meth c H locs 0 0 (MQ below (QV (dC, dI) [(cI, .int), (cJ, .long)] w0 [(hX, .inr (6, [.int xt, .ref x1, .ref x2, .ref x3, .int V.1, .int V.2.1, .int xs, .long xc, .ref x4, .ref x5, .ref x6, .ref x7, .ref x8, .long xM, .long V.2.2.1, .long V.2.2.2.1, .int xo, .int xi, .int xj, .int xk, .int xn, .int xz, .int V.2.2.2.2.1, .int xg])), (x1, .inl (cJ, 512, .inr (.inl V.2.2.2.2.2.1))), (x2, .inl (cJ, 512, .inr (.inl V.2.2.2.2.2.2.1))), (x3, .inl (cJ, 24, .inr (.inl xr))), (x4, .inl (cI, 8, .inl V.2.2.2.2.2.2.2.1)), (x5, .inl (cJ, 5, .inr (.inl V.2.2.2.2.2.2.2.2))), (x6, .inl (cJ, 24, .inr (.inl xf))), (x7, .inl (cJ, 24, .inr (.inl xrd))), (x8, .inl (cJ, 6, .inr (.inl xu)))] s.heap.size) args s 0 0 (va_A w0 s.heap.size)) (F0 m 76 ls []) := by
  obtain ⟨hx, hb, hr, hlk, hml, hown, hts⟩ := id C0
  have hA : ∀ q : Nat, s.heap.size ≤ q → va_A w0 s.heap.size q := fun q h => Or.inr h
  refine lv_aload_n hx hb dX9_jump_76 rfl (lv_at hl 0 rfl) ?_
  refine va_get (D := (dC, dI)) (ci := 6) (v := .long xE') (C := RX9) (T := TX9) (N := 24) hx hb hts mi_X9_jump_X9 hown hK hP 0 rfl rfl 14 (by decide) (hts (.fieldLink RX9 152 "ScoreboardCoreModel" "earliest" "J") mm_X9_jump_f152) (fun _ h9 => h9) rfl dX9_jump_77 ?_
  refine lv_aload_n hx hb dX9_jump_80 rfl (lv_at hl 0 rfl) ?_
  refine lv_aload_n hx hb dX9_jump_81 rfl (lv_at hl 0 rfl) ?_
  refine va_get (D := (dC, dI)) (ci := 6) (v := .int xa') (C := RX9) (T := TX9) (N := 24) hx hb hts mi_X9_jump_X9 hown hK hP 0 rfl rfl 22 (by decide) (hts (.fieldLink RX9 96 "ScoreboardCoreModel" "needs" "I") mm_X9_jump_f96) (fun _ h9 => h9) rfl dX9_jump_82 ?_
  refine roVl (As := [.int xa']) (rest := [.long xE']) (bytes := cX9_freeFrom) (maxL := 5) (rty := (some .long)) (n := 1) (ci := 6) C0 (c_X9_freeFrom l dC dI cI cJ hX x1 x2 x3 x4 x5 x6 x7 x8 xa' xt xw' xp' xs xc xM xE' xL' xo xi xj xk xn xz xa' xg xmw' xmp' xr xd' xwt' xf xrd xu) ⟨rfl, rfl, rfl, by decide +kernel, by decide, by decide⟩ ggX9_jump_X9_freeFrom mm_X9_jump_iX9 mm_X9_jump_l156 mm_X9_jump_nX9_freeFrom mm_X9_jump_sX9_freeFrom rfl rfl (hP.sub (ws' := [(hX, .inr (6, [.int xt, .ref x1, .ref x2, .ref x3, .int xw', .int xp', .int xs, .long xc, .ref x4, .ref x5, .ref x6, .ref x7, .ref x8, .long xM, .long xE', .long xL', .int xo, .int xi, .int xj, .int xk, .int xn, .int xz, .int xa', .int xg])), (x1, .inl (cJ, 512, .inr (.inl xmw'))), (x2, .inl (cJ, 512, .inr (.inl xmp'))), (x3, .inl (cJ, 24, .inr (.inl xr))), (x4, .inl (cI, 8, .inl xd')), (x5, .inl (cJ, 5, .inr (.inl xwt'))), (x6, .inl (cJ, 24, .inr (.inl xf))), (x7, .inl (cJ, 24, .inr (.inl xrd))), (x8, .inl (cJ, 6, .inr (.inl xu)))]) [0, 1, 2, 3, 4, 5, 6, 7, 8] rfl) hK hl.1 rfl rfl (Nat.le_of_ble_eq_true rfl) dX9_jump_85 ⟨Nat.zero_le _, Nat.zero_le _⟩ ?_
  refine roSl (As := [.long xE', .long (F_X9_freeFrom xa' xf)]) (rest := []) (bytes := cX9_later) (maxL := 4) (rty := (some .long)) (n := 2) C0 (c_X9_later l dC dI cI cJ xE' (F_X9_freeFrom xa' xf)) ⟨rfl, rfl, rfl, by decide +kernel, by decide, by decide⟩ ggX9_jump_X9_later mm_X9_jump_iX9 mm_X9_jump_l144 mm_X9_jump_tX9_later (hP.sub (ws' := []) [] rfl) hK hl.1 rfl rfl (Nat.le_of_ble_eq_true rfl) dX9_jump_88 ⟨Nat.zero_le _, Nat.zero_le _⟩ ?_
  refine lv_lstore_n (lv' := [(1, .long (F_X9_later xE' (F_X9_freeFrom xa' xf))), (0, .ref hX)]) hx hb dX9_jump_91 rfl hl (by decide) rfl (fun ls hl => ?_)
  refine lv_aload_n hx hb dX9_jump_92 rfl (lv_at hl 1 rfl) ?_
  refine va_get (D := (dC, dI)) (ci := 6) (v := .int xo) (C := RX9) (T := TX9) (N := 24) hx hb hts mi_X9_jump_X9 hown hK hP 0 rfl rfl 16 (by decide) (hts (.fieldLink RX9 68 "ScoreboardCoreModel" "op" "I") mm_X9_jump_f68) (fun _ h9 => h9) rfl dX9_jump_93 ?_
  refine lv_iconst (v := (1 : Int32)) hx hb dX9_jump_96 (by decide) ?_
  refine lv_icmp_ne (x := xo) (y := (1 : Int32)) (tgt := 113) hx hb dX9_jump_97 (by decide) (fun c1 => ?_) (fun c1 => ?_)
  · refine lv_lload_n hx hb dX9_jump_113 rfl (lv_at hl 0 rfl) ?_
    have e9 : (F_X9_jump_76 xM xo xi xj xn xz xr xf xw' xp' xE' xL' xa' xmw' xmp' xd' xwt') = (F_X9_jump_114 xo xi xj xn xz xr (F_X9_later xE' (F_X9_freeFrom xa' xf)) xw' xp' xE' xL' xa' xmw' xmp' xd' xwt') := by rw [F_X9_jump_76, if_neg c1]
    rw [e9] at hV
    exact j_X9_jump_114 dC dI cI cJ hX x1 x2 x3 x4 x5 x6 x7 x8 xt xw xp xs xc xM xE xL xo xi xj xk xn xz xa xg xmw xmp xr xd xwt xf xrd xu C0 hK hZ hi hj hk hnum (F_X9_later xE' (F_X9_freeFrom xa' xf)) xw' xp' xE' xL' xa' xmw' xmp' xd' xwt' hV ls (lv_sub hl [1] rfl) hP hD hS
  · refine lv_lload_n hx hb dX9_jump_100 rfl (lv_at hl 0 rfl) ?_
    refine lv_aload_n hx hb dX9_jump_101 rfl (lv_at hl 1 rfl) ?_
    refine va_get (D := (dC, dI)) (ci := 6) (v := .long xM) (C := RX9) (T := TX9) (N := 24) hx hb hts mi_X9_jump_X9 hown hK hP 0 rfl rfl 13 (by decide) (hts (.fieldLink RX9 164 "ScoreboardCoreModel" "memoryEnd" "J") mm_X9_jump_f164) (fun _ h9 => h9) rfl dX9_jump_102 ?_
    refine lv_lconst (v := (1 : Int64)) hx hb dX9_jump_105 (by decide) ?_
    refine lv_ladd hx hb dX9_jump_106 ?_
    refine roSl (As := [.long (F_X9_later xE' (F_X9_freeFrom xa' xf)), .long (xM + (1 : Int64))]) (rest := []) (bytes := cX9_later) (maxL := 4) (rty := (some .long)) (n := 2) C0 (c_X9_later l dC dI cI cJ (F_X9_later xE' (F_X9_freeFrom xa' xf)) (xM + (1 : Int64))) ⟨rfl, rfl, rfl, by decide +kernel, by decide, by decide⟩ ggX9_jump_X9_later mm_X9_jump_iX9 mm_X9_jump_l144 mm_X9_jump_tX9_later (hP.sub (ws' := []) [] rfl) hK hl.1 rfl rfl (Nat.le_of_ble_eq_true rfl) dX9_jump_107 ⟨Nat.zero_le _, Nat.zero_le _⟩ ?_
    refine lv_goto (tgt := 114) hx hb dX9_jump_110 (by decide) ?_
    have e9 : (F_X9_jump_76 xM xo xi xj xn xz xr xf xw' xp' xE' xL' xa' xmw' xmp' xd' xwt') = (F_X9_jump_114 xo xi xj xn xz xr (F_X9_later (F_X9_later xE' (F_X9_freeFrom xa' xf)) (xM + (1 : Int64))) xw' xp' xE' xL' xa' xmw' xmp' xd' xwt') := by rw [F_X9_jump_76, if_pos c1]
    rw [e9] at hV
    exact j_X9_jump_114 dC dI cI cJ hX x1 x2 x3 x4 x5 x6 x7 x8 xt xw xp xs xc xM xE xL xo xi xj xk xn xz xa xg xmw xmp xr xd xwt xf xrd xu C0 hK hZ hi hj hk hnum (F_X9_later (F_X9_later xE' (F_X9_freeFrom xa' xf)) (xM + (1 : Int64))) xw' xp' xE' xL' xa' xmw' xmp' xd' xwt' hV ls (lv_sub hl [1] rfl) hP hD hS
set_option maxHeartbeats 4000000 in
set_option maxRecDepth 100000 in
theorem w_X9_jump {p : Program} {l : Launch} {e : Env} {s : State} {m : MethodId} {below : List Frame} {meth : Method} {c : Code} {args : Array Value} (dC : Nat → ClassId) (dI : Nat → Nat → Nat) (cI cJ : ClassId) (hX x1 x2 x3 x4 x5 x6 x7 x8 : Nat) (xt : Int32) (xw : Int32) (xp : Int32) (xs : Int32) (xc : Int64) (xM : Int64) (xE : Int64) (xL : Int64) (xo : Int32) (xi : Int32) (xj : Int32) (xk : Int32) (xn : Int32) (xz : Int32) (xa : Int32) (xg : Int32) (xmw : Nat → Int64) (xmp : Nat → Int64) (xr : Nat → Int64) (xd : Nat → Int32) (xwt : Nat → Int64) (xf : Nat → Int64) (xrd : Nat → Int64) (xu : Nat → Int64) {w0 : va_W} (C0 : Cx p s m meth c cX9_jump 5 none wsX9_jump RX9 args) (hK : va_K (dC, dI) vwCl [(cI, .int), (cJ, .long)] s) (hZ : Zs false (va_A w0 s.heap.size) s s.heap) (hi : R8 xi) (hj : R8 xj) (hk : R8 xk) (hnum : ¬ xn < 0) {V : Int32 × Int32 × Int64 × Int64 × Int32 × (Nat → Int64) × (Nat → Int64) × (Nat → Int32) × (Nat → Int64)} (hV : (F_X9_jump xw xp xM xE xL xo xi xj xn xz xmw xmp xr xd xwt xf ) = V) (ls : Array Slot) (hl : lv_has ls 5 [(0, .ref hX)]) {H : Heap} {locs : List Loc} (hP : va_P (dC, dI) vwCl [(hX, .inr (6, [.int xt, .ref x1, .ref x2, .ref x3, .int xw, .int xp, .int xs, .long xc, .ref x4, .ref x5, .ref x6, .ref x7, .ref x8, .long xM, .long xE, .long xL, .int xo, .int xi, .int xj, .int xk, .int xn, .int xz, .int xa, .int xg])), (x1, .inl (cJ, 512, .inr (.inl xmw))), (x2, .inl (cJ, 512, .inr (.inl xmp))), (x3, .inl (cJ, 24, .inr (.inl xr))), (x4, .inl (cI, 8, .inl xd)), (x5, .inl (cJ, 5, .inr (.inl xwt))), (x6, .inl (cJ, 24, .inr (.inl xf))), (x7, .inl (cJ, 24, .inr (.inl xrd))), (x8, .inl (cJ, 6, .inr (.inl xu)))] H) (hD : va_D (va_A w0 s.heap.size) [(hX, .inr (6, [.int xt, .ref x1, .ref x2, .ref x3, .int xw, .int xp, .int xs, .long xc, .ref x4, .ref x5, .ref x6, .ref x7, .ref x8, .long xM, .long xE, .long xL, .int xo, .int xi, .int xj, .int xk, .int xn, .int xz, .int xa, .int xg])), (x1, .inl (cJ, 512, .inr (.inl xmw))), (x2, .inl (cJ, 512, .inr (.inl xmp))), (x3, .inl (cJ, 24, .inr (.inl xr))), (x4, .inl (cI, 8, .inl xd)), (x5, .inl (cJ, 5, .inr (.inl xwt))), (x6, .inl (cJ, 24, .inr (.inl xf))), (x7, .inl (cJ, 24, .inr (.inl xrd))), (x8, .inl (cJ, 6, .inr (.inl xu)))]) (hS : va_S (va_A w0 s.heap.size) s.heap H locs) : W p l e rm_X9_jump s m args below meth c H locs 0 0 (MQ below (QV (dC, dI) [(cI, .int), (cJ, .long)] w0 [(hX, .inr (6, [.int xt, .ref x1, .ref x2, .ref x3, .int V.1, .int V.2.1, .int xs, .long xc, .ref x4, .ref x5, .ref x6, .ref x7, .ref x8, .long xM, .long V.2.2.1, .long V.2.2.2.1, .int xo, .int xi, .int xj, .int xk, .int xn, .int xz, .int V.2.2.2.2.1, .int xg])), (x1, .inl (cJ, 512, .inr (.inl V.2.2.2.2.2.1))), (x2, .inl (cJ, 512, .inr (.inl V.2.2.2.2.2.2.1))), (x3, .inl (cJ, 24, .inr (.inl xr))), (x4, .inl (cI, 8, .inl V.2.2.2.2.2.2.2.1)), (x5, .inl (cJ, 5, .inr (.inl V.2.2.2.2.2.2.2.2))), (x6, .inl (cJ, 24, .inr (.inl xf))), (x7, .inl (cJ, 24, .inr (.inl xrd))), (x8, .inl (cJ, 6, .inr (.inl xu)))] s.heap.size) args s 0 0 (va_A w0 s.heap.size)) (F0 m 0 ls []) := by
  obtain ⟨hx, hb, hr, hlk, hml, hown, hts⟩ := id C0
  have hA : ∀ q : Nat, s.heap.size ≤ q → va_A w0 s.heap.size q := fun q h => Or.inr h
  refine lv_aload_n hx hb dX9_jump_0 rfl (lv_at hl 0 rfl) ?_
  refine lv_iconst (v := (0 : Int32)) hx hb dX9_jump_1 (by decide) ?_
  refine va_put (D := (dC, dI)) (ci := 6) (v := .int (0 : Int32)) (ty := .int) (C := RX9) (T := TX9) (N := 24) hx hb hts mi_X9_jump_X9 tyX9 tyX9_ok nmX9 hown hK hP hD hS 0 rfl rfl 22 (by decide) (hts (.fieldLink RX9 96 "ScoreboardCoreModel" "needs" "I") mm_X9_jump_f96) (fun _ h9 => h9) rfl (by decide +kernel) rfl rfl (Nat.le_of_ble_eq_true rfl) dX9_jump_2 (fun H locs hP hD hS => ?_)
  have hP : va_P (dC, dI) vwCl [(hX, .inr (6, [.int xt, .ref x1, .ref x2, .ref x3, .int xw, .int xp, .int xs, .long xc, .ref x4, .ref x5, .ref x6, .ref x7, .ref x8, .long xM, .long xE, .long xL, .int xo, .int xi, .int xj, .int xk, .int xn, .int xz, .int (0 : Int32), .int xg])), (x1, .inl (cJ, 512, .inr (.inl xmw))), (x2, .inl (cJ, 512, .inr (.inl xmp))), (x3, .inl (cJ, 24, .inr (.inl xr))), (x4, .inl (cI, 8, .inl xd)), (x5, .inl (cJ, 5, .inr (.inl xwt))), (x6, .inl (cJ, 24, .inr (.inl xf))), (x7, .inl (cJ, 24, .inr (.inl xrd))), (x8, .inl (cJ, 6, .inr (.inl xu)))] H := hP
  have hD : va_D (va_A w0 s.heap.size) [(hX, .inr (6, [.int xt, .ref x1, .ref x2, .ref x3, .int xw, .int xp, .int xs, .long xc, .ref x4, .ref x5, .ref x6, .ref x7, .ref x8, .long xM, .long xE, .long xL, .int xo, .int xi, .int xj, .int xk, .int xn, .int xz, .int (0 : Int32), .int xg])), (x1, .inl (cJ, 512, .inr (.inl xmw))), (x2, .inl (cJ, 512, .inr (.inl xmp))), (x3, .inl (cJ, 24, .inr (.inl xr))), (x4, .inl (cI, 8, .inl xd)), (x5, .inl (cJ, 5, .inr (.inl xwt))), (x6, .inl (cJ, 24, .inr (.inl xf))), (x7, .inl (cJ, 24, .inr (.inl xrd))), (x8, .inl (cJ, 6, .inr (.inl xu)))] := hD
  refine lv_aload_n hx hb dX9_jump_5 rfl (lv_at hl 0 rfl) ?_
  refine va_get (D := (dC, dI)) (ci := 6) (v := .int xo) (C := RX9) (T := TX9) (N := 24) hx hb hts mi_X9_jump_X9 hown hK hP 0 rfl rfl 16 (by decide) (hts (.fieldLink RX9 68 "ScoreboardCoreModel" "op" "I") mm_X9_jump_f68) (fun _ h9 => h9) rfl dX9_jump_6 ?_
  refine lv_iconst (v := (2 : Int32)) hx hb dX9_jump_9 (by decide) ?_
  refine lv_icmp_ne (x := xo) (y := (2 : Int32)) (tgt := 27) hx hb dX9_jump_10 (by decide) (fun c1 => ?_) (fun c1 => ?_)
  · refine lv_aload_n hx hb dX9_jump_27 rfl (lv_at hl 0 rfl) ?_
    refine va_get (D := (dC, dI)) (ci := 6) (v := .int xo) (C := RX9) (T := TX9) (N := 24) hx hb hts mi_X9_jump_X9 hown hK hP 0 rfl rfl 16 (by decide) (hts (.fieldLink RX9 68 "ScoreboardCoreModel" "op" "I") mm_X9_jump_f68) (fun _ h9 => h9) rfl dX9_jump_28 ?_
    refine lv_iconst (v := (3 : Int32)) hx hb dX9_jump_31 (by decide) ?_
    refine lv_icmp_ne (x := xo) (y := (3 : Int32)) (tgt := 46) hx hb dX9_jump_32 (by decide) (fun c2 => ?_) (fun c2 => ?_)
    · refine lv_aload_n hx hb dX9_jump_46 rfl (lv_at hl 0 rfl) ?_
      refine va_get (D := (dC, dI)) (ci := 6) (v := .int xo) (C := RX9) (T := TX9) (N := 24) hx hb hts mi_X9_jump_X9 hown hK hP 0 rfl rfl 16 (by decide) (hts (.fieldLink RX9 68 "ScoreboardCoreModel" "op" "I") mm_X9_jump_f68) (fun _ h9 => h9) rfl dX9_jump_47 ?_
      refine lv_iconst (v := (3 : Int32)) hx hb dX9_jump_50 (by decide) ?_
      refine lv_icmp_le (x := xo) (y := (3 : Int32)) (tgt := 76) hx hb dX9_jump_51 (by decide) (fun c3 => ?_) (fun c3 => ?_)
      · have e9 : (F_X9_jump xw xp xM xE xL xo xi xj xn xz xmw xmp xr xd xwt xf ) = (F_X9_jump_76 xM xo xi xj xn xz xr xf xw xp xE xL (0 : Int32) xmw xmp xd xwt) := by rw [F_X9_jump, if_neg c1, if_neg c2, if_pos c3]
        rw [e9] at hV
        exact j_X9_jump_76 dC dI cI cJ hX x1 x2 x3 x4 x5 x6 x7 x8 xt xw xp xs xc xM xE xL xo xi xj xk xn xz xa xg xmw xmp xr xd xwt xf xrd xu C0 hK hZ hi hj hk hnum xw xp xE xL (0 : Int32) xmw xmp xd xwt hV ls (lv_sub hl [0] rfl) hP hD hS
      · refine lv_aload_n hx hb dX9_jump_54 rfl (lv_at hl 0 rfl) ?_
        refine lv_bipush (v := (16 : Int32)) hx hb dX9_jump_55 (by decide) ?_
        refine lv_aload_n hx hb dX9_jump_57 rfl (lv_at hl 0 rfl) ?_
        refine va_get (D := (dC, dI)) (ci := 6) (v := .int xi) (C := RX9) (T := TX9) (N := 24) hx hb hts mi_X9_jump_X9 hown hK hP 0 rfl rfl 17 (by decide) (hts (.fieldLink RX9 71 "ScoreboardCoreModel" "i" "I") mm_X9_jump_f71) (fun _ h9 => h9) rfl dX9_jump_58 ?_
        refine lv_iadd hx hb dX9_jump_61 ?_
        refine wrVv (As := [.int ((16 : Int32) + xi)]) (rest := []) (bytes := cX9_need) (maxL := 2) (rty := none) (n := 1) (ci := 6) C0 (c_X9_need l dC dI cI cJ hX x1 x2 x3 x4 x5 x6 x7 x8 ((16 : Int32) + xi) xt xw xp xs xc xM xE xL xo xi xj xk xn xz (0 : Int32) xg xmw xmp xr xd xwt xf xrd xu) ⟨rfl, rfl, rfl, by decide +kernel, by decide, by decide⟩ ggX9_jump_X9_need mm_X9_jump_iX9 mm_X9_jump_l102 mm_X9_jump_nX9_need mm_X9_jump_sX9_need rfl rfl hP hD hK hS hA (Zs.no _ _ _) [0, 1, 2, 3, 4, 5, 6, 7, 8] [] [0, 1, 2, 3, 4, 5, 6, 7, 8] [] [(hX, .inr (6, [.int xt, .ref x1, .ref x2, .ref x3, .int xw, .int xp, .int xs, .long xc, .ref x4, .ref x5, .ref x6, .ref x7, .ref x8, .long xM, .long xE, .long xL, .int xo, .int xi, .int xj, .int xk, .int xn, .int xz, .int (F_X9_need ((16 : Int32) + xi) (0 : Int32)), .int xg])), (x1, .inl (cJ, 512, .inr (.inl xmw))), (x2, .inl (cJ, 512, .inr (.inl xmp))), (x3, .inl (cJ, 24, .inr (.inl xr))), (x4, .inl (cI, 8, .inl xd)), (x5, .inl (cJ, 5, .inr (.inl xwt))), (x6, .inl (cJ, 24, .inr (.inl xf))), (x7, .inl (cJ, 24, .inr (.inl xrd))), (x8, .inl (cJ, 6, .inr (.inl xu)))] rfl (by decide) (hP.sub (ws' := [(hX, .inr (6, [.int xt, .ref x1, .ref x2, .ref x3, .int xw, .int xp, .int xs, .long xc, .ref x4, .ref x5, .ref x6, .ref x7, .ref x8, .long xM, .long xE, .long xL, .int xo, .int xi, .int xj, .int xk, .int xn, .int xz, .int (0 : Int32), .int xg])), (x1, .inl (cJ, 512, .inr (.inl xmw))), (x2, .inl (cJ, 512, .inr (.inl xmp))), (x3, .inl (cJ, 24, .inr (.inl xr))), (x4, .inl (cI, 8, .inl xd)), (x5, .inl (cJ, 5, .inr (.inl xwt))), (x6, .inl (cJ, 24, .inr (.inl xf))), (x7, .inl (cJ, 24, .inr (.inl xrd))), (x8, .inl (cJ, 6, .inr (.inl xu)))]) [0, 1, 2, 3, 4, 5, 6, 7, 8] rfl) rfl (by decide) (by decide) (by decide) rfl hl.1 rfl rfl (Nat.le_of_ble_eq_true rfl) dX9_jump_62 ⟨Nat.zero_le _, Nat.zero_le _⟩ (fun H locs hP hD hS => ?_)
        refine lv_aload_n hx hb dX9_jump_65 rfl (lv_at hl 0 rfl) ?_
        refine lv_bipush (v := (16 : Int32)) hx hb dX9_jump_66 (by decide) ?_
        refine lv_aload_n hx hb dX9_jump_68 rfl (lv_at hl 0 rfl) ?_
        refine va_get (D := (dC, dI)) (ci := 6) (v := .int xj) (C := RX9) (T := TX9) (N := 24) hx hb hts mi_X9_jump_X9 hown hK hP 0 rfl rfl 18 (by decide) (hts (.fieldLink RX9 83 "ScoreboardCoreModel" "j" "I") mm_X9_jump_f83) (fun _ h9 => h9) rfl dX9_jump_69 ?_
        refine lv_iadd hx hb dX9_jump_72 ?_
        refine wrVv (As := [.int ((16 : Int32) + xj)]) (rest := []) (bytes := cX9_need) (maxL := 2) (rty := none) (n := 1) (ci := 6) C0 (c_X9_need l dC dI cI cJ hX x1 x2 x3 x4 x5 x6 x7 x8 ((16 : Int32) + xj) xt xw xp xs xc xM xE xL xo xi xj xk xn xz (F_X9_need ((16 : Int32) + xi) (0 : Int32)) xg xmw xmp xr xd xwt xf xrd xu) ⟨rfl, rfl, rfl, by decide +kernel, by decide, by decide⟩ ggX9_jump_X9_need mm_X9_jump_iX9 mm_X9_jump_l102 mm_X9_jump_nX9_need mm_X9_jump_sX9_need rfl rfl hP hD hK hS hA (Zs.no _ _ _) [0, 1, 2, 3, 4, 5, 6, 7, 8] [] [0, 1, 2, 3, 4, 5, 6, 7, 8] [] [(hX, .inr (6, [.int xt, .ref x1, .ref x2, .ref x3, .int xw, .int xp, .int xs, .long xc, .ref x4, .ref x5, .ref x6, .ref x7, .ref x8, .long xM, .long xE, .long xL, .int xo, .int xi, .int xj, .int xk, .int xn, .int xz, .int (F_X9_need ((16 : Int32) + xj) (F_X9_need ((16 : Int32) + xi) (0 : Int32))), .int xg])), (x1, .inl (cJ, 512, .inr (.inl xmw))), (x2, .inl (cJ, 512, .inr (.inl xmp))), (x3, .inl (cJ, 24, .inr (.inl xr))), (x4, .inl (cI, 8, .inl xd)), (x5, .inl (cJ, 5, .inr (.inl xwt))), (x6, .inl (cJ, 24, .inr (.inl xf))), (x7, .inl (cJ, 24, .inr (.inl xrd))), (x8, .inl (cJ, 6, .inr (.inl xu)))] rfl (by decide) (hP.sub (ws' := [(hX, .inr (6, [.int xt, .ref x1, .ref x2, .ref x3, .int xw, .int xp, .int xs, .long xc, .ref x4, .ref x5, .ref x6, .ref x7, .ref x8, .long xM, .long xE, .long xL, .int xo, .int xi, .int xj, .int xk, .int xn, .int xz, .int (F_X9_need ((16 : Int32) + xi) (0 : Int32)), .int xg])), (x1, .inl (cJ, 512, .inr (.inl xmw))), (x2, .inl (cJ, 512, .inr (.inl xmp))), (x3, .inl (cJ, 24, .inr (.inl xr))), (x4, .inl (cI, 8, .inl xd)), (x5, .inl (cJ, 5, .inr (.inl xwt))), (x6, .inl (cJ, 24, .inr (.inl xf))), (x7, .inl (cJ, 24, .inr (.inl xrd))), (x8, .inl (cJ, 6, .inr (.inl xu)))]) [0, 1, 2, 3, 4, 5, 6, 7, 8] rfl) rfl (by decide) (by decide) (by decide) rfl hl.1 rfl rfl (Nat.le_of_ble_eq_true rfl) dX9_jump_73 ⟨Nat.zero_le _, Nat.zero_le _⟩ (fun H locs hP hD hS => ?_)
        have e9 : (F_X9_jump xw xp xM xE xL xo xi xj xn xz xmw xmp xr xd xwt xf ) = (F_X9_jump_76 xM xo xi xj xn xz xr xf xw xp xE xL (F_X9_need ((16 : Int32) + xj) (F_X9_need ((16 : Int32) + xi) (0 : Int32))) xmw xmp xd xwt) := by rw [F_X9_jump, if_neg c1, if_neg c2, if_neg c3]
        rw [e9] at hV
        exact j_X9_jump_76 dC dI cI cJ hX x1 x2 x3 x4 x5 x6 x7 x8 xt xw xp xs xc xM xE xL xo xi xj xk xn xz xa xg xmw xmp xr xd xwt xf xrd xu C0 hK hZ hi hj hk hnum xw xp xE xL (F_X9_need ((16 : Int32) + xj) (F_X9_need ((16 : Int32) + xi) (0 : Int32))) xmw xmp xd xwt hV ls (lv_sub hl [0] rfl) hP hD hS
    · refine lv_aload_n hx hb dX9_jump_35 rfl (lv_at hl 0 rfl) ?_
      refine lv_aload_n hx hb dX9_jump_36 rfl (lv_at hl 0 rfl) ?_
      refine va_get (D := (dC, dI)) (ci := 6) (v := .int xj) (C := RX9) (T := TX9) (N := 24) hx hb hts mi_X9_jump_X9 hown hK hP 0 rfl rfl 18 (by decide) (hts (.fieldLink RX9 83 "ScoreboardCoreModel" "j" "I") mm_X9_jump_f83) (fun _ h9 => h9) rfl dX9_jump_37 ?_
      refine wrVv (As := [.int xj]) (rest := []) (bytes := cX9_need) (maxL := 2) (rty := none) (n := 1) (ci := 6) C0 (c_X9_need l dC dI cI cJ hX x1 x2 x3 x4 x5 x6 x7 x8 xj xt xw xp xs xc xM xE xL xo xi xj xk xn xz (0 : Int32) xg xmw xmp xr xd xwt xf xrd xu) ⟨rfl, rfl, rfl, by decide +kernel, by decide, by decide⟩ ggX9_jump_X9_need mm_X9_jump_iX9 mm_X9_jump_l102 mm_X9_jump_nX9_need mm_X9_jump_sX9_need rfl rfl hP hD hK hS hA (Zs.no _ _ _) [0, 1, 2, 3, 4, 5, 6, 7, 8] [] [0, 1, 2, 3, 4, 5, 6, 7, 8] [] [(hX, .inr (6, [.int xt, .ref x1, .ref x2, .ref x3, .int xw, .int xp, .int xs, .long xc, .ref x4, .ref x5, .ref x6, .ref x7, .ref x8, .long xM, .long xE, .long xL, .int xo, .int xi, .int xj, .int xk, .int xn, .int xz, .int (F_X9_need xj (0 : Int32)), .int xg])), (x1, .inl (cJ, 512, .inr (.inl xmw))), (x2, .inl (cJ, 512, .inr (.inl xmp))), (x3, .inl (cJ, 24, .inr (.inl xr))), (x4, .inl (cI, 8, .inl xd)), (x5, .inl (cJ, 5, .inr (.inl xwt))), (x6, .inl (cJ, 24, .inr (.inl xf))), (x7, .inl (cJ, 24, .inr (.inl xrd))), (x8, .inl (cJ, 6, .inr (.inl xu)))] rfl (by decide) (hP.sub (ws' := [(hX, .inr (6, [.int xt, .ref x1, .ref x2, .ref x3, .int xw, .int xp, .int xs, .long xc, .ref x4, .ref x5, .ref x6, .ref x7, .ref x8, .long xM, .long xE, .long xL, .int xo, .int xi, .int xj, .int xk, .int xn, .int xz, .int (0 : Int32), .int xg])), (x1, .inl (cJ, 512, .inr (.inl xmw))), (x2, .inl (cJ, 512, .inr (.inl xmp))), (x3, .inl (cJ, 24, .inr (.inl xr))), (x4, .inl (cI, 8, .inl xd)), (x5, .inl (cJ, 5, .inr (.inl xwt))), (x6, .inl (cJ, 24, .inr (.inl xf))), (x7, .inl (cJ, 24, .inr (.inl xrd))), (x8, .inl (cJ, 6, .inr (.inl xu)))]) [0, 1, 2, 3, 4, 5, 6, 7, 8] rfl) rfl (by decide) (by decide) (by decide) rfl hl.1 rfl rfl (Nat.le_of_ble_eq_true rfl) dX9_jump_40 ⟨Nat.zero_le _, Nat.zero_le _⟩ (fun H locs hP hD hS => ?_)
      refine lv_goto (tgt := 76) hx hb dX9_jump_43 (by decide) ?_
      have e9 : (F_X9_jump xw xp xM xE xL xo xi xj xn xz xmw xmp xr xd xwt xf ) = (F_X9_jump_76 xM xo xi xj xn xz xr xf xw xp xE xL (F_X9_need xj (0 : Int32)) xmw xmp xd xwt) := by rw [F_X9_jump, if_neg c1, if_pos c2]
      rw [e9] at hV
      exact j_X9_jump_76 dC dI cI cJ hX x1 x2 x3 x4 x5 x6 x7 x8 xt xw xp xs xc xM xE xL xo xi xj xk xn xz xa xg xmw xmp xr xd xwt xf xrd xu C0 hK hZ hi hj hk hnum xw xp xE xL (F_X9_need xj (0 : Int32)) xmw xmp xd xwt hV ls (lv_sub hl [0] rfl) hP hD hS
  · refine lv_aload_n hx hb dX9_jump_13 rfl (lv_at hl 0 rfl) ?_
    refine lv_bipush (v := (16 : Int32)) hx hb dX9_jump_14 (by decide) ?_
    refine lv_aload_n hx hb dX9_jump_16 rfl (lv_at hl 0 rfl) ?_
    refine va_get (D := (dC, dI)) (ci := 6) (v := .int xi) (C := RX9) (T := TX9) (N := 24) hx hb hts mi_X9_jump_X9 hown hK hP 0 rfl rfl 17 (by decide) (hts (.fieldLink RX9 71 "ScoreboardCoreModel" "i" "I") mm_X9_jump_f71) (fun _ h9 => h9) rfl dX9_jump_17 ?_
    refine lv_iadd hx hb dX9_jump_20 ?_
    refine wrVv (As := [.int ((16 : Int32) + xi)]) (rest := []) (bytes := cX9_need) (maxL := 2) (rty := none) (n := 1) (ci := 6) C0 (c_X9_need l dC dI cI cJ hX x1 x2 x3 x4 x5 x6 x7 x8 ((16 : Int32) + xi) xt xw xp xs xc xM xE xL xo xi xj xk xn xz (0 : Int32) xg xmw xmp xr xd xwt xf xrd xu) ⟨rfl, rfl, rfl, by decide +kernel, by decide, by decide⟩ ggX9_jump_X9_need mm_X9_jump_iX9 mm_X9_jump_l102 mm_X9_jump_nX9_need mm_X9_jump_sX9_need rfl rfl hP hD hK hS hA (Zs.no _ _ _) [0, 1, 2, 3, 4, 5, 6, 7, 8] [] [0, 1, 2, 3, 4, 5, 6, 7, 8] [] [(hX, .inr (6, [.int xt, .ref x1, .ref x2, .ref x3, .int xw, .int xp, .int xs, .long xc, .ref x4, .ref x5, .ref x6, .ref x7, .ref x8, .long xM, .long xE, .long xL, .int xo, .int xi, .int xj, .int xk, .int xn, .int xz, .int (F_X9_need ((16 : Int32) + xi) (0 : Int32)), .int xg])), (x1, .inl (cJ, 512, .inr (.inl xmw))), (x2, .inl (cJ, 512, .inr (.inl xmp))), (x3, .inl (cJ, 24, .inr (.inl xr))), (x4, .inl (cI, 8, .inl xd)), (x5, .inl (cJ, 5, .inr (.inl xwt))), (x6, .inl (cJ, 24, .inr (.inl xf))), (x7, .inl (cJ, 24, .inr (.inl xrd))), (x8, .inl (cJ, 6, .inr (.inl xu)))] rfl (by decide) (hP.sub (ws' := [(hX, .inr (6, [.int xt, .ref x1, .ref x2, .ref x3, .int xw, .int xp, .int xs, .long xc, .ref x4, .ref x5, .ref x6, .ref x7, .ref x8, .long xM, .long xE, .long xL, .int xo, .int xi, .int xj, .int xk, .int xn, .int xz, .int (0 : Int32), .int xg])), (x1, .inl (cJ, 512, .inr (.inl xmw))), (x2, .inl (cJ, 512, .inr (.inl xmp))), (x3, .inl (cJ, 24, .inr (.inl xr))), (x4, .inl (cI, 8, .inl xd)), (x5, .inl (cJ, 5, .inr (.inl xwt))), (x6, .inl (cJ, 24, .inr (.inl xf))), (x7, .inl (cJ, 24, .inr (.inl xrd))), (x8, .inl (cJ, 6, .inr (.inl xu)))]) [0, 1, 2, 3, 4, 5, 6, 7, 8] rfl) rfl (by decide) (by decide) (by decide) rfl hl.1 rfl rfl (Nat.le_of_ble_eq_true rfl) dX9_jump_21 ⟨Nat.zero_le _, Nat.zero_le _⟩ (fun H locs hP hD hS => ?_)
    refine lv_goto (tgt := 76) hx hb dX9_jump_24 (by decide) ?_
    have e9 : (F_X9_jump xw xp xM xE xL xo xi xj xn xz xmw xmp xr xd xwt xf ) = (F_X9_jump_76 xM xo xi xj xn xz xr xf xw xp xE xL (F_X9_need ((16 : Int32) + xi) (0 : Int32)) xmw xmp xd xwt) := by rw [F_X9_jump, if_pos c1]
    rw [e9] at hV
    exact j_X9_jump_76 dC dI cI cJ hX x1 x2 x3 x4 x5 x6 x7 x8 xt xw xp xs xc xM xE xL xo xi xj xk xn xz xa xg xmw xmp xr xd xwt xf xrd xu C0 hK hZ hi hj hk hnum xw xp xE xL (F_X9_need ((16 : Int32) + xi) (0 : Int32)) xmw xmp xd xwt hV ls (lv_sub hl [0] rfl) hP hD hS
theorem c_X9_jump (l : Launch) (dC : Nat → ClassId) (dI : Nat → Nat → Nat) (cI cJ : ClassId) (hX x1 x2 x3 x4 x5 x6 x7 x8 : Nat) (xt : Int32) (xw : Int32) (xp : Int32) (xs : Int32) (xc : Int64) (xM : Int64) (xE : Int64) (xL : Int64) (xo : Int32) (xi : Int32) (xj : Int32) (xk : Int32) (xn : Int32) (xz : Int32) (xa : Int32) (xg : Int32) (xmw : Nat → Int64) (xmp : Nat → Int64) (xr : Nat → Int64) (xd : Nat → Int32) (xwt : Nat → Int64) (xf : Nat → Int64) (xrd : Nat → Int64) (xu : Nat → Int64) (hi : R8 xi) (hj : R8 xj) (hk : R8 xk) (hnum : ¬ xn < 0) : WrV false l yX9_jump wsX9_jump rm_X9_jump (dC, dI) [(cI, .int), (cJ, .long)] [(hX, .inr (6, [.int xt, .ref x1, .ref x2, .ref x3, .int xw, .int xp, .int xs, .long xc, .ref x4, .ref x5, .ref x6, .ref x7, .ref x8, .long xM, .long xE, .long xL, .int xo, .int xi, .int xj, .int xk, .int xn, .int xz, .int xa, .int xg])), (x1, .inl (cJ, 512, .inr (.inl xmw))), (x2, .inl (cJ, 512, .inr (.inl xmp))), (x3, .inl (cJ, 24, .inr (.inl xr))), (x4, .inl (cI, 8, .inl xd)), (x5, .inl (cJ, 5, .inr (.inl xwt))), (x6, .inl (cJ, 24, .inr (.inl xf))), (x7, .inl (cJ, 24, .inr (.inl xrd))), (x8, .inl (cJ, 6, .inr (.inl xu)))] [(hX, .inr (6, [.int xt, .ref x1, .ref x2, .ref x3, .int ((F_X9_jump xw xp xM xE xL xo xi xj xn xz xmw xmp xr xd xwt xf ).1), .int ((F_X9_jump xw xp xM xE xL xo xi xj xn xz xmw xmp xr xd xwt xf ).2.1), .int xs, .long xc, .ref x4, .ref x5, .ref x6, .ref x7, .ref x8, .long xM, .long ((F_X9_jump xw xp xM xE xL xo xi xj xn xz xmw xmp xr xd xwt xf ).2.2.1), .long ((F_X9_jump xw xp xM xE xL xo xi xj xn xz xmw xmp xr xd xwt xf ).2.2.2.1), .int xo, .int xi, .int xj, .int xk, .int xn, .int xz, .int ((F_X9_jump xw xp xM xE xL xo xi xj xn xz xmw xmp xr xd xwt xf ).2.2.2.2.1), .int xg])), (x1, .inl (cJ, 512, .inr (.inl ((F_X9_jump xw xp xM xE xL xo xi xj xn xz xmw xmp xr xd xwt xf ).2.2.2.2.2.1)))), (x2, .inl (cJ, 512, .inr (.inl ((F_X9_jump xw xp xM xE xL xo xi xj xn xz xmw xmp xr xd xwt xf ).2.2.2.2.2.2.1)))), (x3, .inl (cJ, 24, .inr (.inl xr))), (x4, .inl (cI, 8, .inl ((F_X9_jump xw xp xM xE xL xo xi xj xn xz xmw xmp xr xd xwt xf ).2.2.2.2.2.2.2.1))), (x5, .inl (cJ, 5, .inr (.inl ((F_X9_jump xw xp xM xE xL xo xi xj xn xz xmw xmp xr xd xwt xf ).2.2.2.2.2.2.2.2)))), (x6, .inl (cJ, 24, .inr (.inl xf))), (x7, .inl (cJ, 24, .inr (.inl xrd))), (x8, .inl (cJ, 6, .inr (.inl xu)))] [.ref hX] := by
  refine WrV.mk (cc := cX9_jump) (nL := 5) (ret := none) [(0, .ref hX)] (by decide) rfl (Nat.le_of_ble_eq_true rfl) rfl ?_
  intro p e s m below meth c C0 hP hK hD hS hZ ls hl
  exact w_X9_jump dC dI cI cJ hX x1 x2 x3 x4 x5 x6 x7 x8 xt xw xp xs xc xM xE xL xo xi xj xk xn xz xa xg xmw xmp xr xd xwt xf xrd xu C0 hK hZ hi hj hk hnum rfl ls hl hP hD hS
