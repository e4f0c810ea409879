-- X9_isUnknown
def F_X9_isUnknown_89 (xp : Int32) (xz : Int32) : Int32 :=
  (if xz = (2 : Int32) then (if xp = (3 : Int32) then (1 : Int32) else (0 : Int32)) else (0 : Int32))
def F_X9_isUnknown_68 (xp : Int32) (xo : Int32) (xi : Int32) (xz : Int32) (t0 : Int32) : Int32 :=
  (if t0 = 0 then (1 : Int32) else (if xo = (3 : Int32) then (if (3 : Int32) < xi then (1 : Int32) else (F_X9_isUnknown_89 xp xz )) else (F_X9_isUnknown_89 xp xz )))
def F_X9_isUnknown_63 (xp : Int32) (xo : Int32) (xi : Int32) (xz : Int32) : Int32 :=
  (F_X9_isUnknown_68 xp xo xi xz (1 : Int32))
def F_X9_isUnknown (xp : Int32) (xo : Int32) (xi : Int32) (xz : Int32) : Int32 :=
  (if xo < (20 : Int32) then (F_X9_isUnknown_63 xp xo xi xz ) else (if xo = (30 : Int32) then (F_X9_isUnknown_63 xp xo xi xz ) else (if xo = (31 : Int32) then (F_X9_isUnknown_63 xp xo xi xz ) else (if xo = (35 : Int32) then (F_X9_isUnknown_63 xp xo xi xz ) else (if xo = (38 : Int32) then (F_X9_isUnknown_63 xp xo xi xz ) else (if xo = (39 : Int32) then (F_X9_isUnknown_63 xp xo xi xz ) else (if xo < (40 : Int32) then (F_X9_isUnknown_68 xp xo xi xz (0 : Int32)) else (F_X9_isUnknown_63 xp xo xi xz ))))))))
abbrev rm_X9_isUnknown : Room := { frames := 0, cells := 0, slots := 0, locals := 0 }
set_option maxRecDepth 20000 in
theorem mi_X9_isUnknown_X9 : ∀ w ∈ wsX90, w ∈ wsX9_isUnknown := by decide +kernel
set_option maxRecDepth 20000 in
theorem mm_X9_isUnknown_f53 : Cond.fieldLink RX9 53 "ScoreboardCoreModel" "parcel" "I" ∈ wsX9_isUnknown := by decide +kernel
set_option maxRecDepth 20000 in
theorem mm_X9_isUnknown_f68 : Cond.fieldLink RX9 68 "ScoreboardCoreModel" "op" "I" ∈ wsX9_isUnknown := by decide +kernel
set_option maxRecDepth 20000 in
theorem mm_X9_isUnknown_f71 : Cond.fieldLink RX9 71 "ScoreboardCoreModel" "i" "I" ∈ wsX9_isUnknown := by decide +kernel
set_option maxRecDepth 20000 in
theorem mm_X9_isUnknown_f74 : Cond.fieldLink RX9 74 "ScoreboardCoreModel" "size" "I" ∈ wsX9_isUnknown := by decide +kernel
set_option maxHeartbeats 4000000 in
set_option maxRecDepth 100000 in
theorem j_X9_isUnknown_89 {p : Program} {l : Launch} {e : Env} {s : State} {m : MethodId} {below : List Frame} {meth : Method} {c : Code} {args : Array Value} (dC : Nat → ClassId) (dI : Nat → Nat → Nat) (cI cJ : ClassId) (hX x1 x2 x3 x4 x5 x6 x7 x8 : Nat) (xt : Int32) (xw : Int32) (xp : Int32) (xs : Int32) (xc : Int64) (xM : Int64) (xE : Int64) (xL : Int64) (xo : Int32) (xi : Int32) (xj : Int32) (xk : Int32) (xn : Int32) (xz : Int32) (xa : Int32) (xg : Int32) (xmw : Nat → Int64) (xmp : Nat → Int64) (xr : Nat → Int64) (xd : Nat → Int32) (xwt : Nat → Int64) (xf : Nat → Int64) (xrd : Nat → Int64) (xu : Nat → Int64) (C0 : Cx p s m meth c cX9_isUnknown 2 (some .boolean) wsX9_isUnknown RX9 args) (hK : va_K (dC, dI) vwCl [(cI, .int), (cJ, .long)] s) (hP : va_P (dC, dI) vwCl [(hX, .inr (6, [.int xt, .ref x1, .ref x2, .ref x3, .int xw, .int xp, .int xs, .long xc, .ref x4, .ref x5, .ref x6, .ref x7, .ref x8, .long xM, .long xE, .long xL, .int xo, .int xi, .int xj, .int xk, .int xn, .int xz, .int xa, .int xg])), (x1, .inl (cJ, 512, .inr (.inl xmw))), (x2, .inl (cJ, 512, .inr (.inl xmp))), (x3, .inl (cJ, 24, .inr (.inl xr))), (x4, .inl (cI, 8, .inl xd)), (x5, .inl (cJ, 5, .inr (.inl xwt))), (x6, .inl (cJ, 24, .inr (.inl xf))), (x7, .inl (cJ, 24, .inr (.inl xrd))), (x8, .inl (cJ, 6, .inr (.inl xu)))] s.heap) {V : Int32} (hV : (F_X9_isUnknown_89 xp xz ) = V) (ls : Array Slot) (hl : lv_has ls 2 [(0, .ref hX)]) : W p l e rm_X9_isUnknown s m args below meth c s.heap [] 0 0 (MQ below (vp_Si (fun r => r = V)) args s 0 0 (fun _ => False)) (F0 m 89 ls []) := by
  obtain ⟨hx, hb, hr, hlk, hml, hown, hts⟩ := id C0
  refine lv_aload_n hx hb dX9_isUnknown_89 rfl (lv_at hl 0 rfl) ?_
  refine va_get (D := (dC, dI)) (ci := 6) (v := .int xz) (C := RX9) (T := TX9) (N := 24) hx hb hts mi_X9_isUnknown_X9 hown hK hP 0 rfl rfl 21 (by decide) (hts (.fieldLink RX9 74 "ScoreboardCoreModel" "size" "I") mm_X9_isUnknown_f74) (fun _ h9 => h9) rfl dX9_isUnknown_90 ?_
  refine lv_iconst (v := (2 : Int32)) hx hb dX9_isUnknown_93 (by decide) ?_
  refine lv_icmp_ne (x := xz) (y := (2 : Int32)) (tgt := 109) hx hb dX9_isUnknown_94 (by decide) (fun c1 => ?_) (fun c1 => ?_)
  · refine lv_iconst (v := (0 : Int32)) hx hb dX9_isUnknown_109 (by decide) ?_
    have e9 : (F_X9_isUnknown_89 xp xz ) = (0 : Int32) := by rw [F_X9_isUnknown_89, if_neg c1]
    rw [e9] at hV
    subst hV
    exact roRetZ C0 rfl rfl dX9_isUnknown_110
  · refine lv_aload_n hx hb dX9_isUnknown_97 rfl (lv_at hl 0 rfl) ?_
    refine va_get (D := (dC, dI)) (ci := 6) (v := .int xp) (C := RX9) (T := TX9) (N := 24) hx hb hts mi_X9_isUnknown_X9 hown hK hP 0 rfl rfl 5 (by decide) (hts (.fieldLink RX9 53 "ScoreboardCoreModel" "parcel" "I") mm_X9_isUnknown_f53) (fun _ h9 => h9) rfl dX9_isUnknown_98 ?_
    refine lv_iconst (v := (3 : Int32)) hx hb dX9_isUnknown_101 (by decide) ?_
    refine lv_icmp_ne (x := xp) (y := (3 : Int32)) (tgt := 109) hx hb dX9_isUnknown_102 (by decide) (fun c2 => ?_) (fun c2 => ?_)
    · refine lv_iconst (v := (0 : Int32)) hx hb dX9_isUnknown_109 (by decide) ?_
      have e9 : (F_X9_isUnknown_89 xp xz ) = (0 : Int32) := by rw [F_X9_isUnknown_89, if_pos c1, if_neg c2]
      rw [e9] at hV
      subst hV
      exact roRetZ C0 rfl rfl dX9_isUnknown_110
    · refine lv_iconst (v := (1 : Int32)) hx hb dX9_isUnknown_105 (by decide) ?_
      refine lv_goto (tgt := 110) hx hb dX9_isUnknown_106 (by decide) ?_
      have e9 : (F_X9_isUnknown_89 xp xz ) = (1 : Int32) := by rw [F_X9_isUnknown_89, if_pos c1, if_pos c2]
      rw [e9] at hV
      subst hV
      exact roRetZ C0 rfl rfl dX9_isUnknown_110
set_option maxHeartbeats 4000000 in
set_option maxRecDepth 100000 in
theorem j_X9_isUnknown_68 {p : Program} {l : Launch} {e : Env} {s : State} {m : MethodId} {below : List Frame} {meth : Method} {c : Code} {args : Array Value} (dC : Nat → ClassId) (dI : Nat → Nat → Nat) (cI cJ : ClassId) (hX x1 x2 x3 x4 x5 x6 x7 x8 : Nat) (xt : Int32) (xw : Int32) (xp : Int32) (xs : Int32) (xc : Int64) (xM : Int64) (xE : Int64) (xL : Int64) (xo : Int32) (xi : Int32) (xj : Int32) (xk : Int32) (xn : Int32) (xz : Int32) (xa : Int32) (xg : Int32) (xmw : Nat → Int64) (xmp : Nat → Int64) (xr : Nat → Int64) (xd : Nat → Int32) (xwt : Nat → Int64) (xf : Nat → Int64) (xrd : Nat → Int64) (xu : Nat → Int64) (C0 : Cx p s m meth c cX9_isUnknown 2 (some .boolean) wsX9_isUnknown RX9 args) (hK : va_K (dC, dI) vwCl [(cI, .int), (cJ, .long)] s) (hP : va_P (dC, dI) vwCl [(hX, .inr (6, [.int xt, .ref x1, .ref x2, .ref x3, .int xw, .int xp, .int xs, .long xc, .ref x4, .ref x5, .ref x6, .ref x7, .ref x8, .long xM, .long xE, .long xL, .int xo, .int xi, .int xj, .int xk, .int xn, .int xz, .int xa, .int xg])), (x1, .inl (cJ, 512, .inr (.inl xmw))), (x2, .inl (cJ, 512, .inr (.inl xmp))), (x3, .inl (cJ, 24, .inr (.inl xr))), (x4, .inl (cI, 8, .inl xd)), (x5, .inl (cJ, 5, .inr (.inl xwt))), (x6, .inl (cJ, 24, .inr (.inl xf))), (x7, .inl (cJ, 24, .inr (.inl xrd))), (x8, .inl (cJ, 6, .inr (.inl xu)))] s.heap) (t0 : Int32) {V : Int32} (hV : (F_X9_isUnknown_68 xp xo xi xz t0) = V) (ls : Array Slot) (hl : lv_has ls 2 [(0, .ref hX)]) : W p l e rm_X9_isUnknown s m args below meth c s.heap [] 0 0 (MQ below (vp_Si (fun r => r = V)) args s 0 0 (fun _ => False)) (F0 m 68 ls [.int t0]) := by
  obtain ⟨hx, hb, hr, hlk, hml, hown, hts⟩ := id C0
  refine lv_istore_n (lv' := [(1, .int t0), (0, .ref hX)]) hx hb dX9_isUnknown_68 rfl hl (by decide) rfl (fun ls hl => ?_)
  refine lv_iload_n hx hb dX9_isUnknown_69 rfl (lv_at hl 0 rfl) ?_
  refine lv_if_eq (x := t0) (tgt := 105) hx hb dX9_isUnknown_70 (by decide) (fun c1 => ?_) (fun c1 => ?_)
  · refine lv_iconst (v := (1 : Int32)) hx hb dX9_isUnknown_105 (by decide) ?_
    refine lv_goto (tgt := 110) hx hb dX9_isUnknown_106 (by decide) ?_
    have e9 : (F_X9_isUnknown_68 xp xo xi xz t0) = (1 : Int32) := by rw [F_X9_isUnknown_68, if_pos c1]
    rw [e9] at hV
    subst hV
    exact roRetZ C0 rfl rfl dX9_isUnknown_110
  · refine lv_aload_n hx hb dX9_isUnknown_73 rfl (lv_at hl 1 rfl) ?_
    refine va_get (D := (dC, dI)) (ci := 6) (v := .int xo) (C := RX9) (T := TX9) (N := 24) hx hb hts mi_X9_isUnknown_X9 hown hK hP 0 rfl rfl 16 (by decide) (hts (.fieldLink RX9 68 "ScoreboardCoreModel" "op" "I") mm_X9_isUnknown_f68) (fun _ h9 => h9) rfl dX9_isUnknown_74 ?_
    refine lv_iconst (v := (3 : Int32)) hx hb dX9_isUnknown_77 (by decide) ?_
    refine lv_icmp_ne (x := xo) (y := (3 : Int32)) (tgt := 89) hx hb dX9_isUnknown_78 (by decide) (fun c2 => ?_) (fun c2 => ?_)
    · have e9 : (F_X9_isUnknown_68 xp xo xi xz t0) = (F_X9_isUnknown_89 xp xz ) := by rw [F_X9_isUnknown_68, if_neg c1, if_neg c2]
      rw [e9] at hV
      exact j_X9_isUnknown_89 dC dI cI cJ hX x1 x2 x3 x4 x5 x6 x7 x8 xt xw xp xs xc xM xE xL xo xi xj xk xn xz xa xg xmw xmp xr xd xwt xf xrd xu C0 hK hP  hV ls (lv_sub hl [1] rfl)
    · refine lv_aload_n hx hb dX9_isUnknown_81 rfl (lv_at hl 1 rfl) ?_
      refine va_get (D := (dC, dI)) (ci := 6) (v := .int xi) (C := RX9) (T := TX9) (N := 24) hx hb hts mi_X9_isUnknown_X9 hown hK hP 0 rfl rfl 17 (by decide) (hts (.fieldLink RX9 71 "ScoreboardCoreModel" "i" "I") mm_X9_isUnknown_f71) (fun _ h9 => h9) rfl dX9_isUnknown_82 ?_
      refine lv_iconst (v := (3 : Int32)) hx hb dX9_isUnknown_85 (by decide) ?_
      refine lv_icmp_gt (x := xi) (y := (3 : Int32)) (tgt := 105) hx hb dX9_isUnknown_86 (by decide) (fun c3 => ?_) (fun c3 => ?_)
      · refine lv_iconst (v := (1 : Int32)) hx hb dX9_isUnknown_105 (by decide) ?_
        refine lv_goto (tgt := 110) hx hb dX9_isUnknown_106 (by decide) ?_
        have e9 : (F_X9_isUnknown_68 xp xo xi xz t0) = (1 : Int32) := by rw [F_X9_isUnknown_68, if_neg c1, if_pos c2, if_pos c3]
        rw [e9] at hV
        subst hV
        exact roRetZ C0 rfl rfl dX9_isUnknown_110
      · have e9 : (F_X9_isUnknown_68 xp xo xi xz t0) = (F_X9_isUnknown_89 xp xz ) := by rw [F_X9_isUnknown_68, if_neg c1, if_pos c2, if_neg c3]
        rw [e9] at hV
        exact j_X9_isUnknown_89 dC dI cI cJ hX x1 x2 x3 x4 x5 x6 x7 x8 xt xw xp xs xc xM xE xL xo xi xj xk xn xz xa xg xmw xmp xr xd xwt xf xrd xu C0 hK hP  hV ls (lv_sub hl [1] rfl)
set_option maxHeartbeats 4000000 in
set_option maxRecDepth 100000 in
theorem j_X9_isUnknown_63 {p : Program} {l : Launch} {e : Env} {s : State} {m : MethodId} {below : List Frame} {meth : Method} {c : Code} {args : Array Value} (dC : Nat → ClassId) (dI : Nat → Nat → Nat) (cI cJ : ClassId) (hX x1 x2 x3 x4 x5 x6 x7 x8 : Nat) (xt : Int32) (xw : Int32) (xp : Int32) (xs : Int32) (xc : Int64) (xM : Int64) (xE : Int64) (xL : Int64) (xo : Int32) (xi : Int32) (xj : Int32) (xk : Int32) (xn : Int32) (xz : Int32) (xa : Int32) (xg : Int32) (xmw : Nat → Int64) (xmp : Nat → Int64) (xr : Nat → Int64) (xd : Nat → Int32) (xwt : Nat → Int64) (xf : Nat → Int64) (xrd : Nat → Int64) (xu : Nat → Int64) (C0 : Cx p s m meth c cX9_isUnknown 2 (some .boolean) wsX9_isUnknown RX9 args) (hK : va_K (dC, dI) vwCl [(cI, .int), (cJ, .long)] s) (hP : va_P (dC, dI) vwCl [(hX, .inr (6, [.int xt, .ref x1, .ref x2, .ref x3, .int xw, .int xp, .int xs, .long xc, .ref x4, .ref x5, .ref x6, .ref x7, .ref x8, .long xM, .long xE, .long xL, .int xo, .int xi, .int xj, .int xk, .int xn, .int xz, .int xa, .int xg])), (x1, .inl (cJ, 512, .inr (.inl xmw))), (x2, .inl (cJ, 512, .inr (.inl xmp))), (x3, .inl (cJ, 24, .inr (.inl xr))), (x4, .inl (cI, 8, .inl xd)), (x5, .inl (cJ, 5, .inr (.inl xwt))), (x6, .inl (cJ, 24, .inr (.inl xf))), (x7, .inl (cJ, 24, .inr (.inl xrd))), (x8, .inl (cJ, 6, .inr (.inl xu)))] s.heap) {V : Int32} (hV : (F_X9_isUnknown_63 xp xo xi xz ) = V) (ls : Array Slot) (hl : lv_has ls 2 [(0, .ref hX)]) : W p l e rm_X9_isUnknown s m args below meth c s.heap [] 0 0 (MQ below (vp_Si (fun r => r = V)) args s 0 0 (fun _ => False)) (F0 m 63 ls []) := by
  obtain ⟨hx, hb, hr, hlk, hml, hown, hts⟩ := id C0
  refine lv_iconst (v := (1 : Int32)) hx hb dX9_isUnknown_63 (by decide) ?_
  refine lv_goto (tgt := 68) hx hb dX9_isUnknown_64 (by decide) ?_
  have e9 : (F_X9_isUnknown_63 xp xo xi xz ) = (F_X9_isUnknown_68 xp xo xi xz (1 : Int32)) := by rw [F_X9_isUnknown_63]
  rw [e9] at hV
  exact j_X9_isUnknown_68 dC dI cI cJ hX x1 x2 x3 x4 x5 x6 x7 x8 xt xw xp xs xc xM xE xL xo xi xj xk xn xz xa xg xmw xmp xr xd xwt xf xrd xu C0 hK hP (1 : Int32) hV ls (lv_sub hl [0] rfl)
set_option maxHeartbeats 4000000 in
set_option maxRecDepth 100000 in
theorem w_X9_isUnknown {p : Program} {l : Launch} {e : Env} {s : State} {m : MethodId} {below : List Frame} {meth : Method} {c : Code} {args : Array Value} (dC : Nat → ClassId) (dI : Nat → Nat → Nat) (cI cJ : ClassId) (hX x1 x2 x3 x4 x5 x6 x7 x8 : Nat) (xt : Int32) (xw : Int32) (xp : Int32) (xs : Int32) (xc : Int64) (xM : Int64) (xE : Int64) (xL : Int64) (xo : Int32) (xi : Int32) (xj : Int32) (xk : Int32) (xn : Int32) (xz : Int32) (xa : Int32) (xg : Int32) (xmw : Nat → Int64) (xmp : Nat → Int64) (xr : Nat → Int64) (xd : Nat → Int32) (xwt : Nat → Int64) (xf : Nat → Int64) (xrd : Nat → Int64) (xu : Nat → Int64) (C0 : Cx p s m meth c cX9_isUnknown 2 (some .boolean) wsX9_isUnknown RX9 args) (hK : va_K (dC, dI) vwCl [(cI, .int), (cJ, .long)] s) (hP : va_P (dC, dI) vwCl [(hX, .inr (6, [.int xt, .ref x1, .ref x2, .ref x3, .int xw, .int xp, .int xs, .long xc, .ref x4, .ref x5, .ref x6, .ref x7, .ref x8, .long xM, .long xE, .long xL, .int xo, .int xi, .int xj, .int xk, .int xn, .int xz, .int xa, .int xg])), (x1, .inl (cJ, 512, .inr (.inl xmw))), (x2, .inl (cJ, 512, .inr (.inl xmp))), (x3, .inl (cJ, 24, .inr (.inl xr))), (x4, .inl (cI, 8, .inl xd)), (x5, .inl (cJ, 5, .inr (.inl xwt))), (x6, .inl (cJ, 24, .inr (.inl xf))), (x7, .inl (cJ, 24, .inr (.inl xrd))), (x8, .inl (cJ, 6, .inr (.inl xu)))] s.heap) {V : Int32} (hV : (F_X9_isUnknown xp xo xi xz ) = V) (ls : Array Slot) (hl : lv_has ls 2 [(0, .ref hX)]) : W p l e rm_X9_isUnknown s m args below meth c s.heap [] 0 0 (MQ below (vp_Si (fun r => r = V)) args s 0 0 (fun _ => False)) (F0 m 0 ls []) := by
  obtain ⟨hx, hb, hr, hlk, hml, hown, hts⟩ := id C0
  refine lv_aload_n hx hb dX9_isUnknown_0 rfl (lv_at hl 0 rfl) ?_
  refine va_get (D := (dC, dI)) (ci := 6) (v := .int xo) (C := RX9) (T := TX9) (N := 24) hx hb hts mi_X9_isUnknown_X9 hown hK hP 0 rfl rfl 16 (by decide) (hts (.fieldLink RX9 68 "ScoreboardCoreModel" "op" "I") mm_X9_isUnknown_f68) (fun _ h9 => h9) rfl dX9_isUnknown_1 ?_
  refine lv_bipush (v := (20 : Int32)) hx hb dX9_isUnknown_4 (by decide) ?_
  refine lv_icmp_lt (x := xo) (y := (20 : Int32)) (tgt := 63) hx hb dX9_isUnknown_6 (by decide) (fun c1 => ?_) (fun c1 => ?_)
  · have e9 : (F_X9_isUnknown xp xo xi xz ) = (F_X9_isUnknown_63 xp xo xi xz ) := by rw [F_X9_isUnknown, if_pos c1]
    rw [e9] at hV
    exact j_X9_isUnknown_63 dC dI cI cJ hX x1 x2 x3 x4 x5 x6 x7 x8 xt xw xp xs xc xM xE xL xo xi xj xk xn xz xa xg xmw xmp xr xd xwt xf xrd xu C0 hK hP  hV ls (lv_sub hl [0] rfl)
  · refine lv_aload_n hx hb dX9_isUnknown_9 rfl (lv_at hl 0 rfl) ?_
    refine va_get (D := (dC, dI)) (ci := 6) (v := .int xo) (C := RX9) (T := TX9) (N := 24) hx hb hts mi_X9_isUnknown_X9 hown hK hP 0 rfl rfl 16 (by decide) (hts (.fieldLink RX9 68 "ScoreboardCoreModel" "op" "I") mm_X9_isUnknown_f68) (fun _ h9 => h9) rfl dX9_isUnknown_10 ?_
    refine lv_bipush (v := (30 : Int32)) hx hb dX9_isUnknown_13 (by decide) ?_
    refine lv_icmp_eq (x := xo) (y := (30 : Int32)) (tgt := 63) hx hb dX9_isUnknown_15 (by decide) (fun c2 => ?_) (fun c2 => ?_)
    · have e9 : (F_X9_isUnknown xp xo xi xz ) = (F_X9_isUnknown_63 xp xo xi xz ) := by rw [F_X9_isUnknown, if_neg c1, if_pos c2]
      rw [e9] at hV
      exact j_X9_isUnknown_63 dC dI cI cJ hX x1 x2 x3 x4 x5 x6 x7 x8 xt xw xp xs xc xM xE xL xo xi xj xk xn xz xa xg xmw xmp xr xd xwt xf xrd xu C0 hK hP  hV ls (lv_sub hl [0] rfl)
    · refine lv_aload_n hx hb dX9_isUnknown_18 rfl (lv_at hl 0 rfl) ?_
      refine va_get (D := (dC, dI)) (ci := 6) (v := .int xo) (C := RX9) (T := TX9) (N := 24) hx hb hts mi_X9_isUnknown_X9 hown hK hP 0 rfl rfl 16 (by decide) (hts (.fieldLink RX9 68 "ScoreboardCoreModel" "op" "I") mm_X9_isUnknown_f68) (fun _ h9 => h9) rfl dX9_isUnknown_19 ?_
      refine lv_bipush (v := (31 : Int32)) hx hb dX9_isUnknown_22 (by decide) ?_
      refine lv_icmp_eq (x := xo) (y := (31 : Int32)) (tgt := 63) hx hb dX9_isUnknown_24 (by decide) (fun c3 => ?_) (fun c3 => ?_)
      · have e9 : (F_X9_isUnknown xp xo xi xz ) = (F_X9_isUnknown_63 xp xo xi xz ) := by rw [F_X9_isUnknown, if_neg c1, if_neg c2, if_pos c3]
        rw [e9] at hV
        exact j_X9_isUnknown_63 dC dI cI cJ hX x1 x2 x3 x4 x5 x6 x7 x8 xt xw xp xs xc xM xE xL xo xi xj xk xn xz xa xg xmw xmp xr xd xwt xf xrd xu C0 hK hP  hV ls (lv_sub hl [0] rfl)
      · refine lv_aload_n hx hb dX9_isUnknown_27 rfl (lv_at hl 0 rfl) ?_
        refine va_get (D := (dC, dI)) (ci := 6) (v := .int xo) (C := RX9) (T := TX9) (N := 24) hx hb hts mi_X9_isUnknown_X9 hown hK hP 0 rfl rfl 16 (by decide) (hts (.fieldLink RX9 68 "ScoreboardCoreModel" "op" "I") mm_X9_isUnknown_f68) (fun _ h9 => h9) rfl dX9_isUnknown_28 ?_
        refine lv_bipush (v := (35 : Int32)) hx hb dX9_isUnknown_31 (by decide) ?_
        refine lv_icmp_eq (x := xo) (y := (35 : Int32)) (tgt := 63) hx hb dX9_isUnknown_33 (by decide) (fun c4 => ?_) (fun c4 => ?_)
        · have e9 : (F_X9_isUnknown xp xo xi xz ) = (F_X9_isUnknown_63 xp xo xi xz ) := by rw [F_X9_isUnknown, if_neg c1, if_neg c2, if_neg c3, if_pos c4]
          rw [e9] at hV
          exact j_X9_isUnknown_63 dC dI cI cJ hX x1 x2 x3 x4 x5 x6 x7 x8 xt xw xp xs xc xM xE xL xo xi xj xk xn xz xa xg xmw xmp xr xd xwt xf xrd xu C0 hK hP  hV ls (lv_sub hl [0] rfl)
        · refine lv_aload_n hx hb dX9_isUnknown_36 rfl (lv_at hl 0 rfl) ?_
          refine va_get (D := (dC, dI)) (ci := 6) (v := .int xo) (C := RX9) (T := TX9) (N := 24) hx hb hts mi_X9_isUnknown_X9 hown hK hP 0 rfl rfl 16 (by decide) (hts (.fieldLink RX9 68 "ScoreboardCoreModel" "op" "I") mm_X9_isUnknown_f68) (fun _ h9 => h9) rfl dX9_isUnknown_37 ?_
          refine lv_bipush (v := (38 : Int32)) hx hb dX9_isUnknown_40 (by decide) ?_
          refine lv_icmp_eq (x := xo) (y := (38 : Int32)) (tgt := 63) hx hb dX9_isUnknown_42 (by decide) (fun c5 => ?_) (fun c5 => ?_)
          · have e9 : (F_X9_isUnknown xp xo xi xz ) = (F_X9_isUnknown_63 xp xo xi xz ) := by rw [F_X9_isUnknown, if_neg c1, if_neg c2, if_neg c3, if_neg c4, if_pos c5]
            rw [e9] at hV
            exact j_X9_isUnknown_63 dC dI cI cJ hX x1 x2 x3 x4 x5 x6 x7 x8 xt xw xp xs xc xM xE xL xo xi xj xk xn xz xa xg xmw xmp xr xd xwt xf xrd xu C0 hK hP  hV ls (lv_sub hl [0] rfl)
          · refine lv_aload_n hx hb dX9_isUnknown_45 rfl (lv_at hl 0 rfl) ?_
            refine va_get (D := (dC, dI)) (ci := 6) (v := .int xo) (C := RX9) (T := TX9) (N := 24) hx hb hts mi_X9_isUnknown_X9 hown hK hP 0 rfl rfl 16 (by decide) (hts (.fieldLink RX9 68 "ScoreboardCoreModel" "op" "I") mm_X9_isUnknown_f68) (fun _ h9 => h9) rfl dX9_isUnknown_46 ?_
            refine lv_bipush (v := (39 : Int32)) hx hb dX9_isUnknown_49 (by decide) ?_
            refine lv_icmp_eq (x := xo) (y := (39 : Int32)) (tgt := 63) hx hb dX9_isUnknown_51 (by decide) (fun c6 => ?_) (fun c6 => ?_)
            · have e9 : (F_X9_isUnknown xp xo xi xz ) = (F_X9_isUnknown_63 xp xo xi xz ) := by rw [F_X9_isUnknown, if_neg c1, if_neg c2, if_neg c3, if_neg c4, if_neg c5, if_pos c6]
              rw [e9] at hV
              exact j_X9_isUnknown_63 dC dI cI cJ hX x1 x2 x3 x4 x5 x6 x7 x8 xt xw xp xs xc xM xE xL xo xi xj xk xn xz xa xg xmw xmp xr xd xwt xf xrd xu C0 hK hP  hV ls (lv_sub hl [0] rfl)
            · refine lv_aload_n hx hb dX9_isUnknown_54 rfl (lv_at hl 0 rfl) ?_
              refine va_get (D := (dC, dI)) (ci := 6) (v := .int xo) (C := RX9) (T := TX9) (N := 24) hx hb hts mi_X9_isUnknown_X9 hown hK hP 0 rfl rfl 16 (by decide) (hts (.fieldLink RX9 68 "ScoreboardCoreModel" "op" "I") mm_X9_isUnknown_f68) (fun _ h9 => h9) rfl dX9_isUnknown_55 ?_
              refine lv_bipush (v := (40 : Int32)) hx hb dX9_isUnknown_58 (by decide) ?_
              refine lv_icmp_lt (x := xo) (y := (40 : Int32)) (tgt := 67) hx hb dX9_isUnknown_60 (by decide) (fun c7 => ?_) (fun c7 => ?_)
              · refine lv_iconst (v := (0 : Int32)) hx hb dX9_isUnknown_67 (by decide) ?_
                have e9 : (F_X9_isUnknown xp xo xi xz ) = (F_X9_isUnknown_68 xp xo xi xz (0 : Int32)) := by rw [F_X9_isUnknown, if_neg c1, if_neg c2, if_neg c3, if_neg c4, if_neg c5, if_neg c6, if_pos c7]
                rw [e9] at hV
                exact j_X9_isUnknown_68 dC dI cI cJ hX x1 x2 x3 x4 x5 x6 x7 x8 xt xw xp xs xc xM xE xL xo xi xj xk xn xz xa xg xmw xmp xr xd xwt xf xrd xu C0 hK hP (0 : Int32) hV ls (lv_sub hl [0] rfl)
              · have e9 : (F_X9_isUnknown xp xo xi xz ) = (F_X9_isUnknown_63 xp xo xi xz ) := by rw [F_X9_isUnknown, if_neg c1, if_neg c2, if_neg c3, if_neg c4, if_neg c5, if_neg c6, if_neg c7]
                rw [e9] at hV
                exact j_X9_isUnknown_63 dC dI cI cJ hX x1 x2 x3 x4 x5 x6 x7 x8 xt xw xp xs xc xM xE xL xo xi xj xk xn xz xa xg xmw xmp xr xd xwt xf xrd xu C0 hK hP  hV ls (lv_sub hl [0] rfl)
theorem c_X9_isUnknown (l : Launch) (dC : Nat → ClassId) (dI : Nat → Nat → Nat) (cI cJ : ClassId) (hX x1 x2 x3 x4 x5 x6 x7 x8 : Nat) (xt : Int32) (xw : Int32) (xp : Int32) (xs : Int32) (xc : Int64) (xM : Int64) (xE : Int64) (xL : Int64) (xo : Int32) (xi : Int32) (xj : Int32) (xk : Int32) (xn : Int32) (xz : Int32) (xa : Int32) (xg : Int32) (xmw : Nat → Int64) (xmp : Nat → Int64) (xr : Nat → Int64) (xd : Nat → Int32) (xwt : Nat → Int64) (xf : Nat → Int64) (xrd : Nat → Int64) (xu : Nat → Int64) : RoI l yX9_isUnknown wsX9_isUnknown rm_X9_isUnknown (dC, dI) [(cI, .int), (cJ, .long)] [(hX, .inr (6, [.int xt, .ref x1, .ref x2, .ref x3, .int xw, .int xp, .int xs, .long xc, .ref x4, .ref x5, .ref x6, .ref x7, .ref x8, .long xM, .long xE, .long xL, .int xo, .int xi, .int xj, .int xk, .int xn, .int xz, .int xa, .int xg])), (x1, .inl (cJ, 512, .inr (.inl xmw))), (x2, .inl (cJ, 512, .inr (.inl xmp))), (x3, .inl (cJ, 24, .inr (.inl xr))), (x4, .inl (cI, 8, .inl xd)), (x5, .inl (cJ, 5, .inr (.inl xwt))), (x6, .inl (cJ, 24, .inr (.inl xf))), (x7, .inl (cJ, 24, .inr (.inl xrd))), (x8, .inl (cJ, 6, .inr (.inl xu)))] [.ref hX] (F_X9_isUnknown xp xo xi xz ) := by
  refine RoI.mk (cc := cX9_isUnknown) (nL := 2) (ret := (some .boolean)) [(0, .ref hX)] (by decide) rfl (Nat.le_of_ble_eq_true rfl) rfl ?_
  intro p e s m below meth c C0 hP hK ls hl
  exact w_X9_isUnknown dC dI cI cJ hX x1 x2 x3 x4 x5 x6 x7 x8 xt xw xp xs xc xM xE xL xo xi xj xk xn xz xa xg xmw xmp xr xd xwt xf xrd xu C0 hK hP rfl ls hl

-- X9_parcelAt
def F_X9_parcelAt (q : Int32) (xw : Int32) (xmp : Nat → Int64) : Int32 :=
  (((xmp xw.toNatClampNeg) >>> (((15 : Int32) * ((3 : Int32) - q)).toInt64 &&& 63)) &&& (32767 : Int64)).toInt32
abbrev rm_X9_parcelAt : Room := { frames := 0, cells := 0, slots := 0, locals := 0 }
set_option maxRecDepth 20000 in
theorem mi_X9_parcelAt_X9 : ∀ w ∈ wsX90, w ∈ wsX9_parcelAt := by decide +kernel
set_option maxRecDepth 20000 in
theorem mm_X9_parcelAt_f13 : Cond.fieldLink RX9 13 "ScoreboardCoreModel" "program" "[J" ∈ wsX9_parcelAt := by decide +kernel
set_option maxRecDepth 20000 in
theorem mm_X9_parcelAt_f50 : Cond.fieldLink RX9 50 "ScoreboardCoreModel" "word" "I" ∈ wsX9_parcelAt := by decide +kernel
set_option maxRecDepth 20000 in
theorem mm_X9_parcelAt_k77 : Cond.constantLong RX9 77 (32767) ∈ wsX9_parcelAt := by decide +kernel
set_option maxHeartbeats 4000000 in
set_option maxRecDepth 100000 in
theorem w_X9_parcelAt {p : Program} {l : Launch} {e : Env} {s : State} {m : MethodId} {below : List Frame} {meth : Method} {c : Code} {args : Array Value} (dC : Nat → ClassId) (dI : Nat → Nat → Nat) (cI cJ : ClassId) (hX x1 x2 x3 x4 x5 x6 x7 x8 : Nat) (q : Int32) (xt : Int32) (xw : Int32) (xp : Int32) (xs : Int32) (xc : Int64) (xM : Int64) (xE : Int64) (xL : Int64) (xo : Int32) (xi : Int32) (xj : Int32) (xk : Int32) (xn : Int32) (xz : Int32) (xa : Int32) (xg : Int32) (xmw : Nat → Int64) (xmp : Nat → Int64) (xr : Nat → Int64) (xd : Nat → Int32) (xwt : Nat → Int64) (xf : Nat → Int64) (xrd : Nat → Int64) (xu : Nat → Int64) (C0 : Cx p s m meth c cX9_parcelAt 2 (some .int) wsX9_parcelAt RX9 args) (hK : va_K (dC, dI) vwCl [(cI, .int), (cJ, .long)] s) (hP : va_P (dC, dI) vwCl [(hX, .inr (6, [.int xt, .ref x1, .ref x2, .ref x3, .int xw, .int xp, .int xs, .long xc, .ref x4, .ref x5, .ref x6, .ref x7, .ref x8, .long xM, .long xE, .long xL, .int xo, .int xi, .int xj, .int xk, .int xn, .int xz, .int xa, .int xg])), (x1, .inl (cJ, 512, .inr (.inl xmw))), (x2, .inl (cJ, 512, .inr (.inl xmp))), (x3, .inl (cJ, 24, .inr (.inl xr))), (x4, .inl (cI, 8, .inl xd)), (x5, .inl (cJ, 5, .inr (.inl xwt))), (x6, .inl (cJ, 24, .inr (.inl xf))), (x7, .inl (cJ, 24, .inr (.inl xrd))), (x8, .inl (cJ, 6, .inr (.inl xu)))] s.heap) (hw : vp_in xw 512) {V : Int32} (hV : (F_X9_parcelAt q xw xmp ) = V) (ls : Array Slot) (hl : lv_has ls 2 [(0, .ref hX), (1, .int q)]) : W p l e rm_X9_parcelAt s m args below meth c s.heap [] 0 0 (MQ below (vp_Si (fun r => r = V)) args s 0 0 (fun _ => False)) (F0 m 0 ls []) := by
  obtain ⟨hx, hb, hr, hlk, hml, hown, hts⟩ := id C0
  refine lv_aload_n hx hb dX9_parcelAt_0 rfl (lv_at hl 0 rfl) ?_
  refine va_get (D := (dC, dI)) (ci := 6) (v := .ref x2) (C := RX9) (T := TX9) (N := 24) hx hb hts mi_X9_parcelAt_X9 hown hK hP 0 rfl rfl 2 (by decide) (hts (.fieldLink RX9 13 "ScoreboardCoreModel" "program" "[J") mm_X9_parcelAt_f13) (fun _ h9 => h9) rfl dX9_parcelAt_1 ?_
  refine lv_aload_n hx hb dX9_parcelAt_4 rfl (lv_at hl 0 rfl) ?_
  refine va_get (D := (dC, dI)) (ci := 6) (v := .int xw) (C := RX9) (T := TX9) (N := 24) hx hb hts mi_X9_parcelAt_X9 hown hK hP 0 rfl rfl 4 (by decide) (hts (.fieldLink RX9 50 "ScoreboardCoreModel" "word" "I") mm_X9_parcelAt_f50) (fun _ h9 => h9) rfl dX9_parcelAt_5 ?_
  refine va_lald (D := (dC, dI)) hx hb hK hP 2 1 rfl rfl hw dX9_parcelAt_8 ?_
  refine lv_bipush (v := (15 : Int32)) hx hb dX9_parcelAt_9 (by decide) ?_
  refine lv_iconst (v := (3 : Int32)) hx hb dX9_parcelAt_11 (by decide) ?_
  refine lv_iload_n hx hb dX9_parcelAt_12 rfl (lv_at hl 1 rfl) ?_
  refine lv_isub hx hb dX9_parcelAt_13 ?_
  refine lv_imul hx hb dX9_parcelAt_14 ?_
  refine lv_lshr hx hb dX9_parcelAt_15 rfl ?_
  refine lv_ldc2 (v := (32767 : Int64)) hx hb hown (hts _ mm_X9_parcelAt_k77) dX9_parcelAt_16 ?_
  refine lv_land hx hb dX9_parcelAt_19 ?_
  refine lv_l2i hx hb dX9_parcelAt_20 rfl ?_
  have e9 : (F_X9_parcelAt q xw xmp ) = (((xmp xw.toNatClampNeg) >>> (((15 : Int32) * ((3 : Int32) - q)).toInt64 &&& 63)) &&& (32767 : Int64)).toInt32 := by rw [F_X9_parcelAt]
  rw [e9] at hV
  subst hV
  exact roRetI C0 rfl dX9_parcelAt_21
theorem c_X9_parcelAt (l : Launch) (dC : Nat → ClassId) (dI : Nat → Nat → Nat) (cI cJ : ClassId) (hX x1 x2 x3 x4 x5 x6 x7 x8 : Nat) (q : Int32) (xt : Int32) (xw : Int32) (xp : Int32) (xs : Int32) (xc : Int64) (xM : Int64) (xE : Int64) (xL : Int64) (xo : Int32) (xi : Int32) (xj : Int32) (xk : Int32) (xn : Int32) (xz : Int32) (xa : Int32) (xg : Int32) (xmw : Nat → Int64) (xmp : Nat → Int64) (xr : Nat → Int64) (xd : Nat → Int32) (xwt : Nat → Int64) (xf : Nat → Int64) (xrd : Nat → Int64) (xu : Nat → Int64) (hw : vp_in xw 512) : RoI l yX9_parcelAt wsX9_parcelAt rm_X9_parcelAt (dC, dI) [(cI, .int), (cJ, .long)] [(hX, .inr (6, [.int xt, .ref x1, .ref x2, .ref x3, .int xw, .int xp, .int xs, .long xc, .ref x4, .ref x5, .ref x6, .ref x7, .ref x8, .long xM, .long xE, .long xL, .int xo, .int xi, .int xj, .int xk, .int xn, .int xz, .int xa, .int xg])), (x1, .inl (cJ, 512, .inr (.inl xmw))), (x2, .inl (cJ, 512, .inr (.inl xmp))), (x3, .inl (cJ, 24, .inr (.inl xr))), (x4, .inl (cI, 8, .inl xd)), (x5, .inl (cJ, 5, .inr (.inl xwt))), (x6, .inl (cJ, 24, .inr (.inl xf))), (x7, .inl (cJ, 24, .inr (.inl xrd))), (x8, .inl (cJ, 6, .inr (.inl xu)))] [.ref hX, .int q] (F_X9_parcelAt q xw xmp ) := by
  refine RoI.mk (cc := cX9_parcelAt) (nL := 2) (ret := (some .int)) [(0, .ref hX), (1, .int q)] (by decide) rfl (Nat.le_of_ble_eq_true rfl) rfl ?_
  intro p e s m below meth c C0 hP hK ls hl
  exact w_X9_parcelAt dC dI cI cJ hX x1 x2 x3 x4 x5 x6 x7 x8 q xt xw xp xs xc xM xE xL xo xi xj xk xn xz xa xg xmw xmp xr xd xwt xf xrd xu C0 hK hP hw rfl ls hl

-- X9_take
def F_X9_take_104 (t0 : Int32) (xo' : Int32) (xi' : Int32) (xj' : Int32) (xk' : Int32) (xn' : Int32) (xz' : Int32) : Int32 × Int32 × Int32 × Int32 × Int32 × Int32 :=
  (xo', xi', xj', xk', t0, xz')
def F_X9_take_103 (xo' : Int32) (xi' : Int32) (xj' : Int32) (xk' : Int32) (xn' : Int32) (xz' : Int32) : Int32 × Int32 × Int32 × Int32 × Int32 × Int32 :=
  (F_X9_take_104 (0 : Int32) xo' xi' xj' xk' xn' xz')
def F_X9_take_62 (xw : Int32) (xp : Int32) (xmp : Nat → Int64) (t0 : Int32) (xo' : Int32) (xi' : Int32) (xj' : Int32) (xk' : Int32) (xn' : Int32) (xz' : Int32) : Int32 × Int32 × Int32 × Int32 × Int32 × Int32 :=
  (if t0 = (2 : Int32) then (if (3 : Int32) ≤ xp then (F_X9_take_103 xo' xi' xj' xk' xn' t0) else (F_X9_take_104 ((xk' <<< ((15 : Int32) &&& 31)) ||| (F_X9_parcelAt (xp + (1 : Int32)) xw xmp)) xo' xi' xj' xk' xn' t0)) else (F_X9_take_103 xo' xi' xj' xk' xn' t0))
def F_X9_take (xw : Int32) (xp : Int32) (xn : Int32) (xz : Int32) (xmp : Nat → Int64) : Int32 × Int32 × Int32 × Int32 × Int32 × Int32 :=
  (if (F_X9_hasNumber ((F_X9_parcelAt xp xw xmp) >>> ((9 : Int32) &&& 31))) = 0 then (F_X9_take_62 xw xp xmp (1 : Int32) ((F_X9_parcelAt xp xw xmp) >>> ((9 : Int32) &&& 31)) (((F_X9_parcelAt xp xw xmp) >>> ((6 : Int32) &&& 31)) &&& (7 : Int32)) (((F_X9_parcelAt xp xw xmp) >>> ((3 : Int32) &&& 31)) &&& (7 : Int32)) ((F_X9_parcelAt xp xw xmp) &&& (7 : Int32)) xn xz) else (F_X9_take_62 xw xp xmp (2 : Int32) ((F_X9_parcelAt xp xw xmp) >>> ((9 : Int32) &&& 31)) (((F_X9_parcelAt xp xw xmp) >>> ((6 : Int32) &&& 31)) &&& (7 : Int32)) (((F_X9_parcelAt xp xw xmp) >>> ((3 : Int32) &&& 31)) &&& (7 : Int32)) ((F_X9_parcelAt xp xw xmp) &&& (7 : Int32)) xn xz))
abbrev rm_X9_take : Room := { frames := 1, cells := 0, slots := 0, locals := 21 }
set_option maxRecDepth 20000 in
theorem mi_X9_take_X9 : ∀ w ∈ wsX90, w ∈ wsX9_take := by decide +kernel
set_option maxRecDepth 20000 in
theorem mm_X9_take_f53 : Cond.fieldLink RX9 53 "ScoreboardCoreModel" "parcel" "I" ∈ wsX9_take := by decide +kernel
set_option maxRecDepth 20000 in
theorem mm_X9_take_f68 : Cond.fieldLink RX9 68 "ScoreboardCoreModel" "op" "I" ∈ wsX9_take := by decide +kernel
set_option maxRecDepth 20000 in
theorem mm_X9_take_f71 : Cond.fieldLink RX9 71 "ScoreboardCoreModel" "i" "I" ∈ wsX9_take := by decide +kernel
set_option maxRecDepth 20000 in
theorem mm_X9_take_f74 : Cond.fieldLink RX9 74 "ScoreboardCoreModel" "size" "I" ∈ wsX9_take := by decide +kernel
set_option maxRecDepth 20000 in
theorem mm_X9_take_f83 : Cond.fieldLink RX9 83 "ScoreboardCoreModel" "j" "I" ∈ wsX9_take := by decide +kernel
set_option maxRecDepth 20000 in
theorem mm_X9_take_f86 : Cond.fieldLink RX9 86 "ScoreboardCoreModel" "k" "I" ∈ wsX9_take := by decide +kernel
set_option maxRecDepth 20000 in
theorem mm_X9_take_f93 : Cond.fieldLink RX9 93 "ScoreboardCoreModel" "number" "I" ∈ wsX9_take := by decide +kernel
set_option maxRecDepth 20000 in
theorem mm_X9_take_iX9 : Cond.initialized RX9 ∈ wsX9_take := by decide +kernel
set_option maxRecDepth 20000 in
theorem mm_X9_take_l79 : Cond.methodLink RX9 79 yX9_parcelAt ∈ wsX9_take := by decide +kernel
set_option maxRecDepth 20000 in
theorem mm_X9_take_l89 : Cond.methodLink RX9 89 yX9_hasNumber ∈ wsX9_take := by decide +kernel
set_option maxRecDepth 20000 in
theorem mm_X9_take_nX9_parcelAt : Cond.instanceMethod yX9_parcelAt ∈ wsX9_take := by decide +kernel
set_option maxRecDepth 20000 in
theorem mm_X9_take_sX9_parcelAt : Cond.selects RX9 yX9_parcelAt yX9_parcelAt ∈ wsX9_take := by decide +kernel
set_option maxRecDepth 20000 in
theorem mm_X9_take_tX9_hasNumber : Cond.static yX9_hasNumber ∈ wsX9_take := by decide +kernel
set_option maxHeartbeats 4000000 in
set_option maxRecDepth 100000 in
theorem j_X9_take_104 {p : Program} {l : Launch} {e : Env} {s : State} {m : MethodId} {below : List Frame} {meth : Method} {c : Code} {args : Array Value} (dC : Nat → ClassId) (dI : Nat → Nat → Nat) (cI cJ : ClassId) (hX x1 x2 x3 x4 x5 x6 x7 x8 : Nat) (xt : Int32) (xw : Int32) (xp : Int32) (xs : Int32) (xc : Int64) (xM : Int64) (xE : Int64) (xL : Int64) (xo : Int32) (xi : Int32) (xj : Int32) (xk : Int32) (xn : Int32) (xz : Int32) (xa : Int32) (xg : Int32) (xmw : Nat → Int64) (xmp : Nat → Int64) (xr : Nat → Int64) (xd : Nat → Int32) (xwt : Nat → Int64) (xf : Nat → Int64) (xrd : Nat → Int64) (xu : Nat → Int64) {w0 : va_W} (C0 : Cx p s m meth c cX9_take 2 none wsX9_take RX9 args) (hK : va_K (dC, dI) vwCl [(cI, .int), (cJ, .long)] s) (hZ : Zs false (va_A w0 s.heap.size) s s.heap) (hw : vp_in xw 512) (t0 : Int32) (xo' : Int32) (xi' : Int32) (xj' : Int32) (xk' : Int32) (xn' : Int32) (xz' : Int32) {V : Int32 × Int32 × Int32 × Int32 × Int32 × Int32} (hV : (F_X9_take_104 t0 xo' xi' xj' xk' xn' xz') = V) (ls : Array Slot) (hl : lv_has ls 2 []) {H : Heap} {locs : List Loc} (hP : va_P (dC, dI) vwCl [(hX, .inr (6, [.int xt, .ref x1, .ref x2, .ref x3, .int xw, .int xp, .int xs, .long xc, .ref x4, .ref x5, .ref x6, .ref x7, .ref x8, .long xM, .long xE, .long xL, .int xo', .int xi', .int xj', .int xk', .int xn', .int xz', .int xa, .int xg])), (x1, .inl (cJ, 512, .inr (.inl xmw))), (x2, .inl (cJ, 512, .inr (.inl xmp))), (x3, .inl (cJ, 24, .inr (.inl xr))), (x4, .inl (cI, 8, .inl xd)), (x5, .inl (cJ, 5, .inr (.inl xwt))), (x6, .inl (cJ, 24, .inr (.inl xf))), (x7, .inl (cJ, 24, .inr (.inl xrd))), (x8, .inl (cJ, 6, .inr (.inl xu)))] H) (hD : va_D (va_A w0 s.heap.size) [(hX, .inr (6, [.int xt, .ref x1, .ref x2, .ref x3, .int xw, .int xp, .int xs, .long xc, .ref x4, .ref x5, .ref x6, .ref x7, .ref x8, .long xM, .long xE, .long xL, .int xo', .int xi', .int xj', .int xk', .int xn', .int xz', .int xa, .int xg])), (x1, .inl (cJ, 512, .inr (.inl xmw))), (x2, .inl (cJ, 512, .inr (.inl xmp))), (x3, .inl (cJ, 24, .inr (.inl xr))), (x4, .inl (cI, 8, .inl xd)), (x5, .inl (cJ, 5, .inr (.inl xwt))), (x6, .inl (cJ, 24, .inr (.inl xf))), (x7, .inl (cJ, 24, .inr (.inl xrd))), (x8, .inl (cJ, 6, .inr (.inl xu)))]) (hS : va_S (va_A w0 s.heap.size) s.heap H locs) : W p l e rm_X9_take s m args below meth c H locs 0 0 (MQ below (QV (dC, dI) [(cI, .int), (cJ, .long)] w0 [(hX, .inr (6, [.int xt, .ref x1, .ref x2, .ref x3, .int xw, .int xp, .int xs, .long xc, .ref x4, .ref x5, .ref x6, .ref x7, .ref x8, .long xM, .long xE, .long xL, .int V.1, .int V.2.1, .int V.2.2.1, .int V.2.2.2.1, .int V.2.2.2.2.1, .int V.2.2.2.2.2, .int xa, .int xg])), (x1, .inl (cJ, 512, .inr (.inl xmw))), (x2, .inl (cJ, 512, .inr (.inl xmp))), (x3, .inl (cJ, 24, .inr (.inl xr))), (x4, .inl (cI, 8, .inl xd)), (x5, .inl (cJ, 5, .inr (.inl xwt))), (x6, .inl (cJ, 24, .inr (.inl xf))), (x7, .inl (cJ, 24, .inr (.inl xrd))), (x8, .inl (cJ, 6, .inr (.inl xu)))] s.heap.size) args s 0 0 (va_A w0 s.heap.size)) (F0 m 104 ls [.int t0, .ref hX]) := by
  obtain ⟨hx, hb, hr, hlk, hml, hown, hts⟩ := id C0
  have hA : ∀ q : Nat, s.heap.size ≤ q → va_A w0 s.heap.size q := fun q h => Or.inr h
  refine va_put (D := (dC, dI)) (ci := 6) (v := .int t0) (ty := .int) (C := RX9) (T := TX9) (N := 24) hx hb hts mi_X9_take_X9 tyX9 tyX9_ok nmX9 hown hK hP hD hS 0 rfl rfl 20 (by decide) (hts (.fieldLink RX9 93 "ScoreboardCoreModel" "number" "I") mm_X9_take_f93) (fun _ h9 => h9) rfl (by decide +kernel) rfl rfl (Nat.le_of_ble_eq_true rfl) dX9_take_104 (fun H locs hP hD hS => ?_)
  have hP : va_P (dC, dI) vwCl [(hX, .inr (6, [.int xt, .ref x1, .ref x2, .ref x3, .int xw, .int xp, .int xs, .long xc, .ref x4, .ref x5, .ref x6, .ref x7, .ref x8, .long xM, .long xE, .long xL, .int xo', .int xi', .int xj', .int xk', .int t0, .int xz', .int xa, .int xg])), (x1, .inl (cJ, 512, .inr (.inl xmw))), (x2, .inl (cJ, 512, .inr (.inl xmp))), (x3, .inl (cJ, 24, .inr (.inl xr))), (x4, .inl (cI, 8, .inl xd)), (x5, .inl (cJ, 5, .inr (.inl xwt))), (x6, .inl (cJ, 24, .inr (.inl xf))), (x7, .inl (cJ, 24, .inr (.inl xrd))), (x8, .inl (cJ, 6, .inr (.inl xu)))] H := hP
  have hD : va_D (va_A w0 s.heap.size) [(hX, .inr (6, [.int xt, .ref x1, .ref x2, .ref x3, .int xw, .int xp, .int xs, .long xc, .ref x4, .ref x5, .ref x6, .ref x7, .ref x8, .long xM, .long xE, .long xL, .int xo', .int xi', .int xj', .int xk', .int t0, .int xz', .int xa, .int xg])), (x1, .inl (cJ, 512, .inr (.inl xmw))), (x2, .inl (cJ, 512, .inr (.inl xmp))), (x3, .inl (cJ, 24, .inr (.inl xr))), (x4, .inl (cI, 8, .inl xd)), (x5, .inl (cJ, 5, .inr (.inl xwt))), (x6, .inl (cJ, 24, .inr (.inl xf))), (x7, .inl (cJ, 24, .inr (.inl xrd))), (x8, .inl (cJ, 6, .inr (.inl xu)))] := hD
  have e9 : (F_X9_take_104 t0 xo' xi' xj' xk' xn' xz') = (xo', xi', xj', xk', t0, xz') := by rw [F_X9_take_104]
  rw [e9] at hV
  subst hV
  exact wrRetV C0 hK hP hD hS dX9_take_107
set_option maxHeartbeats 4000000 in
set_option maxRecDepth 100000 in
theorem j_X9_take_103 {p : Program} {l : Launch} {e : Env} {s : State} {m : MethodId} {below : List Frame} {meth : Method} {c : Code} {args : Array Value} (dC : Nat → ClassId) (dI : Nat → Nat → Nat) (cI cJ : ClassId) (hX x1 x2 x3 x4 x5 x6 x7 x8 : Nat) (xt : Int32) (xw : Int32) (xp : Int32) (xs : Int32) (xc : Int64) (xM : Int64) (xE : Int64) (xL : Int64) (xo : Int32) (xi : Int32) (xj : Int32) (xk : Int32) (xn : Int32) (xz : Int32) (xa : Int32) (xg : Int32) (xmw : Nat → Int64) (xmp : Nat → Int64) (xr : Nat → Int64) (xd : Nat → Int32) (xwt : Nat → Int64) (xf : Nat → Int64) (xrd : Nat → Int64) (xu : Nat → Int64) {w0 : va_W} (C0 : Cx p s m meth c cX9_take 2 none wsX9_take RX9 args) (hK : va_K (dC, dI) vwCl [(cI, .int), (cJ, .long)] s) (hZ : Zs false (va_A w0 s.heap.size) s s.heap) (hw : vp_in xw 512) (xo' : Int32) (xi' : Int32) (xj' : Int32) (xk' : Int32) (xn' : Int32) (xz' : Int32) {V : Int32 × Int32 × Int32 × Int32 × Int32 × Int32} (hV : (F_X9_take_103 xo' xi' xj' xk' xn' xz') = V) (ls : Array Slot) (hl : lv_has ls 2 []) {H : Heap} {locs : List Loc} (hP : va_P (dC, dI) vwCl [(hX, .inr (6, [.int xt, .ref x1, .ref x2, .ref x3, .int xw, .int xp, .int xs, .long xc, .ref x4, .ref x5, .ref x6, .ref x7, .ref x8, .long xM, .long xE, .long xL, .int xo', .int xi', .int xj', .int xk', .int xn', .int xz', .int xa, .int xg])), (x1, .inl (cJ, 512, .inr (.inl xmw))), (x2, .inl (cJ, 512, .inr (.inl xmp))), (x3, .inl (cJ, 24, .inr (.inl xr))), (x4, .inl (cI, 8, .inl xd)), (x5, .inl (cJ, 5, .inr (.inl xwt))), (x6, .inl (cJ, 24, .inr (.inl xf))), (x7, .inl (cJ, 24, .inr (.inl xrd))), (x8, .inl (cJ, 6, .inr (.inl xu)))] H) (hD : va_D (va_A w0 s.heap.size) [(hX, .inr (6, [.int xt, .ref x1, .ref x2, .ref x3, .int xw, .int xp, .int xs, .long xc, .ref x4, .ref x5, .ref x6, .ref x7, .ref x8, .long xM, .long xE, .long xL, .int xo', .int xi', .int xj', .int xk', .int xn', .int xz', .int xa, .int xg])), (x1, .inl (cJ, 512, .inr (.inl xmw))), (x2, .inl (cJ, 512, .inr (.inl xmp))), (x3, .inl (cJ, 24, .inr (.inl xr))), (x4, .inl (cI, 8, .inl xd)), (x5, .inl (cJ, 5, .inr (.inl xwt))), (x6, .inl (cJ, 24, .inr (.inl xf))), (x7, .inl (cJ, 24, .inr (.inl xrd))), (x8, .inl (cJ, 6, .inr (.inl xu)))]) (hS : va_S (va_A w0 s.heap.size) s.heap H locs) : W p l e rm_X9_take s m args below meth c H locs 0 0 (MQ below (QV (dC, dI) [(cI, .int), (cJ, .long)] w0 [(hX, .inr (6, [.int xt, .ref x1, .ref x2, .ref x3, .int xw, .int xp, .int xs, .long xc, .ref x4, .ref x5, .ref x6, .ref x7, .ref x8, .long xM, .long xE, .long xL, .int V.1, .int V.2.1, .int V.2.2.1, .int V.2.2.2.1, .int V.2.2.2.2.1, .int V.2.2.2.2.2, .int xa, .int xg])), (x1, .inl (cJ, 512, .inr (.inl xmw))), (x2, .inl (cJ, 512, .inr (.inl xmp))), (x3, .inl (cJ, 24, .inr (.inl xr))), (x4, .inl (cI, 8, .inl xd)), (x5, .inl (cJ, 5, .inr (.inl xwt))), (x6, .inl (cJ, 24, .inr (.inl xf))), (x7, .inl (cJ, 24, .inr (.inl xrd))), (x8, .inl (cJ, 6, .inr (.inl xu)))] s.heap.size) args s 0 0 (va_A w0 s.heap.size)) (F0 m 103 ls [.ref hX]) := by
  obtain ⟨hx, hb, hr, hlk, hml, hown, hts⟩ := id C0
  have hA : ∀ q : Nat, s.heap.size ≤ q → va_A w0 s.heap.size q := fun q h => Or.inr h
  refine lv_iconst (v := (0 : Int32)) hx hb dX9_take_103 (by decide) ?_
  have e9 : (F_X9_take_103 xo' xi' xj' xk' xn' xz') = (F_X9_take_104 (0 : Int32) xo' xi' xj' xk' xn' xz') := by rw [F_X9_take_103]
  rw [e9] at hV
  exact j_X9_take_104 dC dI cI cJ hX x1 x2 x3 x4 x5 x6 x7 x8 xt xw xp xs xc xM xE xL xo xi xj xk xn xz xa xg xmw xmp xr xd xwt xf xrd xu C0 hK hZ hw (0 : Int32) xo' xi' xj' xk' xn' xz' hV ls (lv_sub hl [] rfl) hP hD hS
set_option maxHeartbeats 4000000 in
set_option maxRecDepth 100000 in
theorem j_X9_take_62 {p : Program} {l : Launch} {e : Env} {s : State} {m : MethodId} {below : List Frame} {meth : Method} {c : Code} {args : Array Value} (dC : Nat → ClassId) (dI : Nat → Nat → Nat) (cI cJ : ClassId) (hX x1 x2 x3 x4 x5 x6 x7 x8 : Nat) (xt : Int32) (xw : Int32) (xp : Int32) (xs : Int32) (xc : Int64) (xM : Int64) (xE : Int64) (xL : Int64) (xo : Int32) (xi : Int32) (xj : Int32) (xk : Int32) (xn : Int32) (xz : Int32) (xa : Int32) (xg : Int32) (xmw : Nat → Int64) (xmp : Nat → Int64) (xr : Nat → Int64) (xd : Nat → Int32) (xwt : Nat → Int64) (xf : Nat → Int64) (xrd : Nat → Int64) (xu : Nat → Int64) {w0 : va_W} (C0 : Cx p s m meth c cX9_take 2 none wsX9_take RX9 args) (hK : va_K (dC, dI) vwCl [(cI, .int), (cJ, .long)] s) (hZ : Zs false (va_A w0 s.heap.size) s s.heap) (hw : vp_in xw 512) (t0 : Int32) (xo' : Int32) (xi' : Int32) (xj' : Int32) (xk' : Int32) (xn' : Int32) (xz' : Int32) {V : Int32 × Int32 × Int32 × Int32 × Int32 × Int32} (hV : (F_X9_take_62 xw xp xmp t0 xo' xi' xj' xk' xn' xz') = V) (ls : Array Slot) (hl : lv_has ls 2 [(0, .ref hX)]) {H : Heap} {locs : List Loc} (hP : va_P (dC, dI) vwCl [(hX, .inr (6, [.int xt, .ref x1, .ref x2, .ref x3, .int xw, .int xp, .int xs, .long xc, .ref x4, .ref x5, .ref x6, .ref x7, .ref x8, .long xM, .long xE, .long xL, .int xo', .int xi', .int xj', .int xk', .int xn', .int xz', .int xa, .int xg])), (x1, .inl (cJ, 512, .inr (.inl xmw))), (x2, .inl (cJ, 512, .inr (.inl xmp))), (x3, .inl (cJ, 24, .inr (.inl xr))), (x4, .inl (cI, 8, .inl xd)), (x5, .inl (cJ, 5, .inr (.inl xwt))), (x6, .inl (cJ, 24, .inr (.inl xf))), (x7, .inl (cJ, 24, .inr (.inl xrd))), (x8, .inl (cJ, 6, .inr (.inl xu)))] H) (hD : va_D (va_A w0 s.heap.size) [(hX, .inr (6, [.int xt, .ref x1, .ref x2, .ref x3, .int xw, .int xp, .int xs, .long xc, .ref x4, .ref x5, .ref x6, .ref x7, .ref x8, .long xM, .long xE, .long xL, .int xo', .int xi', .int xj', .int xk', .int xn', .int xz', .int xa, .int xg])), (x1, .inl (cJ, 512, .inr (.inl xmw))), (x2, .inl (cJ, 512, .inr (.inl xmp))), (x3, .inl (cJ, 24, .inr (.inl xr))), (x4, .inl (cI, 8, .inl xd)), (x5, .inl (cJ, 5, .inr (.inl xwt))), (x6, .inl (cJ, 24, .inr (.inl xf))), (x7, .inl (cJ, 24, .inr (.inl xrd))), (x8, .inl (cJ, 6, .inr (.inl xu)))]) (hS : va_S (va_A w0 s.heap.size) s.heap H locs) : W p l e rm_X9_take s m args below meth c H locs 0 0 (MQ below (QV (dC, dI) [(cI, .int), (cJ, .long)] w0 [(hX, .inr (6, [.int xt, .ref x1, .ref x2, .ref x3, .int xw, .int xp, .int xs, .long xc, .ref x4, .ref x5, .ref x6, .ref x7, .ref x8, .long xM, .long xE, .long xL, .int V.1, .int V.2.1, .int V.2.2.1, .int V.2.2.2.1, .int V.2.2.2.2.1, .int V.2.2.2.2.2, .int xa, .int xg])), (x1, .inl (cJ, 512, .inr (.inl xmw))), (x2, .inl (cJ, 512, .inr (.inl xmp))), (x3, .inl (cJ, 24, .inr (.inl xr))), (x4, .inl (cI, 8, .inl xd)), (x5, .inl (cJ, 5, .inr (.inl xwt))), (x6, .inl (cJ, 24, .inr (.inl xf))), (x7, .inl (cJ, 24, .inr (.inl xrd))), (x8, .inl (cJ, 6, .inr (.inl xu)))] s.heap.size) args s 0 0 (va_A w0 s.heap.size)) (F0 m 62 ls [.int t0, .ref hX]) := by
  obtain ⟨hx, hb, hr, hlk, hml, hown, hts⟩ := id C0
  have hA : ∀ q : Nat, s.heap.size ≤ q → va_A w0 s.heap.size q := fun q h => Or.inr h
  refine va_put (D := (dC, dI)) (ci := 6) (v := .int t0) (ty := .int) (C := RX9) (T := TX9) (N := 24) hx hb hts mi_X9_take_X9 tyX9 tyX9_ok nmX9 hown hK hP hD hS 0 rfl rfl 21 (by decide) (hts (.fieldLink RX9 74 "ScoreboardCoreModel" "size" "I") mm_X9_take_f74) (fun _ h9 => h9) rfl (by decide +kernel) rfl rfl (Nat.le_of_ble_eq_true rfl) dX9_take_62 (fun H locs hP hD hS => ?_)
  have hP : va_P (dC, dI) vwCl [(hX, .inr (6, [.int xt, .ref x1, .ref x2, .ref x3, .int xw, .int xp, .int xs, .long xc, .ref x4, .ref x5, .ref x6, .ref x7, .ref x8, .long xM, .long xE, .long xL, .int xo', .int xi', .int xj', .int xk', .int xn', .int t0, .int xa, .int xg])), (x1, .inl (cJ, 512, .inr (.inl xmw))), (x2, .inl (cJ, 512, .inr (.inl xmp))), (x3, .inl (cJ, 24, .inr (.inl xr))), (x4, .inl (cI, 8, .inl xd)), (x5, .inl (cJ, 5, .inr (.inl xwt))), (x6, .inl (cJ, 24, .inr (.inl xf))), (x7, .inl (cJ, 24, .inr (.inl xrd))), (x8, .inl (cJ, 6, .inr (.inl xu)))] H := hP
  have hD : va_D (va_A w0 s.heap.size) [(hX, .inr (6, [.int xt, .ref x1, .ref x2, .ref x3, .int xw, .int xp, .int xs, .long xc, .ref x4, .ref x5, .ref x6, .ref x7, .ref x8, .long xM, .long xE, .long xL, .int xo', .int xi', .int xj', .int xk', .int xn', .int t0, .int xa, .int xg])), (x1, .inl (cJ, 512, .inr (.inl xmw))), (x2, .inl (cJ, 512, .inr (.inl xmp))), (x3, .inl (cJ, 24, .inr (.inl xr))), (x4, .inl (cI, 8, .inl xd)), (x5, .inl (cJ, 5, .inr (.inl xwt))), (x6, .inl (cJ, 24, .inr (.inl xf))), (x7, .inl (cJ, 24, .inr (.inl xrd))), (x8, .inl (cJ, 6, .inr (.inl xu)))] := hD
  refine lv_aload_n hx hb dX9_take_65 rfl (lv_at hl 0 rfl) ?_
  refine lv_aload_n hx hb dX9_take_66 rfl (lv_at hl 0 rfl) ?_
  refine va_get (D := (dC, dI)) (ci := 6) (v := .int t0) (C := RX9) (T := TX9) (N := 24) hx hb hts mi_X9_take_X9 hown hK hP 0 rfl rfl 21 (by decide) (hts (.fieldLink RX9 74 "ScoreboardCoreModel" "size" "I") mm_X9_take_f74) (fun _ h9 => h9) rfl dX9_take_67 ?_
  refine lv_iconst (v := (2 : Int32)) hx hb dX9_take_70 (by decide) ?_
  refine lv_icmp_ne (x := t0) (y := (2 : Int32)) (tgt := 103) hx hb dX9_take_71 (by decide) (fun c1 => ?_) (fun c1 => ?_)
  · have e9 : (F_X9_take_62 xw xp xmp t0 xo' xi' xj' xk' xn' xz') = (F_X9_take_103 xo' xi' xj' xk' xn' t0) := by rw [F_X9_take_62, if_neg c1]
    rw [e9] at hV
    exact j_X9_take_103 dC dI cI cJ hX x1 x2 x3 x4 x5 x6 x7 x8 xt xw xp xs xc xM xE xL xo xi xj xk xn xz xa xg xmw xmp xr xd xwt xf xrd xu C0 hK hZ hw xo' xi' xj' xk' xn' t0 hV ls (lv_sub hl [] rfl) hP hD hS
  · refine lv_aload_n hx hb dX9_take_74 rfl (lv_at hl 0 rfl) ?_
    refine va_get (D := (dC, dI)) (ci := 6) (v := .int xp) (C := RX9) (T := TX9) (N := 24) hx hb hts mi_X9_take_X9 hown hK hP 0 rfl rfl 5 (by decide) (hts (.fieldLink RX9 53 "ScoreboardCoreModel" "parcel" "I") mm_X9_take_f53) (fun _ h9 => h9) rfl dX9_take_75 ?_
    refine lv_iconst (v := (3 : Int32)) hx hb dX9_take_78 (by decide) ?_
    refine lv_icmp_ge (x := xp) (y := (3 : Int32)) (tgt := 103) hx hb dX9_take_79 (by decide) (fun c2 => ?_) (fun c2 => ?_)
    · have e9 : (F_X9_take_62 xw xp xmp t0 xo' xi' xj' xk' xn' xz') = (F_X9_take_103 xo' xi' xj' xk' xn' t0) := by rw [F_X9_take_62, if_pos c1, if_pos c2]
      rw [e9] at hV
      exact j_X9_take_103 dC dI cI cJ hX x1 x2 x3 x4 x5 x6 x7 x8 xt xw xp xs xc xM xE xL xo xi xj xk xn xz xa xg xmw xmp xr xd xwt xf xrd xu C0 hK hZ hw xo' xi' xj' xk' xn' t0 hV ls (lv_sub hl [] rfl) hP hD hS
    · refine lv_aload_n hx hb dX9_take_82 rfl (lv_at hl 0 rfl) ?_
      refine va_get (D := (dC, dI)) (ci := 6) (v := .int xk') (C := RX9) (T := TX9) (N := 24) hx hb hts mi_X9_take_X9 hown hK hP 0 rfl rfl 19 (by decide) (hts (.fieldLink RX9 86 "ScoreboardCoreModel" "k" "I") mm_X9_take_f86) (fun _ h9 => h9) rfl dX9_take_83 ?_
      refine lv_bipush (v := (15 : Int32)) hx hb dX9_take_86 (by decide) ?_
      refine lv_ishl hx hb dX9_take_88 ?_
      refine lv_aload_n hx hb dX9_take_89 rfl (lv_at hl 0 rfl) ?_
      refine lv_aload_n hx hb dX9_take_90 rfl (lv_at hl 0 rfl) ?_
      refine va_get (D := (dC, dI)) (ci := 6) (v := .int xp) (C := RX9) (T := TX9) (N := 24) hx hb hts mi_X9_take_X9 hown hK hP 0 rfl rfl 5 (by decide) (hts (.fieldLink RX9 53 "ScoreboardCoreModel" "parcel" "I") mm_X9_take_f53) (fun _ h9 => h9) rfl dX9_take_91 ?_
      refine lv_iconst (v := (1 : Int32)) hx hb dX9_take_94 (by decide) ?_
      refine lv_iadd hx hb dX9_take_95 ?_
      refine roVi (As := [.int (xp + (1 : Int32))]) (rest := [.int (xk' <<< ((15 : Int32) &&& 31)), .ref hX]) (bytes := cX9_parcelAt) (maxL := 2) (rty := (some .int)) (n := 1) (ci := 6) C0 (c_X9_parcelAt l dC dI cI cJ hX x1 x2 x3 x4 x5 x6 x7 x8 (xp + (1 : Int32)) xt xw xp xs xc xM xE xL xo' xi' xj' xk' xn' t0 xa xg xmw xmp xr xd xwt xf xrd xu hw) ⟨rfl, rfl, rfl, by decide +kernel, by decide, by decide⟩ ggX9_take_X9_parcelAt mm_X9_take_iX9 mm_X9_take_l79 mm_X9_take_nX9_parcelAt mm_X9_take_sX9_parcelAt rfl rfl (hP.sub (ws' := [(hX, .inr (6, [.int xt, .ref x1, .ref x2, .ref x3, .int xw, .int xp, .int xs, .long xc, .ref x4, .ref x5, .ref x6, .ref x7, .ref x8, .long xM, .long xE, .long xL, .int xo', .int xi', .int xj', .int xk', .int xn', .int t0, .int xa, .int xg])), (x1, .inl (cJ, 512, .inr (.inl xmw))), (x2, .inl (cJ, 512, .inr (.inl xmp))), (x3, .inl (cJ, 24, .inr (.inl xr))), (x4, .inl (cI, 8, .inl xd)), (x5, .inl (cJ, 5, .inr (.inl xwt))), (x6, .inl (cJ, 24, .inr (.inl xf))), (x7, .inl (cJ, 24, .inr (.inl xrd))), (x8, .inl (cJ, 6, .inr (.inl xu)))]) [0, 1, 2, 3, 4, 5, 6, 7, 8] rfl) hK hl.1 rfl rfl (Nat.le_of_ble_eq_true rfl) dX9_take_96 ⟨Nat.zero_le _, Nat.zero_le _⟩ ?_
      refine lv_ior hx hb dX9_take_99 ?_
      refine lv_goto (tgt := 104) hx hb dX9_take_100 (by decide) ?_
      have e9 : (F_X9_take_62 xw xp xmp t0 xo' xi' xj' xk' xn' xz') = (F_X9_take_104 ((xk' <<< ((15 : Int32) &&& 31)) ||| (F_X9_parcelAt (xp + (1 : Int32)) xw xmp)) xo' xi' xj' xk' xn' t0) := by rw [F_X9_take_62, if_pos c1, if_neg c2]
      rw [e9] at hV
      exact j_X9_take_104 dC dI cI cJ hX x1 x2 x3 x4 x5 x6 x7 x8 xt xw xp xs xc xM xE xL xo xi xj xk xn xz xa xg xmw xmp xr xd xwt xf xrd xu C0 hK hZ hw ((xk' <<< ((15 : Int32) &&& 31)) ||| (F_X9_parcelAt (xp + (1 : Int32)) xw xmp)) xo' xi' xj' xk' xn' t0 hV ls (lv_sub hl [] rfl) hP hD hS
set_option maxHeartbeats 4000000 in
set_option maxRecDepth 100000 in
theorem w_X9_take {p : Program} {l : Launch} {e : Env} {s : State} {m : MethodId} {below : List Frame} {meth : Method} {c : Code} {args : Array Value} (dC : Nat → ClassId) (dI : Nat → Nat → Nat) (cI cJ : ClassId) (hX x1 x2 x3 x4 x5 x6 x7 x8 : Nat) (xt : Int32) (xw : Int32) (xp : Int32) (xs : Int32) (xc : Int64) (xM : Int64) (xE : Int64) (xL : Int64) (xo : Int32) (xi : Int32) (xj : Int32) (xk : Int32) (xn : Int32) (xz : Int32) (xa : Int32) (xg : Int32) (xmw : Nat → Int64) (xmp : Nat → Int64) (xr : Nat → Int64) (xd : Nat → Int32) (xwt : Nat → Int64) (xf : Nat → Int64) (xrd : Nat → Int64) (xu : Nat → Int64) {w0 : va_W} (C0 : Cx p s m meth c cX9_take 2 none wsX9_take RX9 args) (hK : va_K (dC, dI) vwCl [(cI, .int), (cJ, .long)] s) (hZ : Zs false (va_A w0 s.heap.size) s s.heap) (hw : vp_in xw 512) {V : Int32 × Int32 × Int32 × Int32 × Int32 × Int32} (hV : (F_X9_take xw xp xn xz xmp ) = V) (ls : Array Slot) (hl : lv_has ls 2 [(0, .ref hX)]) {H : Heap} {locs : List Loc} (hP : va_P (dC, dI) vwCl [(hX, .inr (6, [.int xt, .ref x1, .ref x2, .ref x3, .int xw, .int xp, .int xs, .long xc, .ref x4, .ref x5, .ref x6, .ref x7, .ref x8, .long xM, .long xE, .long xL, .int xo, .int xi, .int xj, .int xk, .int xn, .int xz, .int xa, .int xg])), (x1, .inl (cJ, 512, .inr (.inl xmw))), (x2, .inl (cJ, 512, .inr (.inl xmp))), (x3, .inl (cJ, 24, .inr (.inl xr))), (x4, .inl (cI, 8, .inl xd)), (x5, .inl (cJ, 5, .inr (.inl xwt))), (x6, .inl (cJ, 24, .inr (.inl xf))), (x7, .inl (cJ, 24, .inr (.inl xrd))), (x8, .inl (cJ, 6, .inr (.inl xu)))] H) (hD : va_D (va_A w0 s.heap.size) [(hX, .inr (6, [.int xt, .ref x1, .ref x2, .ref x3, .int xw, .int xp, .int xs, .long xc, .ref x4, .ref x5, .ref x6, .ref x7, .ref x8, .long xM, .long xE, .long xL, .int xo, .int xi, .int xj, .int xk, .int xn, .int xz, .int xa, .int xg])), (x1, .inl (cJ, 512, .inr (.inl xmw))), (x2, .inl (cJ, 512, .inr (.inl xmp))), (x3, .inl (cJ, 24, .inr (.inl xr))), (x4, .inl (cI, 8, .inl xd)), (x5, .inl (cJ, 5, .inr (.inl xwt))), (x6, .inl (cJ, 24, .inr (.inl xf))), (x7, .inl (cJ, 24, .inr (.inl xrd))), (x8, .inl (cJ, 6, .inr (.inl xu)))]) (hS : va_S (va_A w0 s.heap.size) s.heap H locs) : W p l e rm_X9_take s m args below meth c H locs 0 0 (MQ below (QV (dC, dI) [(cI, .int), (cJ, .long)] w0 [(hX, .inr (6, [.int xt, .ref x1, .ref x2, .ref x3, .int xw, .int xp, .int xs, .long xc, .ref x4, .ref x5, .ref x6, .ref x7, .ref x8, .long xM, .long xE, .long xL, .int V.1, .int V.2.1, .int V.2.2.1, .int V.2.2.2.1, .int V.2.2.2.2.1, .int V.2.2.2.2.2, .int xa, .int xg])), (x1, .inl (cJ, 512, .inr (.inl xmw))), (x2, .inl (cJ, 512, .inr (.inl xmp))), (x3, .inl (cJ, 24, .inr (.inl xr))), (x4, .inl (cI, 8, .inl xd)), (x5, .inl (cJ, 5, .inr (.inl xwt))), (x6, .inl (cJ, 24, .inr (.inl xf))), (x7, .inl (cJ, 24, .inr (.inl xrd))), (x8, .inl (cJ, 6, .inr (.inl xu)))] s.heap.size) args s 0 0 (va_A w0 s.heap.size)) (F0 m 0 ls []) := by
  obtain ⟨hx, hb, hr, hlk, hml, hown, hts⟩ := id C0
  have hA : ∀ q : Nat, s.heap.size ≤ q → va_A w0 s.heap.size q := fun q h => Or.inr h
  refine lv_aload_n hx hb dX9_take_0 rfl (lv_at hl 0 rfl) ?_
  refine lv_aload_n hx hb dX9_take_1 rfl (lv_at hl 0 rfl) ?_
  refine va_get (D := (dC, dI)) (ci := 6) (v := .int xp) (C := RX9) (T := TX9) (N := 24) hx hb hts mi_X9_take_X9 hown hK hP 0 rfl rfl 5 (by decide) (hts (.fieldLink RX9 53 "ScoreboardCoreModel" "parcel" "I") mm_X9_take_f53) (fun _ h9 => h9) rfl dX9_take_2 ?_
  refine roVi (As := [.int xp]) (rest := []) (bytes := cX9_parcelAt) (maxL := 2) (rty := (some .int)) (n := 1) (ci := 6) C0 (c_X9_parcelAt l dC dI cI cJ hX x1 x2 x3 x4 x5 x6 x7 x8 xp xt xw xp xs xc xM xE xL xo xi xj xk xn xz xa xg xmw xmp xr xd xwt xf xrd xu hw) ⟨rfl, rfl, rfl, by decide +kernel, by decide, by decide⟩ ggX9_take_X9_parcelAt mm_X9_take_iX9 mm_X9_take_l79 mm_X9_take_nX9_parcelAt mm_X9_take_sX9_parcelAt rfl rfl (hP.sub (ws' := [(hX, .inr (6, [.int xt, .ref x1, .ref x2, .ref x3, .int xw, .int xp, .int xs, .long xc, .ref x4, .ref x5, .ref x6, .ref x7, .ref x8, .long xM, .long xE, .long xL, .int xo, .int xi, .int xj, .int xk, .int xn, .int xz, .int xa, .int xg])), (x1, .inl (cJ, 512, .inr (.inl xmw))), (x2, .inl (cJ, 512, .inr (.inl xmp))), (x3, .inl (cJ, 24, .inr (.inl xr))), (x4, .inl (cI, 8, .inl xd)), (x5, .inl (cJ, 5, .inr (.inl xwt))), (x6, .inl (cJ, 24, .inr (.inl xf))), (x7, .inl (cJ, 24, .inr (.inl xrd))), (x8, .inl (cJ, 6, .inr (.inl xu)))]) [0, 1, 2, 3, 4, 5, 6, 7, 8] rfl) hK hl.1 rfl rfl (Nat.le_of_ble_eq_true rfl) dX9_take_5 ⟨Nat.zero_le _, Nat.zero_le _⟩ ?_
  refine lv_istore_n (lv' := [(1, .int (F_X9_parcelAt xp xw xmp)), (0, .ref hX)]) hx hb dX9_take_8 rfl hl (by decide) rfl (fun ls hl => ?_)
  refine lv_aload_n hx hb dX9_take_9 rfl (lv_at hl 1 rfl) ?_
  refine lv_iload_n hx hb dX9_take_10 rfl (lv_at hl 0 rfl) ?_
  refine lv_bipush (v := (9 : Int32)) hx hb dX9_take_11 (by decide) ?_
  refine lv_ishr hx hb dX9_take_13 ?_
  refine va_put (D := (dC, dI)) (ci := 6) (v := .int ((F_X9_parcelAt xp xw xmp) >>> ((9 : Int32) &&& 31))) (ty := .int) (C := RX9) (T := TX9) (N := 24) hx hb hts mi_X9_take_X9 tyX9 tyX9_ok nmX9 hown hK hP hD hS 0 rfl rfl 16 (by decide) (hts (.fieldLink RX9 68 "ScoreboardCoreModel" "op" "I") mm_X9_take_f68) (fun _ h9 => h9) rfl (by decide +kernel) rfl rfl (Nat.le_of_ble_eq_true rfl) dX9_take_14 (fun H locs hP hD hS => ?_)
  have hP : va_P (dC, dI) vwCl [(hX, .inr (6, [.int xt, .ref x1, .ref x2, .ref x3, .int xw, .int xp, .int xs, .long xc, .ref x4, .ref x5, .ref x6, .ref x7, .ref x8, .long xM, .long xE, .long xL, .int ((F_X9_parcelAt xp xw xmp) >>> ((9 : Int32) &&& 31)), .int xi, .int xj, .int xk, .int xn, .int xz, .int xa, .int xg])), (x1, .inl (cJ, 512, .inr (.inl xmw))), (x2, .inl (cJ, 512, .inr (.inl xmp))), (x3, .inl (cJ, 24, .inr (.inl xr))), (x4, .inl (cI, 8, .inl xd)), (x5, .inl (cJ, 5, .inr (.inl xwt))), (x6, .inl (cJ, 24, .inr (.inl xf))), (x7, .inl (cJ, 24, .inr (.inl xrd))), (x8, .inl (cJ, 6, .inr (.inl xu)))] H := hP
  have hD : va_D (va_A w0 s.heap.size) [(hX, .inr (6, [.int xt, .ref x1, .ref x2, .ref x3, .int xw, .int xp, .int xs, .long xc, .ref x4, .ref x5, .ref x6, .ref x7, .ref x8, .long xM, .long xE, .long xL, .int ((F_X9_parcelAt xp xw xmp) >>> ((9 : Int32) &&& 31)), .int xi, .int xj, .int xk, .int xn, .int xz, .int xa, .int xg])), (x1, .inl (cJ, 512, .inr (.inl xmw))), (x2, .inl (cJ, 512, .inr (.inl xmp))), (x3, .inl (cJ, 24, .inr (.inl xr))), (x4, .inl (cI, 8, .inl xd)), (x5, .inl (cJ, 5, .inr (.inl xwt))), (x6, .inl (cJ, 24, .inr (.inl xf))), (x7, .inl (cJ, 24, .inr (.inl xrd))), (x8, .inl (cJ, 6, .inr (.inl xu)))] := hD
  refine lv_aload_n hx hb dX9_take_17 rfl (lv_at hl 1 rfl) ?_
  refine lv_iload_n hx hb dX9_take_18 rfl (lv_at hl 0 rfl) ?_
  refine lv_bipush (v := (6 : Int32)) hx hb dX9_take_19 (by decide) ?_
  refine lv_ishr hx hb dX9_take_21 ?_
  refine lv_bipush (v := (7 : Int32)) hx hb dX9_take_22 (by decide) ?_
  refine lv_iand hx hb dX9_take_24 ?_
  refine va_put (D := (dC, dI)) (ci := 6) (v := .int (((F_X9_parcelAt xp xw xmp) >>> ((6 : Int32) &&& 31)) &&& (7 : Int32))) (ty := .int) (C := RX9) (T := TX9) (N := 24) hx hb hts mi_X9_take_X9 tyX9 tyX9_ok nmX9 hown hK hP hD hS 0 rfl rfl 17 (by decide) (hts (.fieldLink RX9 71 "ScoreboardCoreModel" "i" "I") mm_X9_take_f71) (fun _ h9 => h9) rfl (by decide +kernel) rfl rfl (Nat.le_of_ble_eq_true rfl) dX9_take_25 (fun H locs hP hD hS => ?_)
  have hP : va_P (dC, dI) vwCl [(hX, .inr (6, [.int xt, .ref x1, .ref x2, .ref x3, .int xw, .int xp, .int xs, .long xc, .ref x4, .ref x5, .ref x6, .ref x7, .ref x8, .long xM, .long xE, .long xL, .int ((F_X9_parcelAt xp xw xmp) >>> ((9 : Int32) &&& 31)), .int (((F_X9_parcelAt xp xw xmp) >>> ((6 : Int32) &&& 31)) &&& (7 : Int32)), .int xj, .int xk, .int xn, .int xz, .int xa, .int xg])), (x1, .inl (cJ, 512, .inr (.inl xmw))), (x2, .inl (cJ, 512, .inr (.inl xmp))), (x3, .inl (cJ, 24, .inr (.inl xr))), (x4, .inl (cI, 8, .inl xd)), (x5, .inl (cJ, 5, .inr (.inl xwt))), (x6, .inl (cJ, 24, .inr (.inl xf))), (x7, .inl (cJ, 24, .inr (.inl xrd))), (x8, .inl (cJ, 6, .inr (.inl xu)))] H := hP
  have hD : va_D (va_A w0 s.heap.size) [(hX, .inr (6, [.int xt, .ref x1, .ref x2, .ref x3, .int xw, .int xp, .int xs, .long xc, .ref x4, .ref x5, .ref x6, .ref x7, .ref x8, .long xM, .long xE, .long xL, .int ((F_X9_parcelAt xp xw xmp) >>> ((9 : Int32) &&& 31)), .int (((F_X9_parcelAt xp xw xmp) >>> ((6 : Int32) &&& 31)) &&& (7 : Int32)), .int xj, .int xk, .int xn, .int xz, .int xa, .int xg])), (x1, .inl (cJ, 512, .inr (.inl xmw))), (x2, .inl (cJ, 512, .inr (.inl xmp))), (x3, .inl (cJ, 24, .inr (.inl xr))), (x4, .inl (cI, 8, .inl xd)), (x5, .inl (cJ, 5, .inr (.inl xwt))), (x6, .inl (cJ, 24, .inr (.inl xf))), (x7, .inl (cJ, 24, .inr (.inl xrd))), (x8, .inl (cJ, 6, .inr (.inl xu)))] := hD
  refine lv_aload_n hx hb dX9_take_28 rfl (lv_at hl 1 rfl) ?_
  refine lv_iload_n hx hb dX9_take_29 rfl (lv_at hl 0 rfl) ?_
  refine lv_iconst (v := (3 : Int32)) hx hb dX9_take_30 (by decide) ?_
  refine lv_ishr hx hb dX9_take_31 ?_
  refine lv_bipush (v := (7 : Int32)) hx hb dX9_take_32 (by decide) ?_
  refine lv_iand hx hb dX9_take_34 ?_
  refine va_put (D := (dC, dI)) (ci := 6) (v := .int (((F_X9_parcelAt xp xw xmp) >>> ((3 : Int32) &&& 31)) &&& (7 : Int32))) (ty := .int) (C := RX9) (T := TX9) (N := 24) hx hb hts mi_X9_take_X9 tyX9 tyX9_ok nmX9 hown hK hP hD hS 0 rfl rfl 18 (by decide) (hts (.fieldLink RX9 83 "ScoreboardCoreModel" "j" "I") mm_X9_take_f83) (fun _ h9 => h9) rfl (by decide +kernel) rfl rfl (Nat.le_of_ble_eq_true rfl) dX9_take_35 (fun H locs hP hD hS => ?_)
  have hP : va_P (dC, dI) vwCl [(hX, .inr (6, [.int xt, .ref x1, .ref x2, .ref x3, .int xw, .int xp, .int xs, .long xc, .ref x4, .ref x5, .ref x6, .ref x7, .ref x8, .long xM, .long xE, .long xL, .int ((F_X9_parcelAt xp xw xmp) >>> ((9 : Int32) &&& 31)), .int (((F_X9_parcelAt xp xw xmp) >>> ((6 : Int32) &&& 31)) &&& (7 : Int32)), .int (((F_X9_parcelAt xp xw xmp) >>> ((3 : Int32) &&& 31)) &&& (7 : Int32)), .int xk, .int xn, .int xz, .int xa, .int xg])), (x1, .inl (cJ, 512, .inr (.inl xmw))), (x2, .inl (cJ, 512, .inr (.inl xmp))), (x3, .inl (cJ, 24, .inr (.inl xr))), (x4, .inl (cI, 8, .inl xd)), (x5, .inl (cJ, 5, .inr (.inl xwt))), (x6, .inl (cJ, 24, .inr (.inl xf))), (x7, .inl (cJ, 24, .inr (.inl xrd))), (x8, .inl (cJ, 6, .inr (.inl xu)))] H := hP
  have hD : va_D (va_A w0 s.heap.size) [(hX, .inr (6, [.int xt, .ref x1, .ref x2, .ref x3, .int xw, .int xp, .int xs, .long xc, .ref x4, .ref x5, .ref x6, .ref x7, .ref x8, .long xM, .long xE, .long xL, .int ((F_X9_parcelAt xp xw xmp) >>> ((9 : Int32) &&& 31)), .int (((F_X9_parcelAt xp xw xmp) >>> ((6 : Int32) &&& 31)) &&& (7 : Int32)), .int (((F_X9_parcelAt xp xw xmp) >>> ((3 : Int32) &&& 31)) &&& (7 : Int32)), .int xk, .int xn, .int xz, .int xa, .int xg])), (x1, .inl (cJ, 512, .inr (.inl xmw))), (x2, .inl (cJ, 512, .inr (.inl xmp))), (x3, .inl (cJ, 24, .inr (.inl xr))), (x4, .inl (cI, 8, .inl xd)), (x5, .inl (cJ, 5, .inr (.inl xwt))), (x6, .inl (cJ, 24, .inr (.inl xf))), (x7, .inl (cJ, 24, .inr (.inl xrd))), (x8, .inl (cJ, 6, .inr (.inl xu)))] := hD
  refine lv_aload_n hx hb dX9_take_38 rfl (lv_at hl 1 rfl) ?_
  refine lv_iload_n hx hb dX9_take_39 rfl (lv_at hl 0 rfl) ?_
  refine lv_bipush (v := (7 : Int32)) hx hb dX9_take_40 (by decide) ?_
  refine lv_iand hx hb dX9_take_42 ?_
  refine va_put (D := (dC, dI)) (ci := 6) (v := .int ((F_X9_parcelAt xp xw xmp) &&& (7 : Int32))) (ty := .int) (C := RX9) (T := TX9) (N := 24) hx hb hts mi_X9_take_X9 tyX9 tyX9_ok nmX9 hown hK hP hD hS 0 rfl rfl 19 (by decide) (hts (.fieldLink RX9 86 "ScoreboardCoreModel" "k" "I") mm_X9_take_f86) (fun _ h9 => h9) rfl (by decide +kernel) rfl rfl (Nat.le_of_ble_eq_true rfl) dX9_take_43 (fun H locs hP hD hS => ?_)
  have hP : va_P (dC, dI) vwCl [(hX, .inr (6, [.int xt, .ref x1, .ref x2, .ref x3, .int xw, .int xp, .int xs, .long xc, .ref x4, .ref x5, .ref x6, .ref x7, .ref x8, .long xM, .long xE, .long xL, .int ((F_X9_parcelAt xp xw xmp) >>> ((9 : Int32) &&& 31)), .int (((F_X9_parcelAt xp xw xmp) >>> ((6 : Int32) &&& 31)) &&& (7 : Int32)), .int (((F_X9_parcelAt xp xw xmp) >>> ((3 : Int32) &&& 31)) &&& (7 : Int32)), .int ((F_X9_parcelAt xp xw xmp) &&& (7 : Int32)), .int xn, .int xz, .int xa, .int xg])), (x1, .inl (cJ, 512, .inr (.inl xmw))), (x2, .inl (cJ, 512, .inr (.inl xmp))), (x3, .inl (cJ, 24, .inr (.inl xr))), (x4, .inl (cI, 8, .inl xd)), (x5, .inl (cJ, 5, .inr (.inl xwt))), (x6, .inl (cJ, 24, .inr (.inl xf))), (x7, .inl (cJ, 24, .inr (.inl xrd))), (x8, .inl (cJ, 6, .inr (.inl xu)))] H := hP
  have hD : va_D (va_A w0 s.heap.size) [(hX, .inr (6, [.int xt, .ref x1, .ref x2, .ref x3, .int xw, .int xp, .int xs, .long xc, .ref x4, .ref x5, .ref x6, .ref x7, .ref x8, .long xM, .long xE, .long xL, .int ((F_X9_parcelAt xp xw xmp) >>> ((9 : Int32) &&& 31)), .int (((F_X9_parcelAt xp xw xmp) >>> ((6 : Int32) &&& 31)) &&& (7 : Int32)), .int (((F_X9_parcelAt xp xw xmp) >>> ((3 : Int32) &&& 31)) &&& (7 : Int32)), .int ((F_X9_parcelAt xp xw xmp) &&& (7 : Int32)), .int xn, .int xz, .int xa, .int xg])), (x1, .inl (cJ, 512, .inr (.inl xmw))), (x2, .inl (cJ, 512, .inr (.inl xmp))), (x3, .inl (cJ, 24, .inr (.inl xr))), (x4, .inl (cI, 8, .inl xd)), (x5, .inl (cJ, 5, .inr (.inl xwt))), (x6, .inl (cJ, 24, .inr (.inl xf))), (x7, .inl (cJ, 24, .inr (.inl xrd))), (x8, .inl (cJ, 6, .inr (.inl xu)))] := hD
  refine lv_aload_n hx hb dX9_take_46 rfl (lv_at hl 1 rfl) ?_
  refine lv_aload_n hx hb dX9_take_47 rfl (lv_at hl 1 rfl) ?_
  refine va_get (D := (dC, dI)) (ci := 6) (v := .int ((F_X9_parcelAt xp xw xmp) >>> ((9 : Int32) &&& 31))) (C := RX9) (T := TX9) (N := 24) hx hb hts mi_X9_take_X9 hown hK hP 0 rfl rfl 16 (by decide) (hts (.fieldLink RX9 68 "ScoreboardCoreModel" "op" "I") mm_X9_take_f68) (fun _ h9 => h9) rfl dX9_take_48 ?_
  refine roSi (As := [.int ((F_X9_parcelAt xp xw xmp) >>> ((9 : Int32) &&& 31))]) (rest := [.ref hX]) (bytes := cX9_hasNumber) (maxL := 1) (rty := (some .boolean)) (n := 1) C0 (c_X9_hasNumber l dC dI cI cJ ((F_X9_parcelAt xp xw xmp) >>> ((9 : Int32) &&& 31))) ⟨rfl, rfl, rfl, by decide +kernel, by decide, by decide⟩ ggX9_take_X9_hasNumber mm_X9_take_iX9 mm_X9_take_l89 mm_X9_take_tX9_hasNumber (hP.sub (ws' := []) [] rfl) hK hl.1 rfl rfl (Nat.le_of_ble_eq_true rfl) dX9_take_51 ⟨Nat.zero_le _, Nat.zero_le _⟩ ?_
  refine lv_if_eq (x := (F_X9_hasNumber ((F_X9_parcelAt xp xw xmp) >>> ((9 : Int32) &&& 31)))) (tgt := 61) hx hb dX9_take_54 (by decide) (fun c1 => ?_) (fun c1 => ?_)
  · refine lv_iconst (v := (1 : Int32)) hx hb dX9_take_61 (by decide) ?_
    have e9 : (F_X9_take xw xp xn xz xmp ) = (F_X9_take_62 xw xp xmp (1 : Int32) ((F_X9_parcelAt xp xw xmp) >>> ((9 : Int32) &&& 31)) (((F_X9_parcelAt xp xw xmp) >>> ((6 : Int32) &&& 31)) &&& (7 : Int32)) (((F_X9_parcelAt xp xw xmp) >>> ((3 : Int32) &&& 31)) &&& (7 : Int32)) ((F_X9_parcelAt xp xw xmp) &&& (7 : Int32)) xn xz) := by rw [F_X9_take, if_pos c1]
    rw [e9] at hV
    exact j_X9_take_62 dC dI cI cJ hX x1 x2 x3 x4 x5 x6 x7 x8 xt xw xp xs xc xM xE xL xo xi xj xk xn xz xa xg xmw xmp xr xd xwt xf xrd xu C0 hK hZ hw (1 : Int32) ((F_X9_parcelAt xp xw xmp) >>> ((9 : Int32) &&& 31)) (((F_X9_parcelAt xp xw xmp) >>> ((6 : Int32) &&& 31)) &&& (7 : Int32)) (((F_X9_parcelAt xp xw xmp) >>> ((3 : Int32) &&& 31)) &&& (7 : Int32)) ((F_X9_parcelAt xp xw xmp) &&& (7 : Int32)) xn xz hV ls (lv_sub hl [1] rfl) hP hD hS
  · refine lv_iconst (v := (2 : Int32)) hx hb dX9_take_57 (by decide) ?_
    refine lv_goto (tgt := 62) hx hb dX9_take_58 (by decide) ?_
    have e9 : (F_X9_take xw xp xn xz xmp ) = (F_X9_take_62 xw xp xmp (2 : Int32) ((F_X9_parcelAt xp xw xmp) >>> ((9 : Int32) &&& 31)) (((F_X9_parcelAt xp xw xmp) >>> ((6 : Int32) &&& 31)) &&& (7 : Int32)) (((F_X9_parcelAt xp xw xmp) >>> ((3 : Int32) &&& 31)) &&& (7 : Int32)) ((F_X9_parcelAt xp xw xmp) &&& (7 : Int32)) xn xz) := by rw [F_X9_take, if_neg c1]
    rw [e9] at hV
    exact j_X9_take_62 dC dI cI cJ hX x1 x2 x3 x4 x5 x6 x7 x8 xt xw xp xs xc xM xE xL xo xi xj xk xn xz xa xg xmw xmp xr xd xwt xf xrd xu C0 hK hZ hw (2 : Int32) ((F_X9_parcelAt xp xw xmp) >>> ((9 : Int32) &&& 31)) (((F_X9_parcelAt xp xw xmp) >>> ((6 : Int32) &&& 31)) &&& (7 : Int32)) (((F_X9_parcelAt xp xw xmp) >>> ((3 : Int32) &&& 31)) &&& (7 : Int32)) ((F_X9_parcelAt xp xw xmp) &&& (7 : Int32)) xn xz hV ls (lv_sub hl [1] rfl) hP hD hS
theorem c_X9_take (l : Launch) (dC : Nat → ClassId) (dI : Nat → Nat → Nat) (cI cJ : ClassId) (hX x1 x2 x3 x4 x5 x6 x7 x8 : Nat) (xt : Int32) (xw : Int32) (xp : Int32) (xs : Int32) (xc : Int64) (xM : Int64) (xE : Int64) (xL : Int64) (xo : Int32) (xi : Int32) (xj : Int32) (xk : Int32) (xn : Int32) (xz : Int32) (xa : Int32) (xg : Int32) (xmw : Nat → Int64) (xmp : Nat → Int64) (xr : Nat → Int64) (xd : Nat → Int32) (xwt : Nat → Int64) (xf : Nat → Int64) (xrd : Nat → Int64) (xu : Nat → Int64) (hw : vp_in xw 512) : WrV false l yX9_take wsX9_take rm_X9_take (dC, dI) [(cI, .int), (cJ, .long)] [(hX, .inr (6, [.int xt, .ref x1, .ref x2, .ref x3, .int xw, .int xp, .int xs, .long xc, .ref x4, .ref x5, .ref x6, .ref x7, .ref x8, .long xM, .long xE, .long xL, .int xo, .int xi, .int xj, .int xk, .int xn, .int xz, .int xa, .int xg])), (x1, .inl (cJ, 512, .inr (.inl xmw))), (x2, .inl (cJ, 512, .inr (.inl xmp))), (x3, .inl (cJ, 24, .inr (.inl xr))), (x4, .inl (cI, 8, .inl xd)), (x5, .inl (cJ, 5, .inr (.inl xwt))), (x6, .inl (cJ, 24, .inr (.inl xf))), (x7, .inl (cJ, 24, .inr (.inl xrd))), (x8, .inl (cJ, 6, .inr (.inl xu)))] [(hX, .inr (6, [.int xt, .ref x1, .ref x2, .ref x3, .int xw, .int xp, .int xs, .long xc, .ref x4, .ref x5, .ref x6, .ref x7, .ref x8, .long xM, .long xE, .long xL, .int ((F_X9_take xw xp xn xz xmp ).1), .int ((F_X9_take xw xp xn xz xmp ).2.1), .int ((F_X9_take xw xp xn xz xmp ).2.2.1), .int ((F_X9_take xw xp xn xz xmp ).2.2.2.1), .int ((F_X9_take xw xp xn xz xmp ).2.2.2.2.1), .int ((F_X9_take xw xp xn xz xmp ).2.2.2.2.2), .int xa, .int xg])), (x1, .inl (cJ, 512, .inr (.inl xmw))), (x2, .inl (cJ, 512, .inr (.inl xmp))), (x3, .inl (cJ, 24, .inr (.inl xr))), (x4, .inl (cI, 8, .inl xd)), (x5, .inl (cJ, 5, .inr (.inl xwt))), (x6, .inl (cJ, 24, .inr (.inl xf))), (x7, .inl (cJ, 24, .inr (.inl xrd))), (x8, .inl (cJ, 6, .inr (.inl xu)))] [.ref hX] := by
  refine WrV.mk (cc := cX9_take) (nL := 2) (ret := none) [(0, .ref hX)] (by decide) rfl (Nat.le_of_ble_eq_true rfl) rfl ?_
  intro p e s m below meth c C0 hP hK hD hS hZ ls hl
  exact w_X9_take dC dI cI cJ hX x1 x2 x3 x4 x5 x6 x7 x8 xt xw xp xs xc xM xE xL xo xi xj xk xn xz xa xg xmw xmp xr xd xwt xf xrd xu C0 hK hZ hw rfl ls hl hP hD hS

-- X9_need
def F_X9_need_22 (t0 : Int32) (xa' : Int32) : Int32 :=
  t0
def F_X9_need (n : Int32) (xa : Int32) : Int32 :=
  (if n = (16 : Int32) then (F_X9_need_22 xa xa) else (F_X9_need_22 (xa ||| ((1 : Int32) <<< (n &&& 31))) xa))
abbrev rm_X9_need : Room := { frames := 0, cells := 0, slots := 0, locals := 0 }
set_option maxRecDepth 20000 in
theorem mi_X9_need_X9 : ∀ w ∈ wsX90, w ∈ wsX9_need := by decide +kernel
set_option maxRecDepth 20000 in
theorem mm_X9_need_f96 : Cond.fieldLink RX9 96 "ScoreboardCoreModel" "needs" "I" ∈ wsX9_need := by decide +kernel
set_option maxHeartbeats 4000000 in
set_option maxRecDepth 100000 in
theorem j_X9_need_22 {p : Program} {l : Launch} {e : Env} {s : State} {m : MethodId} {below : List Frame} {meth : Method} {c : Code} {args : Array Value} (dC : Nat → ClassId) (dI : Nat → Nat → Nat) (cI cJ : ClassId) (hX x1 x2 x3 x4 x5 x6 x7 x8 : Nat) (n : Int32) (xt : Int32) (xw : Int32) (xp : Int32) (xs : Int32) (xc : Int64) (xM : Int64) (xE : Int64) (xL : Int64) (xo : Int32) (xi : Int32) (xj : Int32) (xk : Int32) (xn : Int32) (xz : Int32) (xa : Int32) (xg : Int32) (xmw : Nat → Int64) (xmp : Nat → Int64) (xr : Nat → Int64) (xd : Nat → Int32) (xwt : Nat → Int64) (xf : Nat → Int64) (xrd : Nat → Int64) (xu : Nat → Int64) {w0 : va_W} (C0 : Cx p s m meth c cX9_need 2 none wsX9_need RX9 args) (hK : va_K (dC, dI) vwCl [(cI, .int), (cJ, .long)] s) (hZ : Zs false (va_A w0 s.heap.size) s s.heap) (t0 : Int32) (xa' : Int32) {V : Int32} (hV : (F_X9_need_22 t0 xa') = V) (ls : Array Slot) (hl : lv_has ls 2 []) {H : Heap} {locs : List Loc} (hP : va_P (dC, dI) vwCl [(hX, .inr (6, [.int xt, .ref x1, .ref x2, .ref x3, .int xw, .int xp, .int xs, .long xc, .ref x4, .ref x5, .ref x6, .ref x7, .ref x8, .long xM, .long xE, .long xL, .int xo, .int xi, .int xj, .int xk, .int xn, .int xz, .int xa', .int xg])), (x1, .inl (cJ, 512, .inr (.inl xmw))), (x2, .inl (cJ, 512, .inr (.inl xmp))), (x3, .inl (cJ, 24, .inr (.inl xr))), (x4, .inl (cI, 8, .inl xd)), (x5, .inl (cJ, 5, .inr (.inl xwt))), (x6, .inl (cJ, 24, .inr (.inl xf))), (x7, .inl (cJ, 24, .inr (.inl xrd))), (x8, .inl (cJ, 6, .inr (.inl xu)))] H) (hD : va_D (va_A w0 s.heap.size) [(hX, .inr (6, [.int xt, .ref x1, .ref x2, .ref x3, .int xw, .int xp, .int xs, .long xc, .ref x4, .ref x5, .ref x6, .ref x7, .ref x8, .long xM, .long xE, .long xL, .int xo, .int xi, .int xj, .int xk, .int xn, .int xz, .int xa', .int xg])), (x1, .inl (cJ, 512, .inr (.inl xmw))), (x2, .inl (cJ, 512, .inr (.inl xmp))), (x3, .inl (cJ, 24, .inr (.inl xr))), (x4, .inl (cI, 8, .inl xd)), (x5, .inl (cJ, 5, .inr (.inl xwt))), (x6, .inl (cJ, 24, .inr (.inl xf))), (x7, .inl (cJ, 24, .inr (.inl xrd))), (x8, .inl (cJ, 6, .inr (.inl xu)))]) (hS : va_S (va_A w0 s.heap.size) s.heap H locs) : W p l e rm_X9_need s m args below meth c H locs 0 0 (MQ below (QV (dC, dI) [(cI, .int), (cJ, .long)] w0 [(hX, .inr (6, [.int xt, .ref x1, .ref x2, .ref x3, .int xw, .int xp, .int xs, .long xc, .ref x4, .ref x5, .ref x6, .ref x7, .ref x8, .long xM, .long xE, .long xL, .int xo, .int xi, .int xj, .int xk, .int xn, .int xz, .int V, .int xg])), (x1, .inl (cJ, 512, .inr (.inl xmw))), (x2, .inl (cJ, 512, .inr (.inl xmp))), (x3, .inl (cJ, 24, .inr (.inl xr))), (x4, .inl (cI, 8, .inl xd)), (x5, .inl (cJ, 5, .inr (.inl xwt))), (x6, .inl (cJ, 24, .inr (.inl xf))), (x7, .inl (cJ, 24, .inr (.inl xrd))), (x8, .inl (cJ, 6, .inr (.inl xu)))] s.heap.size) args s 0 0 (va_A w0 s.heap.size)) (F0 m 22 ls [.int t0, .ref hX]) := by
  obtain ⟨hx, hb, hr, hlk, hml, hown, hts⟩ := id C0
  have hA : ∀ q : Nat, s.heap.size ≤ q → va_A w0 s.heap.size q := fun q h => Or.inr h
  refine va_put (D := (dC, dI)) (ci := 6) (v := .int t0) (ty := .int) (C := RX9) (T := TX9) (N := 24) hx hb hts mi_X9_need_X9 tyX9 tyX9_ok nmX9 hown hK hP hD hS 0 rfl rfl 22 (by decide) (hts (.fieldLink RX9 96 "ScoreboardCoreModel" "needs" "I") mm_X9_need_f96) (fun _ h9 => h9) rfl (by decide +kernel) rfl rfl (Nat.le_of_ble_eq_true rfl) dX9_need_22 (fun H locs hP hD hS => ?_)
  have hP : va_P (dC, dI) vwCl [(hX, .inr (6, [.int xt, .ref x1, .ref x2, .ref x3, .int xw, .int xp, .int xs, .long xc, .ref x4, .ref x5, .ref x6, .ref x7, .ref x8, .long xM, .long xE, .long xL, .int xo, .int xi, .int xj, .int xk, .int xn, .int xz, .int t0, .int xg])), (x1, .inl (cJ, 512, .inr (.inl xmw))), (x2, .inl (cJ, 512, .inr (.inl xmp))), (x3, .inl (cJ, 24, .inr (.inl xr))), (x4, .inl (cI, 8, .inl xd)), (x5, .inl (cJ, 5, .inr (.inl xwt))), (x6, .inl (cJ, 24, .inr (.inl xf))), (x7, .inl (cJ, 24, .inr (.inl xrd))), (x8, .inl (cJ, 6, .inr (.inl xu)))] H := hP
  have hD : va_D (va_A w0 s.heap.size) [(hX, .inr (6, [.int xt, .ref x1, .ref x2, .ref x3, .int xw, .int xp, .int xs, .long xc, .ref x4, .ref x5, .ref x6, .ref x7, .ref x8, .long xM, .long xE, .long xL, .int xo, .int xi, .int xj, .int xk, .int xn, .int xz, .int t0, .int xg])), (x1, .inl (cJ, 512, .inr (.inl xmw))), (x2, .inl (cJ, 512, .inr (.inl xmp))), (x3, .inl (cJ, 24, .inr (.inl xr))), (x4, .inl (cI, 8, .inl xd)), (x5, .inl (cJ, 5, .inr (.inl xwt))), (x6, .inl (cJ, 24, .inr (.inl xf))), (x7, .inl (cJ, 24, .inr (.inl xrd))), (x8, .inl (cJ, 6, .inr (.inl xu)))] := hD
  have e9 : (F_X9_need_22 t0 xa') = t0 := by rw [F_X9_need_22]
  rw [e9] at hV
  subst hV
  exact wrRetV C0 hK hP hD hS dX9_need_25
set_option maxHeartbeats 4000000 in
set_option maxRecDepth 100000 in
theorem w_X9_need {p : Program} {l : Launch} {e : Env} {s : State} {m : MethodId} {below : List Frame} {meth : Method} {c : Code} {args : Array Value} (dC : Nat → ClassId) (dI : Nat → Nat → Nat) (cI cJ : ClassId) (hX x1 x2 x3 x4 x5 x6 x7 x8 : Nat) (n : Int32) (xt : Int32) (xw : Int32) (xp : Int32) (xs : Int32) (xc : Int64) (xM : Int64) (xE : Int64) (xL : Int64) (xo : Int32) (xi : Int32) (xj : Int32) (xk : Int32) (xn : Int32) (xz : Int32) (xa : Int32) (xg : Int32) (xmw : Nat → Int64) (xmp : Nat → Int64) (xr : Nat → Int64) (xd : Nat → Int32) (xwt : Nat → Int64) (xf : Nat → Int64) (xrd : Nat → Int64) (xu : Nat → Int64) {w0 : va_W} (C0 : Cx p s m meth c cX9_need 2 none wsX9_need RX9 args) (hK : va_K (dC, dI) vwCl [(cI, .int), (cJ, .long)] s) (hZ : Zs false (va_A w0 s.heap.size) s s.heap) {V : Int32} (hV : (F_X9_need n xa ) = V) (ls : Array Slot) (hl : lv_has ls 2 [(0, .ref hX), (1, .int n)]) {H : Heap} {locs : List Loc} (hP : va_P (dC, dI) vwCl [(hX, .inr (6, [.int xt, .ref x1, .ref x2, .ref x3, .int xw, .int xp, .int xs, .long xc, .ref x4, .ref x5, .ref x6, .ref x7, .ref x8, .long xM, .long xE, .long xL, .int xo, .int xi, .int xj, .int xk, .int xn, .int xz, .int xa, .int xg])), (x1, .inl (cJ, 512, .inr (.inl xmw))), (x2, .inl (cJ, 512, .inr (.inl xmp))), (x3, .inl (cJ, 24, .inr (.inl xr))), (x4, .inl (cI, 8, .inl xd)), (x5, .inl (cJ, 5, .inr (.inl xwt))), (x6, .inl (cJ, 24, .inr (.inl xf))), (x7, .inl (cJ, 24, .inr (.inl xrd))), (x8, .inl (cJ, 6, .inr (.inl xu)))] H) (hD : va_D (va_A w0 s.heap.size) [(hX, .inr (6, [.int xt, .ref x1, .ref x2, .ref x3, .int xw, .int xp, .int xs, .long xc, .ref x4, .ref x5, .ref x6, .ref x7, .ref x8, .long xM, .long xE, .long xL, .int xo, .int xi, .int xj, .int xk, .int xn, .int xz, .int xa, .int xg])), (x1, .inl (cJ, 512, .inr (.inl xmw))), (x2, .inl (cJ, 512, .inr (.inl xmp))), (x3, .inl (cJ, 24, .inr (.inl xr))), (x4, .inl (cI, 8, .inl xd)), (x5, .inl (cJ, 5, .inr (.inl xwt))), (x6, .inl (cJ, 24, .inr (.inl xf))), (x7, .inl (cJ, 24, .inr (.inl xrd))), (x8, .inl (cJ, 6, .inr (.inl xu)))]) (hS : va_S (va_A w0 s.heap.size) s.heap H locs) : W p l e rm_X9_need s m args below meth c H locs 0 0 (MQ below (QV (dC, dI) [(cI, .int), (cJ, .long)] w0 [(hX, .inr (6, [.int xt, .ref x1, .ref x2, .ref x3, .int xw, .int xp, .int xs, .long xc, .ref x4, .ref x5, .ref x6, .ref x7, .ref x8, .long xM, .long xE, .long xL, .int xo, .int xi, .int xj, .int xk, .int xn, .int xz, .int V, .int xg])), (x1, .inl (cJ, 512, .inr (.inl xmw))), (x2, .inl (cJ, 512, .inr (.inl xmp))), (x3, .inl (cJ, 24, .inr (.inl xr))), (x4, .inl (cI, 8, .inl xd)), (x5, .inl (cJ, 5, .inr (.inl xwt))), (x6, .inl (cJ, 24, .inr (.inl xf))), (x7, .inl (cJ, 24, .inr (.inl xrd))), (x8, .inl (cJ, 6, .inr (.inl xu)))] s.heap.size) args s 0 0 (va_A w0 s.heap.size)) (F0 m 0 ls []) := by
  obtain ⟨hx, hb, hr, hlk, hml, hown, hts⟩ := id C0
  have hA : ∀ q : Nat, s.heap.size ≤ q → va_A w0 s.heap.size q := fun q h => Or.inr h
  refine lv_aload_n hx hb dX9_need_0 rfl (lv_at hl 0 rfl) ?_
  refine lv_iload_n hx hb dX9_need_1 rfl (lv_at hl 1 rfl) ?_
  refine lv_bipush (v := (16 : Int32)) hx hb dX9_need_2 (by decide) ?_
  refine lv_icmp_ne (x := n) (y := (16 : Int32)) (tgt := 14) hx hb dX9_need_4 (by decide) (fun c1 => ?_) (fun c1 => ?_)
  · refine lv_aload_n hx hb dX9_need_14 rfl (lv_at hl 0 rfl) ?_
    refine va_get (D := (dC, dI)) (ci := 6) (v := .int xa) (C := RX9) (T := TX9) (N := 24) hx hb hts mi_X9_need_X9 hown hK hP 0 rfl rfl 22 (by decide) (hts (.fieldLink RX9 96 "ScoreboardCoreModel" "needs" "I") mm_X9_need_f96) (fun _ h9 => h9) rfl dX9_need_15 ?_
    refine lv_iconst (v := (1 : Int32)) hx hb dX9_need_18 (by decide) ?_
    refine lv_iload_n hx hb dX9_need_19 rfl (lv_at hl 1 rfl) ?_
    refine lv_ishl hx hb dX9_need_20 ?_
    refine lv_ior hx hb dX9_need_21 ?_
    have e9 : (F_X9_need n xa ) = (F_X9_need_22 (xa ||| ((1 : Int32) <<< (n &&& 31))) xa) := by rw [F_X9_need, if_neg c1]
    rw [e9] at hV
    exact j_X9_need_22 dC dI cI cJ hX x1 x2 x3 x4 x5 x6 x7 x8 n xt xw xp xs xc xM xE xL xo xi xj xk xn xz xa xg xmw xmp xr xd xwt xf xrd xu C0 hK hZ (xa ||| ((1 : Int32) <<< (n &&& 31))) xa hV ls (lv_sub hl [] rfl) hP hD hS
  · refine lv_aload_n hx hb dX9_need_7 rfl (lv_at hl 0 rfl) ?_
    refine va_get (D := (dC, dI)) (ci := 6) (v := .int xa) (C := RX9) (T := TX9) (N := 24) hx hb hts mi_X9_need_X9 hown hK hP 0 rfl rfl 22 (by decide) (hts (.fieldLink RX9 96 "ScoreboardCoreModel" "needs" "I") mm_X9_need_f96) (fun _ h9 => h9) rfl dX9_need_8 ?_
    refine lv_goto (tgt := 22) hx hb dX9_need_11 (by decide) ?_
    have e9 : (F_X9_need n xa ) = (F_X9_need_22 xa xa) := by rw [F_X9_need, if_pos c1]
    rw [e9] at hV
    exact j_X9_need_22 dC dI cI cJ hX x1 x2 x3 x4 x5 x6 x7 x8 n xt xw xp xs xc xM xE xL xo xi xj xk xn xz xa xg xmw xmp xr xd xwt xf xrd xu C0 hK hZ xa xa hV ls (lv_sub hl [] rfl) hP hD hS
theorem c_X9_need (l : Launch) (dC : Nat → ClassId) (dI : Nat → Nat → Nat) (cI cJ : ClassId) (hX x1 x2 x3 x4 x5 x6 x7 x8 : Nat) (n : Int32) (xt : Int32) (xw : Int32) (xp : Int32) (xs : Int32) (xc : Int64) (xM : Int64) (xE : Int64) (xL : Int64) (xo : Int32) (xi : Int32) (xj : Int32) (xk : Int32) (xn : Int32) (xz : Int32) (xa : Int32) (xg : Int32) (xmw : Nat → Int64) (xmp : Nat → Int64) (xr : Nat → Int64) (xd : Nat → Int32) (xwt : Nat → Int64) (xf : Nat → Int64) (xrd : Nat → Int64) (xu : Nat → Int64) : WrV false l yX9_need wsX9_need rm_X9_need (dC, dI) [(cI, .int), (cJ, .long)] [(hX, .inr (6, [.int xt, .ref x1, .ref x2, .ref x3, .int xw, .int xp, .int xs, .long xc, .ref x4, .ref x5, .ref x6, .ref x7, .ref x8, .long xM, .long xE, .long xL, .int xo, .int xi, .int xj, .int xk, .int xn, .int xz, .int xa, .int xg])), (x1, .inl (cJ, 512, .inr (.inl xmw))), (x2, .inl (cJ, 512, .inr (.inl xmp))), (x3, .inl (cJ, 24, .inr (.inl xr))), (x4, .inl (cI, 8, .inl xd)), (x5, .inl (cJ, 5, .inr (.inl xwt))), (x6, .inl (cJ, 24, .inr (.inl xf))), (x7, .inl (cJ, 24, .inr (.inl xrd))), (x8, .inl (cJ, 6, .inr (.inl xu)))] [(hX, .inr (6, [.int xt, .ref x1, .ref x2, .ref x3, .int xw, .int xp, .int xs, .long xc, .ref x4, .ref x5, .ref x6, .ref x7, .ref x8, .long xM, .long xE, .long xL, .int xo, .int xi, .int xj, .int xk, .int xn, .int xz, .int (F_X9_need n xa ), .int xg])), (x1, .inl (cJ, 512, .inr (.inl xmw))), (x2, .inl (cJ, 512, .inr (.inl xmp))), (x3, .inl (cJ, 24, .inr (.inl xr))), (x4, .inl (cI, 8, .inl xd)), (x5, .inl (cJ, 5, .inr (.inl xwt))), (x6, .inl (cJ, 24, .inr (.inl xf))), (x7, .inl (cJ, 24, .inr (.inl xrd))), (x8, .inl (cJ, 6, .inr (.inl xu)))] [.ref hX, .int n] := by
  refine WrV.mk (cc := cX9_need) (nL := 2) (ret := none) [(0, .ref hX), (1, .int n)] (by decide) rfl (Nat.le_of_ble_eq_true rfl) rfl ?_
  intro p e s m below meth c C0 hP hK hD hS hZ ls hl
  exact w_X9_need dC dI cI cJ hX x1 x2 x3 x4 x5 x6 x7 x8 n xt xw xp xs xc xM xE xL xo xi xj xk xn xz xa xg xmw xmp xr xd xwt xf xrd xu C0 hK hZ rfl ls hl hP hD hS

-- X9_give
def F_X9_give_22 (t0 : Int32) (xg' : Int32) : Int32 :=
  t0
def F_X9_give (n : Int32) (xg : Int32) : Int32 :=
  (if n = (16 : Int32) then (F_X9_give_22 xg xg) else (F_X9_give_22 (xg ||| ((1 : Int32) <<< (n &&& 31))) xg))
abbrev rm_X9_give : Room := { frames := 0, cells := 0, slots := 0, locals := 0 }
set_option maxRecDepth 20000 in
theorem mi_X9_give_X9 : ∀ w ∈ wsX90, w ∈ wsX9_give := by decide +kernel
set_option maxRecDepth 20000 in
theorem mm_X9_give_f99 : Cond.fieldLink RX9 99 "ScoreboardCoreModel" "gives" "I" ∈ wsX9_give := by decide +kernel
set_option maxHeartbeats 4000000 in
set_option maxRecDepth 100000 in
theorem j_X9_give_22 {p : Program} {l : Launch} {e : Env} {s : State} {m : MethodId} {below : List Frame} {meth : Method} {c : Code} {args : Array Value} (dC : Nat → ClassId) (dI : Nat → Nat → Nat) (cI cJ : ClassId) (hX x1 x2 x3 x4 x5 x6 x7 x8 : Nat) (n : Int32) (xt : Int32) (xw : Int32) (xp : Int32) (xs : Int32) (xc : Int64) (xM : Int64) (xE : Int64) (xL : Int64) (xo : Int32) (xi : Int32) (xj : Int32) (xk : Int32) (xn : Int32) (xz : Int32) (xa : Int32) (xg : Int32) (xmw : Nat → Int64) (xmp : Nat → Int64) (xr : Nat → Int64) (xd : Nat → Int32) (xwt : Nat → Int64) (xf : Nat → Int64) (xrd : Nat → Int64) (xu : Nat → Int64) {w0 : va_W} (C0 : Cx p s m meth c cX9_give 2 none wsX9_give RX9 args) (hK : va_K (dC, dI) vwCl [(cI, .int), (cJ, .long)] s) (hZ : Zs false (va_A w0 s.heap.size) s s.heap) (t0 : Int32) (xg' : Int32) {V : Int32} (hV : (F_X9_give_22 t0 xg') = V) (ls : Array Slot) (hl : lv_has ls 2 []) {H : Heap} {locs : List Loc} (hP : va_P (dC, dI) vwCl [(hX, .inr (6, [.int xt, .ref x1, .ref x2, .ref x3, .int xw, .int xp, .int xs, .long xc, .ref x4, .ref x5, .ref x6, .ref x7, .ref x8, .long xM, .long xE, .long xL, .int xo, .int xi, .int xj, .int xk, .int xn, .int xz, .int xa, .int xg'])), (x1, .inl (cJ, 512, .inr (.inl xmw))), (x2, .inl (cJ, 512, .inr (.inl xmp))), (x3, .inl (cJ, 24, .inr (.inl xr))), (x4, .inl (cI, 8, .inl xd)), (x5, .inl (cJ, 5, .inr (.inl xwt))), (x6, .inl (cJ, 24, .inr (.inl xf))), (x7, .inl (cJ, 24, .inr (.inl xrd))), (x8, .inl (cJ, 6, .inr (.inl xu)))] H) (hD : va_D (va_A w0 s.heap.size) [(hX, .inr (6, [.int xt, .ref x1, .ref x2, .ref x3, .int xw, .int xp, .int xs, .long xc, .ref x4, .ref x5, .ref x6, .ref x7, .ref x8, .long xM, .long xE, .long xL, .int xo, .int xi, .int xj, .int xk, .int xn, .int xz, .int xa, .int xg'])), (x1, .inl (cJ, 512, .inr (.inl xmw))), (x2, .inl (cJ, 512, .inr (.inl xmp))), (x3, .inl (cJ, 24, .inr (.inl xr))), (x4, .inl (cI, 8, .inl xd)), (x5, .inl (cJ, 5, .inr (.inl xwt))), (x6, .inl (cJ, 24, .inr (.inl xf))), (x7, .inl (cJ, 24, .inr (.inl xrd))), (x8, .inl (cJ, 6, .inr (.inl xu)))]) (hS : va_S (va_A w0 s.heap.size) s.heap H locs) : W p l e rm_X9_give s m args below meth c H locs 0 0 (MQ below (QV (dC, dI) [(cI, .int), (cJ, .long)] w0 [(hX, .inr (6, [.int xt, .ref x1, .ref x2, .ref x3, .int xw, .int xp, .int xs, .long xc, .ref x4, .ref x5, .ref x6, .ref x7, .ref x8, .long xM, .long xE, .long xL, .int xo, .int xi, .int xj, .int xk, .int xn, .int xz, .int xa, .int V])), (x1, .inl (cJ, 512, .inr (.inl xmw))), (x2, .inl (cJ, 512, .inr (.inl xmp))), (x3, .inl (cJ, 24, .inr (.inl xr))), (x4, .inl (cI, 8, .inl xd)), (x5, .inl (cJ, 5, .inr (.inl xwt))), (x6, .inl (cJ, 24, .inr (.inl xf))), (x7, .inl (cJ, 24, .inr (.inl xrd))), (x8, .inl (cJ, 6, .inr (.inl xu)))] s.heap.size) args s 0 0 (va_A w0 s.heap.size)) (F0 m 22 ls [.int t0, .ref hX]) := by
  obtain ⟨hx, hb, hr, hlk, hml, hown, hts⟩ := id C0
  have hA : ∀ q : Nat, s.heap.size ≤ q → va_A w0 s.heap.size q := fun q h => Or.inr h
  refine va_put (D := (dC, dI)) (ci := 6) (v := .int t0) (ty := .int) (C := RX9) (T := TX9) (N := 24) hx hb hts mi_X9_give_X9 tyX9 tyX9_ok nmX9 hown hK hP hD hS 0 rfl rfl 23 (by decide) (hts (.fieldLink RX9 99 "ScoreboardCoreModel" "gives" "I") mm_X9_give_f99) (fun _ h9 => h9) rfl (by decide +kernel) rfl rfl (Nat.le_of_ble_eq_true rfl) dX9_give_22 (fun H locs hP hD hS => ?_)
  have hP : va_P (dC, dI) vwCl [(hX, .inr (6, [.int xt, .ref x1, .ref x2, .ref x3, .int xw, .int xp, .int xs, .long xc, .ref x4, .ref x5, .ref x6, .ref x7, .ref x8, .long xM, .long xE, .long xL, .int xo, .int xi, .int xj, .int xk, .int xn, .int xz, .int xa, .int t0])), (x1, .inl (cJ, 512, .inr (.inl xmw))), (x2, .inl (cJ, 512, .inr (.inl xmp))), (x3, .inl (cJ, 24, .inr (.inl xr))), (x4, .inl (cI, 8, .inl xd)), (x5, .inl (cJ, 5, .inr (.inl xwt))), (x6, .inl (cJ, 24, .inr (.inl xf))), (x7, .inl (cJ, 24, .inr (.inl xrd))), (x8, .inl (cJ, 6, .inr (.inl xu)))] H := hP
  have hD : va_D (va_A w0 s.heap.size) [(hX, .inr (6, [.int xt, .ref x1, .ref x2, .ref x3, .int xw, .int xp, .int xs, .long xc, .ref x4, .ref x5, .ref x6, .ref x7, .ref x8, .long xM, .long xE, .long xL, .int xo, .int xi, .int xj, .int xk, .int xn, .int xz, .int xa, .int t0])), (x1, .inl (cJ, 512, .inr (.inl xmw))), (x2, .inl (cJ, 512, .inr (.inl xmp))), (x3, .inl (cJ, 24, .inr (.inl xr))), (x4, .inl (cI, 8, .inl xd)), (x5, .inl (cJ, 5, .inr (.inl xwt))), (x6, .inl (cJ, 24, .inr (.inl xf))), (x7, .inl (cJ, 24, .inr (.inl xrd))), (x8, .inl (cJ, 6, .inr (.inl xu)))] := hD
  have e9 : (F_X9_give_22 t0 xg') = t0 := by rw [F_X9_give_22]
  rw [e9] at hV
  subst hV
  exact wrRetV C0 hK hP hD hS dX9_give_25
set_option maxHeartbeats 4000000 in
set_option maxRecDepth 100000 in
theorem w_X9_give {p : Program} {l : Launch} {e : Env} {s : State} {m : MethodId} {below : List Frame} {meth : Method} {c : Code} {args : Array Value} (dC : Nat → ClassId) (dI : Nat → Nat → Nat) (cI cJ : ClassId) (hX x1 x2 x3 x4 x5 x6 x7 x8 : Nat) (n : Int32) (xt : Int32) (xw : Int32) (xp : Int32) (xs : Int32) (xc : Int64) (xM : Int64) (xE : Int64) (xL : Int64) (xo : Int32) (xi : Int32) (xj : Int32) (xk : Int32) (xn : Int32) (xz : Int32) (xa : Int32) (xg : Int32) (xmw : Nat → Int64) (xmp : Nat → Int64) (xr : Nat → Int64) (xd : Nat → Int32) (xwt : Nat → Int64) (xf : Nat → Int64) (xrd : Nat → Int64) (xu : Nat → Int64) {w0 : va_W} (C0 : Cx p s m meth c cX9_give 2 none wsX9_give RX9 args) (hK : va_K (dC, dI) vwCl [(cI, .int), (cJ, .long)] s) (hZ : Zs false (va_A w0 s.heap.size) s s.heap) {V : Int32} (hV : (F_X9_give n xg ) = V) (ls : Array Slot) (hl : lv_has ls 2 [(0, .ref hX), (1, .int n)]) {H : Heap} {locs : List Loc} (hP : va_P (dC, dI) vwCl [(hX, .inr (6, [.int xt, .ref x1, .ref x2, .ref x3, .int xw, .int xp, .int xs, .long xc, .ref x4, .ref x5, .ref x6, .ref x7, .ref x8, .long xM, .long xE, .long xL, .int xo, .int xi, .int xj, .int xk, .int xn, .int xz, .int xa, .int xg])), (x1, .inl (cJ, 512, .inr (.inl xmw))), (x2, .inl (cJ, 512, .inr (.inl xmp))), (x3, .inl (cJ, 24, .inr (.inl xr))), (x4, .inl (cI, 8, .inl xd)), (x5, .inl (cJ, 5, .inr (.inl xwt))), (x6, .inl (cJ, 24, .inr (.inl xf))), (x7, .inl (cJ, 24, .inr (.inl xrd))), (x8, .inl (cJ, 6, .inr (.inl xu)))] H) (hD : va_D (va_A w0 s.heap.size) [(hX, .inr (6, [.int xt, .ref x1, .ref x2, .ref x3, .int xw, .int xp, .int xs, .long xc, .ref x4, .ref x5, .ref x6, .ref x7, .ref x8, .long xM, .long xE, .long xL, .int xo, .int xi, .int xj, .int xk, .int xn, .int xz, .int xa, .int xg])), (x1, .inl (cJ, 512, .inr (.inl xmw))), (x2, .inl (cJ, 512, .inr (.inl xmp))), (x3, .inl (cJ, 24, .inr (.inl xr))), (x4, .inl (cI, 8, .inl xd)), (x5, .inl (cJ, 5, .inr (.inl xwt))), (x6, .inl (cJ, 24, .inr (.inl xf))), (x7, .inl (cJ, 24, .inr (.inl xrd))), (x8, .inl (cJ, 6, .inr (.inl xu)))]) (hS : va_S (va_A w0 s.heap.size) s.heap H locs) : W p l e rm_X9_give s m args below meth c H locs 0 0 (MQ below (QV (dC, dI) [(cI, .int), (cJ, .long)] w0 [(hX, .inr (6, [.int xt, .ref x1, .ref x2, .ref x3, .int xw, .int xp, .int xs, .long xc, .ref x4, .ref x5, .ref x6, .ref x7, .ref x8, .long xM, .long xE, .long xL, .int xo, .int xi, .int xj, .int xk, .int xn, .int xz, .int xa, .int V])), (x1, .inl (cJ, 512, .inr (.inl xmw))), (x2, .inl (cJ, 512, .inr (.inl xmp))), (x3, .inl (cJ, 24, .inr (.inl xr))), (x4, .inl (cI, 8, .inl xd)), (x5, .inl (cJ, 5, .inr (.inl xwt))), (x6, .inl (cJ, 24, .inr (.inl xf))), (x7, .inl (cJ, 24, .inr (.inl xrd))), (x8, .inl (cJ, 6, .inr (.inl xu)))] s.heap.size) args s 0 0 (va_A w0 s.heap.size)) (F0 m 0 ls []) := by
  obtain ⟨hx, hb, hr, hlk, hml, hown, hts⟩ := id C0
  have hA : ∀ q : Nat, s.heap.size ≤ q → va_A w0 s.heap.size q := fun q h => Or.inr h
  refine lv_aload_n hx hb dX9_give_0 rfl (lv_at hl 0 rfl) ?_
  refine lv_iload_n hx hb dX9_give_1 rfl (lv_at hl 1 rfl) ?_
  refine lv_bipush (v := (16 : Int32)) hx hb dX9_give_2 (by decide) ?_
  refine lv_icmp_ne (x := n) (y := (16 : Int32)) (tgt := 14) hx hb dX9_give_4 (by decide) (fun c1 => ?_) (fun c1 => ?_)
  · refine lv_aload_n hx hb dX9_give_14 rfl (lv_at hl 0 rfl) ?_
    refine va_get (D := (dC, dI)) (ci := 6) (v := .int xg) (C := RX9) (T := TX9) (N := 24) hx hb hts mi_X9_give_X9 hown hK hP 0 rfl rfl 23 (by decide) (hts (.fieldLink RX9 99 "ScoreboardCoreModel" "gives" "I") mm_X9_give_f99) (fun _ h9 => h9) rfl dX9_give_15 ?_
    refine lv_iconst (v := (1 : Int32)) hx hb dX9_give_18 (by decide) ?_
    refine lv_iload_n hx hb dX9_give_19 rfl (lv_at hl 1 rfl) ?_
    refine lv_ishl hx hb dX9_give_20 ?_
    refine lv_ior hx hb dX9_give_21 ?_
    have e9 : (F_X9_give n xg ) = (F_X9_give_22 (xg ||| ((1 : Int32) <<< (n &&& 31))) xg) := by rw [F_X9_give, if_neg c1]
    rw [e9] at hV
    exact j_X9_give_22 dC dI cI cJ hX x1 x2 x3 x4 x5 x6 x7 x8 n xt xw xp xs xc xM xE xL xo xi xj xk xn xz xa xg xmw xmp xr xd xwt xf xrd xu C0 hK hZ (xg ||| ((1 : Int32) <<< (n &&& 31))) xg hV ls (lv_sub hl [] rfl) hP hD hS
  · refine lv_aload_n hx hb dX9_give_7 rfl (lv_at hl 0 rfl) ?_
    refine va_get (D := (dC, dI)) (ci := 6) (v := .int xg) (C := RX9) (T := TX9) (N := 24) hx hb hts mi_X9_give_X9 hown hK hP 0 rfl rfl 23 (by decide) (hts (.fieldLink RX9 99 "ScoreboardCoreModel" "gives" "I") mm_X9_give_f99) (fun _ h9 => h9) rfl dX9_give_8 ?_
    refine lv_goto (tgt := 22) hx hb dX9_give_11 (by decide) ?_
    have e9 : (F_X9_give n xg ) = (F_X9_give_22 xg xg) := by rw [F_X9_give, if_pos c1]
    rw [e9] at hV
    exact j_X9_give_22 dC dI cI cJ hX x1 x2 x3 x4 x5 x6 x7 x8 n xt xw xp xs xc xM xE xL xo xi xj xk xn xz xa xg xmw xmp xr xd xwt xf xrd xu C0 hK hZ xg xg hV ls (lv_sub hl [] rfl) hP hD hS
theorem c_X9_give (l : Launch) (dC : Nat → ClassId) (dI : Nat → Nat → Nat) (cI cJ : ClassId) (hX x1 x2 x3 x4 x5 x6 x7 x8 : Nat) (n : Int32) (xt : Int32) (xw : Int32) (xp : Int32) (xs : Int32) (xc : Int64) (xM : Int64) (xE : Int64) (xL : Int64) (xo : Int32) (xi : Int32) (xj : Int32) (xk : Int32) (xn : Int32) (xz : Int32) (xa : Int32) (xg : Int32) (xmw : Nat → Int64) (xmp : Nat → Int64) (xr : Nat → Int64) (xd : Nat → Int32) (xwt : Nat → Int64) (xf : Nat → Int64) (xrd : Nat → Int64) (xu : Nat → Int64) : WrV false l yX9_give wsX9_give rm_X9_give (dC, dI) [(cI, .int), (cJ, .long)] [(hX, .inr (6, [.int xt, .ref x1, .ref x2, .ref x3, .int xw, .int xp, .int xs, .long xc, .ref x4, .ref x5, .ref x6, .ref x7, .ref x8, .long xM, .long xE, .long xL, .int xo, .int xi, .int xj, .int xk, .int xn, .int xz, .int xa, .int xg])), (x1, .inl (cJ, 512, .inr (.inl xmw))), (x2, .inl (cJ, 512, .inr (.inl xmp))), (x3, .inl (cJ, 24, .inr (.inl xr))), (x4, .inl (cI, 8, .inl xd)), (x5, .inl (cJ, 5, .inr (.inl xwt))), (x6, .inl (cJ, 24, .inr (.inl xf))), (x7, .inl (cJ, 24, .inr (.inl xrd))), (x8, .inl (cJ, 6, .inr (.inl xu)))] [(hX, .inr (6, [.int xt, .ref x1, .ref x2, .ref x3, .int xw, .int xp, .int xs, .long xc, .ref x4, .ref x5, .ref x6, .ref x7, .ref x8, .long xM, .long xE, .long xL, .int xo, .int xi, .int xj, .int xk, .int xn, .int xz, .int xa, .int (F_X9_give n xg )])), (x1, .inl (cJ, 512, .inr (.inl xmw))), (x2, .inl (cJ, 512, .inr (.inl xmp))), (x3, .inl (cJ, 24, .inr (.inl xr))), (x4, .inl (cI, 8, .inl xd)), (x5, .inl (cJ, 5, .inr (.inl xwt))), (x6, .inl (cJ, 24, .inr (.inl xf))), (x7, .inl (cJ, 24, .inr (.inl xrd))), (x8, .inl (cJ, 6, .inr (.inl xu)))] [.ref hX, .int n] := by
  refine WrV.mk (cc := cX9_give) (nL := 2) (ret := none) [(0, .ref hX), (1, .int n)] (by decide) rfl (Nat.le_of_ble_eq_true rfl) rfl ?_
  intro p e s m below meth c C0 hP hK hD hS hZ ls hl
  exact w_X9_give dC dI cI cJ hX x1 x2 x3 x4 x5 x6 x7 x8 n xt xw xp xs xc xM xE xL xo xi xj xk xn xz xa xg xmw xmp xr xd xwt xf xrd xu C0 hK hZ rfl ls hl hP hD hS

-- X9_isMemory
def F_X9_isMemory (xo : Int32) (xi : Int32) : Int32 :=
  (if xo < (40 : Int32) then (0 : Int32) else (if (48 : Int32) ≤ xo then (0 : Int32) else (if xi ≤ 0 then (0 : Int32) else (1 : Int32))))
abbrev rm_X9_isMemory : Room := { frames := 0, cells := 0, slots := 0, locals := 0 }
set_option maxRecDepth 20000 in
theorem mi_X9_isMemory_X9 : ∀ w ∈ wsX90, w ∈ wsX9_isMemory := by decide +kernel
set_option maxRecDepth 20000 in
theorem mm_X9_isMemory_f68 : Cond.fieldLink RX9 68 "ScoreboardCoreModel" "op" "I" ∈ wsX9_isMemory := by decide +kernel
set_option maxRecDepth 20000 in
theorem mm_X9_isMemory_f71 : Cond.fieldLink RX9 71 "ScoreboardCoreModel" "i" "I" ∈ wsX9_isMemory := by decide +kernel
set_option maxHeartbeats 4000000 in
set_option maxRecDepth 100000 in
theorem w_X9_isMemory {p : Program} {l : Launch} {e : Env} {s : State} {m : MethodId} {below : List Frame} {meth : Method} {c : Code} {args : Array Value} (dC : Nat → ClassId) (dI : Nat → Nat → Nat) (cI cJ : ClassId) (hX x1 x2 x3 x4 x5 x6 x7 x8 : Nat) (xt : Int32) (xw : Int32) (xp : Int32) (xs : Int32) (xc : Int64) (xM : Int64) (xE : Int64) (xL : Int64) (xo : Int32) (xi : Int32) (xj : Int32) (xk : Int32) (xn : Int32) (xz : Int32) (xa : Int32) (xg : Int32) (xmw : Nat → Int64) (xmp : Nat → Int64) (xr : Nat → Int64) (xd : Nat → Int32) (xwt : Nat → Int64) (xf : Nat → Int64) (xrd : Nat → Int64) (xu : Nat → Int64) (C0 : Cx p s m meth c cX9_isMemory 1 (some .boolean) wsX9_isMemory RX9 args) (hK : va_K (dC, dI) vwCl [(cI, .int), (cJ, .long)] s) (hP : va_P (dC, dI) vwCl [(hX, .inr (6, [.int xt, .ref x1, .ref x2, .ref x3, .int xw, .int xp, .int xs, .long xc, .ref x4, .ref x5, .ref x6, .ref x7, .ref x8, .long xM, .long xE, .long xL, .int xo, .int xi, .int xj, .int xk, .int xn, .int xz, .int xa, .int xg])), (x1, .inl (cJ, 512, .inr (.inl xmw))), (x2, .inl (cJ, 512, .inr (.inl xmp))), (x3, .inl (cJ, 24, .inr (.inl xr))), (x4, .inl (cI, 8, .inl xd)), (x5, .inl (cJ, 5, .inr (.inl xwt))), (x6, .inl (cJ, 24, .inr (.inl xf))), (x7, .inl (cJ, 24, .inr (.inl xrd))), (x8, .inl (cJ, 6, .inr (.inl xu)))] s.heap) {V : Int32} (hV : (F_X9_isMemory xo xi ) = V) (ls : Array Slot) (hl : lv_has ls 1 [(0, .ref hX)]) : W p l e rm_X9_isMemory s m args below meth c s.heap [] 0 0 (MQ below (vp_Si (fun r => r = V)) args s 0 0 (fun _ => False)) (F0 m 0 ls []) := by
  obtain ⟨hx, hb, hr, hlk, hml, hown, hts⟩ := id C0
  refine lv_aload_n hx hb dX9_isMemory_0 rfl (lv_at hl 0 rfl) ?_
  refine va_get (D := (dC, dI)) (ci := 6) (v := .int xo) (C := RX9) (T := TX9) (N := 24) hx hb hts mi_X9_isMemory_X9 hown hK hP 0 rfl rfl 16 (by decide) (hts (.fieldLink RX9 68 "ScoreboardCoreModel" "op" "I") mm_X9_isMemory_f68) (fun _ h9 => h9) rfl dX9_isMemory_1 ?_
  refine lv_bipush (v := (40 : Int32)) hx hb dX9_isMemory_4 (by decide) ?_
  refine lv_icmp_lt (x := xo) (y := (40 : Int32)) (tgt := 29) hx hb dX9_isMemory_6 (by decide) (fun c1 => ?_) (fun c1 => ?_)
  · refine lv_iconst (v := (0 : Int32)) hx hb dX9_isMemory_29 (by decide) ?_
    have e9 : (F_X9_isMemory xo xi ) = (0 : Int32) := by rw [F_X9_isMemory, if_pos c1]
    rw [e9] at hV
    subst hV
    exact roRetZ C0 rfl rfl dX9_isMemory_30
  · refine lv_aload_n hx hb dX9_isMemory_9 rfl (lv_at hl 0 rfl) ?_
    refine va_get (D := (dC, dI)) (ci := 6) (v := .int xo) (C := RX9) (T := TX9) (N := 24) hx hb hts mi_X9_isMemory_X9 hown hK hP 0 rfl rfl 16 (by decide) (hts (.fieldLink RX9 68 "ScoreboardCoreModel" "op" "I") mm_X9_isMemory_f68) (fun _ h9 => h9) rfl dX9_isMemory_10 ?_
    refine lv_bipush (v := (48 : Int32)) hx hb dX9_isMemory_13 (by decide) ?_
    refine lv_icmp_ge (x := xo) (y := (48 : Int32)) (tgt := 29) hx hb dX9_isMemory_15 (by decide) (fun c2 => ?_) (fun c2 => ?_)
    · refine lv_iconst (v := (0 : Int32)) hx hb dX9_isMemory_29 (by decide) ?_
      have e9 : (F_X9_isMemory xo xi ) = (0 : Int32) := by rw [F_X9_isMemory, if_neg c1, if_pos c2]
      rw [e9] at hV
      subst hV
      exact roRetZ C0 rfl rfl dX9_isMemory_30
    · refine lv_aload_n hx hb dX9_isMemory_18 rfl (lv_at hl 0 rfl) ?_
      refine va_get (D := (dC, dI)) (ci := 6) (v := .int xi) (C := RX9) (T := TX9) (N := 24) hx hb hts mi_X9_isMemory_X9 hown hK hP 0 rfl rfl 17 (by decide) (hts (.fieldLink RX9 71 "ScoreboardCoreModel" "i" "I") mm_X9_isMemory_f71) (fun _ h9 => h9) rfl dX9_isMemory_19 ?_
      refine lv_if_le (x := xi) (tgt := 29) hx hb dX9_isMemory_22 (by decide) (fun c3 => ?_) (fun c3 => ?_)
      · refine lv_iconst (v := (0 : Int32)) hx hb dX9_isMemory_29 (by decide) ?_
        have e9 : (F_X9_isMemory xo xi ) = (0 : Int32) := by rw [F_X9_isMemory, if_neg c1, if_neg c2, if_pos c3]
        rw [e9] at hV
        subst hV
        exact roRetZ C0 rfl rfl dX9_isMemory_30
      · refine lv_iconst (v := (1 : Int32)) hx hb dX9_isMemory_25 (by decide) ?_
        refine lv_goto (tgt := 30) hx hb dX9_isMemory_26 (by decide) ?_
        have e9 : (F_X9_isMemory xo xi ) = (1 : Int32) := by rw [F_X9_isMemory, if_neg c1, if_neg c2, if_neg c3]
        rw [e9] at hV
        subst hV
        exact roRetZ C0 rfl rfl dX9_isMemory_30
theorem c_X9_isMemory (l : Launch) (dC : Nat → ClassId) (dI : Nat → Nat → Nat) (cI cJ : ClassId) (hX x1 x2 x3 x4 x5 x6 x7 x8 : Nat) (xt : Int32) (xw : Int32) (xp : Int32) (xs : Int32) (xc : Int64) (xM : Int64) (xE : Int64) (xL : Int64) (xo : Int32) (xi : Int32) (xj : Int32) (xk : Int32) (xn : Int32) (xz : Int32) (xa : Int32) (xg : Int32) (xmw : Nat → Int64) (xmp : Nat → Int64) (xr : Nat → Int64) (xd : Nat → Int32) (xwt : Nat → Int64) (xf : Nat → Int64) (xrd : Nat → Int64) (xu : Nat → Int64) : RoI l yX9_isMemory wsX9_isMemory rm_X9_isMemory (dC, dI) [(cI, .int), (cJ, .long)] [(hX, .inr (6, [.int xt, .ref x1, .ref x2, .ref x3, .int xw, .int xp, .int xs, .long xc, .ref x4, .ref x5, .ref x6, .ref x7, .ref x8, .long xM, .long xE, .long xL, .int xo, .int xi, .int xj, .int xk, .int xn, .int xz, .int xa, .int xg])), (x1, .inl (cJ, 512, .inr (.inl xmw))), (x2, .inl (cJ, 512, .inr (.inl xmp))), (x3, .inl (cJ, 24, .inr (.inl xr))), (x4, .inl (cI, 8, .inl xd)), (x5, .inl (cJ, 5, .inr (.inl xwt))), (x6, .inl (cJ, 24, .inr (.inl xf))), (x7, .inl (cJ, 24, .inr (.inl xrd))), (x8, .inl (cJ, 6, .inr (.inl xu)))] [.ref hX] (F_X9_isMemory xo xi ) := by
  refine RoI.mk (cc := cX9_isMemory) (nL := 1) (ret := (some .boolean)) [(0, .ref hX)] (by decide) rfl (Nat.le_of_ble_eq_true rfl) rfl ?_
  intro p e s m below meth c C0 hP hK ls hl
  exact w_X9_isMemory dC dI cI cJ hX x1 x2 x3 x4 x5 x6 x7 x8 xt xw xp xs xc xM xE xL xo xi xj xk xn xz xa xg xmw xmp xr xd xwt xf xrd xu C0 hK hP rfl ls hl

-- X9_find
def F_X9_find_411 (xj : Int32) (xa' : Int32) (xg' : Int32) : Int32 × Int32 :=
  ((F_X9_need ((16 : Int32) + xj) xa'), xg')
def F_X9_find_393 (xo : Int32) (xj : Int32) (xa' : Int32) (xg' : Int32) : Int32 × Int32 :=
  (if xo = (18 : Int32) then (F_X9_find_411 xj xa' xg') else (if xo = (19 : Int32) then (F_X9_find_411 xj xa' xg') else (xa', xg')))
def F_X9_find_385 (xo : Int32) (xi : Int32) (xj : Int32) (xa' : Int32) (xg' : Int32) : Int32 × Int32 :=
  (F_X9_find_393 xo xj (F_X9_need xi xa') xg')
def F_X9_find_367 (xo : Int32) (xi : Int32) (xj : Int32) (xa' : Int32) (xg' : Int32) : Int32 × Int32 :=
  (if xo = (16 : Int32) then (F_X9_find_385 xo xi xj xa' xg') else (if xo = (17 : Int32) then (F_X9_find_385 xo xi xj xa' xg') else (F_X9_find_393 xo xj xa' xg')))
def F_X9_find_355 (xo : Int32) (xi : Int32) (xj : Int32) (xk : Int32) (v2 : Int32) (xa' : Int32) (xg' : Int32) : Int32 × Int32 :=
  (if v2 = 0 then (F_X9_find_367 xo xi xj xa' xg') else (F_X9_find_367 xo xi xj (F_X9_need xk xa') xg'))
def F_X9_find_342 (xo : Int32) (xi : Int32) (xj : Int32) (xk : Int32) (v1 : Int32) (t0 : Int32) (xa' : Int32) (xg' : Int32) : Int32 × Int32 :=
  (if v1 = 0 then (F_X9_find_355 xo xi xj xk t0 xa' xg') else (F_X9_find_355 xo xi xj xk t0 (F_X9_need xj xa') xg'))
def F_X9_find_337 (xo : Int32) (xi : Int32) (xj : Int32) (xk : Int32) (v1 : Int32) (xa' : Int32) (xg' : Int32) : Int32 × Int32 :=
  (F_X9_find_342 xo xi xj xk v1 (1 : Int32) xa' xg')
def F_X9_find_292 (xo : Int32) (xi : Int32) (xj : Int32) (xk : Int32) (v1 : Int32) (xa' : Int32) (xg' : Int32) : Int32 × Int32 :=
  (if xo = (18 : Int32) then (F_X9_find_337 xo xi xj xk v1 xa' xg') else (if xo = (19 : Int32) then (F_X9_find_337 xo xi xj xk v1 xa' xg') else (if xo = (30 : Int32) then (F_X9_find_337 xo xi xj xk v1 xa' xg') else (if xo = (31 : Int32) then (F_X9_find_337 xo xi xj xk v1 xa' xg') else (if xo = (39 : Int32) then (F_X9_find_337 xo xi xj xk v1 xa' xg') else (F_X9_find_342 xo xi xj xk v1 (0 : Int32) xa' xg'))))))
def F_X9_find_273 (xo : Int32) (xi : Int32) (xj : Int32) (xk : Int32) (t0 : Int32) (xa' : Int32) (xg' : Int32) : Int32 × Int32 :=
  (if xo < (9 : Int32) then (F_X9_find_292 xo xi xj xk t0 xa' xg') else (if xo ≤ (15 : Int32) then (F_X9_find_337 xo xi xj xk t0 xa' xg') else (F_X9_find_292 xo xi xj xk t0 xa' xg')))
def F_X9_find_268 (xo : Int32) (xi : Int32) (xj : Int32) (xk : Int32) (xa' : Int32) (xg' : Int32) : Int32 × Int32 :=
  (F_X9_find_273 xo xi xj xk (1 : Int32) xa' xg')
def F_X9_find_250 (xo : Int32) (xi : Int32) (xj : Int32) (xk : Int32) (xa' : Int32) (xg' : Int32) : Int32 × Int32 :=
  (if xo = (30 : Int32) then (F_X9_find_268 xo xi xj xk xa' xg') else (if xo = (31 : Int32) then (F_X9_find_268 xo xi xj xk xa' xg') else (F_X9_find_273 xo xi xj xk (0 : Int32) xa' xg')))
def F_X9_find_232 (xo : Int32) (xi : Int32) (xj : Int32) (xk : Int32) (xa' : Int32) (xg' : Int32) : Int32 × Int32 :=
  (if xo < (13 : Int32) then (F_X9_find_250 xo xi xj xk xa' xg') else (if xo ≤ (15 : Int32) then (F_X9_find_268 xo xi xj xk xa' xg') else (F_X9_find_250 xo xi xj xk xa' xg')))
def F_X9_find_173 (xo : Int32) (xi : Int32) (xa' : Int32) (xg' : Int32) : Int32 × Int32 :=
  (if (F_X9_isMemory xo xi) = 0 then (xa', xg') else (if xi ≤ (5 : Int32) then (xa', xg') else ((F_X9_need xi xa'), xg')))
def F_X9_find_146 (xo : Int32) (xi : Int32) (t0 : Int32) (xa' : Int32) (xg' : Int32) : Int32 × Int32 :=
  (if (F_X9_isMemory xo xi) = 0 then (F_X9_find_173 xo xi xa' (F_X9_give t0 xg')) else (if (6 : Int32) ≤ xi then (F_X9_find_173 xo xi xa' (F_X9_give t0 xg')) else (F_X9_find_173 xo xi xa' (F_X9_give xi (F_X9_give t0 xg')))))
def F_X9_find_103 (xo : Int32) (xi : Int32) (xa' : Int32) (xg' : Int32) : Int32 × Int32 :=
  (if (48 : Int32) ≤ xo then (if (56 : Int32) ≤ xo then (F_X9_find_146 xo xi xi xa' xg') else (F_X9_find_146 xo xi ((16 : Int32) + xi) xa' xg')) else (F_X9_find_146 xo xi ((8 : Int32) + xi) xa' xg'))
def F_X9_find_87 (xo : Int32) (xi : Int32) (xk : Int32) (v1 : Int32) (xa' : Int32) (xg' : Int32) : Int32 × Int32 :=
  (if v1 ≤ (2 : Int32) then (F_X9_find_103 xo xi xa' xg') else (F_X9_find_103 xo xi (F_X9_need ((16 : Int32) + xk) xa') xg'))
def F_X9_find_41 (xo : Int32) (xi : Int32) (xj : Int32) (xk : Int32) (v1 : Int32) (xa' : Int32) (xg' : Int32) : Int32 × Int32 :=
  (F_X9_find_87 xo xi xk v1 (F_X9_need ((8 : Int32) + xj) xa') xg')
def F_X9_find_65 (xo : Int32) (xi : Int32) (xj : Int32) (xk : Int32) (v1 : Int32) (xa' : Int32) (xg' : Int32) : Int32 × Int32 :=
  (F_X9_find_87 xo xi xk v1 (F_X9_need xj xa') xg')
def F_X9_find (xo : Int32) (xi : Int32) (xj : Int32) (xk : Int32) : Int32 × Int32 :=
  (if xo < (40 : Int32) then (if xo = (8 : Int32) then (F_X9_find_268 xo xi xj xk (0 : Int32) (F_X9_give xi (0 : Int32))) else (if xo < (9 : Int32) then (F_X9_find_232 xo xi xj xk (0 : Int32) (F_X9_give xi (0 : Int32))) else (if xo ≤ (11 : Int32) then (F_X9_find_268 xo xi xj xk (0 : Int32) (F_X9_give xi (0 : Int32))) else (F_X9_find_232 xo xi xj xk (0 : Int32) (F_X9_give xi (0 : Int32)))))) else (if (xo - xo / (8 : Int32) * (8 : Int32)) = 0 then (F_X9_find_41 xo xi xj xk (xo - xo / (8 : Int32) * (8 : Int32)) (0 : Int32) (0 : Int32)) else (if (xo - xo / (8 : Int32) * (8 : Int32)) = (4 : Int32) then (F_X9_find_41 xo xi xj xk (xo - xo / (8 : Int32) * (8 : Int32)) (0 : Int32) (0 : Int32)) else (if (xo - xo / (8 : Int32) * (8 : Int32)) = (5 : Int32) then (F_X9_find_41 xo xi xj xk (xo - xo / (8 : Int32) * (8 : Int32)) (0 : Int32) (0 : Int32)) else (if (xo - xo / (8 : Int32) * (8 : Int32)) = (2 : Int32) then (F_X9_find_65 xo xi xj xk (xo - xo / (8 : Int32) * (8 : Int32)) (0 : Int32) (0 : Int32)) else (if (xo - xo / (8 : Int32) * (8 : Int32)) = (3 : Int32) then (F_X9_find_65 xo xi xj xk (xo - xo / (8 : Int32) * (8 : Int32)) (0 : Int32) (0 : Int32)) else (F_X9_find_87 xo xi xk (xo - xo / (8 : Int32) * (8 : Int32)) (F_X9_need ((16 : Int32) + xj) (0 : Int32)) (0 : Int32))))))))
abbrev rm_X9_find : Room := { frames := 1, cells := 0, slots := 0, locals := 21 }
set_option maxRecDepth 20000 in
theorem mi_X9_find_X9 : ∀ w ∈ wsX90, w ∈ wsX9_find := by decide +kernel
set_option maxRecDepth 20000 in
theorem mm_X9_find_f68 : Cond.fieldLink RX9 68 "ScoreboardCoreModel" "op" "I" ∈ wsX9_find := by decide +kernel
set_option maxRecDepth 20000 in
theorem mm_X9_find_f71 : Cond.fieldLink RX9 71 "ScoreboardCoreModel" "i" "I" ∈ wsX9_find := by decide +kernel
set_option maxRecDepth 20000 in
theorem mm_X9_find_f83 : Cond.fieldLink RX9 83 "ScoreboardCoreModel" "j" "I" ∈ wsX9_find := by decide +kernel
set_option maxRecDepth 20000 in
theorem mm_X9_find_f86 : Cond.fieldLink RX9 86 "ScoreboardCoreModel" "k" "I" ∈ wsX9_find := by decide +kernel
set_option maxRecDepth 20000 in
theorem mm_X9_find_f96 : Cond.fieldLink RX9 96 "ScoreboardCoreModel" "needs" "I" ∈ wsX9_find := by decide +kernel
set_option maxRecDepth 20000 in
theorem mm_X9_find_f99 : Cond.fieldLink RX9 99 "ScoreboardCoreModel" "gives" "I" ∈ wsX9_find := by decide +kernel
set_option maxRecDepth 20000 in
theorem mm_X9_find_iX9 : Cond.initialized RX9 ∈ wsX9_find := by decide +kernel
set_option maxRecDepth 20000 in
theorem mm_X9_find_l102 : Cond.methodLink RX9 102 yX9_need ∈ wsX9_find := by decide +kernel
set_option maxRecDepth 20000 in
theorem mm_X9_find_l106 : Cond.methodLink RX9 106 yX9_give ∈ wsX9_find := by decide +kernel
set_option maxRecDepth 20000 in
theorem mm_X9_find_l109 : Cond.methodLink RX9 109 yX9_isMemory ∈ wsX9_find := by decide +kernel
set_option maxRecDepth 20000 in
theorem mm_X9_find_nX9_give : Cond.instanceMethod yX9_give ∈ wsX9_find := by decide +kernel
set_option maxRecDepth 20000 in
theorem mm_X9_find_nX9_isMemory : Cond.instanceMethod yX9_isMemory ∈ wsX9_find := by decide +kernel
set_option maxRecDepth 20000 in
theorem mm_X9_find_nX9_need : Cond.instanceMethod yX9_need ∈ wsX9_find := by decide +kernel
set_option maxRecDepth 20000 in
theorem mm_X9_find_sX9_give : Cond.selects RX9 yX9_give yX9_give ∈ wsX9_find := by decide +kernel
set_option maxRecDepth 20000 in
theorem mm_X9_find_sX9_isMemory : Cond.selects RX9 yX9_isMemory yX9_isMemory ∈ wsX9_find := by decide +kernel
set_option maxRecDepth 20000 in
theorem mm_X9_find_sX9_need : Cond.selects RX9 yX9_need yX9_need ∈ wsX9_find := by decide +kernel
set_option maxHeartbeats 4000000 in
set_option maxRecDepth 100000 in
theorem j_X9_find_411 {p : Program} {l : Launch} {e : Env} {s : State} {m : MethodId} {below : List Frame} {meth : Method} {c : Code} {args : Array Value} (dC : Nat → ClassId) (dI : Nat → Nat → Nat) (cI cJ : ClassId) (hX x1 x2 x3 x4 x5 x6 x7 x8 : Nat) (xt : Int32) (xw : Int32) (xp : Int32) (xs : Int32) (xc : Int64) (xM : Int64) (xE : Int64) (xL : Int64) (xo : Int32) (xi : Int32) (xj : Int32) (xk : Int32) (xn : Int32) (xz : Int32) (xa : Int32) (xg : Int32) (xmw : Nat → Int64) (xmp : Nat → Int64) (xr : Nat → Int64) (xd : Nat → Int32) (xwt : Nat → Int64) (xf : Nat → Int64) (xrd : Nat → Int64) (xu : Nat → Int64) {w0 : va_W} (C0 : Cx p s m meth c cX9_find 3 none wsX9_find RX9 args) (hK : va_K (dC, dI) vwCl [(cI, .int), (cJ, .long)] s) (hZ : Zs false (va_A w0 s.heap.size) s s.heap) (xa' : Int32) (xg' : Int32) {V : Int32 × Int32} (hV : (F_X9_find_411 xj xa' xg') = V) (ls : Array Slot) (hl : lv_has ls 3 [(0, .ref hX)]) {H : Heap} {locs : List Loc} (hP : va_P (dC, dI) vwCl [(hX, .inr (6, [.int xt, .ref x1, .ref x2, .ref x3, .int xw, .int xp, .int xs, .long xc, .ref x4, .ref x5, .ref x6, .ref x7, .ref x8, .long xM, .long xE, .long xL, .int xo, .int xi, .int xj, .int xk, .int xn, .int xz, .int xa', .int xg'])), (x1, .inl (cJ, 512, .inr (.inl xmw))), (x2, .inl (cJ, 512, .inr (.inl xmp))), (x3, .inl (cJ, 24, .inr (.inl xr))), (x4, .inl (cI, 8, .inl xd)), (x5, .inl (cJ, 5, .inr (.inl xwt))), (x6, .inl (cJ, 24, .inr (.inl xf))), (x7, .inl (cJ, 24, .inr (.inl xrd))), (x8, .inl (cJ, 6, .inr (.inl xu)))] H) (hD : va_D (va_A w0 s.heap.size) [(hX, .inr (6, [.int xt, .ref x1, .ref x2, .ref x3, .int xw, .int xp, .int xs, .long xc, .ref x4, .ref x5, .ref x6, .ref x7, .ref x8, .long xM, .long xE, .long xL, .int xo, .int xi, .int xj, .int xk, .int xn, .int xz, .int xa', .int xg'])), (x1, .inl (cJ, 512, .inr (.inl xmw))), (x2, .inl (cJ, 512, .inr (.inl xmp))), (x3, .inl (cJ, 24, .inr (.inl xr))), (x4, .inl (cI, 8, .inl xd)), (x5, .inl (cJ, 5, .inr (.inl xwt))), (x6, .inl (cJ, 24, .inr (.inl xf))), (x7, .inl (cJ, 24, .inr (.inl xrd))), (x8, .inl (cJ, 6, .inr (.inl xu)))]) (hS : va_S (va_A w0 s.heap.size) s.heap H locs) : W p l e rm_X9_find s m args below meth c H locs 0 0 (MQ below (QV (dC, dI) [(cI, .int), (cJ, .long)] w0 [(hX, .inr (6, [.int xt, .ref x1, .ref x2, .ref x3, .int xw, .int xp, .int xs, .long xc, .ref x4, .ref x5, .ref x6, .ref x7, .ref x8, .long xM, .long xE, .long xL, .int xo, .int xi, .int xj, .int xk, .int xn, .int xz, .int V.1, .int V.2])), (x1, .inl (cJ, 512, .inr (.inl xmw))), (x2, .inl (cJ, 512, .inr (.inl xmp))), (x3, .inl (cJ, 24, .inr (.inl xr))), (x4, .inl (cI, 8, .inl xd)), (x5, .inl (cJ, 5, .inr (.inl xwt))), (x6, .inl (cJ, 24, .inr (.inl xf))), (x7, .inl (cJ, 24, .inr (.inl xrd))), (x8, .inl (cJ, 6, .inr (.inl xu)))] s.heap.size) args s 0 0 (va_A w0 s.heap.size)) (F0 m 411 ls []) := by
  obtain ⟨hx, hb, hr, hlk, hml, hown, hts⟩ := id C0
  have hA : ∀ q : Nat, s.heap.size ≤ q → va_A w0 s.heap.size q := fun q h => Or.inr h
  refine lv_aload_n hx hb dX9_find_411 rfl (lv_at hl 0 rfl) ?_
  refine lv_bipush (v := (16 : Int32)) hx hb dX9_find_412 (by decide) ?_
  refine lv_aload_n hx hb dX9_find_414 rfl (lv_at hl 0 rfl) ?_
  refine va_get (D := (dC, dI)) (ci := 6) (v := .int xj) (C := RX9) (T := TX9) (N := 24) hx hb hts mi_X9_find_X9 hown hK hP 0 rfl rfl 18 (by decide) (hts (.fieldLink RX9 83 "ScoreboardCoreModel" "j" "I") mm_X9_find_f83) (fun _ h9 => h9) rfl dX9_find_415 ?_
  refine lv_iadd hx hb dX9_find_418 ?_
  refine wrVv (As := [.int ((16 : Int32) + xj)]) (rest := []) (bytes := cX9_need) (maxL := 2) (rty := none) (n := 1) (ci := 6) C0 (c_X9_need l dC dI cI cJ hX x1 x2 x3 x4 x5 x6 x7 x8 ((16 : Int32) + xj) xt xw xp xs xc xM xE xL xo xi xj xk xn xz xa' xg' xmw xmp xr xd xwt xf xrd xu) ⟨rfl, rfl, rfl, by decide +kernel, by decide, by decide⟩ ggX9_find_X9_need mm_X9_find_iX9 mm_X9_find_l102 mm_X9_find_nX9_need mm_X9_find_sX9_need rfl rfl hP hD hK hS hA (Zs.no _ _ _) [0, 1, 2, 3, 4, 5, 6, 7, 8] [] [0, 1, 2, 3, 4, 5, 6, 7, 8] [] [(hX, .inr (6, [.int xt, .ref x1, .ref x2, .ref x3, .int xw, .int xp, .int xs, .long xc, .ref x4, .ref x5, .ref x6, .ref x7, .ref x8, .long xM, .long xE, .long xL, .int xo, .int xi, .int xj, .int xk, .int xn, .int xz, .int (F_X9_need ((16 : Int32) + xj) xa'), .int xg'])), (x1, .inl (cJ, 512, .inr (.inl xmw))), (x2, .inl (cJ, 512, .inr (.inl xmp))), (x3, .inl (cJ, 24, .inr (.inl xr))), (x4, .inl (cI, 8, .inl xd)), (x5, .inl (cJ, 5, .inr (.inl xwt))), (x6, .inl (cJ, 24, .inr (.inl xf))), (x7, .inl (cJ, 24, .inr (.inl xrd))), (x8, .inl (cJ, 6, .inr (.inl xu)))] rfl (by decide) (hP.sub (ws' := [(hX, .inr (6, [.int xt, .ref x1, .ref x2, .ref x3, .int xw, .int xp, .int xs, .long xc, .ref x4, .ref x5, .ref x6, .ref x7, .ref x8, .long xM, .long xE, .long xL, .int xo, .int xi, .int xj, .int xk, .int xn, .int xz, .int xa', .int xg'])), (x1, .inl (cJ, 512, .inr (.inl xmw))), (x2, .inl (cJ, 512, .inr (.inl xmp))), (x3, .inl (cJ, 24, .inr (.inl xr))), (x4, .inl (cI, 8, .inl xd)), (x5, .inl (cJ, 5, .inr (.inl xwt))), (x6, .inl (cJ, 24, .inr (.inl xf))), (x7, .inl (cJ, 24, .inr (.inl xrd))), (x8, .inl (cJ, 6, .inr (.inl xu)))]) [0, 1, 2, 3, 4, 5, 6, 7, 8] rfl) rfl (by decide) (by decide) (by decide) rfl hl.1 rfl rfl (Nat.le_of_ble_eq_true rfl) dX9_find_419 ⟨Nat.zero_le _, Nat.zero_le _⟩ (fun H locs hP hD hS => ?_)
  have e9 : (F_X9_find_411 xj xa' xg') = ((F_X9_need ((16 : Int32) + xj) xa'), xg') := by rw [F_X9_find_411]
  rw [e9] at hV
  subst hV
  exact wrRetV C0 hK hP hD hS dX9_find_422
set_option maxHeartbeats 4000000 in
set_option maxRecDepth 100000 in
theorem j_X9_find_393 {p : Program} {l : Launch} {e : Env} {s : State} {m : MethodId} {below : List Frame} {meth : Method} {c : Code} {args : Array Value} (dC : Nat → ClassId) (dI : Nat → Nat → Nat) (cI cJ : ClassId) (hX x1 x2 x3 x4 x5 x6 x7 x8 : Nat) (xt : Int32) (xw : Int32) (xp : Int32) (xs : Int32) (xc : Int64) (xM : Int64) (xE : Int64) (xL : Int64) (xo : Int32) (xi : Int32) (xj : Int32) (xk : Int32) (xn : Int32) (xz : Int32) (xa : Int32) (xg : Int32) (xmw : Nat → Int64) (xmp : Nat → Int64) (xr : Nat → Int64) (xd : Nat → Int32) (xwt : Nat → Int64) (xf : Nat → Int64) (xrd : Nat → Int64) (xu : Nat → Int64) {w0 : va_W} (C0 : Cx p s m meth c cX9_find 3 none wsX9_find RX9 args) (hK : va_K (dC, dI) vwCl [(cI, .int), (cJ, .long)] s) (hZ : Zs false (va_A w0 s.heap.size) s s.heap) (xa' : Int32) (xg' : Int32) {V : Int32 × Int32} (hV : (F_X9_find_393 xo xj xa' xg') = V) (ls : Array Slot) (hl : lv_has ls 3 [(0, .ref hX)]) {H : Heap} {locs : List Loc} (hP : va_P (dC, dI) vwCl [(hX, .inr (6, [.int xt, .ref x1, .ref x2, .ref x3, .int xw, .int xp, .int xs, .long xc, .ref x4, .ref x5, .ref x6, .ref x7, .ref x8, .long xM, .long xE, .long xL, .int xo, .int xi, .int xj, .int xk, .int xn, .int xz, .int xa', .int xg'])), (x1, .inl (cJ, 512, .inr (.inl xmw))), (x2, .inl (cJ, 512, .inr (.inl xmp))), (x3, .inl (cJ, 24, .inr (.inl xr))), (x4, .inl (cI, 8, .inl xd)), (x5, .inl (cJ, 5, .inr (.inl xwt))), (x6, .inl (cJ, 24, .inr (.inl xf))), (x7, .inl (cJ, 24, .inr (.inl xrd))), (x8, .inl (cJ, 6, .inr (.inl xu)))] H) (hD : va_D (va_A w0 s.heap.size) [(hX, .inr (6, [.int xt, .ref x1, .ref x2, .ref x3, .int xw, .int xp, .int xs, .long xc, .ref x4, .ref x5, .ref x6, .ref x7, .ref x8, .long xM, .long xE, .long xL, .int xo, .int xi, .int xj, .int xk, .int xn, .int xz, .int xa', .int xg'])), (x1, .inl (cJ, 512, .inr (.inl xmw))), (x2, .inl (cJ, 512, .inr (.inl xmp))), (x3, .inl (cJ, 24, .inr (.inl xr))), (x4, .inl (cI, 8, .inl xd)), (x5, .inl (cJ, 5, .inr (.inl xwt))), (x6, .inl (cJ, 24, .inr (.inl xf))), (x7, .inl (cJ, 24, .inr (.inl xrd))), (x8, .inl (cJ, 6, .inr (.inl xu)))]) (hS : va_S (va_A w0 s.heap.size) s.heap H locs) : W p l e rm_X9_find s m args below meth c H locs 0 0 (MQ below (QV (dC, dI) [(cI, .int), (cJ, .long)] w0 [(hX, .inr (6, [.int xt, .ref x1, .ref x2, .ref x3, .int xw, .int xp, .int xs, .long xc, .ref x4, .ref x5, .ref x6, .ref x7, .ref x8, .long xM, .long xE, .long xL, .int xo, .int xi, .int xj, .int xk, .int xn, .int xz, .int V.1, .int V.2])), (x1, .inl (cJ, 512, .inr (.inl xmw))), (x2, .inl (cJ, 512, .inr (.inl xmp))), (x3, .inl (cJ, 24, .inr (.inl xr))), (x4, .inl (cI, 8, .inl xd)), (x5, .inl (cJ, 5, .inr (.inl xwt))), (x6, .inl (cJ, 24, .inr (.inl xf))), (x7, .inl (cJ, 24, .inr (.inl xrd))), (x8, .inl (cJ, 6, .inr (.inl xu)))] s.heap.size) args s 0 0 (va_A w0 s.heap.size)) (F0 m 393 ls []) := by
  obtain ⟨hx, hb, hr, hlk, hml, hown, hts⟩ := id C0
  have hA : ∀ q : Nat, s.heap.size ≤ q → va_A w0 s.heap.size q := fun q h => Or.inr h
  refine lv_aload_n hx hb dX9_find_393 rfl (lv_at hl 0 rfl) ?_
  refine va_get (D := (dC, dI)) (ci := 6) (v := .int xo) (C := RX9) (T := TX9) (N := 24) hx hb hts mi_X9_find_X9 hown hK hP 0 rfl rfl 16 (by decide) (hts (.fieldLink RX9 68 "ScoreboardCoreModel" "op" "I") mm_X9_find_f68) (fun _ h9 => h9) rfl dX9_find_394 ?_
  refine lv_bipush (v := (18 : Int32)) hx hb dX9_find_397 (by decide) ?_
  refine lv_icmp_eq (x := xo) (y := (18 : Int32)) (tgt := 411) hx hb dX9_find_399 (by decide) (fun c1 => ?_) (fun c1 => ?_)
  · have e9 : (F_X9_find_393 xo xj xa' xg') = (F_X9_find_411 xj xa' xg') := by rw [F_X9_find_393, if_pos c1]
    rw [e9] at hV
    exact j_X9_find_411 dC dI cI cJ hX x1 x2 x3 x4 x5 x6 x7 x8 xt xw xp xs xc xM xE xL xo xi xj xk xn xz xa xg xmw xmp xr xd xwt xf xrd xu C0 hK hZ xa' xg' hV ls (lv_sub hl [0] rfl) hP hD hS
  · refine lv_aload_n hx hb dX9_find_402 rfl (lv_at hl 0 rfl) ?_
    refine va_get (D := (dC, dI)) (ci := 6) (v := .int xo) (C := RX9) (T := TX9) (N := 24) hx hb hts mi_X9_find_X9 hown hK hP 0 rfl rfl 16 (by decide) (hts (.fieldLink RX9 68 "ScoreboardCoreModel" "op" "I") mm_X9_find_f68) (fun _ h9 => h9) rfl dX9_find_403 ?_
    refine lv_bipush (v := (19 : Int32)) hx hb dX9_find_406 (by decide) ?_
    refine lv_icmp_ne (x := xo) (y := (19 : Int32)) (tgt := 422) hx hb dX9_find_408 (by decide) (fun c2 => ?_) (fun c2 => ?_)
    · have e9 : (F_X9_find_393 xo xj xa' xg') = (xa', xg') := by rw [F_X9_find_393, if_neg c1, if_neg c2]
      rw [e9] at hV
      subst hV
      exact wrRetV C0 hK hP hD hS dX9_find_422
    · have e9 : (F_X9_find_393 xo xj xa' xg') = (F_X9_find_411 xj xa' xg') := by rw [F_X9_find_393, if_neg c1, if_pos c2]
      rw [e9] at hV
      exact j_X9_find_411 dC dI cI cJ hX x1 x2 x3 x4 x5 x6 x7 x8 xt xw xp xs xc xM xE xL xo xi xj xk xn xz xa xg xmw xmp xr xd xwt xf xrd xu C0 hK hZ xa' xg' hV ls (lv_sub hl [0] rfl) hP hD hS
set_option maxHeartbeats 4000000 in
set_option maxRecDepth 100000 in
theorem j_X9_find_385 {p : Program} {l : Launch} {e : Env} {s : State} {m : MethodId} {below : List Frame} {meth : Method} {c : Code} {args : Array Value} (dC : Nat → ClassId) (dI : Nat → Nat → Nat) (cI cJ : ClassId) (hX x1 x2 x3 x4 x5 x6 x7 x8 : Nat) (xt : Int32) (xw : Int32) (xp : Int32) (xs : Int32) (xc : Int64) (xM : Int64) (xE : Int64) (xL : Int64) (xo : Int32) (xi : Int32) (xj : Int32) (xk : Int32) (xn : Int32) (xz : Int32) (xa : Int32) (xg : Int32) (xmw : Nat → Int64) (xmp : Nat → Int64) (xr : Nat → Int64) (xd : Nat → Int32) (xwt : Nat → Int64) (xf : Nat → Int64) (xrd : Nat → Int64) (xu : Nat → Int64) {w0 : va_W} (C0 : Cx p s m meth c cX9_find 3 none wsX9_find RX9 args) (hK : va_K (dC, dI) vwCl [(cI, .int), (cJ, .long)] s) (hZ : Zs false (va_A w0 s.heap.size) s s.heap) (xa' : Int32) (xg' : Int32) {V : Int32 × Int32} (hV : (F_X9_find_385 xo xi xj xa' xg') = V) (ls : Array Slot) (hl : lv_has ls 3 [(0, .ref hX)]) {H : Heap} {locs : List Loc} (hP : va_P (dC, dI) vwCl [(hX, .inr (6, [.int xt, .ref x1, .ref x2, .ref x3, .int xw, .int xp, .int xs, .long xc, .ref x4, .ref x5, .ref x6, .ref x7, .ref x8, .long xM, .long xE, .long xL, .int xo, .int xi, .int xj, .int xk, .int xn, .int xz, .int xa', .int xg'])), (x1, .inl (cJ, 512, .inr (.inl xmw))), (x2, .inl (cJ, 512, .inr (.inl xmp))), (x3, .inl (cJ, 24, .inr (.inl xr))), (x4, .inl (cI, 8, .inl xd)), (x5, .inl (cJ, 5, .inr (.inl xwt))), (x6, .inl (cJ, 24, .inr (.inl xf))), (x7, .inl (cJ, 24, .inr (.inl xrd))), (x8, .inl (cJ, 6, .inr (.inl xu)))] H) (hD : va_D (va_A w0 s.heap.size) [(hX, .inr (6, [.int xt, .ref x1, .ref x2, .ref x3, .int xw, .int xp, .int xs, .long xc, .ref x4, .ref x5, .ref x6, .ref x7, .ref x8, .long xM, .long xE, .long xL, .int xo, .int xi, .int xj, .int xk, .int xn, .int xz, .int xa', .int xg'])), (x1, .inl (cJ, 512, .inr (.inl xmw))), (x2, .inl (cJ, 512, .inr (.inl xmp))), (x3, .inl (cJ, 24, .inr (.inl xr))), (x4, .inl (cI, 8, .inl xd)), (x5, .inl (cJ, 5, .inr (.inl xwt))), (x6, .inl (cJ, 24, .inr (.inl xf))), (x7, .inl (cJ, 24, .inr (.inl xrd))), (x8, .inl (cJ, 6, .inr (.inl xu)))]) (hS : va_S (va_A w0 s.heap.size) s.heap H locs) : W p l e rm_X9_find s m args below meth c H locs 0 0 (MQ below (QV (dC, dI) [(cI, .int), (cJ, .long)] w0 [(hX, .inr (6, [.int xt, .ref x1, .ref x2, .ref x3, .int xw, .int xp, .int xs, .long xc, .ref x4, .ref x5, .ref x6, .ref x7, .ref x8, .long xM, .long xE, .long xL, .int xo, .int xi, .int xj, .int xk, .int xn, .int xz, .int V.1, .int V.2])), (x1, .inl (cJ, 512, .inr (.inl xmw))), (x2, .inl (cJ, 512, .inr (.inl xmp))), (x3, .inl (cJ, 24, .inr (.inl xr))), (x4, .inl (cI, 8, .inl xd)), (x5, .inl (cJ, 5, .inr (.inl xwt))), (x6, .inl (cJ, 24, .inr (.inl xf))), (x7, .inl (cJ, 24, .inr (.inl xrd))), (x8, .inl (cJ, 6, .inr (.inl xu)))] s.heap.size) args s 0 0 (va_A w0 s.heap.size)) (F0 m 385 ls []) := by
  obtain ⟨hx, hb, hr, hlk, hml, hown, hts⟩ := id C0
  have hA : ∀ q : Nat, s.heap.size ≤ q → va_A w0 s.heap.size q := fun q h => Or.inr h
  refine lv_aload_n hx hb dX9_find_385 rfl (lv_at hl 0 rfl) ?_
  refine lv_aload_n hx hb dX9_find_386 rfl (lv_at hl 0 rfl) ?_
  refine va_get (D := (dC, dI)) (ci := 6) (v := .int xi) (C := RX9) (T := TX9) (N := 24) hx hb hts mi_X9_find_X9 hown hK hP 0 rfl rfl 17 (by decide) (hts (.fieldLink RX9 71 "ScoreboardCoreModel" "i" "I") mm_X9_find_f71) (fun _ h9 => h9) rfl dX9_find_387 ?_
  refine wrVv (As := [.int xi]) (rest := []) (bytes := cX9_need) (maxL := 2) (rty := none) (n := 1) (ci := 6) C0 (c_X9_need l dC dI cI cJ hX x1 x2 x3 x4 x5 x6 x7 x8 xi xt xw xp xs xc xM xE xL xo xi xj xk xn xz xa' xg' xmw xmp xr xd xwt xf xrd xu) ⟨rfl, rfl, rfl, by decide +kernel, by decide, by decide⟩ ggX9_find_X9_need mm_X9_find_iX9 mm_X9_find_l102 mm_X9_find_nX9_need mm_X9_find_sX9_need rfl rfl hP hD hK hS hA (Zs.no _ _ _) [0, 1, 2, 3, 4, 5, 6, 7, 8] [] [0, 1, 2, 3, 4, 5, 6, 7, 8] [] [(hX, .inr (6, [.int xt, .ref x1, .ref x2, .ref x3, .int xw, .int xp, .int xs, .long xc, .ref x4, .ref x5, .ref x6, .ref x7, .ref x8, .long xM, .long xE, .long xL, .int xo, .int xi, .int xj, .int xk, .int xn, .int xz, .int (F_X9_need xi xa'), .int xg'])), (x1, .inl (cJ, 512, .inr (.inl xmw))), (x2, .inl (cJ, 512, .inr (.inl xmp))), (x3, .inl (cJ, 24, .inr (.inl xr))), (x4, .inl (cI, 8, .inl xd)), (x5, .inl (cJ, 5, .inr (.inl xwt))), (x6, .inl (cJ, 24, .inr (.inl xf))), (x7, .inl (cJ, 24, .inr (.inl xrd))), (x8, .inl (cJ, 6, .inr (.inl xu)))] rfl (by decide) (hP.sub (ws' := [(hX, .inr (6, [.int xt, .ref x1, .ref x2, .ref x3, .int xw, .int xp, .int xs, .long xc, .ref x4, .ref x5, .ref x6, .ref x7, .ref x8, .long xM, .long xE, .long xL, .int xo, .int xi, .int xj, .int xk, .int xn, .int xz, .int xa', .int xg'])), (x1, .inl (cJ, 512, .inr (.inl xmw))), (x2, .inl (cJ, 512, .inr (.inl xmp))), (x3, .inl (cJ, 24, .inr (.inl xr))), (x4, .inl (cI, 8, .inl xd)), (x5, .inl (cJ, 5, .inr (.inl xwt))), (x6, .inl (cJ, 24, .inr (.inl xf))), (x7, .inl (cJ, 24, .inr (.inl xrd))), (x8, .inl (cJ, 6, .inr (.inl xu)))]) [0, 1, 2, 3, 4, 5, 6, 7, 8] rfl) rfl (by decide) (by decide) (by decide) rfl hl.1 rfl rfl (Nat.le_of_ble_eq_true rfl) dX9_find_390 ⟨Nat.zero_le _, Nat.zero_le _⟩ (fun H locs hP hD hS => ?_)
  have e9 : (F_X9_find_385 xo xi xj xa' xg') = (F_X9_find_393 xo xj (F_X9_need xi xa') xg') := by rw [F_X9_find_385]
  rw [e9] at hV
  exact j_X9_find_393 dC dI cI cJ hX x1 x2 x3 x4 x5 x6 x7 x8 xt xw xp xs xc xM xE xL xo xi xj xk xn xz xa xg xmw xmp xr xd xwt xf xrd xu C0 hK hZ (F_X9_need xi xa') xg' hV ls (lv_sub hl [0] rfl) hP hD hS
set_option maxHeartbeats 4000000 in
set_option maxRecDepth 100000 in
theorem j_X9_find_367 {p : Program} {l : Launch} {e : Env} {s : State} {m : MethodId} {below : List Frame} {meth : Method} {c : Code} {args : Array Value} (dC : Nat → ClassId) (dI : Nat → Nat → Nat) (cI cJ : ClassId) (hX x1 x2 x3 x4 x5 x6 x7 x8 : Nat) (xt : Int32) (xw : Int32) (xp : Int32) (xs : Int32) (xc : Int64) (xM : Int64) (xE : Int64) (xL : Int64) (xo : Int32) (xi : Int32) (xj : Int32) (xk : Int32) (xn : Int32) (xz : Int32) (xa : Int32) (xg : Int32) (xmw : Nat → Int64) (xmp : Nat → Int64) (xr : Nat → Int64) (xd : Nat → Int32) (xwt : Nat → Int64) (xf : Nat → Int64) (xrd : Nat → Int64) (xu : Nat → Int64) {w0 : va_W} (C0 : Cx p s m meth c cX9_find 3 none wsX9_find RX9 args) (hK : va_K (dC, dI) vwCl [(cI, .int), (cJ, .long)] s) (hZ : Zs false (va_A w0 s.heap.size) s s.heap) (xa' : Int32) (xg' : Int32) {V : Int32 × Int32} (hV : (F_X9_find_367 xo xi xj xa' xg') = V) (ls : Array Slot) (hl : lv_has ls 3 [(0, .ref hX)]) {H : Heap} {locs : List Loc} (hP : va_P (dC, dI) vwCl [(hX, .inr (6, [.int xt, .ref x1, .ref x2, .ref x3, .int xw, .int xp, .int xs, .long xc, .ref x4, .ref x5, .ref x6, .ref x7, .ref x8, .long xM, .long xE, .long xL, .int xo, .int xi, .int xj, .int xk, .int xn, .int xz, .int xa', .int xg'])), (x1, .inl (cJ, 512, .inr (.inl xmw))), (x2, .inl (cJ, 512, .inr (.inl xmp))), (x3, .inl (cJ, 24, .inr (.inl xr))), (x4, .inl (cI, 8, .inl xd)), (x5, .inl (cJ, 5, .inr (.inl xwt))), (x6, .inl (cJ, 24, .inr (.inl xf))), (x7, .inl (cJ, 24, .inr (.inl xrd))), (x8, .inl (cJ, 6, .inr (.inl xu)))] H) (hD : va_D (va_A w0 s.heap.size) [(hX, .inr (6, [.int xt, .ref x1, .ref x2, .ref x3, .int xw, .int xp, .int xs, .long xc, .ref x4, .ref x5, .ref x6, .ref x7, .ref x8, .long xM, .long xE, .long xL, .int xo, .int xi, .int xj, .int xk, .int xn, .int xz, .int xa', .int xg'])), (x1, .inl (cJ, 512, .inr (.inl xmw))), (x2, .inl (cJ, 512, .inr (.inl xmp))), (x3, .inl (cJ, 24, .inr (.inl xr))), (x4, .inl (cI, 8, .inl xd)), (x5, .inl (cJ, 5, .inr (.inl xwt))), (x6, .inl (cJ, 24, .inr (.inl xf))), (x7, .inl (cJ, 24, .inr (.inl xrd))), (x8, .inl (cJ, 6, .inr (.inl xu)))]) (hS : va_S (va_A w0 s.heap.size) s.heap H locs) : W p l e rm_X9_find s m args below meth c H locs 0 0 (MQ below (QV (dC, dI) [(cI, .int), (cJ, .long)] w0 [(hX, .inr (6, [.int xt, .ref x1, .ref x2, .ref x3, .int xw, .int xp, .int xs, .long xc, .ref x4, .ref x5, .ref x6, .ref x7, .ref x8, .long xM, .long xE, .long xL, .int xo, .int xi, .int xj, .int xk, .int xn, .int xz, .int V.1, .int V.2])), (x1, .inl (cJ, 512, .inr (.inl xmw))), (x2, .inl (cJ, 512, .inr (.inl xmp))), (x3, .inl (cJ, 24, .inr (.inl xr))), (x4, .inl (cI, 8, .inl xd)), (x5, .inl (cJ, 5, .inr (.inl xwt))), (x6, .inl (cJ, 24, .inr (.inl xf))), (x7, .inl (cJ, 24, .inr (.inl xrd))), (x8, .inl (cJ, 6, .inr (.inl xu)))] s.heap.size) args s 0 0 (va_A w0 s.heap.size)) (F0 m 367 ls []) := by
  obtain ⟨hx, hb, hr, hlk, hml, hown, hts⟩ := id C0
  have hA : ∀ q : Nat, s.heap.size ≤ q → va_A w0 s.heap.size q := fun q h => Or.inr h
  refine lv_aload_n hx hb dX9_find_367 rfl (lv_at hl 0 rfl) ?_
  refine va_get (D := (dC, dI)) (ci := 6) (v := .int xo) (C := RX9) (T := TX9) (N := 24) hx hb hts mi_X9_find_X9 hown hK hP 0 rfl rfl 16 (by decide) (hts (.fieldLink RX9 68 "ScoreboardCoreModel" "op" "I") mm_X9_find_f68) (fun _ h9 => h9) rfl dX9_find_368 ?_
  refine lv_bipush (v := (16 : Int32)) hx hb dX9_find_371 (by decide) ?_
  refine lv_icmp_eq (x := xo) (y := (16 : Int32)) (tgt := 385) hx hb dX9_find_373 (by decide) (fun c1 => ?_) (fun c1 => ?_)
  · have e9 : (F_X9_find_367 xo xi xj xa' xg') = (F_X9_find_385 xo xi xj xa' xg') := by rw [F_X9_find_367, if_pos c1]
    rw [e9] at hV
    exact j_X9_find_385 dC dI cI cJ hX x1 x2 x3 x4 x5 x6 x7 x8 xt xw xp xs xc xM xE xL xo xi xj xk xn xz xa xg xmw xmp xr xd xwt xf xrd xu C0 hK hZ xa' xg' hV ls (lv_sub hl [0] rfl) hP hD hS
  · refine lv_aload_n hx hb dX9_find_376 rfl (lv_at hl 0 rfl) ?_
    refine va_get (D := (dC, dI)) (ci := 6) (v := .int xo) (C := RX9) (T := TX9) (N := 24) hx hb hts mi_X9_find_X9 hown hK hP 0 rfl rfl 16 (by decide) (hts (.fieldLink RX9 68 "ScoreboardCoreModel" "op" "I") mm_X9_find_f68) (fun _ h9 => h9) rfl dX9_find_377 ?_
    refine lv_bipush (v := (17 : Int32)) hx hb dX9_find_380 (by decide) ?_
    refine lv_icmp_ne (x := xo) (y := (17 : Int32)) (tgt := 393) hx hb dX9_find_382 (by decide) (fun c2 => ?_) (fun c2 => ?_)
    · have e9 : (F_X9_find_367 xo xi xj xa' xg') = (F_X9_find_393 xo xj xa' xg') := by rw [F_X9_find_367, if_neg c1, if_neg c2]
      rw [e9] at hV
      exact j_X9_find_393 dC dI cI cJ hX x1 x2 x3 x4 x5 x6 x7 x8 xt xw xp xs xc xM xE xL xo xi xj xk xn xz xa xg xmw xmp xr xd xwt xf xrd xu C0 hK hZ xa' xg' hV ls (lv_sub hl [0] rfl) hP hD hS
    · have e9 : (F_X9_find_367 xo xi xj xa' xg') = (F_X9_find_385 xo xi xj xa' xg') := by rw [F_X9_find_367, if_neg c1, if_pos c2]
      rw [e9] at hV
      exact j_X9_find_385 dC dI cI cJ hX x1 x2 x3 x4 x5 x6 x7 x8 xt xw xp xs xc xM xE xL xo xi xj xk xn xz xa xg xmw xmp xr xd xwt xf xrd xu C0 hK hZ xa' xg' hV ls (lv_sub hl [0] rfl) hP hD hS
set_option maxHeartbeats 4000000 in
set_option maxRecDepth 100000 in
theorem j_X9_find_355 {p : Program} {l : Launch} {e : Env} {s : State} {m : MethodId} {below : List Frame} {meth : Method} {c : Code} {args : Array Value} (dC : Nat → ClassId) (dI : Nat → Nat → Nat) (cI cJ : ClassId) (hX x1 x2 x3 x4 x5 x6 x7 x8 : Nat) (xt : Int32) (xw : Int32) (xp : Int32) (xs : Int32) (xc : Int64) (xM : Int64) (xE : Int64) (xL : Int64) (xo : Int32) (xi : Int32) (xj : Int32) (xk : Int32) (xn : Int32) (xz : Int32) (xa : Int32) (xg : Int32) (xmw : Nat → Int64) (xmp : Nat → Int64) (xr : Nat → Int64) (xd : Nat → Int32) (xwt : Nat → Int64) (xf : Nat → Int64) (xrd : Nat → Int64) (xu : Nat → Int64) {w0 : va_W} (C0 : Cx p s m meth c cX9_find 3 none wsX9_find RX9 args) (hK : va_K (dC, dI) vwCl [(cI, .int), (cJ, .long)] s) (hZ : Zs false (va_A w0 s.heap.size) s s.heap) (v2 : Int32) (xa' : Int32) (xg' : Int32) {V : Int32 × Int32} (hV : (F_X9_find_355 xo xi xj xk v2 xa' xg') = V) (ls : Array Slot) (hl : lv_has ls 3 [(0, .ref hX), (2, .int v2)]) {H : Heap} {locs : List Loc} (hP : va_P (dC, dI) vwCl [(hX, .inr (6, [.int xt, .ref x1, .ref x2, .ref x3, .int xw, .int xp, .int xs, .long xc, .ref x4, .ref x5, .ref x6, .ref x7, .ref x8, .long xM, .long xE, .long xL, .int xo, .int xi, .int xj, .int xk, .int xn, .int xz, .int xa', .int xg'])), (x1, .inl (cJ, 512, .inr (.inl xmw))), (x2, .inl (cJ, 512, .inr (.inl xmp))), (x3, .inl (cJ, 24, .inr (.inl xr))), (x4, .inl (cI, 8, .inl xd)), (x5, .inl (cJ, 5, .inr (.inl xwt))), (x6, .inl (cJ, 24, .inr (.inl xf))), (x7, .inl (cJ, 24, .inr (.inl xrd))), (x8, .inl (cJ, 6, .inr (.inl xu)))] H) (hD : va_D (va_A w0 s.heap.size) [(hX, .inr (6, [.int xt, .ref x1, .ref x2, .ref x3, .int xw, .int xp, .int xs, .long xc, .ref x4, .ref x5, .ref x6, .ref x7, .ref x8, .long xM, .long xE, .long xL, .int xo, .int xi, .int xj, .int xk, .int xn, .int xz, .int xa', .int xg'])), (x1, .inl (cJ, 512, .inr (.inl xmw))), (x2, .inl (cJ, 512, .inr (.inl xmp))), (x3, .inl (cJ, 24, .inr (.inl xr))), (x4, .inl (cI, 8, .inl xd)), (x5, .inl (cJ, 5, .inr (.inl xwt))), (x6, .inl (cJ, 24, .inr (.inl xf))), (x7, .inl (cJ, 24, .inr (.inl xrd))), (x8, .inl (cJ, 6, .inr (.inl xu)))]) (hS : va_S (va_A w0 s.heap.size) s.heap H locs) : W p l e rm_X9_find s m args below meth c H locs 0 0 (MQ below (QV (dC, dI) [(cI, .int), (cJ, .long)] w0 [(hX, .inr (6, [.int xt, .ref x1, .ref x2, .ref x3, .int xw, .int xp, .int xs, .long xc, .ref x4, .ref x5, .ref x6, .ref x7, .ref x8, .long xM, .long xE, .long xL, .int xo, .int xi, .int xj, .int xk, .int xn, .int xz, .int V.1, .int V.2])), (x1, .inl (cJ, 512, .inr (.inl xmw))), (x2, .inl (cJ, 512, .inr (.inl xmp))), (x3, .inl (cJ, 24, .inr (.inl xr))), (x4, .inl (cI, 8, .inl xd)), (x5, .inl (cJ, 5, .inr (.inl xwt))), (x6, .inl (cJ, 24, .inr (.inl xf))), (x7, .inl (cJ, 24, .inr (.inl xrd))), (x8, .inl (cJ, 6, .inr (.inl xu)))] s.heap.size) args s 0 0 (va_A w0 s.heap.size)) (F0 m 355 ls []) := by
  obtain ⟨hx, hb, hr, hlk, hml, hown, hts⟩ := id C0
  have hA : ∀ q : Nat, s.heap.size ≤ q → va_A w0 s.heap.size q := fun q h => Or.inr h
  refine lv_iload_n hx hb dX9_find_355 rfl (lv_at hl 1 rfl) ?_
  refine lv_if_eq (x := v2) (tgt := 367) hx hb dX9_find_356 (by decide) (fun c1 => ?_) (fun c1 => ?_)
  · have e9 : (F_X9_find_355 xo xi xj xk v2 xa' xg') = (F_X9_find_367 xo xi xj xa' xg') := by rw [F_X9_find_355, if_pos c1]
    rw [e9] at hV
    exact j_X9_find_367 dC dI cI cJ hX x1 x2 x3 x4 x5 x6 x7 x8 xt xw xp xs xc xM xE xL xo xi xj xk xn xz xa xg xmw xmp xr xd xwt xf xrd xu C0 hK hZ xa' xg' hV ls (lv_sub hl [0] rfl) hP hD hS
  · refine lv_aload_n hx hb dX9_find_359 rfl (lv_at hl 0 rfl) ?_
    refine lv_aload_n hx hb dX9_find_360 rfl (lv_at hl 0 rfl) ?_
    refine va_get (D := (dC, dI)) (ci := 6) (v := .int xk) (C := RX9) (T := TX9) (N := 24) hx hb hts mi_X9_find_X9 hown hK hP 0 rfl rfl 19 (by decide) (hts (.fieldLink RX9 86 "ScoreboardCoreModel" "k" "I") mm_X9_find_f86) (fun _ h9 => h9) rfl dX9_find_361 ?_
    refine wrVv (As := [.int xk]) (rest := []) (bytes := cX9_need) (maxL := 2) (rty := none) (n := 1) (ci := 6) C0 (c_X9_need l dC dI cI cJ hX x1 x2 x3 x4 x5 x6 x7 x8 xk xt xw xp xs xc xM xE xL xo xi xj xk xn xz xa' xg' xmw xmp xr xd xwt xf xrd xu) ⟨rfl, rfl, rfl, by decide +kernel, by decide, by decide⟩ ggX9_find_X9_need mm_X9_find_iX9 mm_X9_find_l102 mm_X9_find_nX9_need mm_X9_find_sX9_need rfl rfl hP hD hK hS hA (Zs.no _ _ _) [0, 1, 2, 3, 4, 5, 6, 7, 8] [] [0, 1, 2, 3, 4, 5, 6, 7, 8] [] [(hX, .inr (6, [.int xt, .ref x1, .ref x2, .ref x3, .int xw, .int xp, .int xs, .long xc, .ref x4, .ref x5, .ref x6, .ref x7, .ref x8, .long xM, .long xE, .long xL, .int xo, .int xi, .int xj, .int xk, .int xn, .int xz, .int (F_X9_need xk xa'), .int xg'])), (x1, .inl (cJ, 512, .inr (.inl xmw))), (x2, .inl (cJ, 512, .inr (.inl xmp))), (x3, .inl (cJ, 24, .inr (.inl xr))), (x4, .inl (cI, 8, .inl xd)), (x5, .inl (cJ, 5, .inr (.inl xwt))), (x6, .inl (cJ, 24, .inr (.inl xf))), (x7, .inl (cJ, 24, .inr (.inl xrd))), (x8, .inl (cJ, 6, .inr (.inl xu)))] rfl (by decide) (hP.sub (ws' := [(hX, .inr (6, [.int xt, .ref x1, .ref x2, .ref x3, .int xw, .int xp, .int xs, .long xc, .ref x4, .ref x5, .ref x6, .ref x7, .ref x8, .long xM, .long xE, .long xL, .int xo, .int xi, .int xj, .int xk, .int xn, .int xz, .int xa', .int xg'])), (x1, .inl (cJ, 512, .inr (.inl xmw))), (x2, .inl (cJ, 512, .inr (.inl xmp))), (x3, .inl (cJ, 24, .inr (.inl xr))), (x4, .inl (cI, 8, .inl xd)), (x5, .inl (cJ, 5, .inr (.inl xwt))), (x6, .inl (cJ, 24, .inr (.inl xf))), (x7, .inl (cJ, 24, .inr (.inl xrd))), (x8, .inl (cJ, 6, .inr (.inl xu)))]) [0, 1, 2, 3, 4, 5, 6, 7, 8] rfl) rfl (by decide) (by decide) (by decide) rfl hl.1 rfl rfl (Nat.le_of_ble_eq_true rfl) dX9_find_364 ⟨Nat.zero_le _, Nat.zero_le _⟩ (fun H locs hP hD hS => ?_)
    have e9 : (F_X9_find_355 xo xi xj xk v2 xa' xg') = (F_X9_find_367 xo xi xj (F_X9_need xk xa') xg') := by rw [F_X9_find_355, if_neg c1]
    rw [e9] at hV
    exact j_X9_find_367 dC dI cI cJ hX x1 x2 x3 x4 x5 x6 x7 x8 xt xw xp xs xc xM xE xL xo xi xj xk xn xz xa xg xmw xmp xr xd xwt xf xrd xu C0 hK hZ (F_X9_need xk xa') xg' hV ls (lv_sub hl [0] rfl) hP hD hS
set_option maxHeartbeats 4000000 in
set_option maxRecDepth 100000 in
theorem j_X9_find_342 {p : Program} {l : Launch} {e : Env} {s : State} {m : MethodId} {below : List Frame} {meth : Method} {c : Code} {args : Array Value} (dC : Nat → ClassId) (dI : Nat → Nat → Nat) (cI cJ : ClassId) (hX x1 x2 x3 x4 x5 x6 x7 x8 : Nat) (xt : Int32) (xw : Int32) (xp : Int32) (xs : Int32) (xc : Int64) (xM : Int64) (xE : Int64) (xL : Int64) (xo : Int32) (xi : Int32) (xj : Int32) (xk : Int32) (xn : Int32) (xz : Int32) (xa : Int32) (xg : Int32) (xmw : Nat → Int64) (xmp : Nat → Int64) (xr : Nat → Int64) (xd : Nat → Int32) (xwt : Nat → Int64) (xf : Nat → Int64) (xrd : Nat → Int64) (xu : Nat → Int64) {w0 : va_W} (C0 : Cx p s m meth c cX9_find 3 none wsX9_find RX9 args) (hK : va_K (dC, dI) vwCl [(cI, .int), (cJ, .long)] s) (hZ : Zs false (va_A w0 s.heap.size) s s.heap) (v1 : Int32) (t0 : Int32) (xa' : Int32) (xg' : Int32) {V : Int32 × Int32} (hV : (F_X9_find_342 xo xi xj xk v1 t0 xa' xg') = V) (ls : Array Slot) (hl : lv_has ls 3 [(0, .ref hX), (1, .int v1)]) {H : Heap} {locs : List Loc} (hP : va_P (dC, dI) vwCl [(hX, .inr (6, [.int xt, .ref x1, .ref x2, .ref x3, .int xw, .int xp, .int xs, .long xc, .ref x4, .ref x5, .ref x6, .ref x7, .ref x8, .long xM, .long xE, .long xL, .int xo, .int xi, .int xj, .int xk, .int xn, .int xz, .int xa', .int xg'])), (x1, .inl (cJ, 512, .inr (.inl xmw))), (x2, .inl (cJ, 512, .inr (.inl xmp))), (x3, .inl (cJ, 24, .inr (.inl xr))), (x4, .inl (cI, 8, .inl xd)), (x5, .inl (cJ, 5, .inr (.inl xwt))), (x6, .inl (cJ, 24, .inr (.inl xf))), (x7, .inl (cJ, 24, .inr (.inl xrd))), (x8, .inl (cJ, 6, .inr (.inl xu)))] H) (hD : va_D (va_A w0 s.heap.size) [(hX, .inr (6, [.int xt, .ref x1, .ref x2, .ref x3, .int xw, .int xp, .int xs, .long xc, .ref x4, .ref x5, .ref x6, .ref x7, .ref x8, .long xM, .long xE, .long xL, .int xo, .int xi, .int xj, .int xk, .int xn, .int xz, .int xa', .int xg'])), (x1, .inl (cJ, 512, .inr (.inl xmw))), (x2, .inl (cJ, 512, .inr (.inl xmp))), (x3, .inl (cJ, 24, .inr (.inl xr))), (x4, .inl (cI, 8, .inl xd)), (x5, .inl (cJ, 5, .inr (.inl xwt))), (x6, .inl (cJ, 24, .inr (.inl xf))), (x7, .inl (cJ, 24, .inr (.inl xrd))), (x8, .inl (cJ, 6, .inr (.inl xu)))]) (hS : va_S (va_A w0 s.heap.size) s.heap H locs) : W p l e rm_X9_find s m args below meth c H locs 0 0 (MQ below (QV (dC, dI) [(cI, .int), (cJ, .long)] w0 [(hX, .inr (6, [.int xt, .ref x1, .ref x2, .ref x3, .int xw, .int xp, .int xs, .long xc, .ref x4, .ref x5, .ref x6, .ref x7, .ref x8, .long xM, .long xE, .long xL, .int xo, .int xi, .int xj, .int xk, .int xn, .int xz, .int V.1, .int V.2])), (x1, .inl (cJ, 512, .inr (.inl xmw))), (x2, .inl (cJ, 512, .inr (.inl xmp))), (x3, .inl (cJ, 24, .inr (.inl xr))), (x4, .inl (cI, 8, .inl xd)), (x5, .inl (cJ, 5, .inr (.inl xwt))), (x6, .inl (cJ, 24, .inr (.inl xf))), (x7, .inl (cJ, 24, .inr (.inl xrd))), (x8, .inl (cJ, 6, .inr (.inl xu)))] s.heap.size) args s 0 0 (va_A w0 s.heap.size)) (F0 m 342 ls [.int t0]) := by
  obtain ⟨hx, hb, hr, hlk, hml, hown, hts⟩ := id C0
  have hA : ∀ q : Nat, s.heap.size ≤ q → va_A w0 s.heap.size q := fun q h => Or.inr h
  refine lv_istore_n (lv' := [(2, .int t0), (0, .ref hX), (1, .int v1)]) hx hb dX9_find_342 rfl hl (by decide) rfl (fun ls hl => ?_)
  refine lv_iload_n hx hb dX9_find_343 rfl (lv_at hl 2 rfl) ?_
  refine lv_if_eq (x := v1) (tgt := 355) hx hb dX9_find_344 (by decide) (fun c1 => ?_) (fun c1 => ?_)
  · have e9 : (F_X9_find_342 xo xi xj xk v1 t0 xa' xg') = (F_X9_find_355 xo xi xj xk t0 xa' xg') := by rw [F_X9_find_342, if_pos c1]
    rw [e9] at hV
    exact j_X9_find_355 dC dI cI cJ hX x1 x2 x3 x4 x5 x6 x7 x8 xt xw xp xs xc xM xE xL xo xi xj xk xn xz xa xg xmw xmp xr xd xwt xf xrd xu C0 hK hZ t0 xa' xg' hV ls (lv_sub hl [1, 0] rfl) hP hD hS
  · refine lv_aload_n hx hb dX9_find_347 rfl (lv_at hl 1 rfl) ?_
    refine lv_aload_n hx hb dX9_find_348 rfl (lv_at hl 1 rfl) ?_
    refine va_get (D := (dC, dI)) (ci := 6) (v := .int xj) (C := RX9) (T := TX9) (N := 24) hx hb hts mi_X9_find_X9 hown hK hP 0 rfl rfl 18 (by decide) (hts (.fieldLink RX9 83 "ScoreboardCoreModel" "j" "I") mm_X9_find_f83) (fun _ h9 => h9) rfl dX9_find_349 ?_
    refine wrVv (As := [.int xj]) (rest := []) (bytes := cX9_need) (maxL := 2) (rty := none) (n := 1) (ci := 6) C0 (c_X9_need l dC dI cI cJ hX x1 x2 x3 x4 x5 x6 x7 x8 xj xt xw xp xs xc xM xE xL xo xi xj xk xn xz xa' xg' xmw xmp xr xd xwt xf xrd xu) ⟨rfl, rfl, rfl, by decide +kernel, by decide, by decide⟩ ggX9_find_X9_need mm_X9_find_iX9 mm_X9_find_l102 mm_X9_find_nX9_need mm_X9_find_sX9_need rfl rfl hP hD hK hS hA (Zs.no _ _ _) [0, 1, 2, 3, 4, 5, 6, 7, 8] [] [0, 1, 2, 3, 4, 5, 6, 7, 8] [] [(hX, .inr (6, [.int xt, .ref x1, .ref x2, .ref x3, .int xw, .int xp, .int xs, .long xc, .ref x4, .ref x5, .ref x6, .ref x7, .ref x8, .long xM, .long xE, .long xL, .int xo, .int xi, .int xj, .int xk, .int xn, .int xz, .int (F_X9_need xj xa'), .int xg'])), (x1, .inl (cJ, 512, .inr (.inl xmw))), (x2, .inl (cJ, 512, .inr (.inl xmp))), (x3, .inl (cJ, 24, .inr (.inl xr))), (x4, .inl (cI, 8, .inl xd)), (x5, .inl (cJ, 5, .inr (.inl xwt))), (x6, .inl (cJ, 24, .inr (.inl xf))), (x7, .inl (cJ, 24, .inr (.inl xrd))), (x8, .inl (cJ, 6, .inr (.inl xu)))] rfl (by decide) (hP.sub (ws' := [(hX, .inr (6, [.int xt, .ref x1, .ref x2, .ref x3, .int xw, .int xp, .int xs, .long xc, .ref x4, .ref x5, .ref x6, .ref x7, .ref x8, .long xM, .long xE, .long xL, .int xo, .int xi, .int xj, .int xk, .int xn, .int xz, .int xa', .int xg'])), (x1, .inl (cJ, 512, .inr (.inl xmw))), (x2, .inl (cJ, 512, .inr (.inl xmp))), (x3, .inl (cJ, 24, .inr (.inl xr))), (x4, .inl (cI, 8, .inl xd)), (x5, .inl (cJ, 5, .inr (.inl xwt))), (x6, .inl (cJ, 24, .inr (.inl xf))), (x7, .inl (cJ, 24, .inr (.inl xrd))), (x8, .inl (cJ, 6, .inr (.inl xu)))]) [0, 1, 2, 3, 4, 5, 6, 7, 8] rfl) rfl (by decide) (by decide) (by decide) rfl hl.1 rfl rfl (Nat.le_of_ble_eq_true rfl) dX9_find_352 ⟨Nat.zero_le _, Nat.zero_le _⟩ (fun H locs hP hD hS => ?_)
    have e9 : (F_X9_find_342 xo xi xj xk v1 t0 xa' xg') = (F_X9_find_355 xo xi xj xk t0 (F_X9_need xj xa') xg') := by rw [F_X9_find_342, if_neg c1]
    rw [e9] at hV
    exact j_X9_find_355 dC dI cI cJ hX x1 x2 x3 x4 x5 x6 x7 x8 xt xw xp xs xc xM xE xL xo xi xj xk xn xz xa xg xmw xmp xr xd xwt xf xrd xu C0 hK hZ t0 (F_X9_need xj xa') xg' hV ls (lv_sub hl [1, 0] rfl) hP hD hS
set_option maxHeartbeats 4000000 in
set_option maxRecDepth 100000 in
theorem j_X9_find_337 {p : Program} {l : Launch} {e : Env} {s : State} {m : MethodId} {below : List Frame} {meth : Method} {c : Code} {args : Array Value} (dC : Nat → ClassId) (dI : Nat → Nat → Nat) (cI cJ : ClassId) (hX x1 x2 x3 x4 x5 x6 x7 x8 : Nat) (xt : Int32) (xw : Int32) (xp : Int32) (xs : Int32) (xc : Int64) (xM : Int64) (xE : Int64) (xL : Int64) (xo : Int32) (xi : Int32) (xj : Int32) (xk : Int32) (xn : Int32) (xz : Int32) (xa : Int32) (xg : Int32) (xmw : Nat → Int64) (xmp : Nat → Int64) (xr : Nat → Int64) (xd : Nat → Int32) (xwt : Nat → Int64) (xf : Nat → Int64) (xrd : Nat → Int64) (xu : Nat → Int64) {w0 : va_W} (C0 : Cx p s m meth c cX9_find 3 none wsX9_find RX9 args) (hK : va_K (dC, dI) vwCl [(cI, .int), (cJ, .long)] s) (hZ : Zs false (va_A w0 s.heap.size) s s.heap) (v1 : Int32) (xa' : Int32) (xg' : Int32) {V : Int32 × Int32} (hV : (F_X9_find_337 xo xi xj xk v1 xa' xg') = V) (ls : Array Slot) (hl : lv_has ls 3 [(0, .ref hX), (1, .int v1)]) {H : Heap} {locs : List Loc} (hP : va_P (dC, dI) vwCl [(hX, .inr (6, [.int xt, .ref x1, .ref x2, .ref x3, .int xw, .int xp, .int xs, .long xc, .ref x4, .ref x5, .ref x6, .ref x7, .ref x8, .long xM, .long xE, .long xL, .int xo, .int xi, .int xj, .int xk, .int xn, .int xz, .int xa', .int xg'])), (x1, .inl (cJ, 512, .inr (.inl xmw))), (x2, .inl (cJ, 512, .inr (.inl xmp))), (x3, .inl (cJ, 24, .inr (.inl xr))), (x4, .inl (cI, 8, .inl xd)), (x5, .inl (cJ, 5, .inr (.inl xwt))), (x6, .inl (cJ, 24, .inr (.inl xf))), (x7, .inl (cJ, 24, .inr (.inl xrd))), (x8, .inl (cJ, 6, .inr (.inl xu)))] H) (hD : va_D (va_A w0 s.heap.size) [(hX, .inr (6, [.int xt, .ref x1, .ref x2, .ref x3, .int xw, .int xp, .int xs, .long xc, .ref x4, .ref x5, .ref x6, .ref x7, .ref x8, .long xM, .long xE, .long xL, .int xo, .int xi, .int xj, .int xk, .int xn, .int xz, .int xa', .int xg'])), (x1, .inl (cJ, 512, .inr (.inl xmw))), (x2, .inl (cJ, 512, .inr (.inl xmp))), (x3, .inl (cJ, 24, .inr (.inl xr))), (x4, .inl (cI, 8, .inl xd)), (x5, .inl (cJ, 5, .inr (.inl xwt))), (x6, .inl (cJ, 24, .inr (.inl xf))), (x7, .inl (cJ, 24, .inr (.inl xrd))), (x8, .inl (cJ, 6, .inr (.inl xu)))]) (hS : va_S (va_A w0 s.heap.size) s.heap H locs) : W p l e rm_X9_find s m args below meth c H locs 0 0 (MQ below (QV (dC, dI) [(cI, .int), (cJ, .long)] w0 [(hX, .inr (6, [.int xt, .ref x1, .ref x2, .ref x3, .int xw, .int xp, .int xs, .long xc, .ref x4, .ref x5, .ref x6, .ref x7, .ref x8, .long xM, .long xE, .long xL, .int xo, .int xi, .int xj, .int xk, .int xn, .int xz, .int V.1, .int V.2])), (x1, .inl (cJ, 512, .inr (.inl xmw))), (x2, .inl (cJ, 512, .inr (.inl xmp))), (x3, .inl (cJ, 24, .inr (.inl xr))), (x4, .inl (cI, 8, .inl xd)), (x5, .inl (cJ, 5, .inr (.inl xwt))), (x6, .inl (cJ, 24, .inr (.inl xf))), (x7, .inl (cJ, 24, .inr (.inl xrd))), (x8, .inl (cJ, 6, .inr (.inl xu)))] s.heap.size) args s 0 0 (va_A w0 s.heap.size)) (F0 m 337 ls []) := by
  obtain ⟨hx, hb, hr, hlk, hml, hown, hts⟩ := id C0
  have hA : ∀ q : Nat, s.heap.size ≤ q → va_A w0 s.heap.size q := fun q h => Or.inr h
  refine lv_iconst (v := (1 : Int32)) hx hb dX9_find_337 (by decide) ?_
  refine lv_goto (tgt := 342) hx hb dX9_find_338 (by decide) ?_
  have e9 : (F_X9_find_337 xo xi xj xk v1 xa' xg') = (F_X9_find_342 xo xi xj xk v1 (1 : Int32) xa' xg') := by rw [F_X9_find_337]
  rw [e9] at hV
  exact j_X9_find_342 dC dI cI cJ hX x1 x2 x3 x4 x5 x6 x7 x8 xt xw xp xs xc xM xE xL xo xi xj xk xn xz xa xg xmw xmp xr xd xwt xf xrd xu C0 hK hZ v1 (1 : Int32) xa' xg' hV ls (lv_sub hl [0, 1] rfl) hP hD hS
set_option maxHeartbeats 4000000 in
set_option maxRecDepth 100000 in
theorem j_X9_find_292 {p : Program} {l : Launch} {e : Env} {s : State} {m : MethodId} {below : List Frame} {meth : Method} {c : Code} {args : Array Value} (dC : Nat → ClassId) (dI : Nat → Nat → Nat) (cI cJ : ClassId) (hX x1 x2 x3 x4 x5 x6 x7 x8 : Nat) (xt : Int32) (xw : Int32) (xp : Int32) (xs : Int32) (xc : Int64) (xM : Int64) (xE : Int64) (xL : Int64) (xo : Int32) (xi : Int32) (xj : Int32) (xk : Int32) (xn : Int32) (xz : Int32) (xa : Int32) (xg : Int32) (xmw : Nat → Int64) (xmp : Nat → Int64) (xr : Nat → Int64) (xd : Nat → Int32) (xwt : Nat → Int64) (xf : Nat → Int64) (xrd : Nat → Int64) (xu : Nat → Int64) {w0 : va_W} (C0 : Cx p s m meth c cX9_find 3 none wsX9_find RX9 args) (hK : va_K (dC, dI) vwCl [(cI, .int), (cJ, .long)] s) (hZ : Zs false (va_A w0 s.heap.size) s s.heap) (v1 : Int32) (xa' : Int32) (xg' : Int32) {V : Int32 × Int32} (hV : (F_X9_find_292 xo xi xj xk v1 xa' xg') = V) (ls : Array Slot) (hl : lv_has ls 3 [(0, .ref hX), (1, .int v1)]) {H : Heap} {locs : List Loc} (hP : va_P (dC, dI) vwCl [(hX, .inr (6, [.int xt, .ref x1, .ref x2, .ref x3, .int xw, .int xp, .int xs, .long xc, .ref x4, .ref x5, .ref x6, .ref x7, .ref x8, .long xM, .long xE, .long xL, .int xo, .int xi, .int xj, .int xk, .int xn, .int xz, .int xa', .int xg'])), (x1, .inl (cJ, 512, .inr (.inl xmw))), (x2, .inl (cJ, 512, .inr (.inl xmp))), (x3, .inl (cJ, 24, .inr (.inl xr))), (x4, .inl (cI, 8, .inl xd)), (x5, .inl (cJ, 5, .inr (.inl xwt))), (x6, .inl (cJ, 24, .inr (.inl xf))), (x7, .inl (cJ, 24, .inr (.inl xrd))), (x8, .inl (cJ, 6, .inr (.inl xu)))] H) (hD : va_D (va_A w0 s.heap.size) [(hX, .inr (6, [.int xt, .ref x1, .ref x2, .ref x3, .int xw, .int xp, .int xs, .long xc, .ref x4, .ref x5, .ref x6, .ref x7, .ref x8, .long xM, .long xE, .long xL, .int xo, .int xi, .int xj, .int xk, .int xn, .int xz, .int xa', .int xg'])), (x1, .inl (cJ, 512, .inr (.inl xmw))), (x2, .inl (cJ, 512, .inr (.inl xmp))), (x3, .inl (cJ, 24, .inr (.inl xr))), (x4, .inl (cI, 8, .inl xd)), (x5, .inl (cJ, 5, .inr (.inl xwt))), (x6, .inl (cJ, 24, .inr (.inl xf))), (x7, .inl (cJ, 24, .inr (.inl xrd))), (x8, .inl (cJ, 6, .inr (.inl xu)))]) (hS : va_S (va_A w0 s.heap.size) s.heap H locs) : W p l e rm_X9_find s m args below meth c H locs 0 0 (MQ below (QV (dC, dI) [(cI, .int), (cJ, .long)] w0 [(hX, .inr (6, [.int xt, .ref x1, .ref x2, .ref x3, .int xw, .int xp, .int xs, .long xc, .ref x4, .ref x5, .ref x6, .ref x7, .ref x8, .long xM, .long xE, .long xL, .int xo, .int xi, .int xj, .int xk, .int xn, .int xz, .int V.1, .int V.2])), (x1, .inl (cJ, 512, .inr (.inl xmw))), (x2, .inl (cJ, 512, .inr (.inl xmp))), (x3, .inl (cJ, 24, .inr (.inl xr))), (x4, .inl (cI, 8, .inl xd)), (x5, .inl (cJ, 5, .inr (.inl xwt))), (x6, .inl (cJ, 24, .inr (.inl xf))), (x7, .inl (cJ, 24, .inr (.inl xrd))), (x8, .inl (cJ, 6, .inr (.inl xu)))] s.heap.size) args s 0 0 (va_A w0 s.heap.size)) (F0 m 292 ls []) := by
  obtain ⟨hx, hb, hr, hlk, hml, hown, hts⟩ := id C0
  have hA : ∀ q : Nat, s.heap.size ≤ q → va_A w0 s.heap.size q := fun q h => Or.inr h
  refine lv_aload_n hx hb dX9_find_292 rfl (lv_at hl 0 rfl) ?_
  refine va_get (D := (dC, dI)) (ci := 6) (v := .int xo) (C := RX9) (T := TX9) (N := 24) hx hb hts mi_X9_find_X9 hown hK hP 0 rfl rfl 16 (by decide) (hts (.fieldLink RX9 68 "ScoreboardCoreModel" "op" "I") mm_X9_find_f68) (fun _ h9 => h9) rfl dX9_find_293 ?_
  refine lv_bipush (v := (18 : Int32)) hx hb dX9_find_296 (by decide) ?_
  refine lv_icmp_eq (x := xo) (y := (18 : Int32)) (tgt := 337) hx hb dX9_find_298 (by decide) (fun c1 => ?_) (fun c1 => ?_)
  · have e9 : (F_X9_find_292 xo xi xj xk v1 xa' xg') = (F_X9_find_337 xo xi xj xk v1 xa' xg') := by rw [F_X9_find_292, if_pos c1]
    rw [e9] at hV
    exact j_X9_find_337 dC dI cI cJ hX x1 x2 x3 x4 x5 x6 x7 x8 xt xw xp xs xc xM xE xL xo xi xj xk xn xz xa xg xmw xmp xr xd xwt xf xrd xu C0 hK hZ v1 xa' xg' hV ls (lv_sub hl [0, 1] rfl) hP hD hS
  · refine lv_aload_n hx hb dX9_find_301 rfl (lv_at hl 0 rfl) ?_
    refine va_get (D := (dC, dI)) (ci := 6) (v := .int xo) (C := RX9) (T := TX9) (N := 24) hx hb hts mi_X9_find_X9 hown hK hP 0 rfl rfl 16 (by decide) (hts (.fieldLink RX9 68 "ScoreboardCoreModel" "op" "I") mm_X9_find_f68) (fun _ h9 => h9) rfl dX9_find_302 ?_
    refine lv_bipush (v := (19 : Int32)) hx hb dX9_find_305 (by decide) ?_
    refine lv_icmp_eq (x := xo) (y := (19 : Int32)) (tgt := 337) hx hb dX9_find_307 (by decide) (fun c2 => ?_) (fun c2 => ?_)
    · have e9 : (F_X9_find_292 xo xi xj xk v1 xa' xg') = (F_X9_find_337 xo xi xj xk v1 xa' xg') := by rw [F_X9_find_292, if_neg c1, if_pos c2]
      rw [e9] at hV
      exact j_X9_find_337 dC dI cI cJ hX x1 x2 x3 x4 x5 x6 x7 x8 xt xw xp xs xc xM xE xL xo xi xj xk xn xz xa xg xmw xmp xr xd xwt xf xrd xu C0 hK hZ v1 xa' xg' hV ls (lv_sub hl [0, 1] rfl) hP hD hS
    · refine lv_aload_n hx hb dX9_find_310 rfl (lv_at hl 0 rfl) ?_
      refine va_get (D := (dC, dI)) (ci := 6) (v := .int xo) (C := RX9) (T := TX9) (N := 24) hx hb hts mi_X9_find_X9 hown hK hP 0 rfl rfl 16 (by decide) (hts (.fieldLink RX9 68 "ScoreboardCoreModel" "op" "I") mm_X9_find_f68) (fun _ h9 => h9) rfl dX9_find_311 ?_
      refine lv_bipush (v := (30 : Int32)) hx hb dX9_find_314 (by decide) ?_
      refine lv_icmp_eq (x := xo) (y := (30 : Int32)) (tgt := 337) hx hb dX9_find_316 (by decide) (fun c3 => ?_) (fun c3 => ?_)
      · have e9 : (F_X9_find_292 xo xi xj xk v1 xa' xg') = (F_X9_find_337 xo xi xj xk v1 xa' xg') := by rw [F_X9_find_292, if_neg c1, if_neg c2, if_pos c3]
        rw [e9] at hV
        exact j_X9_find_337 dC dI cI cJ hX x1 x2 x3 x4 x5 x6 x7 x8 xt xw xp xs xc xM xE xL xo xi xj xk xn xz xa xg xmw xmp xr xd xwt xf xrd xu C0 hK hZ v1 xa' xg' hV ls (lv_sub hl [0, 1] rfl) hP hD hS
      · refine lv_aload_n hx hb dX9_find_319 rfl (lv_at hl 0 rfl) ?_
        refine va_get (D := (dC, dI)) (ci := 6) (v := .int xo) (C := RX9) (T := TX9) (N := 24) hx hb hts mi_X9_find_X9 hown hK hP 0 rfl rfl 16 (by decide) (hts (.fieldLink RX9 68 "ScoreboardCoreModel" "op" "I") mm_X9_find_f68) (fun _ h9 => h9) rfl dX9_find_320 ?_
        refine lv_bipush (v := (31 : Int32)) hx hb dX9_find_323 (by decide) ?_
        refine lv_icmp_eq (x := xo) (y := (31 : Int32)) (tgt := 337) hx hb dX9_find_325 (by decide) (fun c4 => ?_) (fun c4 => ?_)
        · have e9 : (F_X9_find_292 xo xi xj xk v1 xa' xg') = (F_X9_find_337 xo xi xj xk v1 xa' xg') := by rw [F_X9_find_292, if_neg c1, if_neg c2, if_neg c3, if_pos c4]
          rw [e9] at hV
          exact j_X9_find_337 dC dI cI cJ hX x1 x2 x3 x4 x5 x6 x7 x8 xt xw xp xs xc xM xE xL xo xi xj xk xn xz xa xg xmw xmp xr xd xwt xf xrd xu C0 hK hZ v1 xa' xg' hV ls (lv_sub hl [0, 1] rfl) hP hD hS
        · refine lv_aload_n hx hb dX9_find_328 rfl (lv_at hl 0 rfl) ?_
          refine va_get (D := (dC, dI)) (ci := 6) (v := .int xo) (C := RX9) (T := TX9) (N := 24) hx hb hts mi_X9_find_X9 hown hK hP 0 rfl rfl 16 (by decide) (hts (.fieldLink RX9 68 "ScoreboardCoreModel" "op" "I") mm_X9_find_f68) (fun _ h9 => h9) rfl dX9_find_329 ?_
          refine lv_bipush (v := (39 : Int32)) hx hb dX9_find_332 (by decide) ?_
          refine lv_icmp_ne (x := xo) (y := (39 : Int32)) (tgt := 341) hx hb dX9_find_334 (by decide) (fun c5 => ?_) (fun c5 => ?_)
          · refine lv_iconst (v := (0 : Int32)) hx hb dX9_find_341 (by decide) ?_
            have e9 : (F_X9_find_292 xo xi xj xk v1 xa' xg') = (F_X9_find_342 xo xi xj xk v1 (0 : Int32) xa' xg') := by rw [F_X9_find_292, if_neg c1, if_neg c2, if_neg c3, if_neg c4, if_neg c5]
            rw [e9] at hV
            exact j_X9_find_342 dC dI cI cJ hX x1 x2 x3 x4 x5 x6 x7 x8 xt xw xp xs xc xM xE xL xo xi xj xk xn xz xa xg xmw xmp xr xd xwt xf xrd xu C0 hK hZ v1 (0 : Int32) xa' xg' hV ls (lv_sub hl [0, 1] rfl) hP hD hS
          · have e9 : (F_X9_find_292 xo xi xj xk v1 xa' xg') = (F_X9_find_337 xo xi xj xk v1 xa' xg') := by rw [F_X9_find_292, if_neg c1, if_neg c2, if_neg c3, if_neg c4, if_pos c5]
            rw [e9] at hV
            exact j_X9_find_337 dC dI cI cJ hX x1 x2 x3 x4 x5 x6 x7 x8 xt xw xp xs xc xM xE xL xo xi xj xk xn xz xa xg xmw xmp xr xd xwt xf xrd xu C0 hK hZ v1 xa' xg' hV ls (lv_sub hl [0, 1] rfl) hP hD hS
set_option maxHeartbeats 4000000 in
set_option maxRecDepth 100000 in
theorem j_X9_find_273 {p : Program} {l : Launch} {e : Env} {s : State} {m : MethodId} {below : List Frame} {meth : Method} {c : Code} {args : Array Value} (dC : Nat → ClassId) (dI : Nat → Nat → Nat) (cI cJ : ClassId) (hX x1 x2 x3 x4 x5 x6 x7 x8 : Nat) (xt : Int32) (xw : Int32) (xp : Int32) (xs : Int32) (xc : Int64) (xM : Int64) (xE : Int64) (xL : Int64) (xo : Int32) (xi : Int32) (xj : Int32) (xk : Int32) (xn : Int32) (xz : Int32) (xa : Int32) (xg : Int32) (xmw : Nat → Int64) (xmp : Nat → Int64) (xr : Nat → Int64) (xd : Nat → Int32) (xwt : Nat → Int64) (xf : Nat → Int64) (xrd : Nat → Int64) (xu : Nat → Int64) {w0 : va_W} (C0 : Cx p s m meth c cX9_find 3 none wsX9_find RX9 args) (hK : va_K (dC, dI) vwCl [(cI, .int), (cJ, .long)] s) (hZ : Zs false (va_A w0 s.heap.size) s s.heap) (t0 : Int32) (xa' : Int32) (xg' : Int32) {V : Int32 × Int32} (hV : (F_X9_find_273 xo xi xj xk t0 xa' xg') = V) (ls : Array Slot) (hl : lv_has ls 3 [(0, .ref hX)]) {H : Heap} {locs : List Loc} (hP : va_P (dC, dI) vwCl [(hX, .inr (6, [.int xt, .ref x1, .ref x2, .ref x3, .int xw, .int xp, .int xs, .long xc, .ref x4, .ref x5, .ref x6, .ref x7, .ref x8, .long xM, .long xE, .long xL, .int xo, .int xi, .int xj, .int xk, .int xn, .int xz, .int xa', .int xg'])), (x1, .inl (cJ, 512, .inr (.inl xmw))), (x2, .inl (cJ, 512, .inr (.inl xmp))), (x3, .inl (cJ, 24, .inr (.inl xr))), (x4, .inl (cI, 8, .inl xd)), (x5, .inl (cJ, 5, .inr (.inl xwt))), (x6, .inl (cJ, 24, .inr (.inl xf))), (x7, .inl (cJ, 24, .inr (.inl xrd))), (x8, .inl (cJ, 6, .inr (.inl xu)))] H) (hD : va_D (va_A w0 s.heap.size) [(hX, .inr (6, [.int xt, .ref x1, .ref x2, .ref x3, .int xw, .int xp, .int xs, .long xc, .ref x4, .ref x5, .ref x6, .ref x7, .ref x8, .long xM, .long xE, .long xL, .int xo, .int xi, .int xj, .int xk, .int xn, .int xz, .int xa', .int xg'])), (x1, .inl (cJ, 512, .inr (.inl xmw))), (x2, .inl (cJ, 512, .inr (.inl xmp))), (x3, .inl (cJ, 24, .inr (.inl xr))), (x4, .inl (cI, 8, .inl xd)), (x5, .inl (cJ, 5, .inr (.inl xwt))), (x6, .inl (cJ, 24, .inr (.inl xf))), (x7, .inl (cJ, 24, .inr (.inl xrd))), (x8, .inl (cJ, 6, .inr (.inl xu)))]) (hS : va_S (va_A w0 s.heap.size) s.heap H locs) : W p l e rm_X9_find s m args below meth c H locs 0 0 (MQ below (QV (dC, dI) [(cI, .int), (cJ, .long)] w0 [(hX, .inr (6, [.int xt, .ref x1, .ref x2, .ref x3, .int xw, .int xp, .int xs, .long xc, .ref x4, .ref x5, .ref x6, .ref x7, .ref x8, .long xM, .long xE, .long xL, .int xo, .int xi, .int xj, .int xk, .int xn, .int xz, .int V.1, .int V.2])), (x1, .inl (cJ, 512, .inr (.inl xmw))), (x2, .inl (cJ, 512, .inr (.inl xmp))), (x3, .inl (cJ, 24, .inr (.inl xr))), (x4, .inl (cI, 8, .inl xd)), (x5, .inl (cJ, 5, .inr (.inl xwt))), (x6, .inl (cJ, 24, .inr (.inl xf))), (x7, .inl (cJ, 24, .inr (.inl xrd))), (x8, .inl (cJ, 6, .inr (.inl xu)))] s.heap.size) args s 0 0 (va_A w0 s.heap.size)) (F0 m 273 ls [.int t0]) := by
  obtain ⟨hx, hb, hr, hlk, hml, hown, hts⟩ := id C0
  have hA : ∀ q : Nat, s.heap.size ≤ q → va_A w0 s.heap.size q := fun q h => Or.inr h
  refine lv_istore_n (lv' := [(1, .int t0), (0, .ref hX)]) hx hb dX9_find_273 rfl hl (by decide) rfl (fun ls hl => ?_)
  refine lv_aload_n hx hb dX9_find_274 rfl (lv_at hl 1 rfl) ?_
  refine va_get (D := (dC, dI)) (ci := 6) (v := .int xo) (C := RX9) (T := TX9) (N := 24) hx hb hts mi_X9_find_X9 hown hK hP 0 rfl rfl 16 (by decide) (hts (.fieldLink RX9 68 "ScoreboardCoreModel" "op" "I") mm_X9_find_f68) (fun _ h9 => h9) rfl dX9_find_275 ?_
  refine lv_bipush (v := (9 : Int32)) hx hb dX9_find_278 (by decide) ?_
  refine lv_icmp_lt (x := xo) (y := (9 : Int32)) (tgt := 292) hx hb dX9_find_280 (by decide) (fun c1 => ?_) (fun c1 => ?_)
  · have e9 : (F_X9_find_273 xo xi xj xk t0 xa' xg') = (F_X9_find_292 xo xi xj xk t0 xa' xg') := by rw [F_X9_find_273, if_pos c1]
    rw [e9] at hV
    exact j_X9_find_292 dC dI cI cJ hX x1 x2 x3 x4 x5 x6 x7 x8 xt xw xp xs xc xM xE xL xo xi xj xk xn xz xa xg xmw xmp xr xd xwt xf xrd xu C0 hK hZ t0 xa' xg' hV ls (lv_sub hl [1, 0] rfl) hP hD hS
  · refine lv_aload_n hx hb dX9_find_283 rfl (lv_at hl 1 rfl) ?_
    refine va_get (D := (dC, dI)) (ci := 6) (v := .int xo) (C := RX9) (T := TX9) (N := 24) hx hb hts mi_X9_find_X9 hown hK hP 0 rfl rfl 16 (by decide) (hts (.fieldLink RX9 68 "ScoreboardCoreModel" "op" "I") mm_X9_find_f68) (fun _ h9 => h9) rfl dX9_find_284 ?_
    refine lv_bipush (v := (15 : Int32)) hx hb dX9_find_287 (by decide) ?_
    refine lv_icmp_le (x := xo) (y := (15 : Int32)) (tgt := 337) hx hb dX9_find_289 (by decide) (fun c2 => ?_) (fun c2 => ?_)
    · have e9 : (F_X9_find_273 xo xi xj xk t0 xa' xg') = (F_X9_find_337 xo xi xj xk t0 xa' xg') := by rw [F_X9_find_273, if_neg c1, if_pos c2]
      rw [e9] at hV
      exact j_X9_find_337 dC dI cI cJ hX x1 x2 x3 x4 x5 x6 x7 x8 xt xw xp xs xc xM xE xL xo xi xj xk xn xz xa xg xmw xmp xr xd xwt xf xrd xu C0 hK hZ t0 xa' xg' hV ls (lv_sub hl [1, 0] rfl) hP hD hS
    · have e9 : (F_X9_find_273 xo xi xj xk t0 xa' xg') = (F_X9_find_292 xo xi xj xk t0 xa' xg') := by rw [F_X9_find_273, if_neg c1, if_neg c2]
      rw [e9] at hV
      exact j_X9_find_292 dC dI cI cJ hX x1 x2 x3 x4 x5 x6 x7 x8 xt xw xp xs xc xM xE xL xo xi xj xk xn xz xa xg xmw xmp xr xd xwt xf xrd xu C0 hK hZ t0 xa' xg' hV ls (lv_sub hl [1, 0] rfl) hP hD hS
set_option maxHeartbeats 4000000 in
set_option maxRecDepth 100000 in
theorem j_X9_find_268 {p : Program} {l : Launch} {e : Env} {s : State} {m : MethodId} {below : List Frame} {meth : Method} {c : Code} {args : Array Value} (dC : Nat → ClassId) (dI : Nat → Nat → Nat) (cI cJ : ClassId) (hX x1 x2 x3 x4 x5 x6 x7 x8 : Nat) (xt : Int32) (xw : Int32) (xp : Int32) (xs : Int32) (xc : Int64) (xM : Int64) (xE : Int64) (xL : Int64) (xo : Int32) (xi : Int32) (xj : Int32) (xk : Int32) (xn : Int32) (xz : Int32) (xa : Int32) (xg : Int32) (xmw : Nat → Int64) (xmp : Nat → Int64) (xr : Nat → Int64) (xd : Nat → Int32) (xwt : Nat → Int64) (xf : Nat → Int64) (xrd : Nat → Int64) (xu : Nat → Int64) {w0 : va_W} (C0 : Cx p s m meth c cX9_find 3 none wsX9_find RX9 args) (hK : va_K (dC, dI) vwCl [(cI, .int), (cJ, .long)] s) (hZ : Zs false (va_A w0 s.heap.size) s s.heap) (xa' : Int32) (xg' : Int32) {V : Int32 × Int32} (hV : (F_X9_find_268 xo xi xj xk xa' xg') = V) (ls : Array Slot) (hl : lv_has ls 3 [(0, .ref hX)]) {H : Heap} {locs : List Loc} (hP : va_P (dC, dI) vwCl [(hX, .inr (6, [.int xt, .ref x1, .ref x2, .ref x3, .int xw, .int xp, .int xs, .long xc, .ref x4, .ref x5, .ref x6, .ref x7, .ref x8, .long xM, .long xE, .long xL, .int xo, .int xi, .int xj, .int xk, .int xn, .int xz, .int xa', .int xg'])), (x1, .inl (cJ, 512, .inr (.inl xmw))), (x2, .inl (cJ, 512, .inr (.inl xmp))), (x3, .inl (cJ, 24, .inr (.inl xr))), (x4, .inl (cI, 8, .inl xd)), (x5, .inl (cJ, 5, .inr (.inl xwt))), (x6, .inl (cJ, 24, .inr (.inl xf))), (x7, .inl (cJ, 24, .inr (.inl xrd))), (x8, .inl (cJ, 6, .inr (.inl xu)))] H) (hD : va_D (va_A w0 s.heap.size) [(hX, .inr (6, [.int xt, .ref x1, .ref x2, .ref x3, .int xw, .int xp, .int xs, .long xc, .ref x4, .ref x5, .ref x6, .ref x7, .ref x8, .long xM, .long xE, .long xL, .int xo, .int xi, .int xj, .int xk, .int xn, .int xz, .int xa', .int xg'])), (x1, .inl (cJ, 512, .inr (.inl xmw))), (x2, .inl (cJ, 512, .inr (.inl xmp))), (x3, .inl (cJ, 24, .inr (.inl xr))), (x4, .inl (cI, 8, .inl xd)), (x5, .inl (cJ, 5, .inr (.inl xwt))), (x6, .inl (cJ, 24, .inr (.inl xf))), (x7, .inl (cJ, 24, .inr (.inl xrd))), (x8, .inl (cJ, 6, .inr (.inl xu)))]) (hS : va_S (va_A w0 s.heap.size) s.heap H locs) : W p l e rm_X9_find s m args below meth c H locs 0 0 (MQ below (QV (dC, dI) [(cI, .int), (cJ, .long)] w0 [(hX, .inr (6, [.int xt, .ref x1, .ref x2, .ref x3, .int xw, .int xp, .int xs, .long xc, .ref x4, .ref x5, .ref x6, .ref x7, .ref x8, .long xM, .long xE, .long xL, .int xo, .int xi, .int xj, .int xk, .int xn, .int xz, .int V.1, .int V.2])), (x1, .inl (cJ, 512, .inr (.inl xmw))), (x2, .inl (cJ, 512, .inr (.inl xmp))), (x3, .inl (cJ, 24, .inr (.inl xr))), (x4, .inl (cI, 8, .inl xd)), (x5, .inl (cJ, 5, .inr (.inl xwt))), (x6, .inl (cJ, 24, .inr (.inl xf))), (x7, .inl (cJ, 24, .inr (.inl xrd))), (x8, .inl (cJ, 6, .inr (.inl xu)))] s.heap.size) args s 0 0 (va_A w0 s.heap.size)) (F0 m 268 ls []) := by
  obtain ⟨hx, hb, hr, hlk, hml, hown, hts⟩ := id C0
  have hA : ∀ q : Nat, s.heap.size ≤ q → va_A w0 s.heap.size q := fun q h => Or.inr h
  refine lv_iconst (v := (1 : Int32)) hx hb dX9_find_268 (by decide) ?_
  refine lv_goto (tgt := 273) hx hb dX9_find_269 (by decide) ?_
  have e9 : (F_X9_find_268 xo xi xj xk xa' xg') = (F_X9_find_273 xo xi xj xk (1 : Int32) xa' xg') := by rw [F_X9_find_268]
  rw [e9] at hV
  exact j_X9_find_273 dC dI cI cJ hX x1 x2 x3 x4 x5 x6 x7 x8 xt xw xp xs xc xM xE xL xo xi xj xk xn xz xa xg xmw xmp xr xd xwt xf xrd xu C0 hK hZ (1 : Int32) xa' xg' hV ls (lv_sub hl [0] rfl) hP hD hS
set_option maxHeartbeats 4000000 in
set_option maxRecDepth 100000 in
theorem j_X9_find_250 {p : Program} {l : Launch} {e : Env} {s : State} {m : MethodId} {below : List Frame} {meth : Method} {c : Code} {args : Array Value} (dC : Nat → ClassId) (dI : Nat → Nat → Nat) (cI cJ : ClassId) (hX x1 x2 x3 x4 x5 x6 x7 x8 : Nat) (xt : Int32) (xw : Int32) (xp : Int32) (xs : Int32) (xc : Int64) (xM : Int64) (xE : Int64) (xL : Int64) (xo : Int32) (xi : Int32) (xj : Int32) (xk : Int32) (xn : Int32) (xz : Int32) (xa : Int32) (xg : Int32) (xmw : Nat → Int64) (xmp : Nat → Int64) (xr : Nat → Int64) (xd : Nat → Int32) (xwt : Nat → Int64) (xf : Nat → Int64) (xrd : Nat → Int64) (xu : Nat → Int64) {w0 : va_W} (C0 : Cx p s m meth c cX9_find 3 none wsX9_find RX9 args) (hK : va_K (dC, dI) vwCl [(cI, .int), (cJ, .long)] s) (hZ : Zs false (va_A w0 s.heap.size) s s.heap) (xa' : Int32) (xg' : Int32) {V : Int32 × Int32} (hV : (F_X9_find_250 xo xi xj xk xa' xg') = V) (ls : Array Slot) (hl : lv_has ls 3 [(0, .ref hX)]) {H : Heap} {locs : List Loc} (hP : va_P (dC, dI) vwCl [(hX, .inr (6, [.int xt, .ref x1, .ref x2, .ref x3, .int xw, .int xp, .int xs, .long xc, .ref x4, .ref x5, .ref x6, .ref x7, .ref x8, .long xM, .long xE, .long xL, .int xo, .int xi, .int xj, .int xk, .int xn, .int xz, .int xa', .int xg'])), (x1, .inl (cJ, 512, .inr (.inl xmw))), (x2, .inl (cJ, 512, .inr (.inl xmp))), (x3, .inl (cJ, 24, .inr (.inl xr))), (x4, .inl (cI, 8, .inl xd)), (x5, .inl (cJ, 5, .inr (.inl xwt))), (x6, .inl (cJ, 24, .inr (.inl xf))), (x7, .inl (cJ, 24, .inr (.inl xrd))), (x8, .inl (cJ, 6, .inr (.inl xu)))] H) (hD : va_D (va_A w0 s.heap.size) [(hX, .inr (6, [.int xt, .ref x1, .ref x2, .ref x3, .int xw, .int xp, .int xs, .long xc, .ref x4, .ref x5, .ref x6, .ref x7, .ref x8, .long xM, .long xE, .long xL, .int xo, .int xi, .int xj, .int xk, .int xn, .int xz, .int xa', .int xg'])), (x1, .inl (cJ, 512, .inr (.inl xmw))), (x2, .inl (cJ, 512, .inr (.inl xmp))), (x3, .inl (cJ, 24, .inr (.inl xr))), (x4, .inl (cI, 8, .inl xd)), (x5, .inl (cJ, 5, .inr (.inl xwt))), (x6, .inl (cJ, 24, .inr (.inl xf))), (x7, .inl (cJ, 24, .inr (.inl xrd))), (x8, .inl (cJ, 6, .inr (.inl xu)))]) (hS : va_S (va_A w0 s.heap.size) s.heap H locs) : W p l e rm_X9_find s m args below meth c H locs 0 0 (MQ below (QV (dC, dI) [(cI, .int), (cJ, .long)] w0 [(hX, .inr (6, [.int xt, .ref x1, .ref x2, .ref x3, .int xw, .int xp, .int xs, .long xc, .ref x4, .ref x5, .ref x6, .ref x7, .ref x8, .long xM, .long xE, .long xL, .int xo, .int xi, .int xj, .int xk, .int xn, .int xz, .int V.1, .int V.2])), (x1, .inl (cJ, 512, .inr (.inl xmw))), (x2, .inl (cJ, 512, .inr (.inl xmp))), (x3, .inl (cJ, 24, .inr (.inl xr))), (x4, .inl (cI, 8, .inl xd)), (x5, .inl (cJ, 5, .inr (.inl xwt))), (x6, .inl (cJ, 24, .inr (.inl xf))), (x7, .inl (cJ, 24, .inr (.inl xrd))), (x8, .inl (cJ, 6, .inr (.inl xu)))] s.heap.size) args s 0 0 (va_A w0 s.heap.size)) (F0 m 250 ls []) := by
  obtain ⟨hx, hb, hr, hlk, hml, hown, hts⟩ := id C0
  have hA : ∀ q : Nat, s.heap.size ≤ q → va_A w0 s.heap.size q := fun q h => Or.inr h
  refine lv_aload_n hx hb dX9_find_250 rfl (lv_at hl 0 rfl) ?_
  refine va_get (D := (dC, dI)) (ci := 6) (v := .int xo) (C := RX9) (T := TX9) (N := 24) hx hb hts mi_X9_find_X9 hown hK hP 0 rfl rfl 16 (by decide) (hts (.fieldLink RX9 68 "ScoreboardCoreModel" "op" "I") mm_X9_find_f68) (fun _ h9 => h9) rfl dX9_find_251 ?_
  refine lv_bipush (v := (30 : Int32)) hx hb dX9_find_254 (by decide) ?_
  refine lv_icmp_eq (x := xo) (y := (30 : Int32)) (tgt := 268) hx hb dX9_find_256 (by decide) (fun c1 => ?_) (fun c1 => ?_)
  · have e9 : (F_X9_find_250 xo xi xj xk xa' xg') = (F_X9_find_268 xo xi xj xk xa' xg') := by rw [F_X9_find_250, if_pos c1]
    rw [e9] at hV
    exact j_X9_find_268 dC dI cI cJ hX x1 x2 x3 x4 x5 x6 x7 x8 xt xw xp xs xc xM xE xL xo xi xj xk xn xz xa xg xmw xmp xr xd xwt xf xrd xu C0 hK hZ xa' xg' hV ls (lv_sub hl [0] rfl) hP hD hS
  · refine lv_aload_n hx hb dX9_find_259 rfl (lv_at hl 0 rfl) ?_
    refine va_get (D := (dC, dI)) (ci := 6) (v := .int xo) (C := RX9) (T := TX9) (N := 24) hx hb hts mi_X9_find_X9 hown hK hP 0 rfl rfl 16 (by decide) (hts (.fieldLink RX9 68 "ScoreboardCoreModel" "op" "I") mm_X9_find_f68) (fun _ h9 => h9) rfl dX9_find_260 ?_
    refine lv_bipush (v := (31 : Int32)) hx hb dX9_find_263 (by decide) ?_
    refine lv_icmp_ne (x := xo) (y := (31 : Int32)) (tgt := 272) hx hb dX9_find_265 (by decide) (fun c2 => ?_) (fun c2 => ?_)
    · refine lv_iconst (v := (0 : Int32)) hx hb dX9_find_272 (by decide) ?_
      have e9 : (F_X9_find_250 xo xi xj xk xa' xg') = (F_X9_find_273 xo xi xj xk (0 : Int32) xa' xg') := by rw [F_X9_find_250, if_neg c1, if_neg c2]
      rw [e9] at hV
      exact j_X9_find_273 dC dI cI cJ hX x1 x2 x3 x4 x5 x6 x7 x8 xt xw xp xs xc xM xE xL xo xi xj xk xn xz xa xg xmw xmp xr xd xwt xf xrd xu C0 hK hZ (0 : Int32) xa' xg' hV ls (lv_sub hl [0] rfl) hP hD hS
    · have e9 : (F_X9_find_250 xo xi xj xk xa' xg') = (F_X9_find_268 xo xi xj xk xa' xg') := by rw [F_X9_find_250, if_neg c1, if_pos c2]
      rw [e9] at hV
      exact j_X9_find_268 dC dI cI cJ hX x1 x2 x3 x4 x5 x6 x7 x8 xt xw xp xs xc xM xE xL xo xi xj xk xn xz xa xg xmw xmp xr xd xwt xf xrd xu C0 hK hZ xa' xg' hV ls (lv_sub hl [0] rfl) hP hD hS
set_option maxHeartbeats 4000000 in
set_option maxRecDepth 100000 in
theorem j_X9_find_232 {p : Program} {l : Launch} {e : Env} {s : State} {m : MethodId} {below : List Frame} {meth : Method} {c : Code} {args : Array Value} (dC : Nat → ClassId) (dI : Nat → Nat → Nat) (cI cJ : ClassId) (hX x1 x2 x3 x4 x5 x6 x7 x8 : Nat) (xt : Int32) (xw : Int32) (xp : Int32) (xs : Int32) (xc : Int64) (xM : Int64) (xE : Int64) (xL : Int64) (xo : Int32) (xi : Int32) (xj : Int32) (xk : Int32) (xn : Int32) (xz : Int32) (xa : Int32) (xg : Int32) (xmw : Nat → Int64) (xmp : Nat → Int64) (xr : Nat → Int64) (xd : Nat → Int32) (xwt : Nat → Int64) (xf : Nat → Int64) (xrd : Nat → Int64) (xu : Nat → Int64) {w0 : va_W} (C0 : Cx p s m meth c cX9_find 3 none wsX9_find RX9 args) (hK : va_K (dC, dI) vwCl [(cI, .int), (cJ, .long)] s) (hZ : Zs false (va_A w0 s.heap.size) s s.heap) (xa' : Int32) (xg' : Int32) {V : Int32 × Int32} (hV : (F_X9_find_232 xo xi xj xk xa' xg') = V) (ls : Array Slot) (hl : lv_has ls 3 [(0, .ref hX)]) {H : Heap} {locs : List Loc} (hP : va_P (dC, dI) vwCl [(hX, .inr (6, [.int xt, .ref x1, .ref x2, .ref x3, .int xw, .int xp, .int xs, .long xc, .ref x4, .ref x5, .ref x6, .ref x7, .ref x8, .long xM, .long xE, .long xL, .int xo, .int xi, .int xj, .int xk, .int xn, .int xz, .int xa', .int xg'])), (x1, .inl (cJ, 512, .inr (.inl xmw))), (x2, .inl (cJ, 512, .inr (.inl xmp))), (x3, .inl (cJ, 24, .inr (.inl xr))), (x4, .inl (cI, 8, .inl xd)), (x5, .inl (cJ, 5, .inr (.inl xwt))), (x6, .inl (cJ, 24, .inr (.inl xf))), (x7, .inl (cJ, 24, .inr (.inl xrd))), (x8, .inl (cJ, 6, .inr (.inl xu)))] H) (hD : va_D (va_A w0 s.heap.size) [(hX, .inr (6, [.int xt, .ref x1, .ref x2, .ref x3, .int xw, .int xp, .int xs, .long xc, .ref x4, .ref x5, .ref x6, .ref x7, .ref x8, .long xM, .long xE, .long xL, .int xo, .int xi, .int xj, .int xk, .int xn, .int xz, .int xa', .int xg'])), (x1, .inl (cJ, 512, .inr (.inl xmw))), (x2, .inl (cJ, 512, .inr (.inl xmp))), (x3, .inl (cJ, 24, .inr (.inl xr))), (x4, .inl (cI, 8, .inl xd)), (x5, .inl (cJ, 5, .inr (.inl xwt))), (x6, .inl (cJ, 24, .inr (.inl xf))), (x7, .inl (cJ, 24, .inr (.inl xrd))), (x8, .inl (cJ, 6, .inr (.inl xu)))]) (hS : va_S (va_A w0 s.heap.size) s.heap H locs) : W p l e rm_X9_find s m args below meth c H locs 0 0 (MQ below (QV (dC, dI) [(cI, .int), (cJ, .long)] w0 [(hX, .inr (6, [.int xt, .ref x1, .ref x2, .ref x3, .int xw, .int xp, .int xs, .long xc, .ref x4, .ref x5, .ref x6, .ref x7, .ref x8, .long xM, .long xE, .long xL, .int xo, .int xi, .int xj, .int xk, .int xn, .int xz, .int V.1, .int V.2])), (x1, .inl (cJ, 512, .inr (.inl xmw))), (x2, .inl (cJ, 512, .inr (.inl xmp))), (x3, .inl (cJ, 24, .inr (.inl xr))), (x4, .inl (cI, 8, .inl xd)), (x5, .inl (cJ, 5, .inr (.inl xwt))), (x6, .inl (cJ, 24, .inr (.inl xf))), (x7, .inl (cJ, 24, .inr (.inl xrd))), (x8, .inl (cJ, 6, .inr (.inl xu)))] s.heap.size) args s 0 0 (va_A w0 s.heap.size)) (F0 m 232 ls []) := by
  obtain ⟨hx, hb, hr, hlk, hml, hown, hts⟩ := id C0
  have hA : ∀ q : Nat, s.heap.size ≤ q → va_A w0 s.heap.size q := fun q h => Or.inr h
  refine lv_aload_n hx hb dX9_find_232 rfl (lv_at hl 0 rfl) ?_
  refine va_get (D := (dC, dI)) (ci := 6) (v := .int xo) (C := RX9) (T := TX9) (N := 24) hx hb hts mi_X9_find_X9 hown hK hP 0 rfl rfl 16 (by decide) (hts (.fieldLink RX9 68 "ScoreboardCoreModel" "op" "I") mm_X9_find_f68) (fun _ h9 => h9) rfl dX9_find_233 ?_
  refine lv_bipush (v := (13 : Int32)) hx hb dX9_find_236 (by decide) ?_
  refine lv_icmp_lt (x := xo) (y := (13 : Int32)) (tgt := 250) hx hb dX9_find_238 (by decide) (fun c1 => ?_) (fun c1 => ?_)
  · have e9 : (F_X9_find_232 xo xi xj xk xa' xg') = (F_X9_find_250 xo xi xj xk xa' xg') := by rw [F_X9_find_232, if_pos c1]
    rw [e9] at hV
    exact j_X9_find_250 dC dI cI cJ hX x1 x2 x3 x4 x5 x6 x7 x8 xt xw xp xs xc xM xE xL xo xi xj xk xn xz xa xg xmw xmp xr xd xwt xf xrd xu C0 hK hZ xa' xg' hV ls (lv_sub hl [0] rfl) hP hD hS
  · refine lv_aload_n hx hb dX9_find_241 rfl (lv_at hl 0 rfl) ?_
    refine va_get (D := (dC, dI)) (ci := 6) (v := .int xo) (C := RX9) (T := TX9) (N := 24) hx hb hts mi_X9_find_X9 hown hK hP 0 rfl rfl 16 (by decide) (hts (.fieldLink RX9 68 "ScoreboardCoreModel" "op" "I") mm_X9_find_f68) (fun _ h9 => h9) rfl dX9_find_242 ?_
    refine lv_bipush (v := (15 : Int32)) hx hb dX9_find_245 (by decide) ?_
    refine lv_icmp_le (x := xo) (y := (15 : Int32)) (tgt := 268) hx hb dX9_find_247 (by decide) (fun c2 => ?_) (fun c2 => ?_)
    · have e9 : (F_X9_find_232 xo xi xj xk xa' xg') = (F_X9_find_268 xo xi xj xk xa' xg') := by rw [F_X9_find_232, if_neg c1, if_pos c2]
      rw [e9] at hV
      exact j_X9_find_268 dC dI cI cJ hX x1 x2 x3 x4 x5 x6 x7 x8 xt xw xp xs xc xM xE xL xo xi xj xk xn xz xa xg xmw xmp xr xd xwt xf xrd xu C0 hK hZ xa' xg' hV ls (lv_sub hl [0] rfl) hP hD hS
    · have e9 : (F_X9_find_232 xo xi xj xk xa' xg') = (F_X9_find_250 xo xi xj xk xa' xg') := by rw [F_X9_find_232, if_neg c1, if_neg c2]
      rw [e9] at hV
      exact j_X9_find_250 dC dI cI cJ hX x1 x2 x3 x4 x5 x6 x7 x8 xt xw xp xs xc xM xE xL xo xi xj xk xn xz xa xg xmw xmp xr xd xwt xf xrd xu C0 hK hZ xa' xg' hV ls (lv_sub hl [0] rfl) hP hD hS
set_option maxHeartbeats 4000000 in
set_option maxRecDepth 100000 in
theorem j_X9_find_173 {p : Program} {l : Launch} {e : Env} {s : State} {m : MethodId} {below : List Frame} {meth : Method} {c : Code} {args : Array Value} (dC : Nat → ClassId) (dI : Nat → Nat → Nat) (cI cJ : ClassId) (hX x1 x2 x3 x4 x5 x6 x7 x8 : Nat) (xt : Int32) (xw : Int32) (xp : Int32) (xs : Int32) (xc : Int64) (xM : Int64) (xE : Int64) (xL : Int64) (xo : Int32) (xi : Int32) (xj : Int32) (xk : Int32) (xn : Int32) (xz : Int32) (xa : Int32) (xg : Int32) (xmw : Nat → Int64) (xmp : Nat → Int64) (xr : Nat → Int64) (xd : Nat → Int32) (xwt : Nat → Int64) (xf : Nat → Int64) (xrd : Nat → Int64) (xu : Nat → Int64) {w0 : va_W} (C0 : Cx p s m meth c cX9_find 3 none wsX9_find RX9 args) (hK : va_K (dC, dI) vwCl [(cI, .int), (cJ, .long)] s) (hZ : Zs false (va_A w0 s.heap.size) s s.heap) (xa' : Int32) (xg' : Int32) {V : Int32 × Int32} (hV : (F_X9_find_173 xo xi xa' xg') = V) (ls : Array Slot) (hl : lv_has ls 3 [(0, .ref hX)]) {H : Heap} {locs : List Loc} (hP : va_P (dC, dI) vwCl [(hX, .inr (6, [.int xt, .ref x1, .ref x2, .ref x3, .int xw, .int xp, .int xs, .long xc, .ref x4, .ref x5, .ref x6, .ref x7, .ref x8, .long xM, .long xE, .long xL, .int xo, .int xi, .int xj, .int xk, .int xn, .int xz, .int xa', .int xg'])), (x1, .inl (cJ, 512, .inr (.inl xmw))), (x2, .inl (cJ, 512, .inr (.inl xmp))), (x3, .inl (cJ, 24, .inr (.inl xr))), (x4, .inl (cI, 8, .inl xd)), (x5, .inl (cJ, 5, .inr (.inl xwt))), (x6, .inl (cJ, 24, .inr (.inl xf))), (x7, .inl (cJ, 24, .inr (.inl xrd))), (x8, .inl (cJ, 6, .inr (.inl xu)))] H) (hD : va_D (va_A w0 s.heap.size) [(hX, .inr (6, [.int xt, .ref x1, .ref x2, .ref x3, .int xw, .int xp, .int xs, .long xc, .ref x4, .ref x5, .ref x6, .ref x7, .ref x8, .long xM, .long xE, .long xL, .int xo, .int xi, .int xj, .int xk, .int xn, .int xz, .int xa', .int xg'])), (x1, .inl (cJ, 512, .inr (.inl xmw))), (x2, .inl (cJ, 512, .inr (.inl xmp))), (x3, .inl (cJ, 24, .inr (.inl xr))), (x4, .inl (cI, 8, .inl xd)), (x5, .inl (cJ, 5, .inr (.inl xwt))), (x6, .inl (cJ, 24, .inr (.inl xf))), (x7, .inl (cJ, 24, .inr (.inl xrd))), (x8, .inl (cJ, 6, .inr (.inl xu)))]) (hS : va_S (va_A w0 s.heap.size) s.heap H locs) : W p l e rm_X9_find s m args below meth c H locs 0 0 (MQ below (QV (dC, dI) [(cI, .int), (cJ, .long)] w0 [(hX, .inr (6, [.int xt, .ref x1, .ref x2, .ref x3, .int xw, .int xp, .int xs, .long xc, .ref x4, .ref x5, .ref x6, .ref x7, .ref x8, .long xM, .long xE, .long xL, .int xo, .int xi, .int xj, .int xk, .int xn, .int xz, .int V.1, .int V.2])), (x1, .inl (cJ, 512, .inr (.inl xmw))), (x2, .inl (cJ, 512, .inr (.inl xmp))), (x3, .inl (cJ, 24, .inr (.inl xr))), (x4, .inl (cI, 8, .inl xd)), (x5, .inl (cJ, 5, .inr (.inl xwt))), (x6, .inl (cJ, 24, .inr (.inl xf))), (x7, .inl (cJ, 24, .inr (.inl xrd))), (x8, .inl (cJ, 6, .inr (.inl xu)))] s.heap.size) args s 0 0 (va_A w0 s.heap.size)) (F0 m 173 ls []) := by
  obtain ⟨hx, hb, hr, hlk, hml, hown, hts⟩ := id C0
  have hA : ∀ q : Nat, s.heap.size ≤ q → va_A w0 s.heap.size q := fun q h => Or.inr h
  refine lv_aload_n hx hb dX9_find_173 rfl (lv_at hl 0 rfl) ?_
  refine roVi (As := []) (rest := []) (bytes := cX9_isMemory) (maxL := 1) (rty := (some .boolean)) (n := 0) (ci := 6) C0 (c_X9_isMemory l dC dI cI cJ hX x1 x2 x3 x4 x5 x6 x7 x8 xt xw xp xs xc xM xE xL xo xi xj xk xn xz xa' xg' xmw xmp xr xd xwt xf xrd xu) ⟨rfl, rfl, rfl, by decide +kernel, by decide, by decide⟩ ggX9_find_X9_isMemory mm_X9_find_iX9 mm_X9_find_l109 mm_X9_find_nX9_isMemory mm_X9_find_sX9_isMemory rfl rfl (hP.sub (ws' := [(hX, .inr (6, [.int xt, .ref x1, .ref x2, .ref x3, .int xw, .int xp, .int xs, .long xc, .ref x4, .ref x5, .ref x6, .ref x7, .ref x8, .long xM, .long xE, .long xL, .int xo, .int xi, .int xj, .int xk, .int xn, .int xz, .int xa', .int xg'])), (x1, .inl (cJ, 512, .inr (.inl xmw))), (x2, .inl (cJ, 512, .inr (.inl xmp))), (x3, .inl (cJ, 24, .inr (.inl xr))), (x4, .inl (cI, 8, .inl xd)), (x5, .inl (cJ, 5, .inr (.inl xwt))), (x6, .inl (cJ, 24, .inr (.inl xf))), (x7, .inl (cJ, 24, .inr (.inl xrd))), (x8, .inl (cJ, 6, .inr (.inl xu)))]) [0, 1, 2, 3, 4, 5, 6, 7, 8] rfl) hK hl.1 rfl rfl (Nat.le_of_ble_eq_true rfl) dX9_find_174 ⟨Nat.zero_le _, Nat.zero_le _⟩ ?_
  refine lv_if_eq (x := (F_X9_isMemory xo xi)) (tgt := 196) hx hb dX9_find_177 (by decide) (fun c1 => ?_) (fun c1 => ?_)
  · have e9 : (F_X9_find_173 xo xi xa' xg') = (xa', xg') := by rw [F_X9_find_173, if_pos c1]
    rw [e9] at hV
    subst hV
    exact wrRetV C0 hK hP hD hS dX9_find_196
  · refine lv_aload_n hx hb dX9_find_180 rfl (lv_at hl 0 rfl) ?_
    refine va_get (D := (dC, dI)) (ci := 6) (v := .int xi) (C := RX9) (T := TX9) (N := 24) hx hb hts mi_X9_find_X9 hown hK hP 0 rfl rfl 17 (by decide) (hts (.fieldLink RX9 71 "ScoreboardCoreModel" "i" "I") mm_X9_find_f71) (fun _ h9 => h9) rfl dX9_find_181 ?_
    refine lv_iconst (v := (5 : Int32)) hx hb dX9_find_184 (by decide) ?_
    refine lv_icmp_le (x := xi) (y := (5 : Int32)) (tgt := 196) hx hb dX9_find_185 (by decide) (fun c2 => ?_) (fun c2 => ?_)
    · have e9 : (F_X9_find_173 xo xi xa' xg') = (xa', xg') := by rw [F_X9_find_173, if_neg c1, if_pos c2]
      rw [e9] at hV
      subst hV
      exact wrRetV C0 hK hP hD hS dX9_find_196
    · refine lv_aload_n hx hb dX9_find_188 rfl (lv_at hl 0 rfl) ?_
      refine lv_aload_n hx hb dX9_find_189 rfl (lv_at hl 0 rfl) ?_
      refine va_get (D := (dC, dI)) (ci := 6) (v := .int xi) (C := RX9) (T := TX9) (N := 24) hx hb hts mi_X9_find_X9 hown hK hP 0 rfl rfl 17 (by decide) (hts (.fieldLink RX9 71 "ScoreboardCoreModel" "i" "I") mm_X9_find_f71) (fun _ h9 => h9) rfl dX9_find_190 ?_
      refine wrVv (As := [.int xi]) (rest := []) (bytes := cX9_need) (maxL := 2) (rty := none) (n := 1) (ci := 6) C0 (c_X9_need l dC dI cI cJ hX x1 x2 x3 x4 x5 x6 x7 x8 xi xt xw xp xs xc xM xE xL xo xi xj xk xn xz xa' xg' xmw xmp xr xd xwt xf xrd xu) ⟨rfl, rfl, rfl, by decide +kernel, by decide, by decide⟩ ggX9_find_X9_need mm_X9_find_iX9 mm_X9_find_l102 mm_X9_find_nX9_need mm_X9_find_sX9_need rfl rfl hP hD hK hS hA (Zs.no _ _ _) [0, 1, 2, 3, 4, 5, 6, 7, 8] [] [0, 1, 2, 3, 4, 5, 6, 7, 8] [] [(hX, .inr (6, [.int xt, .ref x1, .ref x2, .ref x3, .int xw, .int xp, .int xs, .long xc, .ref x4, .ref x5, .ref x6, .ref x7, .ref x8, .long xM, .long xE, .long xL, .int xo, .int xi, .int xj, .int xk, .int xn, .int xz, .int (F_X9_need xi xa'), .int xg'])), (x1, .inl (cJ, 512, .inr (.inl xmw))), (x2, .inl (cJ, 512, .inr (.inl xmp))), (x3, .inl (cJ, 24, .inr (.inl xr))), (x4, .inl (cI, 8, .inl xd)), (x5, .inl (cJ, 5, .inr (.inl xwt))), (x6, .inl (cJ, 24, .inr (.inl xf))), (x7, .inl (cJ, 24, .inr (.inl xrd))), (x8, .inl (cJ, 6, .inr (.inl xu)))] rfl (by decide) (hP.sub (ws' := [(hX, .inr (6, [.int xt, .ref x1, .ref x2, .ref x3, .int xw, .int xp, .int xs, .long xc, .ref x4, .ref x5, .ref x6, .ref x7, .ref x8, .long xM, .long xE, .long xL, .int xo, .int xi, .int xj, .int xk, .int xn, .int xz, .int xa', .int xg'])), (x1, .inl (cJ, 512, .inr (.inl xmw))), (x2, .inl (cJ, 512, .inr (.inl xmp))), (x3, .inl (cJ, 24, .inr (.inl xr))), (x4, .inl (cI, 8, .inl xd)), (x5, .inl (cJ, 5, .inr (.inl xwt))), (x6, .inl (cJ, 24, .inr (.inl xf))), (x7, .inl (cJ, 24, .inr (.inl xrd))), (x8, .inl (cJ, 6, .inr (.inl xu)))]) [0, 1, 2, 3, 4, 5, 6, 7, 8] rfl) rfl (by decide) (by decide) (by decide) rfl hl.1 rfl rfl (Nat.le_of_ble_eq_true rfl) dX9_find_193 ⟨Nat.zero_le _, Nat.zero_le _⟩ (fun H locs hP hD hS => ?_)
      have e9 : (F_X9_find_173 xo xi xa' xg') = ((F_X9_need xi xa'), xg') := by rw [F_X9_find_173, if_neg c1, if_neg c2]
      rw [e9] at hV
      subst hV
      exact wrRetV C0 hK hP hD hS dX9_find_196
set_option maxHeartbeats 4000000 in
set_option maxRecDepth 100000 in
theorem j_X9_find_146 {p : Program} {l : Launch} {e : Env} {s : State} {m : MethodId} {below : List Frame} {meth : Method} {c : Code} {args : Array Value} (dC : Nat → ClassId) (dI : Nat → Nat → Nat) (cI cJ : ClassId) (hX x1 x2 x3 x4 x5 x6 x7 x8 : Nat) (xt : Int32) (xw : Int32) (xp : Int32) (xs : Int32) (xc : Int64) (xM : Int64) (xE : Int64) (xL : Int64) (xo : Int32) (xi : Int32) (xj : Int32) (xk : Int32) (xn : Int32) (xz : Int32) (xa : Int32) (xg : Int32) (xmw : Nat → Int64) (xmp : Nat → Int64) (xr : Nat → Int64) (xd : Nat → Int32) (xwt : Nat → Int64) (xf : Nat → Int64) (xrd : Nat → Int64) (xu : Nat → Int64) {w0 : va_W} (C0 : Cx p s m meth c cX9_find 3 none wsX9_find RX9 args) (hK : va_K (dC, dI) vwCl [(cI, .int), (cJ, .long)] s) (hZ : Zs false (va_A w0 s.heap.size) s s.heap) (t0 : Int32) (xa' : Int32) (xg' : Int32) {V : Int32 × Int32} (hV : (F_X9_find_146 xo xi t0 xa' xg') = V) (ls : Array Slot) (hl : lv_has ls 3 [(0, .ref hX)]) {H : Heap} {locs : List Loc} (hP : va_P (dC, dI) vwCl [(hX, .inr (6, [.int xt, .ref x1, .ref x2, .ref x3, .int xw, .int xp, .int xs, .long xc, .ref x4, .ref x5, .ref x6, .ref x7, .ref x8, .long xM, .long xE, .long xL, .int xo, .int xi, .int xj, .int xk, .int xn, .int xz, .int xa', .int xg'])), (x1, .inl (cJ, 512, .inr (.inl xmw))), (x2, .inl (cJ, 512, .inr (.inl xmp))), (x3, .inl (cJ, 24, .inr (.inl xr))), (x4, .inl (cI, 8, .inl xd)), (x5, .inl (cJ, 5, .inr (.inl xwt))), (x6, .inl (cJ, 24, .inr (.inl xf))), (x7, .inl (cJ, 24, .inr (.inl xrd))), (x8, .inl (cJ, 6, .inr (.inl xu)))] H) (hD : va_D (va_A w0 s.heap.size) [(hX, .inr (6, [.int xt, .ref x1, .ref x2, .ref x3, .int xw, .int xp, .int xs, .long xc, .ref x4, .ref x5, .ref x6, .ref x7, .ref x8, .long xM, .long xE, .long xL, .int xo, .int xi, .int xj, .int xk, .int xn, .int xz, .int xa', .int xg'])), (x1, .inl (cJ, 512, .inr (.inl xmw))), (x2, .inl (cJ, 512, .inr (.inl xmp))), (x3, .inl (cJ, 24, .inr (.inl xr))), (x4, .inl (cI, 8, .inl xd)), (x5, .inl (cJ, 5, .inr (.inl xwt))), (x6, .inl (cJ, 24, .inr (.inl xf))), (x7, .inl (cJ, 24, .inr (.inl xrd))), (x8, .inl (cJ, 6, .inr (.inl xu)))]) (hS : va_S (va_A w0 s.heap.size) s.heap H locs) : W p l e rm_X9_find s m args below meth c H locs 0 0 (MQ below (QV (dC, dI) [(cI, .int), (cJ, .long)] w0 [(hX, .inr (6, [.int xt, .ref x1, .ref x2, .ref x3, .int xw, .int xp, .int xs, .long xc, .ref x4, .ref x5, .ref x6, .ref x7, .ref x8, .long xM, .long xE, .long xL, .int xo, .int xi, .int xj, .int xk, .int xn, .int xz, .int V.1, .int V.2])), (x1, .inl (cJ, 512, .inr (.inl xmw))), (x2, .inl (cJ, 512, .inr (.inl xmp))), (x3, .inl (cJ, 24, .inr (.inl xr))), (x4, .inl (cI, 8, .inl xd)), (x5, .inl (cJ, 5, .inr (.inl xwt))), (x6, .inl (cJ, 24, .inr (.inl xf))), (x7, .inl (cJ, 24, .inr (.inl xrd))), (x8, .inl (cJ, 6, .inr (.inl xu)))] s.heap.size) args s 0 0 (va_A w0 s.heap.size)) (F0 m 146 ls [.int t0, .ref hX]) := by
  obtain ⟨hx, hb, hr, hlk, hml, hown, hts⟩ := id C0
  have hA : ∀ q : Nat, s.heap.size ≤ q → va_A w0 s.heap.size q := fun q h => Or.inr h
  refine wrVv (As := [.int t0]) (rest := []) (bytes := cX9_give) (maxL := 2) (rty := none) (n := 1) (ci := 6) C0 (c_X9_give l dC dI cI cJ hX x1 x2 x3 x4 x5 x6 x7 x8 t0 xt xw xp xs xc xM xE xL xo xi xj xk xn xz xa' xg' xmw xmp xr xd xwt xf xrd xu) ⟨rfl, rfl, rfl, by decide +kernel, by decide, by decide⟩ ggX9_find_X9_give mm_X9_find_iX9 mm_X9_find_l106 mm_X9_find_nX9_give mm_X9_find_sX9_give rfl rfl hP hD hK hS hA (Zs.no _ _ _) [0, 1, 2, 3, 4, 5, 6, 7, 8] [] [0, 1, 2, 3, 4, 5, 6, 7, 8] [] [(hX, .inr (6, [.int xt, .ref x1, .ref x2, .ref x3, .int xw, .int xp, .int xs, .long xc, .ref x4, .ref x5, .ref x6, .ref x7, .ref x8, .long xM, .long xE, .long xL, .int xo, .int xi, .int xj, .int xk, .int xn, .int xz, .int xa', .int (F_X9_give t0 xg')])), (x1, .inl (cJ, 512, .inr (.inl xmw))), (x2, .inl (cJ, 512, .inr (.inl xmp))), (x3, .inl (cJ, 24, .inr (.inl xr))), (x4, .inl (cI, 8, .inl xd)), (x5, .inl (cJ, 5, .inr (.inl xwt))), (x6, .inl (cJ, 24, .inr (.inl xf))), (x7, .inl (cJ, 24, .inr (.inl xrd))), (x8, .inl (cJ, 6, .inr (.inl xu)))] rfl (by decide) (hP.sub (ws' := [(hX, .inr (6, [.int xt, .ref x1, .ref x2, .ref x3, .int xw, .int xp, .int xs, .long xc, .ref x4, .ref x5, .ref x6, .ref x7, .ref x8, .long xM, .long xE, .long xL, .int xo, .int xi, .int xj, .int xk, .int xn, .int xz, .int xa', .int xg'])), (x1, .inl (cJ, 512, .inr (.inl xmw))), (x2, .inl (cJ, 512, .inr (.inl xmp))), (x3, .inl (cJ, 24, .inr (.inl xr))), (x4, .inl (cI, 8, .inl xd)), (x5, .inl (cJ, 5, .inr (.inl xwt))), (x6, .inl (cJ, 24, .inr (.inl xf))), (x7, .inl (cJ, 24, .inr (.inl xrd))), (x8, .inl (cJ, 6, .inr (.inl xu)))]) [0, 1, 2, 3, 4, 5, 6, 7, 8] rfl) rfl (by decide) (by decide) (by decide) rfl hl.1 rfl rfl (Nat.le_of_ble_eq_true rfl) dX9_find_146 ⟨Nat.zero_le _, Nat.zero_le _⟩ (fun H locs hP hD hS => ?_)
  refine lv_aload_n hx hb dX9_find_149 rfl (lv_at hl 0 rfl) ?_
  refine roVi (As := []) (rest := []) (bytes := cX9_isMemory) (maxL := 1) (rty := (some .boolean)) (n := 0) (ci := 6) C0 (c_X9_isMemory l dC dI cI cJ hX x1 x2 x3 x4 x5 x6 x7 x8 xt xw xp xs xc xM xE xL xo xi xj xk xn xz xa' (F_X9_give t0 xg') xmw xmp xr xd xwt xf xrd xu) ⟨rfl, rfl, rfl, by decide +kernel, by decide, by decide⟩ ggX9_find_X9_isMemory mm_X9_find_iX9 mm_X9_find_l109 mm_X9_find_nX9_isMemory mm_X9_find_sX9_isMemory rfl rfl (hP.sub (ws' := [(hX, .inr (6, [.int xt, .ref x1, .ref x2, .ref x3, .int xw, .int xp, .int xs, .long xc, .ref x4, .ref x5, .ref x6, .ref x7, .ref x8, .long xM, .long xE, .long xL, .int xo, .int xi, .int xj, .int xk, .int xn, .int xz, .int xa', .int (F_X9_give t0 xg')])), (x1, .inl (cJ, 512, .inr (.inl xmw))), (x2, .inl (cJ, 512, .inr (.inl xmp))), (x3, .inl (cJ, 24, .inr (.inl xr))), (x4, .inl (cI, 8, .inl xd)), (x5, .inl (cJ, 5, .inr (.inl xwt))), (x6, .inl (cJ, 24, .inr (.inl xf))), (x7, .inl (cJ, 24, .inr (.inl xrd))), (x8, .inl (cJ, 6, .inr (.inl xu)))]) [0, 1, 2, 3, 4, 5, 6, 7, 8] rfl) hK hl.1 rfl rfl (Nat.le_of_ble_eq_true rfl) dX9_find_150 ⟨Nat.zero_le _, Nat.zero_le _⟩ ?_
  refine lv_if_eq (x := (F_X9_isMemory xo xi)) (tgt := 173) hx hb dX9_find_153 (by decide) (fun c1 => ?_) (fun c1 => ?_)
  · have e9 : (F_X9_find_146 xo xi t0 xa' xg') = (F_X9_find_173 xo xi xa' (F_X9_give t0 xg')) := by rw [F_X9_find_146, if_pos c1]
    rw [e9] at hV
    exact j_X9_find_173 dC dI cI cJ hX x1 x2 x3 x4 x5 x6 x7 x8 xt xw xp xs xc xM xE xL xo xi xj xk xn xz xa xg xmw xmp xr xd xwt xf xrd xu C0 hK hZ xa' (F_X9_give t0 xg') hV ls (lv_sub hl [0] rfl) hP hD hS
  · refine lv_aload_n hx hb dX9_find_156 rfl (lv_at hl 0 rfl) ?_
    refine va_get (D := (dC, dI)) (ci := 6) (v := .int xi) (C := RX9) (T := TX9) (N := 24) hx hb hts mi_X9_find_X9 hown hK hP 0 rfl rfl 17 (by decide) (hts (.fieldLink RX9 71 "ScoreboardCoreModel" "i" "I") mm_X9_find_f71) (fun _ h9 => h9) rfl dX9_find_157 ?_
    refine lv_bipush (v := (6 : Int32)) hx hb dX9_find_160 (by decide) ?_
    refine lv_icmp_ge (x := xi) (y := (6 : Int32)) (tgt := 173) hx hb dX9_find_162 (by decide) (fun c2 => ?_) (fun c2 => ?_)
    · have e9 : (F_X9_find_146 xo xi t0 xa' xg') = (F_X9_find_173 xo xi xa' (F_X9_give t0 xg')) := by rw [F_X9_find_146, if_neg c1, if_pos c2]
      rw [e9] at hV
      exact j_X9_find_173 dC dI cI cJ hX x1 x2 x3 x4 x5 x6 x7 x8 xt xw xp xs xc xM xE xL xo xi xj xk xn xz xa xg xmw xmp xr xd xwt xf xrd xu C0 hK hZ xa' (F_X9_give t0 xg') hV ls (lv_sub hl [0] rfl) hP hD hS
    · refine lv_aload_n hx hb dX9_find_165 rfl (lv_at hl 0 rfl) ?_
      refine lv_aload_n hx hb dX9_find_166 rfl (lv_at hl 0 rfl) ?_
      refine va_get (D := (dC, dI)) (ci := 6) (v := .int xi) (C := RX9) (T := TX9) (N := 24) hx hb hts mi_X9_find_X9 hown hK hP 0 rfl rfl 17 (by decide) (hts (.fieldLink RX9 71 "ScoreboardCoreModel" "i" "I") mm_X9_find_f71) (fun _ h9 => h9) rfl dX9_find_167 ?_
      refine wrVv (As := [.int xi]) (rest := []) (bytes := cX9_give) (maxL := 2) (rty := none) (n := 1) (ci := 6) C0 (c_X9_give l dC dI cI cJ hX x1 x2 x3 x4 x5 x6 x7 x8 xi xt xw xp xs xc xM xE xL xo xi xj xk xn xz xa' (F_X9_give t0 xg') xmw xmp xr xd xwt xf xrd xu) ⟨rfl, rfl, rfl, by decide +kernel, by decide, by decide⟩ ggX9_find_X9_give mm_X9_find_iX9 mm_X9_find_l106 mm_X9_find_nX9_give mm_X9_find_sX9_give rfl rfl hP hD hK hS hA (Zs.no _ _ _) [0, 1, 2, 3, 4, 5, 6, 7, 8] [] [0, 1, 2, 3, 4, 5, 6, 7, 8] [] [(hX, .inr (6, [.int xt, .ref x1, .ref x2, .ref x3, .int xw, .int xp, .int xs, .long xc, .ref x4, .ref x5, .ref x6, .ref x7, .ref x8, .long xM, .long xE, .long xL, .int xo, .int xi, .int xj, .int xk, .int xn, .int xz, .int xa', .int (F_X9_give xi (F_X9_give t0 xg'))])), (x1, .inl (cJ, 512, .inr (.inl xmw))), (x2, .inl (cJ, 512, .inr (.inl xmp))), (x3, .inl (cJ, 24, .inr (.inl xr))), (x4, .inl (cI, 8, .inl xd)), (x5, .inl (cJ, 5, .inr (.inl xwt))), (x6, .inl (cJ, 24, .inr (.inl xf))), (x7, .inl (cJ, 24, .inr (.inl xrd))), (x8, .inl (cJ, 6, .inr (.inl xu)))] rfl (by decide) (hP.sub (ws' := [(hX, .inr (6, [.int xt, .ref x1, .ref x2, .ref x3, .int xw, .int xp, .int xs, .long xc, .ref x4, .ref x5, .ref x6, .ref x7, .ref x8, .long xM, .long xE, .long xL, .int xo, .int xi, .int xj, .int xk, .int xn, .int xz, .int xa', .int (F_X9_give t0 xg')])), (x1, .inl (cJ, 512, .inr (.inl xmw))), (x2, .inl (cJ, 512, .inr (.inl xmp))), (x3, .inl (cJ, 24, .inr (.inl xr))), (x4, .inl (cI, 8, .inl xd)), (x5, .inl (cJ, 5, .inr (.inl xwt))), (x6, .inl (cJ, 24, .inr (.inl xf))), (x7, .inl (cJ, 24, .inr (.inl xrd))), (x8, .inl (cJ, 6, .inr (.inl xu)))]) [0, 1, 2, 3, 4, 5, 6, 7, 8] rfl) rfl (by decide) (by decide) (by decide) rfl hl.1 rfl rfl (Nat.le_of_ble_eq_true rfl) dX9_find_170 ⟨Nat.zero_le _, Nat.zero_le _⟩ (fun H locs hP hD hS => ?_)
      have e9 : (F_X9_find_146 xo xi t0 xa' xg') = (F_X9_find_173 xo xi xa' (F_X9_give xi (F_X9_give t0 xg'))) := by rw [F_X9_find_146, if_neg c1, if_neg c2]
      rw [e9] at hV
      exact j_X9_find_173 dC dI cI cJ hX x1 x2 x3 x4 x5 x6 x7 x8 xt xw xp xs xc xM xE xL xo xi xj xk xn xz xa xg xmw xmp xr xd xwt xf xrd xu C0 hK hZ xa' (F_X9_give xi (F_X9_give t0 xg')) hV ls (lv_sub hl [0] rfl) hP hD hS
set_option maxHeartbeats 4000000 in
set_option maxRecDepth 100000 in
theorem j_X9_find_103 {p : Program} {l : Launch} {e : Env} {s : State} {m : MethodId} {below : List Frame} {meth : Method} {c : Code} {args : Array Value} (dC : Nat → ClassId) (dI : Nat → Nat → Nat) (cI cJ : ClassId) (hX x1 x2 x3 x4 x5 x6 x7 x8 : Nat) (xt : Int32) (xw : Int32) (xp : Int32) (xs : Int32) (xc : Int64) (xM : Int64) (xE : Int64) (xL : Int64) (xo : Int32) (xi : Int32) (xj : Int32) (xk : Int32) (xn : Int32) (xz : Int32) (xa : Int32) (xg : Int32) (xmw : Nat → Int64) (xmp : Nat → Int64) (xr : Nat → Int64) (xd : Nat → Int32) (xwt : Nat → Int64) (xf : Nat → Int64) (xrd : Nat → Int64) (xu : Nat → Int64) {w0 : va_W} (C0 : Cx p s m meth c cX9_find 3 none wsX9_find RX9 args) (hK : va_K (dC, dI) vwCl [(cI, .int), (cJ, .long)] s) (hZ : Zs false (va_A w0 s.heap.size) s s.heap) (xa' : Int32) (xg' : Int32) {V : Int32 × Int32} (hV : (F_X9_find_103 xo xi xa' xg') = V) (ls : Array Slot) (hl : lv_has ls 3 [(0, .ref hX)]) {H : Heap} {locs : List Loc} (hP : va_P (dC, dI) vwCl [(hX, .inr (6, [.int xt, .ref x1, .ref x2, .ref x3, .int xw, .int xp, .int xs, .long xc, .ref x4, .ref x5, .ref x6, .ref x7, .ref x8, .long xM, .long xE, .long xL, .int xo, .int xi, .int xj, .int xk, .int xn, .int xz, .int xa', .int xg'])), (x1, .inl (cJ, 512, .inr (.inl xmw))), (x2, .inl (cJ, 512, .inr (.inl xmp))), (x3, .inl (cJ, 24, .inr (.inl xr))), (x4, .inl (cI, 8, .inl xd)), (x5, .inl (cJ, 5, .inr (.inl xwt))), (x6, .inl (cJ, 24, .inr (.inl xf))), (x7, .inl (cJ, 24, .inr (.inl xrd))), (x8, .inl (cJ, 6, .inr (.inl xu)))] H) (hD : va_D (va_A w0 s.heap.size) [(hX, .inr (6, [.int xt, .ref x1, .ref x2, .ref x3, .int xw, .int xp, .int xs, .long xc, .ref x4, .ref x5, .ref x6, .ref x7, .ref x8, .long xM, .long xE, .long xL, .int xo, .int xi, .int xj, .int xk, .int xn, .int xz, .int xa', .int xg'])), (x1, .inl (cJ, 512, .inr (.inl xmw))), (x2, .inl (cJ, 512, .inr (.inl xmp))), (x3, .inl (cJ, 24, .inr (.inl xr))), (x4, .inl (cI, 8, .inl xd)), (x5, .inl (cJ, 5, .inr (.inl xwt))), (x6, .inl (cJ, 24, .inr (.inl xf))), (x7, .inl (cJ, 24, .inr (.inl xrd))), (x8, .inl (cJ, 6, .inr (.inl xu)))]) (hS : va_S (va_A w0 s.heap.size) s.heap H locs) : W p l e rm_X9_find s m args below meth c H locs 0 0 (MQ below (QV (dC, dI) [(cI, .int), (cJ, .long)] w0 [(hX, .inr (6, [.int xt, .ref x1, .ref x2, .ref x3, .int xw, .int xp, .int xs, .long xc, .ref x4, .ref x5, .ref x6, .ref x7, .ref x8, .long xM, .long xE, .long xL, .int xo, .int xi, .int xj, .int xk, .int xn, .int xz, .int V.1, .int V.2])), (x1, .inl (cJ, 512, .inr (.inl xmw))), (x2, .inl (cJ, 512, .inr (.inl xmp))), (x3, .inl (cJ, 24, .inr (.inl xr))), (x4, .inl (cI, 8, .inl xd)), (x5, .inl (cJ, 5, .inr (.inl xwt))), (x6, .inl (cJ, 24, .inr (.inl xf))), (x7, .inl (cJ, 24, .inr (.inl xrd))), (x8, .inl (cJ, 6, .inr (.inl xu)))] s.heap.size) args s 0 0 (va_A w0 s.heap.size)) (F0 m 103 ls []) := by
  obtain ⟨hx, hb, hr, hlk, hml, hown, hts⟩ := id C0
  have hA : ∀ q : Nat, s.heap.size ≤ q → va_A w0 s.heap.size q := fun q h => Or.inr h
  refine lv_aload_n hx hb dX9_find_103 rfl (lv_at hl 0 rfl) ?_
  refine lv_aload_n hx hb dX9_find_104 rfl (lv_at hl 0 rfl) ?_
  refine va_get (D := (dC, dI)) (ci := 6) (v := .int xo) (C := RX9) (T := TX9) (N := 24) hx hb hts mi_X9_find_X9 hown hK hP 0 rfl rfl 16 (by decide) (hts (.fieldLink RX9 68 "ScoreboardCoreModel" "op" "I") mm_X9_find_f68) (fun _ h9 => h9) rfl dX9_find_105 ?_
  refine lv_bipush (v := (48 : Int32)) hx hb dX9_find_108 (by decide) ?_
  refine lv_icmp_ge (x := xo) (y := (48 : Int32)) (tgt := 123) hx hb dX9_find_110 (by decide) (fun c1 => ?_) (fun c1 => ?_)
  · refine lv_aload_n hx hb dX9_find_123 rfl (lv_at hl 0 rfl) ?_
    refine va_get (D := (dC, dI)) (ci := 6) (v := .int xo) (C := RX9) (T := TX9) (N := 24) hx hb hts mi_X9_find_X9 hown hK hP 0 rfl rfl 16 (by decide) (hts (.fieldLink RX9 68 "ScoreboardCoreModel" "op" "I") mm_X9_find_f68) (fun _ h9 => h9) rfl dX9_find_124 ?_
    refine lv_bipush (v := (56 : Int32)) hx hb dX9_find_127 (by decide) ?_
    refine lv_icmp_ge (x := xo) (y := (56 : Int32)) (tgt := 142) hx hb dX9_find_129 (by decide) (fun c2 => ?_) (fun c2 => ?_)
    · refine lv_aload_n hx hb dX9_find_142 rfl (lv_at hl 0 rfl) ?_
      refine va_get (D := (dC, dI)) (ci := 6) (v := .int xi) (C := RX9) (T := TX9) (N := 24) hx hb hts mi_X9_find_X9 hown hK hP 0 rfl rfl 17 (by decide) (hts (.fieldLink RX9 71 "ScoreboardCoreModel" "i" "I") mm_X9_find_f71) (fun _ h9 => h9) rfl dX9_find_143 ?_
      have e9 : (F_X9_find_103 xo xi xa' xg') = (F_X9_find_146 xo xi xi xa' xg') := by rw [F_X9_find_103, if_pos c1, if_pos c2]
      rw [e9] at hV
      exact j_X9_find_146 dC dI cI cJ hX x1 x2 x3 x4 x5 x6 x7 x8 xt xw xp xs xc xM xE xL xo xi xj xk xn xz xa xg xmw xmp xr xd xwt xf xrd xu C0 hK hZ xi xa' xg' hV ls (lv_sub hl [0] rfl) hP hD hS
    · refine lv_bipush (v := (16 : Int32)) hx hb dX9_find_132 (by decide) ?_
      refine lv_aload_n hx hb dX9_find_134 rfl (lv_at hl 0 rfl) ?_
      refine va_get (D := (dC, dI)) (ci := 6) (v := .int xi) (C := RX9) (T := TX9) (N := 24) hx hb hts mi_X9_find_X9 hown hK hP 0 rfl rfl 17 (by decide) (hts (.fieldLink RX9 71 "ScoreboardCoreModel" "i" "I") mm_X9_find_f71) (fun _ h9 => h9) rfl dX9_find_135 ?_
      refine lv_iadd hx hb dX9_find_138 ?_
      refine lv_goto (tgt := 146) hx hb dX9_find_139 (by decide) ?_
      have e9 : (F_X9_find_103 xo xi xa' xg') = (F_X9_find_146 xo xi ((16 : Int32) + xi) xa' xg') := by rw [F_X9_find_103, if_pos c1, if_neg c2]
      rw [e9] at hV
      exact j_X9_find_146 dC dI cI cJ hX x1 x2 x3 x4 x5 x6 x7 x8 xt xw xp xs xc xM xE xL xo xi xj xk xn xz xa xg xmw xmp xr xd xwt xf xrd xu C0 hK hZ ((16 : Int32) + xi) xa' xg' hV ls (lv_sub hl [0] rfl) hP hD hS
  · refine lv_bipush (v := (8 : Int32)) hx hb dX9_find_113 (by decide) ?_
    refine lv_aload_n hx hb dX9_find_115 rfl (lv_at hl 0 rfl) ?_
    refine va_get (D := (dC, dI)) (ci := 6) (v := .int xi) (C := RX9) (T := TX9) (N := 24) hx hb hts mi_X9_find_X9 hown hK hP 0 rfl rfl 17 (by decide) (hts (.fieldLink RX9 71 "ScoreboardCoreModel" "i" "I") mm_X9_find_f71) (fun _ h9 => h9) rfl dX9_find_116 ?_
    refine lv_iadd hx hb dX9_find_119 ?_
    refine lv_goto (tgt := 146) hx hb dX9_find_120 (by decide) ?_
    have e9 : (F_X9_find_103 xo xi xa' xg') = (F_X9_find_146 xo xi ((8 : Int32) + xi) xa' xg') := by rw [F_X9_find_103, if_neg c1]
    rw [e9] at hV
    exact j_X9_find_146 dC dI cI cJ hX x1 x2 x3 x4 x5 x6 x7 x8 xt xw xp xs xc xM xE xL xo xi xj xk xn xz xa xg xmw xmp xr xd xwt xf xrd xu C0 hK hZ ((8 : Int32) + xi) xa' xg' hV ls (lv_sub hl [0] rfl) hP hD hS
set_option maxHeartbeats 4000000 in
set_option maxRecDepth 100000 in
theorem j_X9_find_87 {p : Program} {l : Launch} {e : Env} {s : State} {m : MethodId} {below : List Frame} {meth : Method} {c : Code} {args : Array Value} (dC : Nat → ClassId) (dI : Nat → Nat → Nat) (cI cJ : ClassId) (hX x1 x2 x3 x4 x5 x6 x7 x8 : Nat) (xt : Int32) (xw : Int32) (xp : Int32) (xs : Int32) (xc : Int64) (xM : Int64) (xE : Int64) (xL : Int64) (xo : Int32) (xi : Int32) (xj : Int32) (xk : Int32) (xn : Int32) (xz : Int32) (xa : Int32) (xg : Int32) (xmw : Nat → Int64) (xmp : Nat → Int64) (xr : Nat → Int64) (xd : Nat → Int32) (xwt : Nat → Int64) (xf : Nat → Int64) (xrd : Nat → Int64) (xu : Nat → Int64) {w0 : va_W} (C0 : Cx p s m meth c cX9_find 3 none wsX9_find RX9 args) (hK : va_K (dC, dI) vwCl [(cI, .int), (cJ, .long)] s) (hZ : Zs false (va_A w0 s.heap.size) s s.heap) (v1 : Int32) (xa' : Int32) (xg' : Int32) {V : Int32 × Int32} (hV : (F_X9_find_87 xo xi xk v1 xa' xg') = V) (ls : Array Slot) (hl : lv_has ls 3 [(0, .ref hX), (1, .int v1)]) {H : Heap} {locs : List Loc} (hP : va_P (dC, dI) vwCl [(hX, .inr (6, [.int xt, .ref x1, .ref x2, .ref x3, .int xw, .int xp, .int xs, .long xc, .ref x4, .ref x5, .ref x6, .ref x7, .ref x8, .long xM, .long xE, .long xL, .int xo, .int xi, .int xj, .int xk, .int xn, .int xz, .int xa', .int xg'])), (x1, .inl (cJ, 512, .inr (.inl xmw))), (x2, .inl (cJ, 512, .inr (.inl xmp))), (x3, .inl (cJ, 24, .inr (.inl xr))), (x4, .inl (cI, 8, .inl xd)), (x5, .inl (cJ, 5, .inr (.inl xwt))), (x6, .inl (cJ, 24, .inr (.inl xf))), (x7, .inl (cJ, 24, .inr (.inl xrd))), (x8, .inl (cJ, 6, .inr (.inl xu)))] H) (hD : va_D (va_A w0 s.heap.size) [(hX, .inr (6, [.int xt, .ref x1, .ref x2, .ref x3, .int xw, .int xp, .int xs, .long xc, .ref x4, .ref x5, .ref x6, .ref x7, .ref x8, .long xM, .long xE, .long xL, .int xo, .int xi, .int xj, .int xk, .int xn, .int xz, .int xa', .int xg'])), (x1, .inl (cJ, 512, .inr (.inl xmw))), (x2, .inl (cJ, 512, .inr (.inl xmp))), (x3, .inl (cJ, 24, .inr (.inl xr))), (x4, .inl (cI, 8, .inl xd)), (x5, .inl (cJ, 5, .inr (.inl xwt))), (x6, .inl (cJ, 24, .inr (.inl xf))), (x7, .inl (cJ, 24, .inr (.inl xrd))), (x8, .inl (cJ, 6, .inr (.inl xu)))]) (hS : va_S (va_A w0 s.heap.size) s.heap H locs) : W p l e rm_X9_find s m args below meth c H locs 0 0 (MQ below (QV (dC, dI) [(cI, .int), (cJ, .long)] w0 [(hX, .inr (6, [.int xt, .ref x1, .ref x2, .ref x3, .int xw, .int xp, .int xs, .long xc, .ref x4, .ref x5, .ref x6, .ref x7, .ref x8, .long xM, .long xE, .long xL, .int xo, .int xi, .int xj, .int xk, .int xn, .int xz, .int V.1, .int V.2])), (x1, .inl (cJ, 512, .inr (.inl xmw))), (x2, .inl (cJ, 512, .inr (.inl xmp))), (x3, .inl (cJ, 24, .inr (.inl xr))), (x4, .inl (cI, 8, .inl xd)), (x5, .inl (cJ, 5, .inr (.inl xwt))), (x6, .inl (cJ, 24, .inr (.inl xf))), (x7, .inl (cJ, 24, .inr (.inl xrd))), (x8, .inl (cJ, 6, .inr (.inl xu)))] s.heap.size) args s 0 0 (va_A w0 s.heap.size)) (F0 m 87 ls []) := by
  obtain ⟨hx, hb, hr, hlk, hml, hown, hts⟩ := id C0
  have hA : ∀ q : Nat, s.heap.size ≤ q → va_A w0 s.heap.size q := fun q h => Or.inr h
  refine lv_iload_n hx hb dX9_find_87 rfl (lv_at hl 1 rfl) ?_
  refine lv_iconst (v := (2 : Int32)) hx hb dX9_find_88 (by decide) ?_
  refine lv_icmp_le (x := v1) (y := (2 : Int32)) (tgt := 103) hx hb dX9_find_89 (by decide) (fun c1 => ?_) (fun c1 => ?_)
  · have e9 : (F_X9_find_87 xo xi xk v1 xa' xg') = (F_X9_find_103 xo xi xa' xg') := by rw [F_X9_find_87, if_pos c1]
    rw [e9] at hV
    exact j_X9_find_103 dC dI cI cJ hX x1 x2 x3 x4 x5 x6 x7 x8 xt xw xp xs xc xM xE xL xo xi xj xk xn xz xa xg xmw xmp xr xd xwt xf xrd xu C0 hK hZ xa' xg' hV ls (lv_sub hl [0] rfl) hP hD hS
  · refine lv_aload_n hx hb dX9_find_92 rfl (lv_at hl 0 rfl) ?_
    refine lv_bipush (v := (16 : Int32)) hx hb dX9_find_93 (by decide) ?_
    refine lv_aload_n hx hb dX9_find_95 rfl (lv_at hl 0 rfl) ?_
    refine va_get (D := (dC, dI)) (ci := 6) (v := .int xk) (C := RX9) (T := TX9) (N := 24) hx hb hts mi_X9_find_X9 hown hK hP 0 rfl rfl 19 (by decide) (hts (.fieldLink RX9 86 "ScoreboardCoreModel" "k" "I") mm_X9_find_f86) (fun _ h9 => h9) rfl dX9_find_96 ?_
    refine lv_iadd hx hb dX9_find_99 ?_
    refine wrVv (As := [.int ((16 : Int32) + xk)]) (rest := []) (bytes := cX9_need) (maxL := 2) (rty := none) (n := 1) (ci := 6) C0 (c_X9_need l dC dI cI cJ hX x1 x2 x3 x4 x5 x6 x7 x8 ((16 : Int32) + xk) xt xw xp xs xc xM xE xL xo xi xj xk xn xz xa' xg' xmw xmp xr xd xwt xf xrd xu) ⟨rfl, rfl, rfl, by decide +kernel, by decide, by decide⟩ ggX9_find_X9_need mm_X9_find_iX9 mm_X9_find_l102 mm_X9_find_nX9_need mm_X9_find_sX9_need rfl rfl hP hD hK hS hA (Zs.no _ _ _) [0, 1, 2, 3, 4, 5, 6, 7, 8] [] [0, 1, 2, 3, 4, 5, 6, 7, 8] [] [(hX, .inr (6, [.int xt, .ref x1, .ref x2, .ref x3, .int xw, .int xp, .int xs, .long xc, .ref x4, .ref x5, .ref x6, .ref x7, .ref x8, .long xM, .long xE, .long xL, .int xo, .int xi, .int xj, .int xk, .int xn, .int xz, .int (F_X9_need ((16 : Int32) + xk) xa'), .int xg'])), (x1, .inl (cJ, 512, .inr (.inl xmw))), (x2, .inl (cJ, 512, .inr (.inl xmp))), (x3, .inl (cJ, 24, .inr (.inl xr))), (x4, .inl (cI, 8, .inl xd)), (x5, .inl (cJ, 5, .inr (.inl xwt))), (x6, .inl (cJ, 24, .inr (.inl xf))), (x7, .inl (cJ, 24, .inr (.inl xrd))), (x8, .inl (cJ, 6, .inr (.inl xu)))] rfl (by decide) (hP.sub (ws' := [(hX, .inr (6, [.int xt, .ref x1, .ref x2, .ref x3, .int xw, .int xp, .int xs, .long xc, .ref x4, .ref x5, .ref x6, .ref x7, .ref x8, .long xM, .long xE, .long xL, .int xo, .int xi, .int xj, .int xk, .int xn, .int xz, .int xa', .int xg'])), (x1, .inl (cJ, 512, .inr (.inl xmw))), (x2, .inl (cJ, 512, .inr (.inl xmp))), (x3, .inl (cJ, 24, .inr (.inl xr))), (x4, .inl (cI, 8, .inl xd)), (x5, .inl (cJ, 5, .inr (.inl xwt))), (x6, .inl (cJ, 24, .inr (.inl xf))), (x7, .inl (cJ, 24, .inr (.inl xrd))), (x8, .inl (cJ, 6, .inr (.inl xu)))]) [0, 1, 2, 3, 4, 5, 6, 7, 8] rfl) rfl (by decide) (by decide) (by decide) rfl hl.1 rfl rfl (Nat.le_of_ble_eq_true rfl) dX9_find_100 ⟨Nat.zero_le _, Nat.zero_le _⟩ (fun H locs hP hD hS => ?_)
    have e9 : (F_X9_find_87 xo xi xk v1 xa' xg') = (F_X9_find_103 xo xi (F_X9_need ((16 : Int32) + xk) xa') xg') := by rw [F_X9_find_87, if_neg c1]
    rw [e9] at hV
    exact j_X9_find_103 dC dI cI cJ hX x1 x2 x3 x4 x5 x6 x7 x8 xt xw xp xs xc xM xE xL xo xi xj xk xn xz xa xg xmw xmp xr xd xwt xf xrd xu C0 hK hZ (F_X9_need ((16 : Int32) + xk) xa') xg' hV ls (lv_sub hl [0] rfl) hP hD hS
set_option maxHeartbeats 4000000 in
set_option maxRecDepth 100000 in
theorem j_X9_find_41 {p : Program} {l : Launch} {e : Env} {s : State} {m : MethodId} {below : List Frame} {meth : Method} {c : Code} {args : Array Value} (dC : Nat → ClassId) (dI : Nat → Nat → Nat) (cI cJ : ClassId) (hX x1 x2 x3 x4 x5 x6 x7 x8 : Nat) (xt : Int32) (xw : Int32) (xp : Int32) (xs : Int32) (xc : Int64) (xM : Int64) (xE : Int64) (xL : Int64) (xo : Int32) (xi : Int32) (xj : Int32) (xk : Int32) (xn : Int32) (xz : Int32) (xa : Int32) (xg : Int32) (xmw : Nat → Int64) (xmp : Nat → Int64) (xr : Nat → Int64) (xd : Nat → Int32) (xwt : Nat → Int64) (xf : Nat → Int64) (xrd : Nat → Int64) (xu : Nat → Int64) {w0 : va_W} (C0 : Cx p s m meth c cX9_find 3 none wsX9_find RX9 args) (hK : va_K (dC, dI) vwCl [(cI, .int), (cJ, .long)] s) (hZ : Zs false (va_A w0 s.heap.size) s s.heap) (v1 : Int32) (xa' : Int32) (xg' : Int32) {V : Int32 × Int32} (hV : (F_X9_find_41 xo xi xj xk v1 xa' xg') = V) (ls : Array Slot) (hl : lv_has ls 3 [(0, .ref hX), (1, .int v1)]) {H : Heap} {locs : List Loc} (hP : va_P (dC, dI) vwCl [(hX, .inr (6, [.int xt, .ref x1, .ref x2, .ref x3, .int xw, .int xp, .int xs, .long xc, .ref x4, .ref x5, .ref x6, .ref x7, .ref x8, .long xM, .long xE, .long xL, .int xo, .int xi, .int xj, .int xk, .int xn, .int xz, .int xa', .int xg'])), (x1, .inl (cJ, 512, .inr (.inl xmw))), (x2, .inl (cJ, 512, .inr (.inl xmp))), (x3, .inl (cJ, 24, .inr (.inl xr))), (x4, .inl (cI, 8, .inl xd)), (x5, .inl (cJ, 5, .inr (.inl xwt))), (x6, .inl (cJ, 24, .inr (.inl xf))), (x7, .inl (cJ, 24, .inr (.inl xrd))), (x8, .inl (cJ, 6, .inr (.inl xu)))] H) (hD : va_D (va_A w0 s.heap.size) [(hX, .inr (6, [.int xt, .ref x1, .ref x2, .ref x3, .int xw, .int xp, .int xs, .long xc, .ref x4, .ref x5, .ref x6, .ref x7, .ref x8, .long xM, .long xE, .long xL, .int xo, .int xi, .int xj, .int xk, .int xn, .int xz, .int xa', .int xg'])), (x1, .inl (cJ, 512, .inr (.inl xmw))), (x2, .inl (cJ, 512, .inr (.inl xmp))), (x3, .inl (cJ, 24, .inr (.inl xr))), (x4, .inl (cI, 8, .inl xd)), (x5, .inl (cJ, 5, .inr (.inl xwt))), (x6, .inl (cJ, 24, .inr (.inl xf))), (x7, .inl (cJ, 24, .inr (.inl xrd))), (x8, .inl (cJ, 6, .inr (.inl xu)))]) (hS : va_S (va_A w0 s.heap.size) s.heap H locs) : W p l e rm_X9_find s m args below meth c H locs 0 0 (MQ below (QV (dC, dI) [(cI, .int), (cJ, .long)] w0 [(hX, .inr (6, [.int xt, .ref x1, .ref x2, .ref x3, .int xw, .int xp, .int xs, .long xc, .ref x4, .ref x5, .ref x6, .ref x7, .ref x8, .long xM, .long xE, .long xL, .int xo, .int xi, .int xj, .int xk, .int xn, .int xz, .int V.1, .int V.2])), (x1, .inl (cJ, 512, .inr (.inl xmw))), (x2, .inl (cJ, 512, .inr (.inl xmp))), (x3, .inl (cJ, 24, .inr (.inl xr))), (x4, .inl (cI, 8, .inl xd)), (x5, .inl (cJ, 5, .inr (.inl xwt))), (x6, .inl (cJ, 24, .inr (.inl xf))), (x7, .inl (cJ, 24, .inr (.inl xrd))), (x8, .inl (cJ, 6, .inr (.inl xu)))] s.heap.size) args s 0 0 (va_A w0 s.heap.size)) (F0 m 41 ls []) := by
  obtain ⟨hx, hb, hr, hlk, hml, hown, hts⟩ := id C0
  have hA : ∀ q : Nat, s.heap.size ≤ q → va_A w0 s.heap.size q := fun q h => Or.inr h
  refine lv_aload_n hx hb dX9_find_41 rfl (lv_at hl 0 rfl) ?_
  refine lv_bipush (v := (8 : Int32)) hx hb dX9_find_42 (by decide) ?_
  refine lv_aload_n hx hb dX9_find_44 rfl (lv_at hl 0 rfl) ?_
  refine va_get (D := (dC, dI)) (ci := 6) (v := .int xj) (C := RX9) (T := TX9) (N := 24) hx hb hts mi_X9_find_X9 hown hK hP 0 rfl rfl 18 (by decide) (hts (.fieldLink RX9 83 "ScoreboardCoreModel" "j" "I") mm_X9_find_f83) (fun _ h9 => h9) rfl dX9_find_45 ?_
  refine lv_iadd hx hb dX9_find_48 ?_
  refine wrVv (As := [.int ((8 : Int32) + xj)]) (rest := []) (bytes := cX9_need) (maxL := 2) (rty := none) (n := 1) (ci := 6) C0 (c_X9_need l dC dI cI cJ hX x1 x2 x3 x4 x5 x6 x7 x8 ((8 : Int32) + xj) xt xw xp xs xc xM xE xL xo xi xj xk xn xz xa' xg' xmw xmp xr xd xwt xf xrd xu) ⟨rfl, rfl, rfl, by decide +kernel, by decide, by decide⟩ ggX9_find_X9_need mm_X9_find_iX9 mm_X9_find_l102 mm_X9_find_nX9_need mm_X9_find_sX9_need rfl rfl hP hD hK hS hA (Zs.no _ _ _) [0, 1, 2, 3, 4, 5, 6, 7, 8] [] [0, 1, 2, 3, 4, 5, 6, 7, 8] [] [(hX, .inr (6, [.int xt, .ref x1, .ref x2, .ref x3, .int xw, .int xp, .int xs, .long xc, .ref x4, .ref x5, .ref x6, .ref x7, .ref x8, .long xM, .long xE, .long xL, .int xo, .int xi, .int xj, .int xk, .int xn, .int xz, .int (F_X9_need ((8 : Int32) + xj) xa'), .int xg'])), (x1, .inl (cJ, 512, .inr (.inl xmw))), (x2, .inl (cJ, 512, .inr (.inl xmp))), (x3, .inl (cJ, 24, .inr (.inl xr))), (x4, .inl (cI, 8, .inl xd)), (x5, .inl (cJ, 5, .inr (.inl xwt))), (x6, .inl (cJ, 24, .inr (.inl xf))), (x7, .inl (cJ, 24, .inr (.inl xrd))), (x8, .inl (cJ, 6, .inr (.inl xu)))] rfl (by decide) (hP.sub (ws' := [(hX, .inr (6, [.int xt, .ref x1, .ref x2, .ref x3, .int xw, .int xp, .int xs, .long xc, .ref x4, .ref x5, .ref x6, .ref x7, .ref x8, .long xM, .long xE, .long xL, .int xo, .int xi, .int xj, .int xk, .int xn, .int xz, .int xa', .int xg'])), (x1, .inl (cJ, 512, .inr (.inl xmw))), (x2, .inl (cJ, 512, .inr (.inl xmp))), (x3, .inl (cJ, 24, .inr (.inl xr))), (x4, .inl (cI, 8, .inl xd)), (x5, .inl (cJ, 5, .inr (.inl xwt))), (x6, .inl (cJ, 24, .inr (.inl xf))), (x7, .inl (cJ, 24, .inr (.inl xrd))), (x8, .inl (cJ, 6, .inr (.inl xu)))]) [0, 1, 2, 3, 4, 5, 6, 7, 8] rfl) rfl (by decide) (by decide) (by decide) rfl hl.1 rfl rfl (Nat.le_of_ble_eq_true rfl) dX9_find_49 ⟨Nat.zero_le _, Nat.zero_le _⟩ (fun H locs hP hD hS => ?_)
  refine lv_goto (tgt := 87) hx hb dX9_find_52 (by decide) ?_
  have e9 : (F_X9_find_41 xo xi xj xk v1 xa' xg') = (F_X9_find_87 xo xi xk v1 (F_X9_need ((8 : Int32) + xj) xa') xg') := by rw [F_X9_find_41]
  rw [e9] at hV
  exact j_X9_find_87 dC dI cI cJ hX x1 x2 x3 x4 x5 x6 x7 x8 xt xw xp xs xc xM xE xL xo xi xj xk xn xz xa xg xmw xmp xr xd xwt xf xrd xu C0 hK hZ v1 (F_X9_need ((8 : Int32) + xj) xa') xg' hV ls (lv_sub hl [0, 1] rfl) hP hD hS
set_option maxHeartbeats 4000000 in
set_option maxRecDepth 100000 in
theorem j_X9_find_65 {p : Program} {l : Launch} {e : Env} {s : State} {m : MethodId} {below : List Frame} {meth : Method} {c : Code} {args : Array Value} (dC : Nat → ClassId) (dI : Nat → Nat → Nat) (cI cJ : ClassId) (hX x1 x2 x3 x4 x5 x6 x7 x8 : Nat) (xt : Int32) (xw : Int32) (xp : Int32) (xs : Int32) (xc : Int64) (xM : Int64) (xE : Int64) (xL : Int64) (xo : Int32) (xi : Int32) (xj : Int32) (xk : Int32) (xn : Int32) (xz : Int32) (xa : Int32) (xg : Int32) (xmw : Nat → Int64) (xmp : Nat → Int64) (xr : Nat → Int64) (xd : Nat → Int32) (xwt : Nat → Int64) (xf : Nat → Int64) (xrd : Nat → Int64) (xu : Nat → Int64) {w0 : va_W} (C0 : Cx p s m meth c cX9_find 3 none wsX9_find RX9 args) (hK : va_K (dC, dI) vwCl [(cI, .int), (cJ, .long)] s) (hZ : Zs false (va_A w0 s.heap.size) s s.heap) (v1 : Int32) (xa' : Int32) (xg' : Int32) {V : Int32 × Int32} (hV : (F_X9_find_65 xo xi xj xk v1 xa' xg') = V) (ls : Array Slot) (hl : lv_has ls 3 [(0, .ref hX), (1, .int v1)]) {H : Heap} {locs : List Loc} (hP : va_P (dC, dI) vwCl [(hX, .inr (6, [.int xt, .ref x1, .ref x2, .ref x3, .int xw, .int xp, .int xs, .long xc, .ref x4, .ref x5, .ref x6, .ref x7, .ref x8, .long xM, .long xE, .long xL, .int xo, .int xi, .int xj, .int xk, .int xn, .int xz, .int xa', .int xg'])), (x1, .inl (cJ, 512, .inr (.inl xmw))), (x2, .inl (cJ, 512, .inr (.inl xmp))), (x3, .inl (cJ, 24, .inr (.inl xr))), (x4, .inl (cI, 8, .inl xd)), (x5, .inl (cJ, 5, .inr (.inl xwt))), (x6, .inl (cJ, 24, .inr (.inl xf))), (x7, .inl (cJ, 24, .inr (.inl xrd))), (x8, .inl (cJ, 6, .inr (.inl xu)))] H) (hD : va_D (va_A w0 s.heap.size) [(hX, .inr (6, [.int xt, .ref x1, .ref x2, .ref x3, .int xw, .int xp, .int xs, .long xc, .ref x4, .ref x5, .ref x6, .ref x7, .ref x8, .long xM, .long xE, .long xL, .int xo, .int xi, .int xj, .int xk, .int xn, .int xz, .int xa', .int xg'])), (x1, .inl (cJ, 512, .inr (.inl xmw))), (x2, .inl (cJ, 512, .inr (.inl xmp))), (x3, .inl (cJ, 24, .inr (.inl xr))), (x4, .inl (cI, 8, .inl xd)), (x5, .inl (cJ, 5, .inr (.inl xwt))), (x6, .inl (cJ, 24, .inr (.inl xf))), (x7, .inl (cJ, 24, .inr (.inl xrd))), (x8, .inl (cJ, 6, .inr (.inl xu)))]) (hS : va_S (va_A w0 s.heap.size) s.heap H locs) : W p l e rm_X9_find s m args below meth c H locs 0 0 (MQ below (QV (dC, dI) [(cI, .int), (cJ, .long)] w0 [(hX, .inr (6, [.int xt, .ref x1, .ref x2, .ref x3, .int xw, .int xp, .int xs, .long xc, .ref x4, .ref x5, .ref x6, .ref x7, .ref x8, .long xM, .long xE, .long xL, .int xo, .int xi, .int xj, .int xk, .int xn, .int xz, .int V.1, .int V.2])), (x1, .inl (cJ, 512, .inr (.inl xmw))), (x2, .inl (cJ, 512, .inr (.inl xmp))), (x3, .inl (cJ, 24, .inr (.inl xr))), (x4, .inl (cI, 8, .inl xd)), (x5, .inl (cJ, 5, .inr (.inl xwt))), (x6, .inl (cJ, 24, .inr (.inl xf))), (x7, .inl (cJ, 24, .inr (.inl xrd))), (x8, .inl (cJ, 6, .inr (.inl xu)))] s.heap.size) args s 0 0 (va_A w0 s.heap.size)) (F0 m 65 ls []) := by
  obtain ⟨hx, hb, hr, hlk, hml, hown, hts⟩ := id C0
  have hA : ∀ q : Nat, s.heap.size ≤ q → va_A w0 s.heap.size q := fun q h => Or.inr h
  refine lv_aload_n hx hb dX9_find_65 rfl (lv_at hl 0 rfl) ?_
  refine lv_aload_n hx hb dX9_find_66 rfl (lv_at hl 0 rfl) ?_
  refine va_get (D := (dC, dI)) (ci := 6) (v := .int xj) (C := RX9) (T := TX9) (N := 24) hx hb hts mi_X9_find_X9 hown hK hP 0 rfl rfl 18 (by decide) (hts (.fieldLink RX9 83 "ScoreboardCoreModel" "j" "I") mm_X9_find_f83) (fun _ h9 => h9) rfl dX9_find_67 ?_
  refine wrVv (As := [.int xj]) (rest := []) (bytes := cX9_need) (maxL := 2) (rty := none) (n := 1) (ci := 6) C0 (c_X9_need l dC dI cI cJ hX x1 x2 x3 x4 x5 x6 x7 x8 xj xt xw xp xs xc xM xE xL xo xi xj xk xn xz xa' xg' xmw xmp xr xd xwt xf xrd xu) ⟨rfl, rfl, rfl, by decide +kernel, by decide, by decide⟩ ggX9_find_X9_need mm_X9_find_iX9 mm_X9_find_l102 mm_X9_find_nX9_need mm_X9_find_sX9_need rfl rfl hP hD hK hS hA (Zs.no _ _ _) [0, 1, 2, 3, 4, 5, 6, 7, 8] [] [0, 1, 2, 3, 4, 5, 6, 7, 8] [] [(hX, .inr (6, [.int xt, .ref x1, .ref x2, .ref x3, .int xw, .int xp, .int xs, .long xc, .ref x4, .ref x5, .ref x6, .ref x7, .ref x8, .long xM, .long xE, .long xL, .int xo, .int xi, .int xj, .int xk, .int xn, .int xz, .int (F_X9_need xj xa'), .int xg'])), (x1, .inl (cJ, 512, .inr (.inl xmw))), (x2, .inl (cJ, 512, .inr (.inl xmp))), (x3, .inl (cJ, 24, .inr (.inl xr))), (x4, .inl (cI, 8, .inl xd)), (x5, .inl (cJ, 5, .inr (.inl xwt))), (x6, .inl (cJ, 24, .inr (.inl xf))), (x7, .inl (cJ, 24, .inr (.inl xrd))), (x8, .inl (cJ, 6, .inr (.inl xu)))] rfl (by decide) (hP.sub (ws' := [(hX, .inr (6, [.int xt, .ref x1, .ref x2, .ref x3, .int xw, .int xp, .int xs, .long xc, .ref x4, .ref x5, .ref x6, .ref x7, .ref x8, .long xM, .long xE, .long xL, .int xo, .int xi, .int xj, .int xk, .int xn, .int xz, .int xa', .int xg'])), (x1, .inl (cJ, 512, .inr (.inl xmw))), (x2, .inl (cJ, 512, .inr (.inl xmp))), (x3, .inl (cJ, 24, .inr (.inl xr))), (x4, .inl (cI, 8, .inl xd)), (x5, .inl (cJ, 5, .inr (.inl xwt))), (x6, .inl (cJ, 24, .inr (.inl xf))), (x7, .inl (cJ, 24, .inr (.inl xrd))), (x8, .inl (cJ, 6, .inr (.inl xu)))]) [0, 1, 2, 3, 4, 5, 6, 7, 8] rfl) rfl (by decide) (by decide) (by decide) rfl hl.1 rfl rfl (Nat.le_of_ble_eq_true rfl) dX9_find_70 ⟨Nat.zero_le _, Nat.zero_le _⟩ (fun H locs hP hD hS => ?_)
  refine lv_goto (tgt := 87) hx hb dX9_find_73 (by decide) ?_
  have e9 : (F_X9_find_65 xo xi xj xk v1 xa' xg') = (F_X9_find_87 xo xi xk v1 (F_X9_need xj xa') xg') := by rw [F_X9_find_65]
  rw [e9] at hV
  exact j_X9_find_87 dC dI cI cJ hX x1 x2 x3 x4 x5 x6 x7 x8 xt xw xp xs xc xM xE xL xo xi xj xk xn xz xa xg xmw xmp xr xd xwt xf xrd xu C0 hK hZ v1 (F_X9_need xj xa') xg' hV ls (lv_sub hl [0, 1] rfl) hP hD hS
set_option maxHeartbeats 4000000 in
set_option maxRecDepth 100000 in
theorem w_X9_find {p : Program} {l : Launch} {e : Env} {s : State} {m : MethodId} {below : List Frame} {meth : Method} {c : Code} {args : Array Value} (dC : Nat → ClassId) (dI : Nat → Nat → Nat) (cI cJ : ClassId) (hX x1 x2 x3 x4 x5 x6 x7 x8 : Nat) (xt : Int32) (xw : Int32) (xp : Int32) (xs : Int32) (xc : Int64) (xM : Int64) (xE : Int64) (xL : Int64) (xo : Int32) (xi : Int32) (xj : Int32) (xk : Int32) (xn : Int32) (xz : Int32) (xa : Int32) (xg : Int32) (xmw : Nat → Int64) (xmp : Nat → Int64) (xr : Nat → Int64) (xd : Nat → Int32) (xwt : Nat → Int64) (xf : Nat → Int64) (xrd : Nat → Int64) (xu : Nat → Int64) {w0 : va_W} (C0 : Cx p s m meth c cX9_find 3 none wsX9_find RX9 args) (hK : va_K (dC, dI) vwCl [(cI, .int), (cJ, .long)] s) (hZ : Zs false (va_A w0 s.heap.size) s s.heap) {V : Int32 × Int32} (hV : (F_X9_find xo xi xj xk ) = V) (ls : Array Slot) (hl : lv_has ls 3 [(0, .ref hX)]) {H : Heap} {locs : List Loc} (hP : va_P (dC, dI) vwCl [(hX, .inr (6, [.int xt, .ref x1, .ref x2, .ref x3, .int xw, .int xp, .int xs, .long xc, .ref x4, .ref x5, .ref x6, .ref x7, .ref x8, .long xM, .long xE, .long xL, .int xo, .int xi, .int xj, .int xk, .int xn, .int xz, .int xa, .int xg])), (x1, .inl (cJ, 512, .inr (.inl xmw))), (x2, .inl (cJ, 512, .inr (.inl xmp))), (x3, .inl (cJ, 24, .inr (.inl xr))), (x4, .inl (cI, 8, .inl xd)), (x5, .inl (cJ, 5, .inr (.inl xwt))), (x6, .inl (cJ, 24, .inr (.inl xf))), (x7, .inl (cJ, 24, .inr (.inl xrd))), (x8, .inl (cJ, 6, .inr (.inl xu)))] H) (hD : va_D (va_A w0 s.heap.size) [(hX, .inr (6, [.int xt, .ref x1, .ref x2, .ref x3, .int xw, .int xp, .int xs, .long xc, .ref x4, .ref x5, .ref x6, .ref x7, .ref x8, .long xM, .long xE, .long xL, .int xo, .int xi, .int xj, .int xk, .int xn, .int xz, .int xa, .int xg])), (x1, .inl (cJ, 512, .inr (.inl xmw))), (x2, .inl (cJ, 512, .inr (.inl xmp))), (x3, .inl (cJ, 24, .inr (.inl xr))), (x4, .inl (cI, 8, .inl xd)), (x5, .inl (cJ, 5, .inr (.inl xwt))), (x6, .inl (cJ, 24, .inr (.inl xf))), (x7, .inl (cJ, 24, .inr (.inl xrd))), (x8, .inl (cJ, 6, .inr (.inl xu)))]) (hS : va_S (va_A w0 s.heap.size) s.heap H locs) : W p l e rm_X9_find s m args below meth c H locs 0 0 (MQ below (QV (dC, dI) [(cI, .int), (cJ, .long)] w0 [(hX, .inr (6, [.int xt, .ref x1, .ref x2, .ref x3, .int xw, .int xp, .int xs, .long xc, .ref x4, .ref x5, .ref x6, .ref x7, .ref x8, .long xM, .long xE, .long xL, .int xo, .int xi, .int xj, .int xk, .int xn, .int xz, .int V.1, .int V.2])), (x1, .inl (cJ, 512, .inr (.inl xmw))), (x2, .inl (cJ, 512, .inr (.inl xmp))), (x3, .inl (cJ, 24, .inr (.inl xr))), (x4, .inl (cI, 8, .inl xd)), (x5, .inl (cJ, 5, .inr (.inl xwt))), (x6, .inl (cJ, 24, .inr (.inl xf))), (x7, .inl (cJ, 24, .inr (.inl xrd))), (x8, .inl (cJ, 6, .inr (.inl xu)))] s.heap.size) args s 0 0 (va_A w0 s.heap.size)) (F0 m 0 ls []) := by
  obtain ⟨hx, hb, hr, hlk, hml, hown, hts⟩ := id C0
  have hA : ∀ q : Nat, s.heap.size ≤ q → va_A w0 s.heap.size q := fun q h => Or.inr h
  refine lv_aload_n hx hb dX9_find_0 rfl (lv_at hl 0 rfl) ?_
  refine lv_iconst (v := (0 : Int32)) hx hb dX9_find_1 (by decide) ?_
  refine va_put (D := (dC, dI)) (ci := 6) (v := .int (0 : Int32)) (ty := .int) (C := RX9) (T := TX9) (N := 24) hx hb hts mi_X9_find_X9 tyX9 tyX9_ok nmX9 hown hK hP hD hS 0 rfl rfl 22 (by decide) (hts (.fieldLink RX9 96 "ScoreboardCoreModel" "needs" "I") mm_X9_find_f96) (fun _ h9 => h9) rfl (by decide +kernel) rfl rfl (Nat.le_of_ble_eq_true rfl) dX9_find_2 (fun H locs hP hD hS => ?_)
  have hP : va_P (dC, dI) vwCl [(hX, .inr (6, [.int xt, .ref x1, .ref x2, .ref x3, .int xw, .int xp, .int xs, .long xc, .ref x4, .ref x5, .ref x6, .ref x7, .ref x8, .long xM, .long xE, .long xL, .int xo, .int xi, .int xj, .int xk, .int xn, .int xz, .int (0 : Int32), .int xg])), (x1, .inl (cJ, 512, .inr (.inl xmw))), (x2, .inl (cJ, 512, .inr (.inl xmp))), (x3, .inl (cJ, 24, .inr (.inl xr))), (x4, .inl (cI, 8, .inl xd)), (x5, .inl (cJ, 5, .inr (.inl xwt))), (x6, .inl (cJ, 24, .inr (.inl xf))), (x7, .inl (cJ, 24, .inr (.inl xrd))), (x8, .inl (cJ, 6, .inr (.inl xu)))] H := hP
  have hD : va_D (va_A w0 s.heap.size) [(hX, .inr (6, [.int xt, .ref x1, .ref x2, .ref x3, .int xw, .int xp, .int xs, .long xc, .ref x4, .ref x5, .ref x6, .ref x7, .ref x8, .long xM, .long xE, .long xL, .int xo, .int xi, .int xj, .int xk, .int xn, .int xz, .int (0 : Int32), .int xg])), (x1, .inl (cJ, 512, .inr (.inl xmw))), (x2, .inl (cJ, 512, .inr (.inl xmp))), (x3, .inl (cJ, 24, .inr (.inl xr))), (x4, .inl (cI, 8, .inl xd)), (x5, .inl (cJ, 5, .inr (.inl xwt))), (x6, .inl (cJ, 24, .inr (.inl xf))), (x7, .inl (cJ, 24, .inr (.inl xrd))), (x8, .inl (cJ, 6, .inr (.inl xu)))] := hD
  refine lv_aload_n hx hb dX9_find_5 rfl (lv_at hl 0 rfl) ?_
  refine lv_iconst (v := (0 : Int32)) hx hb dX9_find_6 (by decide) ?_
  refine va_put (D := (dC, dI)) (ci := 6) (v := .int (0 : Int32)) (ty := .int) (C := RX9) (T := TX9) (N := 24) hx hb hts mi_X9_find_X9 tyX9 tyX9_ok nmX9 hown hK hP hD hS 0 rfl rfl 23 (by decide) (hts (.fieldLink RX9 99 "ScoreboardCoreModel" "gives" "I") mm_X9_find_f99) (fun _ h9 => h9) rfl (by decide +kernel) rfl rfl (Nat.le_of_ble_eq_true rfl) dX9_find_7 (fun H locs hP hD hS => ?_)
  have hP : va_P (dC, dI) vwCl [(hX, .inr (6, [.int xt, .ref x1, .ref x2, .ref x3, .int xw, .int xp, .int xs, .long xc, .ref x4, .ref x5, .ref x6, .ref x7, .ref x8, .long xM, .long xE, .long xL, .int xo, .int xi, .int xj, .int xk, .int xn, .int xz, .int (0 : Int32), .int (0 : Int32)])), (x1, .inl (cJ, 512, .inr (.inl xmw))), (x2, .inl (cJ, 512, .inr (.inl xmp))), (x3, .inl (cJ, 24, .inr (.inl xr))), (x4, .inl (cI, 8, .inl xd)), (x5, .inl (cJ, 5, .inr (.inl xwt))), (x6, .inl (cJ, 24, .inr (.inl xf))), (x7, .inl (cJ, 24, .inr (.inl xrd))), (x8, .inl (cJ, 6, .inr (.inl xu)))] H := hP
  have hD : va_D (va_A w0 s.heap.size) [(hX, .inr (6, [.int xt, .ref x1, .ref x2, .ref x3, .int xw, .int xp, .int xs, .long xc, .ref x4, .ref x5, .ref x6, .ref x7, .ref x8, .long xM, .long xE, .long xL, .int xo, .int xi, .int xj, .int xk, .int xn, .int xz, .int (0 : Int32), .int (0 : Int32)])), (x1, .inl (cJ, 512, .inr (.inl xmw))), (x2, .inl (cJ, 512, .inr (.inl xmp))), (x3, .inl (cJ, 24, .inr (.inl xr))), (x4, .inl (cI, 8, .inl xd)), (x5, .inl (cJ, 5, .inr (.inl xwt))), (x6, .inl (cJ, 24, .inr (.inl xf))), (x7, .inl (cJ, 24, .inr (.inl xrd))), (x8, .inl (cJ, 6, .inr (.inl xu)))] := hD
  refine lv_aload_n hx hb dX9_find_10 rfl (lv_at hl 0 rfl) ?_
  refine va_get (D := (dC, dI)) (ci := 6) (v := .int xo) (C := RX9) (T := TX9) (N := 24) hx hb hts mi_X9_find_X9 hown hK hP 0 rfl rfl 16 (by decide) (hts (.fieldLink RX9 68 "ScoreboardCoreModel" "op" "I") mm_X9_find_f68) (fun _ h9 => h9) rfl dX9_find_11 ?_
  refine lv_bipush (v := (40 : Int32)) hx hb dX9_find_14 (by decide) ?_
  refine lv_icmp_lt (x := xo) (y := (40 : Int32)) (tgt := 197) hx hb dX9_find_16 (by decide) (fun c1 => ?_) (fun c1 => ?_)
  · refine lv_aload_n hx hb dX9_find_197 rfl (lv_at hl 0 rfl) ?_
    refine lv_aload_n hx hb dX9_find_198 rfl (lv_at hl 0 rfl) ?_
    refine va_get (D := (dC, dI)) (ci := 6) (v := .int xi) (C := RX9) (T := TX9) (N := 24) hx hb hts mi_X9_find_X9 hown hK hP 0 rfl rfl 17 (by decide) (hts (.fieldLink RX9 71 "ScoreboardCoreModel" "i" "I") mm_X9_find_f71) (fun _ h9 => h9) rfl dX9_find_199 ?_
    refine wrVv (As := [.int xi]) (rest := []) (bytes := cX9_give) (maxL := 2) (rty := none) (n := 1) (ci := 6) C0 (c_X9_give l dC dI cI cJ hX x1 x2 x3 x4 x5 x6 x7 x8 xi xt xw xp xs xc xM xE xL xo xi xj xk xn xz (0 : Int32) (0 : Int32) xmw xmp xr xd xwt xf xrd xu) ⟨rfl, rfl, rfl, by decide +kernel, by decide, by decide⟩ ggX9_find_X9_give mm_X9_find_iX9 mm_X9_find_l106 mm_X9_find_nX9_give mm_X9_find_sX9_give rfl rfl hP hD hK hS hA (Zs.no _ _ _) [0, 1, 2, 3, 4, 5, 6, 7, 8] [] [0, 1, 2, 3, 4, 5, 6, 7, 8] [] [(hX, .inr (6, [.int xt, .ref x1, .ref x2, .ref x3, .int xw, .int xp, .int xs, .long xc, .ref x4, .ref x5, .ref x6, .ref x7, .ref x8, .long xM, .long xE, .long xL, .int xo, .int xi, .int xj, .int xk, .int xn, .int xz, .int (0 : Int32), .int (F_X9_give xi (0 : Int32))])), (x1, .inl (cJ, 512, .inr (.inl xmw))), (x2, .inl (cJ, 512, .inr (.inl xmp))), (x3, .inl (cJ, 24, .inr (.inl xr))), (x4, .inl (cI, 8, .inl xd)), (x5, .inl (cJ, 5, .inr (.inl xwt))), (x6, .inl (cJ, 24, .inr (.inl xf))), (x7, .inl (cJ, 24, .inr (.inl xrd))), (x8, .inl (cJ, 6, .inr (.inl xu)))] rfl (by decide) (hP.sub (ws' := [(hX, .inr (6, [.int xt, .ref x1, .ref x2, .ref x3, .int xw, .int xp, .int xs, .long xc, .ref x4, .ref x5, .ref x6, .ref x7, .ref x8, .long xM, .long xE, .long xL, .int xo, .int xi, .int xj, .int xk, .int xn, .int xz, .int (0 : Int32), .int (0 : Int32)])), (x1, .inl (cJ, 512, .inr (.inl xmw))), (x2, .inl (cJ, 512, .inr (.inl xmp))), (x3, .inl (cJ, 24, .inr (.inl xr))), (x4, .inl (cI, 8, .inl xd)), (x5, .inl (cJ, 5, .inr (.inl xwt))), (x6, .inl (cJ, 24, .inr (.inl xf))), (x7, .inl (cJ, 24, .inr (.inl xrd))), (x8, .inl (cJ, 6, .inr (.inl xu)))]) [0, 1, 2, 3, 4, 5, 6, 7, 8] rfl) rfl (by decide) (by decide) (by decide) rfl hl.1 rfl rfl (Nat.le_of_ble_eq_true rfl) dX9_find_202 ⟨Nat.zero_le _, Nat.zero_le _⟩ (fun H locs hP hD hS => ?_)
    refine lv_aload_n hx hb dX9_find_205 rfl (lv_at hl 0 rfl) ?_
    refine va_get (D := (dC, dI)) (ci := 6) (v := .int xo) (C := RX9) (T := TX9) (N := 24) hx hb hts mi_X9_find_X9 hown hK hP 0 rfl rfl 16 (by decide) (hts (.fieldLink RX9 68 "ScoreboardCoreModel" "op" "I") mm_X9_find_f68) (fun _ h9 => h9) rfl dX9_find_206 ?_
    refine lv_bipush (v := (8 : Int32)) hx hb dX9_find_209 (by decide) ?_
    refine lv_icmp_eq (x := xo) (y := (8 : Int32)) (tgt := 268) hx hb dX9_find_211 (by decide) (fun c2 => ?_) (fun c2 => ?_)
    · have e9 : (F_X9_find xo xi xj xk ) = (F_X9_find_268 xo xi xj xk (0 : Int32) (F_X9_give xi (0 : Int32))) := by rw [F_X9_find, if_pos c1, if_pos c2]
      rw [e9] at hV
      exact j_X9_find_268 dC dI cI cJ hX x1 x2 x3 x4 x5 x6 x7 x8 xt xw xp xs xc xM xE xL xo xi xj xk xn xz xa xg xmw xmp xr xd xwt xf xrd xu C0 hK hZ (0 : Int32) (F_X9_give xi (0 : Int32)) hV ls (lv_sub hl [0] rfl) hP hD hS
    · refine lv_aload_n hx hb dX9_find_214 rfl (lv_at hl 0 rfl) ?_
      refine va_get (D := (dC, dI)) (ci := 6) (v := .int xo) (C := RX9) (T := TX9) (N := 24) hx hb hts mi_X9_find_X9 hown hK hP 0 rfl rfl 16 (by decide) (hts (.fieldLink RX9 68 "ScoreboardCoreModel" "op" "I") mm_X9_find_f68) (fun _ h9 => h9) rfl dX9_find_215 ?_
      refine lv_bipush (v := (9 : Int32)) hx hb dX9_find_218 (by decide) ?_
      refine lv_icmp_lt (x := xo) (y := (9 : Int32)) (tgt := 232) hx hb dX9_find_220 (by decide) (fun c3 => ?_) (fun c3 => ?_)
      · have e9 : (F_X9_find xo xi xj xk ) = (F_X9_find_232 xo xi xj xk (0 : Int32) (F_X9_give xi (0 : Int32))) := by rw [F_X9_find, if_pos c1, if_neg c2, if_pos c3]
        rw [e9] at hV
        exact j_X9_find_232 dC dI cI cJ hX x1 x2 x3 x4 x5 x6 x7 x8 xt xw xp xs xc xM xE xL xo xi xj xk xn xz xa xg xmw xmp xr xd xwt xf xrd xu C0 hK hZ (0 : Int32) (F_X9_give xi (0 : Int32)) hV ls (lv_sub hl [0] rfl) hP hD hS
      · refine lv_aload_n hx hb dX9_find_223 rfl (lv_at hl 0 rfl) ?_
        refine va_get (D := (dC, dI)) (ci := 6) (v := .int xo) (C := RX9) (T := TX9) (N := 24) hx hb hts mi_X9_find_X9 hown hK hP 0 rfl rfl 16 (by decide) (hts (.fieldLink RX9 68 "ScoreboardCoreModel" "op" "I") mm_X9_find_f68) (fun _ h9 => h9) rfl dX9_find_224 ?_
        refine lv_bipush (v := (11 : Int32)) hx hb dX9_find_227 (by decide) ?_
        refine lv_icmp_le (x := xo) (y := (11 : Int32)) (tgt := 268) hx hb dX9_find_229 (by decide) (fun c4 => ?_) (fun c4 => ?_)
        · have e9 : (F_X9_find xo xi xj xk ) = (F_X9_find_268 xo xi xj xk (0 : Int32) (F_X9_give xi (0 : Int32))) := by rw [F_X9_find, if_pos c1, if_neg c2, if_neg c3, if_pos c4]
          rw [e9] at hV
          exact j_X9_find_268 dC dI cI cJ hX x1 x2 x3 x4 x5 x6 x7 x8 xt xw xp xs xc xM xE xL xo xi xj xk xn xz xa xg xmw xmp xr xd xwt xf xrd xu C0 hK hZ (0 : Int32) (F_X9_give xi (0 : Int32)) hV ls (lv_sub hl [0] rfl) hP hD hS
        · have e9 : (F_X9_find xo xi xj xk ) = (F_X9_find_232 xo xi xj xk (0 : Int32) (F_X9_give xi (0 : Int32))) := by rw [F_X9_find, if_pos c1, if_neg c2, if_neg c3, if_neg c4]
          rw [e9] at hV
          exact j_X9_find_232 dC dI cI cJ hX x1 x2 x3 x4 x5 x6 x7 x8 xt xw xp xs xc xM xE xL xo xi xj xk xn xz xa xg xmw xmp xr xd xwt xf xrd xu C0 hK hZ (0 : Int32) (F_X9_give xi (0 : Int32)) hV ls (lv_sub hl [0] rfl) hP hD hS
  · refine lv_aload_n hx hb dX9_find_19 rfl (lv_at hl 0 rfl) ?_
    refine va_get (D := (dC, dI)) (ci := 6) (v := .int xo) (C := RX9) (T := TX9) (N := 24) hx hb hts mi_X9_find_X9 hown hK hP 0 rfl rfl 16 (by decide) (hts (.fieldLink RX9 68 "ScoreboardCoreModel" "op" "I") mm_X9_find_f68) (fun _ h9 => h9) rfl dX9_find_20 ?_
    refine lv_bipush (v := (8 : Int32)) hx hb dX9_find_23 (by decide) ?_
    refine lv_irem hx hb dX9_find_25 (by decide) ?_
    refine lv_istore_n (lv' := [(1, .int (xo - xo / (8 : Int32) * (8 : Int32))), (0, .ref hX)]) hx hb dX9_find_26 rfl hl (by decide) rfl (fun ls hl => ?_)
    refine lv_iload_n hx hb dX9_find_27 rfl (lv_at hl 0 rfl) ?_
    refine lv_if_eq (x := (xo - xo / (8 : Int32) * (8 : Int32))) (tgt := 41) hx hb dX9_find_28 (by decide) (fun c5 => ?_) (fun c5 => ?_)
    · have e9 : (F_X9_find xo xi xj xk ) = (F_X9_find_41 xo xi xj xk (xo - xo / (8 : Int32) * (8 : Int32)) (0 : Int32) (0 : Int32)) := by rw [F_X9_find, if_neg c1, if_pos c5]
      rw [e9] at hV
      exact j_X9_find_41 dC dI cI cJ hX x1 x2 x3 x4 x5 x6 x7 x8 xt xw xp xs xc xM xE xL xo xi xj xk xn xz xa xg xmw xmp xr xd xwt xf xrd xu C0 hK hZ (xo - xo / (8 : Int32) * (8 : Int32)) (0 : Int32) (0 : Int32) hV ls (lv_sub hl [1, 0] rfl) hP hD hS
    · refine lv_iload_n hx hb dX9_find_31 rfl (lv_at hl 0 rfl) ?_
      refine lv_iconst (v := (4 : Int32)) hx hb dX9_find_32 (by decide) ?_
      refine lv_icmp_eq (x := (xo - xo / (8 : Int32) * (8 : Int32))) (y := (4 : Int32)) (tgt := 41) hx hb dX9_find_33 (by decide) (fun c6 => ?_) (fun c6 => ?_)
      · have e9 : (F_X9_find xo xi xj xk ) = (F_X9_find_41 xo xi xj xk (xo - xo / (8 : Int32) * (8 : Int32)) (0 : Int32) (0 : Int32)) := by rw [F_X9_find, if_neg c1, if_neg c5, if_pos c6]
        rw [e9] at hV
        exact j_X9_find_41 dC dI cI cJ hX x1 x2 x3 x4 x5 x6 x7 x8 xt xw xp xs xc xM xE xL xo xi xj xk xn xz xa xg xmw xmp xr xd xwt xf xrd xu C0 hK hZ (xo - xo / (8 : Int32) * (8 : Int32)) (0 : Int32) (0 : Int32) hV ls (lv_sub hl [1, 0] rfl) hP hD hS
      · refine lv_iload_n hx hb dX9_find_36 rfl (lv_at hl 0 rfl) ?_
        refine lv_iconst (v := (5 : Int32)) hx hb dX9_find_37 (by decide) ?_
        refine lv_icmp_ne (x := (xo - xo / (8 : Int32) * (8 : Int32))) (y := (5 : Int32)) (tgt := 55) hx hb dX9_find_38 (by decide) (fun c7 => ?_) (fun c7 => ?_)
        · refine lv_iload_n hx hb dX9_find_55 rfl (lv_at hl 0 rfl) ?_
          refine lv_iconst (v := (2 : Int32)) hx hb dX9_find_56 (by decide) ?_
          refine lv_icmp_eq (x := (xo - xo / (8 : Int32) * (8 : Int32))) (y := (2 : Int32)) (tgt := 65) hx hb dX9_find_57 (by decide) (fun c8 => ?_) (fun c8 => ?_)
          · have e9 : (F_X9_find xo xi xj xk ) = (F_X9_find_65 xo xi xj xk (xo - xo / (8 : Int32) * (8 : Int32)) (0 : Int32) (0 : Int32)) := by rw [F_X9_find, if_neg c1, if_neg c5, if_neg c6, if_neg c7, if_pos c8]
            rw [e9] at hV
            exact j_X9_find_65 dC dI cI cJ hX x1 x2 x3 x4 x5 x6 x7 x8 xt xw xp xs xc xM xE xL xo xi xj xk xn xz xa xg xmw xmp xr xd xwt xf xrd xu C0 hK hZ (xo - xo / (8 : Int32) * (8 : Int32)) (0 : Int32) (0 : Int32) hV ls (lv_sub hl [1, 0] rfl) hP hD hS
          · refine lv_iload_n hx hb dX9_find_60 rfl (lv_at hl 0 rfl) ?_
            refine lv_iconst (v := (3 : Int32)) hx hb dX9_find_61 (by decide) ?_
            refine lv_icmp_ne (x := (xo - xo / (8 : Int32) * (8 : Int32))) (y := (3 : Int32)) (tgt := 76) hx hb dX9_find_62 (by decide) (fun c9 => ?_) (fun c9 => ?_)
            · refine lv_aload_n hx hb dX9_find_76 rfl (lv_at hl 1 rfl) ?_
              refine lv_bipush (v := (16 : Int32)) hx hb dX9_find_77 (by decide) ?_
              refine lv_aload_n hx hb dX9_find_79 rfl (lv_at hl 1 rfl) ?_
              refine va_get (D := (dC, dI)) (ci := 6) (v := .int xj) (C := RX9) (T := TX9) (N := 24) hx hb hts mi_X9_find_X9 hown hK hP 0 rfl rfl 18 (by decide) (hts (.fieldLink RX9 83 "ScoreboardCoreModel" "j" "I") mm_X9_find_f83) (fun _ h9 => h9) rfl dX9_find_80 ?_
              refine lv_iadd hx hb dX9_find_83 ?_
              refine wrVv (As := [.int ((16 : Int32) + xj)]) (rest := []) (bytes := cX9_need) (maxL := 2) (rty := none) (n := 1) (ci := 6) C0 (c_X9_need l dC dI cI cJ hX x1 x2 x3 x4 x5 x6 x7 x8 ((16 : Int32) + xj) xt xw xp xs xc xM xE xL xo xi xj xk xn xz (0 : Int32) (0 : Int32) xmw xmp xr xd xwt xf xrd xu) ⟨rfl, rfl, rfl, by decide +kernel, by decide, by decide⟩ ggX9_find_X9_need mm_X9_find_iX9 mm_X9_find_l102 mm_X9_find_nX9_need mm_X9_find_sX9_need rfl rfl hP hD hK hS hA (Zs.no _ _ _) [0, 1, 2, 3, 4, 5, 6, 7, 8] [] [0, 1, 2, 3, 4, 5, 6, 7, 8] [] [(hX, .inr (6, [.int xt, .ref x1, .ref x2, .ref x3, .int xw, .int xp, .int xs, .long xc, .ref x4, .ref x5, .ref x6, .ref x7, .ref x8, .long xM, .long xE, .long xL, .int xo, .int xi, .int xj, .int xk, .int xn, .int xz, .int (F_X9_need ((16 : Int32) + xj) (0 : Int32)), .int (0 : Int32)])), (x1, .inl (cJ, 512, .inr (.inl xmw))), (x2, .inl (cJ, 512, .inr (.inl xmp))), (x3, .inl (cJ, 24, .inr (.inl xr))), (x4, .inl (cI, 8, .inl xd)), (x5, .inl (cJ, 5, .inr (.inl xwt))), (x6, .inl (cJ, 24, .inr (.inl xf))), (x7, .inl (cJ, 24, .inr (.inl xrd))), (x8, .inl (cJ, 6, .inr (.inl xu)))] rfl (by decide) (hP.sub (ws' := [(hX, .inr (6, [.int xt, .ref x1, .ref x2, .ref x3, .int xw, .int xp, .int xs, .long xc, .ref x4, .ref x5, .ref x6, .ref x7, .ref x8, .long xM, .long xE, .long xL, .int xo, .int xi, .int xj, .int xk, .int xn, .int xz, .int (0 : Int32), .int (0 : Int32)])), (x1, .inl (cJ, 512, .inr (.inl xmw))), (x2, .inl (cJ, 512, .inr (.inl xmp))), (x3, .inl (cJ, 24, .inr (.inl xr))), (x4, .inl (cI, 8, .inl xd)), (x5, .inl (cJ, 5, .inr (.inl xwt))), (x6, .inl (cJ, 24, .inr (.inl xf))), (x7, .inl (cJ, 24, .inr (.inl xrd))), (x8, .inl (cJ, 6, .inr (.inl xu)))]) [0, 1, 2, 3, 4, 5, 6, 7, 8] rfl) rfl (by decide) (by decide) (by decide) rfl hl.1 rfl rfl (Nat.le_of_ble_eq_true rfl) dX9_find_84 ⟨Nat.zero_le _, Nat.zero_le _⟩ (fun H locs hP hD hS => ?_)
              have e9 : (F_X9_find xo xi xj xk ) = (F_X9_find_87 xo xi xk (xo - xo / (8 : Int32) * (8 : Int32)) (F_X9_need ((16 : Int32) + xj) (0 : Int32)) (0 : Int32)) := by rw [F_X9_find, if_neg c1, if_neg c5, if_neg c6, if_neg c7, if_neg c8, if_neg c9]
              rw [e9] at hV
              exact j_X9_find_87 dC dI cI cJ hX x1 x2 x3 x4 x5 x6 x7 x8 xt xw xp xs xc xM xE xL xo xi xj xk xn xz xa xg xmw xmp xr xd xwt xf xrd xu C0 hK hZ (xo - xo / (8 : Int32) * (8 : Int32)) (F_X9_need ((16 : Int32) + xj) (0 : Int32)) (0 : Int32) hV ls (lv_sub hl [1, 0] rfl) hP hD hS
            · have e9 : (F_X9_find xo xi xj xk ) = (F_X9_find_65 xo xi xj xk (xo - xo / (8 : Int32) * (8 : Int32)) (0 : Int32) (0 : Int32)) := by rw [F_X9_find, if_neg c1, if_neg c5, if_neg c6, if_neg c7, if_neg c8, if_pos c9]
              rw [e9] at hV
              exact j_X9_find_65 dC dI cI cJ hX x1 x2 x3 x4 x5 x6 x7 x8 xt xw xp xs xc xM xE xL xo xi xj xk xn xz xa xg xmw xmp xr xd xwt xf xrd xu C0 hK hZ (xo - xo / (8 : Int32) * (8 : Int32)) (0 : Int32) (0 : Int32) hV ls (lv_sub hl [1, 0] rfl) hP hD hS
        · have e9 : (F_X9_find xo xi xj xk ) = (F_X9_find_41 xo xi xj xk (xo - xo / (8 : Int32) * (8 : Int32)) (0 : Int32) (0 : Int32)) := by rw [F_X9_find, if_neg c1, if_neg c5, if_neg c6, if_pos c7]
          rw [e9] at hV
          exact j_X9_find_41 dC dI cI cJ hX x1 x2 x3 x4 x5 x6 x7 x8 xt xw xp xs xc xM xE xL xo xi xj xk xn xz xa xg xmw xmp xr xd xwt xf xrd xu C0 hK hZ (xo - xo / (8 : Int32) * (8 : Int32)) (0 : Int32) (0 : Int32) hV ls (lv_sub hl [1, 0] rfl) hP hD hS
theorem c_X9_find (l : Launch) (dC : Nat → ClassId) (dI : Nat → Nat → Nat) (cI cJ : ClassId) (hX x1 x2 x3 x4 x5 x6 x7 x8 : Nat) (xt : Int32) (xw : Int32) (xp : Int32) (xs : Int32) (xc : Int64) (xM : Int64) (xE : Int64) (xL : Int64) (xo : Int32) (xi : Int32) (xj : Int32) (xk : Int32) (xn : Int32) (xz : Int32) (xa : Int32) (xg : Int32) (xmw : Nat → Int64) (xmp : Nat → Int64) (xr : Nat → Int64) (xd : Nat → Int32) (xwt : Nat → Int64) (xf : Nat → Int64) (xrd : Nat → Int64) (xu : Nat → Int64) : WrV false l yX9_find wsX9_find rm_X9_find (dC, dI) [(cI, .int), (cJ, .long)] [(hX, .inr (6, [.int xt, .ref x1, .ref x2, .ref x3, .int xw, .int xp, .int xs, .long xc, .ref x4, .ref x5, .ref x6, .ref x7, .ref x8, .long xM, .long xE, .long xL, .int xo, .int xi, .int xj, .int xk, .int xn, .int xz, .int xa, .int xg])), (x1, .inl (cJ, 512, .inr (.inl xmw))), (x2, .inl (cJ, 512, .inr (.inl xmp))), (x3, .inl (cJ, 24, .inr (.inl xr))), (x4, .inl (cI, 8, .inl xd)), (x5, .inl (cJ, 5, .inr (.inl xwt))), (x6, .inl (cJ, 24, .inr (.inl xf))), (x7, .inl (cJ, 24, .inr (.inl xrd))), (x8, .inl (cJ, 6, .inr (.inl xu)))] [(hX, .inr (6, [.int xt, .ref x1, .ref x2, .ref x3, .int xw, .int xp, .int xs, .long xc, .ref x4, .ref x5, .ref x6, .ref x7, .ref x8, .long xM, .long xE, .long xL, .int xo, .int xi, .int xj, .int xk, .int xn, .int xz, .int ((F_X9_find xo xi xj xk ).1), .int ((F_X9_find xo xi xj xk ).2)])), (x1, .inl (cJ, 512, .inr (.inl xmw))), (x2, .inl (cJ, 512, .inr (.inl xmp))), (x3, .inl (cJ, 24, .inr (.inl xr))), (x4, .inl (cI, 8, .inl xd)), (x5, .inl (cJ, 5, .inr (.inl xwt))), (x6, .inl (cJ, 24, .inr (.inl xf))), (x7, .inl (cJ, 24, .inr (.inl xrd))), (x8, .inl (cJ, 6, .inr (.inl xu)))] [.ref hX] := by
  refine WrV.mk (cc := cX9_find) (nL := 3) (ret := none) [(0, .ref hX)] (by decide) rfl (Nat.le_of_ble_eq_true rfl) rfl ?_
  intro p e s m below meth c C0 hP hK hD hS hZ ls hl
  exact w_X9_find dC dI cI cJ hX x1 x2 x3 x4 x5 x6 x7 x8 xt xw xp xs xc xM xE xL xo xi xj xk xn xz xa xg xmw xmp xr xd xwt xf xrd xu C0 hK hZ rfl ls hl hP hD hS

-- X9_mixed
def F_X9_mixed (xo : Int32) (xj : Int32) (xk : Int32) (xr : Nat → Int64) : Int64 :=
  (if xo = (8 : Int32) then (xr xj.toNatClampNeg) else (if xo = (9 : Int32) then ((xr xj.toNatClampNeg) &&& (xr xk.toNatClampNeg)) else (if xo = (10 : Int32) then ((xr xj.toNatClampNeg) ||| (xr xk.toNatClampNeg)) else (if xo = (11 : Int32) then ((xr xj.toNatClampNeg) ^^^ (xr xk.toNatClampNeg)) else (if xo = (12 : Int32) then ((1152921504606846975 : Int64) - (xr xk.toNatClampNeg)) else (if xo = (13 : Int32) then ((xr xj.toNatClampNeg) &&& ((1152921504606846975 : Int64) - (xr xk.toNatClampNeg))) else (if xo = (14 : Int32) then ((xr xj.toNatClampNeg) ||| ((1152921504606846975 : Int64) - (xr xk.toNatClampNeg))) else ((xr xj.toNatClampNeg) ^^^ ((1152921504606846975 : Int64) - (xr xk.toNatClampNeg))))))))))
abbrev rm_X9_mixed : Room := { frames := 0, cells := 0, slots := 0, locals := 0 }
set_option maxRecDepth 20000 in
theorem mi_X9_mixed_X9 : ∀ w ∈ wsX90, w ∈ wsX9_mixed := by decide +kernel
set_option maxRecDepth 20000 in
theorem mm_X9_mixed_f16 : Cond.fieldLink RX9 16 "ScoreboardCoreModel" "\x72" "[J" ∈ wsX9_mixed := by decide +kernel
set_option maxRecDepth 20000 in
theorem mm_X9_mixed_f68 : Cond.fieldLink RX9 68 "ScoreboardCoreModel" "op" "I" ∈ wsX9_mixed := by decide +kernel
set_option maxRecDepth 20000 in
theorem mm_X9_mixed_f83 : Cond.fieldLink RX9 83 "ScoreboardCoreModel" "j" "I" ∈ wsX9_mixed := by decide +kernel
set_option maxRecDepth 20000 in
theorem mm_X9_mixed_f86 : Cond.fieldLink RX9 86 "ScoreboardCoreModel" "k" "I" ∈ wsX9_mixed := by decide +kernel
set_option maxRecDepth 20000 in
theorem mm_X9_mixed_k42 : Cond.constantLong RX9 42 (1152921504606846975) ∈ wsX9_mixed := by decide +kernel
set_option maxHeartbeats 4000000 in
set_option maxRecDepth 100000 in
theorem w_X9_mixed {p : Program} {l : Launch} {e : Env} {s : State} {m : MethodId} {below : List Frame} {meth : Method} {c : Code} {args : Array Value} (dC : Nat → ClassId) (dI : Nat → Nat → Nat) (cI cJ : ClassId) (hX x1 x2 x3 x4 x5 x6 x7 x8 : Nat) (xt : Int32) (xw : Int32) (xp : Int32) (xs : Int32) (xc : Int64) (xM : Int64) (xE : Int64) (xL : Int64) (xo : Int32) (xi : Int32) (xj : Int32) (xk : Int32) (xn : Int32) (xz : Int32) (xa : Int32) (xg : Int32) (xmw : Nat → Int64) (xmp : Nat → Int64) (xr : Nat → Int64) (xd : Nat → Int32) (xwt : Nat → Int64) (xf : Nat → Int64) (xrd : Nat → Int64) (xu : Nat → Int64) (C0 : Cx p s m meth c cX9_mixed 5 (some .long) wsX9_mixed RX9 args) (hK : va_K (dC, dI) vwCl [(cI, .int), (cJ, .long)] s) (hP : va_P (dC, dI) vwCl [(hX, .inr (6, [.int xt, .ref x1, .ref x2, .ref x3, .int xw, .int xp, .int xs, .long xc, .ref x4, .ref x5, .ref x6, .ref x7, .ref x8, .long xM, .long xE, .long xL, .int xo, .int xi, .int xj, .int xk, .int xn, .int xz, .int xa, .int xg])), (x1, .inl (cJ, 512, .inr (.inl xmw))), (x2, .inl (cJ, 512, .inr (.inl xmp))), (x3, .inl (cJ, 24, .inr (.inl xr))), (x4, .inl (cI, 8, .inl xd)), (x5, .inl (cJ, 5, .inr (.inl xwt))), (x6, .inl (cJ, 24, .inr (.inl xf))), (x7, .inl (cJ, 24, .inr (.inl xrd))), (x8, .inl (cJ, 6, .inr (.inl xu)))] s.heap) (hi : R8 xi) (hj : R8 xj) (hk : R8 xk) {V : Int64} (hV : (F_X9_mixed xo xj xk xr ) = V) (ls : Array Slot) (hl : lv_has ls 5 [(0, .ref hX)]) : W p l e rm_X9_mixed s m args below meth c s.heap [] 0 0 (MQ below (vp_Sl (fun r => r = V)) args s 0 0 (fun _ => False)) (F0 m 0 ls []) := by
  obtain ⟨hx, hb, hr, hlk, hml, hown, hts⟩ := id C0
  refine lv_aload_n hx hb dX9_mixed_0 rfl (lv_at hl 0 rfl) ?_
  refine va_get (D := (dC, dI)) (ci := 6) (v := .ref x3) (C := RX9) (T := TX9) (N := 24) hx hb hts mi_X9_mixed_X9 hown hK hP 0 rfl rfl 3 (by decide) (hts (.fieldLink RX9 16 "ScoreboardCoreModel" "\x72" "[J") mm_X9_mixed_f16) (fun _ h9 => h9) rfl dX9_mixed_1 ?_
  refine lv_aload_n hx hb dX9_mixed_4 rfl (lv_at hl 0 rfl) ?_
  refine va_get (D := (dC, dI)) (ci := 6) (v := .int xj) (C := RX9) (T := TX9) (N := 24) hx hb hts mi_X9_mixed_X9 hown hK hP 0 rfl rfl 18 (by decide) (hts (.fieldLink RX9 83 "ScoreboardCoreModel" "j" "I") mm_X9_mixed_f83) (fun _ h9 => h9) rfl dX9_mixed_5 ?_
  refine va_lald (D := (dC, dI)) hx hb hK hP 3 1 rfl rfl hj.x dX9_mixed_8 ?_
  refine lv_lstore_n (lv' := [(1, .long (xr xj.toNatClampNeg)), (0, .ref hX)]) hx hb dX9_mixed_9 rfl hl (by decide) rfl (fun ls hl => ?_)
  refine lv_aload_n hx hb dX9_mixed_10 rfl (lv_at hl 1 rfl) ?_
  refine va_get (D := (dC, dI)) (ci := 6) (v := .ref x3) (C := RX9) (T := TX9) (N := 24) hx hb hts mi_X9_mixed_X9 hown hK hP 0 rfl rfl 3 (by decide) (hts (.fieldLink RX9 16 "ScoreboardCoreModel" "\x72" "[J") mm_X9_mixed_f16) (fun _ h9 => h9) rfl dX9_mixed_11 ?_
  refine lv_aload_n hx hb dX9_mixed_14 rfl (lv_at hl 1 rfl) ?_
  refine va_get (D := (dC, dI)) (ci := 6) (v := .int xk) (C := RX9) (T := TX9) (N := 24) hx hb hts mi_X9_mixed_X9 hown hK hP 0 rfl rfl 19 (by decide) (hts (.fieldLink RX9 86 "ScoreboardCoreModel" "k" "I") mm_X9_mixed_f86) (fun _ h9 => h9) rfl dX9_mixed_15 ?_
  refine va_lald (D := (dC, dI)) hx hb hK hP 3 1 rfl rfl hk.x dX9_mixed_18 ?_
  refine lv_lstore_n (lv' := [(3, .long (xr xk.toNatClampNeg)), (1, .long (xr xj.toNatClampNeg)), (0, .ref hX)]) hx hb dX9_mixed_19 rfl hl (by decide) rfl (fun ls hl => ?_)
  refine lv_aload_n hx hb dX9_mixed_20 rfl (lv_at hl 2 rfl) ?_
  refine va_get (D := (dC, dI)) (ci := 6) (v := .int xo) (C := RX9) (T := TX9) (N := 24) hx hb hts mi_X9_mixed_X9 hown hK hP 0 rfl rfl 16 (by decide) (hts (.fieldLink RX9 68 "ScoreboardCoreModel" "op" "I") mm_X9_mixed_f68) (fun _ h9 => h9) rfl dX9_mixed_21 ?_
  by_cases c1 : xo = (8 : Int32)
  · refine lv_tableIn (tgt := 68) hx hb dX9_mixed_24 (by rw [c1]; decide) (by rw [c1]; decide) (by rw [c1]; rfl) (by decide) ?_
    refine lv_lload_n hx hb dX9_mixed_68 rfl (lv_at hl 1 rfl) ?_
    have e9 : (F_X9_mixed xo xj xk xr ) = (xr xj.toNatClampNeg) := by rw [F_X9_mixed, if_pos c1]
    rw [e9] at hV
    subst hV
    exact roRetL C0 rfl dX9_mixed_69
  by_cases c2 : xo = (9 : Int32)
  · refine lv_tableIn (tgt := 70) hx hb dX9_mixed_24 (by rw [c2]; decide) (by rw [c2]; decide) (by rw [c2]; rfl) (by decide) ?_
    refine lv_lload_n hx hb dX9_mixed_70 rfl (lv_at hl 1 rfl) ?_
    refine lv_lload_n hx hb dX9_mixed_71 rfl (lv_at hl 0 rfl) ?_
    refine lv_land hx hb dX9_mixed_72 ?_
    have e9 : (F_X9_mixed xo xj xk xr ) = ((xr xj.toNatClampNeg) &&& (xr xk.toNatClampNeg)) := by rw [F_X9_mixed, if_neg c1, if_pos c2]
    rw [e9] at hV
    subst hV
    exact roRetL C0 rfl dX9_mixed_73
  by_cases c3 : xo = (10 : Int32)
  · refine lv_tableIn (tgt := 74) hx hb dX9_mixed_24 (by rw [c3]; decide) (by rw [c3]; decide) (by rw [c3]; rfl) (by decide) ?_
    refine lv_lload_n hx hb dX9_mixed_74 rfl (lv_at hl 1 rfl) ?_
    refine lv_lload_n hx hb dX9_mixed_75 rfl (lv_at hl 0 rfl) ?_
    refine lv_lor hx hb dX9_mixed_76 ?_
    have e9 : (F_X9_mixed xo xj xk xr ) = ((xr xj.toNatClampNeg) ||| (xr xk.toNatClampNeg)) := by rw [F_X9_mixed, if_neg c1, if_neg c2, if_pos c3]
    rw [e9] at hV
    subst hV
    exact roRetL C0 rfl dX9_mixed_77
  by_cases c4 : xo = (11 : Int32)
  · refine lv_tableIn (tgt := 78) hx hb dX9_mixed_24 (by rw [c4]; decide) (by rw [c4]; decide) (by rw [c4]; rfl) (by decide) ?_
    refine lv_lload_n hx hb dX9_mixed_78 rfl (lv_at hl 1 rfl) ?_
    refine lv_lload_n hx hb dX9_mixed_79 rfl (lv_at hl 0 rfl) ?_
    refine lv_lxor hx hb dX9_mixed_80 ?_
    have e9 : (F_X9_mixed xo xj xk xr ) = ((xr xj.toNatClampNeg) ^^^ (xr xk.toNatClampNeg)) := by rw [F_X9_mixed, if_neg c1, if_neg c2, if_neg c3, if_pos c4]
    rw [e9] at hV
    subst hV
    exact roRetL C0 rfl dX9_mixed_81
  by_cases c5 : xo = (12 : Int32)
  · refine lv_tableIn (tgt := 82) hx hb dX9_mixed_24 (by rw [c5]; decide) (by rw [c5]; decide) (by rw [c5]; rfl) (by decide) ?_
    refine lv_ldc2 (v := (1152921504606846975 : Int64)) hx hb hown (hts _ mm_X9_mixed_k42) dX9_mixed_82 ?_
    refine lv_lload_n hx hb dX9_mixed_85 rfl (lv_at hl 0 rfl) ?_
    refine lv_lsub hx hb dX9_mixed_86 ?_
    have e9 : (F_X9_mixed xo xj xk xr ) = ((1152921504606846975 : Int64) - (xr xk.toNatClampNeg)) := by rw [F_X9_mixed, if_neg c1, if_neg c2, if_neg c3, if_neg c4, if_pos c5]
    rw [e9] at hV
    subst hV
    exact roRetL C0 rfl dX9_mixed_87
  by_cases c6 : xo = (13 : Int32)
  · refine lv_tableIn (tgt := 88) hx hb dX9_mixed_24 (by rw [c6]; decide) (by rw [c6]; decide) (by rw [c6]; rfl) (by decide) ?_
    refine lv_lload_n hx hb dX9_mixed_88 rfl (lv_at hl 1 rfl) ?_
    refine lv_ldc2 (v := (1152921504606846975 : Int64)) hx hb hown (hts _ mm_X9_mixed_k42) dX9_mixed_89 ?_
    refine lv_lload_n hx hb dX9_mixed_92 rfl (lv_at hl 0 rfl) ?_
    refine lv_lsub hx hb dX9_mixed_93 ?_
    refine lv_land hx hb dX9_mixed_94 ?_
    have e9 : (F_X9_mixed xo xj xk xr ) = ((xr xj.toNatClampNeg) &&& ((1152921504606846975 : Int64) - (xr xk.toNatClampNeg))) := by rw [F_X9_mixed, if_neg c1, if_neg c2, if_neg c3, if_neg c4, if_neg c5, if_pos c6]
    rw [e9] at hV
    subst hV
    exact roRetL C0 rfl dX9_mixed_95
  by_cases c7 : xo = (14 : Int32)
  · refine lv_tableIn (tgt := 96) hx hb dX9_mixed_24 (by rw [c7]; decide) (by rw [c7]; decide) (by rw [c7]; rfl) (by decide) ?_
    refine lv_lload_n hx hb dX9_mixed_96 rfl (lv_at hl 1 rfl) ?_
    refine lv_ldc2 (v := (1152921504606846975 : Int64)) hx hb hown (hts _ mm_X9_mixed_k42) dX9_mixed_97 ?_
    refine lv_lload_n hx hb dX9_mixed_100 rfl (lv_at hl 0 rfl) ?_
    refine lv_lsub hx hb dX9_mixed_101 ?_
    refine lv_lor hx hb dX9_mixed_102 ?_
    have e9 : (F_X9_mixed xo xj xk xr ) = ((xr xj.toNatClampNeg) ||| ((1152921504606846975 : Int64) - (xr xk.toNatClampNeg))) := by rw [F_X9_mixed, if_neg c1, if_neg c2, if_neg c3, if_neg c4, if_neg c5, if_neg c6, if_pos c7]
    rw [e9] at hV
    subst hV
    exact roRetL C0 rfl dX9_mixed_103
  refine lv_tableOut (tgt := 104) hx hb dX9_mixed_24 (by have q8 := lv_neT (a := 8) c1 (by decide); have q9 := lv_neT (a := 9) c2 (by decide); have q10 := lv_neT (a := 10) c3 (by decide); have q11 := lv_neT (a := 11) c4 (by decide); have q12 := lv_neT (a := 12) c5 (by decide); have q13 := lv_neT (a := 13) c6 (by decide); have q14 := lv_neT (a := 14) c7 (by decide); omega) (by decide) ?_
  refine lv_lload_n hx hb dX9_mixed_104 rfl (lv_at hl 1 rfl) ?_
  refine lv_ldc2 (v := (1152921504606846975 : Int64)) hx hb hown (hts _ mm_X9_mixed_k42) dX9_mixed_105 ?_
  refine lv_lload_n hx hb dX9_mixed_108 rfl (lv_at hl 0 rfl) ?_
  refine lv_lsub hx hb dX9_mixed_109 ?_
  refine lv_lxor hx hb dX9_mixed_110 ?_
  have e9 : (F_X9_mixed xo xj xk xr ) = ((xr xj.toNatClampNeg) ^^^ ((1152921504606846975 : Int64) - (xr xk.toNatClampNeg))) := by rw [F_X9_mixed, if_neg c1, if_neg c2, if_neg c3, if_neg c4, if_neg c5, if_neg c6, if_neg c7]
  rw [e9] at hV
  subst hV
  exact roRetL C0 rfl dX9_mixed_111
theorem c_X9_mixed (l : Launch) (dC : Nat → ClassId) (dI : Nat → Nat → Nat) (cI cJ : ClassId) (hX x1 x2 x3 x4 x5 x6 x7 x8 : Nat) (xt : Int32) (xw : Int32) (xp : Int32) (xs : Int32) (xc : Int64) (xM : Int64) (xE : Int64) (xL : Int64) (xo : Int32) (xi : Int32) (xj : Int32) (xk : Int32) (xn : Int32) (xz : Int32) (xa : Int32) (xg : Int32) (xmw : Nat → Int64) (xmp : Nat → Int64) (xr : Nat → Int64) (xd : Nat → Int32) (xwt : Nat → Int64) (xf : Nat → Int64) (xrd : Nat → Int64) (xu : Nat → Int64) (hi : R8 xi) (hj : R8 xj) (hk : R8 xk) : RoL l yX9_mixed wsX9_mixed rm_X9_mixed (dC, dI) [(cI, .int), (cJ, .long)] [(hX, .inr (6, [.int xt, .ref x1, .ref x2, .ref x3, .int xw, .int xp, .int xs, .long xc, .ref x4, .ref x5, .ref x6, .ref x7, .ref x8, .long xM, .long xE, .long xL, .int xo, .int xi, .int xj, .int xk, .int xn, .int xz, .int xa, .int xg])), (x1, .inl (cJ, 512, .inr (.inl xmw))), (x2, .inl (cJ, 512, .inr (.inl xmp))), (x3, .inl (cJ, 24, .inr (.inl xr))), (x4, .inl (cI, 8, .inl xd)), (x5, .inl (cJ, 5, .inr (.inl xwt))), (x6, .inl (cJ, 24, .inr (.inl xf))), (x7, .inl (cJ, 24, .inr (.inl xrd))), (x8, .inl (cJ, 6, .inr (.inl xu)))] [.ref hX] (F_X9_mixed xo xj xk xr ) := by
  refine RoL.mk (cc := cX9_mixed) (nL := 5) (ret := (some .long)) [(0, .ref hX)] (by decide) rfl (Nat.le_of_ble_eq_true rfl) rfl ?_
  intro p e s m below meth c C0 hP hK ls hl
  exact w_X9_mixed dC dI cI cJ hX x1 x2 x3 x4 x5 x6 x7 x8 xt xw xp xs xc xM xE xL xo xi xj xk xn xz xa xg xmw xmp xr xd xwt xf xrd xu C0 hK hP hi hj hk rfl ls hl

-- X9_shifted
def F_X9_shifted (xo : Int32) (xi : Int32) (xj : Int32) (xk : Int32) (xr : Nat → Int64) : Int64 :=
  (if xo = (16 : Int32) then (F_X9_round (xr xi.toNatClampNeg) (((8 : Int32) * xj) + xk)) else (if xo = (17 : Int32) then (F_X9_right (xr xi.toNatClampNeg) (((8 : Int32) * xj) + xk)) else (if (xr ((16 : Int32) + xj).toNatClampNeg).toInt32 ≤ (131071 : Int32) then (if (0 : Int32) = 0 then (if xo = (18 : Int32) then (if (0 : Int32) = (1 : Int32) then (F_X9_right (xr xk.toNatClampNeg) ((xr ((16 : Int32) + xj).toNatClampNeg).toInt32 &&& (63 : Int32))) else (F_X9_round (xr xk.toNatClampNeg) ((xr ((16 : Int32) + xj).toNatClampNeg).toInt32 &&& (63 : Int32)))) else (if (0 : Int32) = (0 : Int32) then (F_X9_right (xr xk.toNatClampNeg) ((xr ((16 : Int32) + xj).toNatClampNeg).toInt32 &&& (63 : Int32))) else (F_X9_round (xr xk.toNatClampNeg) ((xr ((16 : Int32) + xj).toNatClampNeg).toInt32 &&& (63 : Int32))))) else (if xo = (18 : Int32) then (if (0 : Int32) = (1 : Int32) then (F_X9_right (xr xk.toNatClampNeg) (((262143 : Int32) - (xr ((16 : Int32) + xj).toNatClampNeg).toInt32) &&& (63 : Int32))) else (F_X9_round (xr xk.toNatClampNeg) (((262143 : Int32) - (xr ((16 : Int32) + xj).toNatClampNeg).toInt32) &&& (63 : Int32)))) else (if (0 : Int32) = (0 : Int32) then (F_X9_right (xr xk.toNatClampNeg) (((262143 : Int32) - (xr ((16 : Int32) + xj).toNatClampNeg).toInt32) &&& (63 : Int32))) else (F_X9_round (xr xk.toNatClampNeg) (((262143 : Int32) - (xr ((16 : Int32) + xj).toNatClampNeg).toInt32) &&& (63 : Int32)))))) else (if (1 : Int32) = 0 then (if xo = (18 : Int32) then (if (1 : Int32) = (1 : Int32) then (F_X9_right (xr xk.toNatClampNeg) ((xr ((16 : Int32) + xj).toNatClampNeg).toInt32 &&& (63 : Int32))) else (F_X9_round (xr xk.toNatClampNeg) ((xr ((16 : Int32) + xj).toNatClampNeg).toInt32 &&& (63 : Int32)))) else (if (1 : Int32) = (0 : Int32) then (F_X9_right (xr xk.toNatClampNeg) ((xr ((16 : Int32) + xj).toNatClampNeg).toInt32 &&& (63 : Int32))) else (F_X9_round (xr xk.toNatClampNeg) ((xr ((16 : Int32) + xj).toNatClampNeg).toInt32 &&& (63 : Int32))))) else (if xo = (18 : Int32) then (if (1 : Int32) = (1 : Int32) then (F_X9_right (xr xk.toNatClampNeg) (((262143 : Int32) - (xr ((16 : Int32) + xj).toNatClampNeg).toInt32) &&& (63 : Int32))) else (F_X9_round (xr xk.toNatClampNeg) (((262143 : Int32) - (xr ((16 : Int32) + xj).toNatClampNeg).toInt32) &&& (63 : Int32)))) else (if (1 : Int32) = (0 : Int32) then (F_X9_right (xr xk.toNatClampNeg) (((262143 : Int32) - (xr ((16 : Int32) + xj).toNatClampNeg).toInt32) &&& (63 : Int32))) else (F_X9_round (xr xk.toNatClampNeg) (((262143 : Int32) - (xr ((16 : Int32) + xj).toNatClampNeg).toInt32) &&& (63 : Int32)))))))))
abbrev rm_X9_shifted : Room := { frames := 1, cells := 0, slots := 0, locals := 25 }
set_option maxRecDepth 20000 in
theorem mi_X9_shifted_X9 : ∀ w ∈ wsX90, w ∈ wsX9_shifted := by decide +kernel
set_option maxRecDepth 20000 in
theorem mm_X9_shifted_f16 : Cond.fieldLink RX9 16 "ScoreboardCoreModel" "\x72" "[J" ∈ wsX9_shifted := by decide +kernel
set_option maxRecDepth 20000 in
theorem mm_X9_shifted_f68 : Cond.fieldLink RX9 68 "ScoreboardCoreModel" "op" "I" ∈ wsX9_shifted := by decide +kernel
set_option maxRecDepth 20000 in
theorem mm_X9_shifted_f71 : Cond.fieldLink RX9 71 "ScoreboardCoreModel" "i" "I" ∈ wsX9_shifted := by decide +kernel
set_option maxRecDepth 20000 in
theorem mm_X9_shifted_f83 : Cond.fieldLink RX9 83 "ScoreboardCoreModel" "j" "I" ∈ wsX9_shifted := by decide +kernel
set_option maxRecDepth 20000 in
theorem mm_X9_shifted_f86 : Cond.fieldLink RX9 86 "ScoreboardCoreModel" "k" "I" ∈ wsX9_shifted := by decide +kernel
set_option maxRecDepth 20000 in
theorem mm_X9_shifted_iX9 : Cond.initialized RX9 ∈ wsX9_shifted := by decide +kernel
set_option maxRecDepth 20000 in
theorem mm_X9_shifted_k120 : Cond.constant RX9 120 (131071) ∈ wsX9_shifted := by decide +kernel
set_option maxRecDepth 20000 in
theorem mm_X9_shifted_k121 : Cond.constant RX9 121 (262143) ∈ wsX9_shifted := by decide +kernel
set_option maxRecDepth 20000 in
theorem mm_X9_shifted_l113 : Cond.methodLink RX9 113 yX9_round ∈ wsX9_shifted := by decide +kernel
set_option maxRecDepth 20000 in
theorem mm_X9_shifted_l117 : Cond.methodLink RX9 117 yX9_right ∈ wsX9_shifted := by decide +kernel
set_option maxRecDepth 20000 in
theorem mm_X9_shifted_tX9_right : Cond.static yX9_right ∈ wsX9_shifted := by decide +kernel
set_option maxRecDepth 20000 in
theorem mm_X9_shifted_tX9_round : Cond.static yX9_round ∈ wsX9_shifted := by decide +kernel
set_option maxHeartbeats 4000000 in
set_option maxRecDepth 100000 in
theorem w_X9_shifted {p : Program} {l : Launch} {e : Env} {s : State} {m : MethodId} {below : List Frame} {meth : Method} {c : Code} {args : Array Value} (dC : Nat → ClassId) (dI : Nat → Nat → Nat) (cI cJ : ClassId) (hX x1 x2 x3 x4 x5 x6 x7 x8 : Nat) (xt : Int32) (xw : Int32) (xp : Int32) (xs : Int32) (xc : Int64) (xM : Int64) (xE : Int64) (xL : Int64) (xo : Int32) (xi : Int32) (xj : Int32) (xk : Int32) (xn : Int32) (xz : Int32) (xa : Int32) (xg : Int32) (xmw : Nat → Int64) (xmp : Nat → Int64) (xr : Nat → Int64) (xd : Nat → Int32) (xwt : Nat → Int64) (xf : Nat → Int64) (xrd : Nat → Int64) (xu : Nat → Int64) (C0 : Cx p s m meth c cX9_shifted 5 (some .long) wsX9_shifted RX9 args) (hK : va_K (dC, dI) vwCl [(cI, .int), (cJ, .long)] s) (hP : va_P (dC, dI) vwCl [(hX, .inr (6, [.int xt, .ref x1, .ref x2, .ref x3, .int xw, .int xp, .int xs, .long xc, .ref x4, .ref x5, .ref x6, .ref x7, .ref x8, .long xM, .long xE, .long xL, .int xo, .int xi, .int xj, .int xk, .int xn, .int xz, .int xa, .int xg])), (x1, .inl (cJ, 512, .inr (.inl xmw))), (x2, .inl (cJ, 512, .inr (.inl xmp))), (x3, .inl (cJ, 24, .inr (.inl xr))), (x4, .inl (cI, 8, .inl xd)), (x5, .inl (cJ, 5, .inr (.inl xwt))), (x6, .inl (cJ, 24, .inr (.inl xf))), (x7, .inl (cJ, 24, .inr (.inl xrd))), (x8, .inl (cJ, 6, .inr (.inl xu)))] s.heap) (hi : R8 xi) (hj : R8 xj) (hk : R8 xk) {V : Int64} (hV : (F_X9_shifted xo xi xj xk xr ) = V) (ls : Array Slot) (hl : lv_has ls 5 [(0, .ref hX)]) : W p l e rm_X9_shifted s m args below meth c s.heap [] 0 0 (MQ below (vp_Sl (fun r => r = V)) args s 0 0 (fun _ => False)) (F0 m 0 ls []) := by
  obtain ⟨hx, hb, hr, hlk, hml, hown, hts⟩ := id C0
  refine lv_bipush (v := (8 : Int32)) hx hb dX9_shifted_0 (by decide) ?_
  refine lv_aload_n hx hb dX9_shifted_2 rfl (lv_at hl 0 rfl) ?_
  refine va_get (D := (dC, dI)) (ci := 6) (v := .int xj) (C := RX9) (T := TX9) (N := 24) hx hb hts mi_X9_shifted_X9 hown hK hP 0 rfl rfl 18 (by decide) (hts (.fieldLink RX9 83 "ScoreboardCoreModel" "j" "I") mm_X9_shifted_f83) (fun _ h9 => h9) rfl dX9_shifted_3 ?_
  refine lv_imul hx hb dX9_shifted_6 ?_
  refine lv_aload_n hx hb dX9_shifted_7 rfl (lv_at hl 0 rfl) ?_
  refine va_get (D := (dC, dI)) (ci := 6) (v := .int xk) (C := RX9) (T := TX9) (N := 24) hx hb hts mi_X9_shifted_X9 hown hK hP 0 rfl rfl 19 (by decide) (hts (.fieldLink RX9 86 "ScoreboardCoreModel" "k" "I") mm_X9_shifted_f86) (fun _ h9 => h9) rfl dX9_shifted_8 ?_
  refine lv_iadd hx hb dX9_shifted_11 ?_
  refine lv_istore_n (lv' := [(1, .int (((8 : Int32) * xj) + xk)), (0, .ref hX)]) hx hb dX9_shifted_12 rfl hl (by decide) rfl (fun ls hl => ?_)
  refine lv_aload_n hx hb dX9_shifted_13 rfl (lv_at hl 1 rfl) ?_
  refine va_get (D := (dC, dI)) (ci := 6) (v := .int xo) (C := RX9) (T := TX9) (N := 24) hx hb hts mi_X9_shifted_X9 hown hK hP 0 rfl rfl 16 (by decide) (hts (.fieldLink RX9 68 "ScoreboardCoreModel" "op" "I") mm_X9_shifted_f68) (fun _ h9 => h9) rfl dX9_shifted_14 ?_
  refine lv_bipush (v := (16 : Int32)) hx hb dX9_shifted_17 (by decide) ?_
  refine lv_icmp_ne (x := xo) (y := (16 : Int32)) (tgt := 36) hx hb dX9_shifted_19 (by decide) (fun c1 => ?_) (fun c1 => ?_)
  · refine lv_aload_n hx hb dX9_shifted_36 rfl (lv_at hl 1 rfl) ?_
    refine va_get (D := (dC, dI)) (ci := 6) (v := .int xo) (C := RX9) (T := TX9) (N := 24) hx hb hts mi_X9_shifted_X9 hown hK hP 0 rfl rfl 16 (by decide) (hts (.fieldLink RX9 68 "ScoreboardCoreModel" "op" "I") mm_X9_shifted_f68) (fun _ h9 => h9) rfl dX9_shifted_37 ?_
    refine lv_bipush (v := (17 : Int32)) hx hb dX9_shifted_40 (by decide) ?_
    refine lv_icmp_ne (x := xo) (y := (17 : Int32)) (tgt := 59) hx hb dX9_shifted_42 (by decide) (fun c2 => ?_) (fun c2 => ?_)
    · refine lv_aload_n hx hb dX9_shifted_59 rfl (lv_at hl 1 rfl) ?_
      refine va_get (D := (dC, dI)) (ci := 6) (v := .ref x3) (C := RX9) (T := TX9) (N := 24) hx hb hts mi_X9_shifted_X9 hown hK hP 0 rfl rfl 3 (by decide) (hts (.fieldLink RX9 16 "ScoreboardCoreModel" "\x72" "[J") mm_X9_shifted_f16) (fun _ h9 => h9) rfl dX9_shifted_60 ?_
      refine lv_bipush (v := (16 : Int32)) hx hb dX9_shifted_63 (by decide) ?_
      refine lv_aload_n hx hb dX9_shifted_65 rfl (lv_at hl 1 rfl) ?_
      refine va_get (D := (dC, dI)) (ci := 6) (v := .int xj) (C := RX9) (T := TX9) (N := 24) hx hb hts mi_X9_shifted_X9 hown hK hP 0 rfl rfl 18 (by decide) (hts (.fieldLink RX9 83 "ScoreboardCoreModel" "j" "I") mm_X9_shifted_f83) (fun _ h9 => h9) rfl dX9_shifted_66 ?_
      refine lv_iadd hx hb dX9_shifted_69 ?_
      refine va_lald (D := (dC, dI)) hx hb hK hP 3 1 rfl rfl hj.b dX9_shifted_70 ?_
      refine lv_l2i hx hb dX9_shifted_71 rfl ?_
      refine lv_istore_n (lv' := [(2, .int (xr ((16 : Int32) + xj).toNatClampNeg).toInt32), (1, .int (((8 : Int32) * xj) + xk)), (0, .ref hX)]) hx hb dX9_shifted_72 rfl hl (by decide) rfl (fun ls hl => ?_)
      refine lv_iload_n hx hb dX9_shifted_73 rfl (lv_at hl 0 rfl) ?_
      refine lv_ldc (v := (131071 : Int32)) hx hb hown (hts _ mm_X9_shifted_k120) dX9_shifted_74 ?_
      refine lv_icmp_le (x := (xr ((16 : Int32) + xj).toNatClampNeg).toInt32) (y := (131071 : Int32)) (tgt := 83) hx hb dX9_shifted_76 (by decide) (fun c3 => ?_) (fun c3 => ?_)
      · refine lv_iconst (v := (0 : Int32)) hx hb dX9_shifted_83 (by decide) ?_
        refine lv_istore_n (lv' := [(3, .int (0 : Int32)), (2, .int (xr ((16 : Int32) + xj).toNatClampNeg).toInt32), (1, .int (((8 : Int32) * xj) + xk)), (0, .ref hX)]) hx hb dX9_shifted_84 rfl hl (by decide) rfl (fun ls hl => ?_)
        refine lv_iload_n hx hb dX9_shifted_85 rfl (lv_at hl 0 rfl) ?_
        refine lv_if_eq (x := (0 : Int32)) (tgt := 99) hx hb dX9_shifted_86 (by decide) (fun c4 => ?_) (fun c4 => ?_)
        · refine lv_iload_n hx hb dX9_shifted_99 rfl (lv_at hl 1 rfl) ?_
          refine lv_bipush (v := (63 : Int32)) hx hb dX9_shifted_100 (by decide) ?_
          refine lv_iand hx hb dX9_shifted_102 ?_
          refine lv_istore (lv' := [(4, .int ((xr ((16 : Int32) + xj).toNatClampNeg).toInt32 &&& (63 : Int32))), (3, .int (0 : Int32)), (2, .int (xr ((16 : Int32) + xj).toNatClampNeg).toInt32), (1, .int (((8 : Int32) * xj) + xk)), (0, .ref hX)]) hx hb dX9_shifted_103 hl (by decide) rfl (fun ls hl => ?_)
          refine lv_iload_n hx hb dX9_shifted_105 rfl (lv_at hl 1 rfl) ?_
          refine lv_aload_n hx hb dX9_shifted_106 rfl (lv_at hl 4 rfl) ?_
          refine va_get (D := (dC, dI)) (ci := 6) (v := .int xo) (C := RX9) (T := TX9) (N := 24) hx hb hts mi_X9_shifted_X9 hown hK hP 0 rfl rfl 16 (by decide) (hts (.fieldLink RX9 68 "ScoreboardCoreModel" "op" "I") mm_X9_shifted_f68) (fun _ h9 => h9) rfl dX9_shifted_107 ?_
          refine lv_bipush (v := (18 : Int32)) hx hb dX9_shifted_110 (by decide) ?_
          refine lv_icmp_ne (x := xo) (y := (18 : Int32)) (tgt := 119) hx hb dX9_shifted_112 (by decide) (fun c5 => ?_) (fun c5 => ?_)
          · refine lv_iconst (v := (0 : Int32)) hx hb dX9_shifted_119 (by decide) ?_
            refine lv_icmp_ne (x := (0 : Int32)) (y := (0 : Int32)) (tgt := 140) hx hb dX9_shifted_120 (by decide) (fun c6 => ?_) (fun c6 => ?_)
            · refine lv_aload_n hx hb dX9_shifted_140 rfl (lv_at hl 4 rfl) ?_
              refine va_get (D := (dC, dI)) (ci := 6) (v := .ref x3) (C := RX9) (T := TX9) (N := 24) hx hb hts mi_X9_shifted_X9 hown hK hP 0 rfl rfl 3 (by decide) (hts (.fieldLink RX9 16 "ScoreboardCoreModel" "\x72" "[J") mm_X9_shifted_f16) (fun _ h9 => h9) rfl dX9_shifted_141 ?_
              refine lv_aload_n hx hb dX9_shifted_144 rfl (lv_at hl 4 rfl) ?_
              refine va_get (D := (dC, dI)) (ci := 6) (v := .int xk) (C := RX9) (T := TX9) (N := 24) hx hb hts mi_X9_shifted_X9 hown hK hP 0 rfl rfl 19 (by decide) (hts (.fieldLink RX9 86 "ScoreboardCoreModel" "k" "I") mm_X9_shifted_f86) (fun _ h9 => h9) rfl dX9_shifted_145 ?_
              refine va_lald (D := (dC, dI)) hx hb hK hP 3 1 rfl rfl hk.x dX9_shifted_148 ?_
              refine lv_iload hx hb dX9_shifted_149 (lv_at hl 0 rfl) ?_
              refine roSl (As := [.long (xr xk.toNatClampNeg), .int ((xr ((16 : Int32) + xj).toNatClampNeg).toInt32 &&& (63 : Int32))]) (rest := []) (bytes := cX9_round) (maxL := 6) (rty := (some .long)) (n := 2) C0 (c_X9_round l dC dI cI cJ (xr xk.toNatClampNeg) ((xr ((16 : Int32) + xj).toNatClampNeg).toInt32 &&& (63 : Int32)) (m64a _)) ⟨rfl, rfl, rfl, by decide +kernel, by decide, by decide⟩ ggX9_shifted_X9_round mm_X9_shifted_iX9 mm_X9_shifted_l113 mm_X9_shifted_tX9_round (hP.sub (ws' := []) [] rfl) hK hl.1 rfl rfl (Nat.le_of_ble_eq_true rfl) dX9_shifted_151 ⟨Nat.zero_le _, Nat.zero_le _⟩ ?_
              have e9 : (F_X9_shifted xo xi xj xk xr ) = (F_X9_round (xr xk.toNatClampNeg) ((xr ((16 : Int32) + xj).toNatClampNeg).toInt32 &&& (63 : Int32))) := by rw [F_X9_shifted, if_neg c1, if_neg c2, if_pos c3, if_pos c4, if_neg c5, if_neg c6]
              rw [e9] at hV
              subst hV
              exact roRetL C0 rfl dX9_shifted_154
            · refine lv_aload_n hx hb dX9_shifted_123 rfl (lv_at hl 4 rfl) ?_
              refine va_get (D := (dC, dI)) (ci := 6) (v := .ref x3) (C := RX9) (T := TX9) (N := 24) hx hb hts mi_X9_shifted_X9 hown hK hP 0 rfl rfl 3 (by decide) (hts (.fieldLink RX9 16 "ScoreboardCoreModel" "\x72" "[J") mm_X9_shifted_f16) (fun _ h9 => h9) rfl dX9_shifted_124 ?_
              refine lv_aload_n hx hb dX9_shifted_127 rfl (lv_at hl 4 rfl) ?_
              refine va_get (D := (dC, dI)) (ci := 6) (v := .int xk) (C := RX9) (T := TX9) (N := 24) hx hb hts mi_X9_shifted_X9 hown hK hP 0 rfl rfl 19 (by decide) (hts (.fieldLink RX9 86 "ScoreboardCoreModel" "k" "I") mm_X9_shifted_f86) (fun _ h9 => h9) rfl dX9_shifted_128 ?_
              refine va_lald (D := (dC, dI)) hx hb hK hP 3 1 rfl rfl hk.x dX9_shifted_131 ?_
              refine lv_iload hx hb dX9_shifted_132 (lv_at hl 0 rfl) ?_
              refine roSl (As := [.long (xr xk.toNatClampNeg), .int ((xr ((16 : Int32) + xj).toNatClampNeg).toInt32 &&& (63 : Int32))]) (rest := []) (bytes := cX9_right) (maxL := 6) (rty := (some .long)) (n := 2) C0 (c_X9_right l dC dI cI cJ (xr xk.toNatClampNeg) ((xr ((16 : Int32) + xj).toNatClampNeg).toInt32 &&& (63 : Int32)) (m64a _)) ⟨rfl, rfl, rfl, by decide +kernel, by decide, by decide⟩ ggX9_shifted_X9_right mm_X9_shifted_iX9 mm_X9_shifted_l117 mm_X9_shifted_tX9_right (hP.sub (ws' := []) [] rfl) hK hl.1 rfl rfl (Nat.le_of_ble_eq_true rfl) dX9_shifted_134 ⟨Nat.zero_le _, Nat.zero_le _⟩ ?_
              refine lv_goto (tgt := 154) hx hb dX9_shifted_137 (by decide) ?_
              have e9 : (F_X9_shifted xo xi xj xk xr ) = (F_X9_right (xr xk.toNatClampNeg) ((xr ((16 : Int32) + xj).toNatClampNeg).toInt32 &&& (63 : Int32))) := by rw [F_X9_shifted, if_neg c1, if_neg c2, if_pos c3, if_pos c4, if_neg c5, if_pos c6]
              rw [e9] at hV
              subst hV
              exact roRetL C0 rfl dX9_shifted_154
          · refine lv_iconst (v := (1 : Int32)) hx hb dX9_shifted_115 (by decide) ?_
            refine lv_goto (tgt := 120) hx hb dX9_shifted_116 (by decide) ?_
            refine lv_icmp_ne (x := (0 : Int32)) (y := (1 : Int32)) (tgt := 140) hx hb dX9_shifted_120 (by decide) (fun c7 => ?_) (fun c7 => ?_)
            · refine lv_aload_n hx hb dX9_shifted_140 rfl (lv_at hl 4 rfl) ?_
              refine va_get (D := (dC, dI)) (ci := 6) (v := .ref x3) (C := RX9) (T := TX9) (N := 24) hx hb hts mi_X9_shifted_X9 hown hK hP 0 rfl rfl 3 (by decide) (hts (.fieldLink RX9 16 "ScoreboardCoreModel" "\x72" "[J") mm_X9_shifted_f16) (fun _ h9 => h9) rfl dX9_shifted_141 ?_
              refine lv_aload_n hx hb dX9_shifted_144 rfl (lv_at hl 4 rfl) ?_
              refine va_get (D := (dC, dI)) (ci := 6) (v := .int xk) (C := RX9) (T := TX9) (N := 24) hx hb hts mi_X9_shifted_X9 hown hK hP 0 rfl rfl 19 (by decide) (hts (.fieldLink RX9 86 "ScoreboardCoreModel" "k" "I") mm_X9_shifted_f86) (fun _ h9 => h9) rfl dX9_shifted_145 ?_
              refine va_lald (D := (dC, dI)) hx hb hK hP 3 1 rfl rfl hk.x dX9_shifted_148 ?_
              refine lv_iload hx hb dX9_shifted_149 (lv_at hl 0 rfl) ?_
              refine roSl (As := [.long (xr xk.toNatClampNeg), .int ((xr ((16 : Int32) + xj).toNatClampNeg).toInt32 &&& (63 : Int32))]) (rest := []) (bytes := cX9_round) (maxL := 6) (rty := (some .long)) (n := 2) C0 (c_X9_round l dC dI cI cJ (xr xk.toNatClampNeg) ((xr ((16 : Int32) + xj).toNatClampNeg).toInt32 &&& (63 : Int32)) (m64a _)) ⟨rfl, rfl, rfl, by decide +kernel, by decide, by decide⟩ ggX9_shifted_X9_round mm_X9_shifted_iX9 mm_X9_shifted_l113 mm_X9_shifted_tX9_round (hP.sub (ws' := []) [] rfl) hK hl.1 rfl rfl (Nat.le_of_ble_eq_true rfl) dX9_shifted_151 ⟨Nat.zero_le _, Nat.zero_le _⟩ ?_
              have e9 : (F_X9_shifted xo xi xj xk xr ) = (F_X9_round (xr xk.toNatClampNeg) ((xr ((16 : Int32) + xj).toNatClampNeg).toInt32 &&& (63 : Int32))) := by rw [F_X9_shifted, if_neg c1, if_neg c2, if_pos c3, if_pos c4, if_pos c5, if_neg c7]
              rw [e9] at hV
              subst hV
              exact roRetL C0 rfl dX9_shifted_154
            · refine lv_aload_n hx hb dX9_shifted_123 rfl (lv_at hl 4 rfl) ?_
              refine va_get (D := (dC, dI)) (ci := 6) (v := .ref x3) (C := RX9) (T := TX9) (N := 24) hx hb hts mi_X9_shifted_X9 hown hK hP 0 rfl rfl 3 (by decide) (hts (.fieldLink RX9 16 "ScoreboardCoreModel" "\x72" "[J") mm_X9_shifted_f16) (fun _ h9 => h9) rfl dX9_shifted_124 ?_
              refine lv_aload_n hx hb dX9_shifted_127 rfl (lv_at hl 4 rfl) ?_
              refine va_get (D := (dC, dI)) (ci := 6) (v := .int xk) (C := RX9) (T := TX9) (N := 24) hx hb hts mi_X9_shifted_X9 hown hK hP 0 rfl rfl 19 (by decide) (hts (.fieldLink RX9 86 "ScoreboardCoreModel" "k" "I") mm_X9_shifted_f86) (fun _ h9 => h9) rfl dX9_shifted_128 ?_
              refine va_lald (D := (dC, dI)) hx hb hK hP 3 1 rfl rfl hk.x dX9_shifted_131 ?_
              refine lv_iload hx hb dX9_shifted_132 (lv_at hl 0 rfl) ?_
              refine roSl (As := [.long (xr xk.toNatClampNeg), .int ((xr ((16 : Int32) + xj).toNatClampNeg).toInt32 &&& (63 : Int32))]) (rest := []) (bytes := cX9_right) (maxL := 6) (rty := (some .long)) (n := 2) C0 (c_X9_right l dC dI cI cJ (xr xk.toNatClampNeg) ((xr ((16 : Int32) + xj).toNatClampNeg).toInt32 &&& (63 : Int32)) (m64a _)) ⟨rfl, rfl, rfl, by decide +kernel, by decide, by decide⟩ ggX9_shifted_X9_right mm_X9_shifted_iX9 mm_X9_shifted_l117 mm_X9_shifted_tX9_right (hP.sub (ws' := []) [] rfl) hK hl.1 rfl rfl (Nat.le_of_ble_eq_true rfl) dX9_shifted_134 ⟨Nat.zero_le _, Nat.zero_le _⟩ ?_
              refine lv_goto (tgt := 154) hx hb dX9_shifted_137 (by decide) ?_
              have e9 : (F_X9_shifted xo xi xj xk xr ) = (F_X9_right (xr xk.toNatClampNeg) ((xr ((16 : Int32) + xj).toNatClampNeg).toInt32 &&& (63 : Int32))) := by rw [F_X9_shifted, if_neg c1, if_neg c2, if_pos c3, if_pos c4, if_pos c5, if_pos c7]
              rw [e9] at hV
              subst hV
              exact roRetL C0 rfl dX9_shifted_154
        · refine lv_ldc (v := (262143 : Int32)) hx hb hown (hts _ mm_X9_shifted_k121) dX9_shifted_89 ?_
          refine lv_iload_n hx hb dX9_shifted_91 rfl (lv_at hl 1 rfl) ?_
          refine lv_isub hx hb dX9_shifted_92 ?_
          refine lv_bipush (v := (63 : Int32)) hx hb dX9_shifted_93 (by decide) ?_
          refine lv_iand hx hb dX9_shifted_95 ?_
          refine lv_goto (tgt := 103) hx hb dX9_shifted_96 (by decide) ?_
          refine lv_istore (lv' := [(4, .int (((262143 : Int32) - (xr ((16 : Int32) + xj).toNatClampNeg).toInt32) &&& (63 : Int32))), (3, .int (0 : Int32)), (2, .int (xr ((16 : Int32) + xj).toNatClampNeg).toInt32), (1, .int (((8 : Int32) * xj) + xk)), (0, .ref hX)]) hx hb dX9_shifted_103 hl (by decide) rfl (fun ls hl => ?_)
          refine lv_iload_n hx hb dX9_shifted_105 rfl (lv_at hl 1 rfl) ?_
          refine lv_aload_n hx hb dX9_shifted_106 rfl (lv_at hl 4 rfl) ?_
          refine va_get (D := (dC, dI)) (ci := 6) (v := .int xo) (C := RX9) (T := TX9) (N := 24) hx hb hts mi_X9_shifted_X9 hown hK hP 0 rfl rfl 16 (by decide) (hts (.fieldLink RX9 68 "ScoreboardCoreModel" "op" "I") mm_X9_shifted_f68) (fun _ h9 => h9) rfl dX9_shifted_107 ?_
          refine lv_bipush (v := (18 : Int32)) hx hb dX9_shifted_110 (by decide) ?_
          refine lv_icmp_ne (x := xo) (y := (18 : Int32)) (tgt := 119) hx hb dX9_shifted_112 (by decide) (fun c8 => ?_) (fun c8 => ?_)
          · refine lv_iconst (v := (0 : Int32)) hx hb dX9_shifted_119 (by decide) ?_
            refine lv_icmp_ne (x := (0 : Int32)) (y := (0 : Int32)) (tgt := 140) hx hb dX9_shifted_120 (by decide) (fun c9 => ?_) (fun c9 => ?_)
            · refine lv_aload_n hx hb dX9_shifted_140 rfl (lv_at hl 4 rfl) ?_
              refine va_get (D := (dC, dI)) (ci := 6) (v := .ref x3) (C := RX9) (T := TX9) (N := 24) hx hb hts mi_X9_shifted_X9 hown hK hP 0 rfl rfl 3 (by decide) (hts (.fieldLink RX9 16 "ScoreboardCoreModel" "\x72" "[J") mm_X9_shifted_f16) (fun _ h9 => h9) rfl dX9_shifted_141 ?_
              refine lv_aload_n hx hb dX9_shifted_144 rfl (lv_at hl 4 rfl) ?_
              refine va_get (D := (dC, dI)) (ci := 6) (v := .int xk) (C := RX9) (T := TX9) (N := 24) hx hb hts mi_X9_shifted_X9 hown hK hP 0 rfl rfl 19 (by decide) (hts (.fieldLink RX9 86 "ScoreboardCoreModel" "k" "I") mm_X9_shifted_f86) (fun _ h9 => h9) rfl dX9_shifted_145 ?_
              refine va_lald (D := (dC, dI)) hx hb hK hP 3 1 rfl rfl hk.x dX9_shifted_148 ?_
              refine lv_iload hx hb dX9_shifted_149 (lv_at hl 0 rfl) ?_
              refine roSl (As := [.long (xr xk.toNatClampNeg), .int (((262143 : Int32) - (xr ((16 : Int32) + xj).toNatClampNeg).toInt32) &&& (63 : Int32))]) (rest := []) (bytes := cX9_round) (maxL := 6) (rty := (some .long)) (n := 2) C0 (c_X9_round l dC dI cI cJ (xr xk.toNatClampNeg) (((262143 : Int32) - (xr ((16 : Int32) + xj).toNatClampNeg).toInt32) &&& (63 : Int32)) (m64a _)) ⟨rfl, rfl, rfl, by decide +kernel, by decide, by decide⟩ ggX9_shifted_X9_round mm_X9_shifted_iX9 mm_X9_shifted_l113 mm_X9_shifted_tX9_round (hP.sub (ws' := []) [] rfl) hK hl.1 rfl rfl (Nat.le_of_ble_eq_true rfl) dX9_shifted_151 ⟨Nat.zero_le _, Nat.zero_le _⟩ ?_
              have e9 : (F_X9_shifted xo xi xj xk xr ) = (F_X9_round (xr xk.toNatClampNeg) (((262143 : Int32) - (xr ((16 : Int32) + xj).toNatClampNeg).toInt32) &&& (63 : Int32))) := by rw [F_X9_shifted, if_neg c1, if_neg c2, if_pos c3, if_neg c4, if_neg c8, if_neg c9]
              rw [e9] at hV
              subst hV
              exact roRetL C0 rfl dX9_shifted_154
            · refine lv_aload_n hx hb dX9_shifted_123 rfl (lv_at hl 4 rfl) ?_
              refine va_get (D := (dC, dI)) (ci := 6) (v := .ref x3) (C := RX9) (T := TX9) (N := 24) hx hb hts mi_X9_shifted_X9 hown hK hP 0 rfl rfl 3 (by decide) (hts (.fieldLink RX9 16 "ScoreboardCoreModel" "\x72" "[J") mm_X9_shifted_f16) (fun _ h9 => h9) rfl dX9_shifted_124 ?_
              refine lv_aload_n hx hb dX9_shifted_127 rfl (lv_at hl 4 rfl) ?_
              refine va_get (D := (dC, dI)) (ci := 6) (v := .int xk) (C := RX9) (T := TX9) (N := 24) hx hb hts mi_X9_shifted_X9 hown hK hP 0 rfl rfl 19 (by decide) (hts (.fieldLink RX9 86 "ScoreboardCoreModel" "k" "I") mm_X9_shifted_f86) (fun _ h9 => h9) rfl dX9_shifted_128 ?_
              refine va_lald (D := (dC, dI)) hx hb hK hP 3 1 rfl rfl hk.x dX9_shifted_131 ?_
              refine lv_iload hx hb dX9_shifted_132 (lv_at hl 0 rfl) ?_
              refine roSl (As := [.long (xr xk.toNatClampNeg), .int (((262143 : Int32) - (xr ((16 : Int32) + xj).toNatClampNeg).toInt32) &&& (63 : Int32))]) (rest := []) (bytes := cX9_right) (maxL := 6) (rty := (some .long)) (n := 2) C0 (c_X9_right l dC dI cI cJ (xr xk.toNatClampNeg) (((262143 : Int32) - (xr ((16 : Int32) + xj).toNatClampNeg).toInt32) &&& (63 : Int32)) (m64a _)) ⟨rfl, rfl, rfl, by decide +kernel, by decide, by decide⟩ ggX9_shifted_X9_right mm_X9_shifted_iX9 mm_X9_shifted_l117 mm_X9_shifted_tX9_right (hP.sub (ws' := []) [] rfl) hK hl.1 rfl rfl (Nat.le_of_ble_eq_true rfl) dX9_shifted_134 ⟨Nat.zero_le _, Nat.zero_le _⟩ ?_
              refine lv_goto (tgt := 154) hx hb dX9_shifted_137 (by decide) ?_
              have e9 : (F_X9_shifted xo xi xj xk xr ) = (F_X9_right (xr xk.toNatClampNeg) (((262143 : Int32) - (xr ((16 : Int32) + xj).toNatClampNeg).toInt32) &&& (63 : Int32))) := by rw [F_X9_shifted, if_neg c1, if_neg c2, if_pos c3, if_neg c4, if_neg c8, if_pos c9]
              rw [e9] at hV
              subst hV
              exact roRetL C0 rfl dX9_shifted_154
          · refine lv_iconst (v := (1 : Int32)) hx hb dX9_shifted_115 (by decide) ?_
            refine lv_goto (tgt := 120) hx hb dX9_shifted_116 (by decide) ?_
            refine lv_icmp_ne (x := (0 : Int32)) (y := (1 : Int32)) (tgt := 140) hx hb dX9_shifted_120 (by decide) (fun c10 => ?_) (fun c10 => ?_)
            · refine lv_aload_n hx hb dX9_shifted_140 rfl (lv_at hl 4 rfl) ?_
              refine va_get (D := (dC, dI)) (ci := 6) (v := .ref x3) (C := RX9) (T := TX9) (N := 24) hx hb hts mi_X9_shifted_X9 hown hK hP 0 rfl rfl 3 (by decide) (hts (.fieldLink RX9 16 "ScoreboardCoreModel" "\x72" "[J") mm_X9_shifted_f16) (fun _ h9 => h9) rfl dX9_shifted_141 ?_
              refine lv_aload_n hx hb dX9_shifted_144 rfl (lv_at hl 4 rfl) ?_
              refine va_get (D := (dC, dI)) (ci := 6) (v := .int xk) (C := RX9) (T := TX9) (N := 24) hx hb hts mi_X9_shifted_X9 hown hK hP 0 rfl rfl 19 (by decide) (hts (.fieldLink RX9 86 "ScoreboardCoreModel" "k" "I") mm_X9_shifted_f86) (fun _ h9 => h9) rfl dX9_shifted_145 ?_
              refine va_lald (D := (dC, dI)) hx hb hK hP 3 1 rfl rfl hk.x dX9_shifted_148 ?_
              refine lv_iload hx hb dX9_shifted_149 (lv_at hl 0 rfl) ?_
              refine roSl (As := [.long (xr xk.toNatClampNeg), .int (((262143 : Int32) - (xr ((16 : Int32) + xj).toNatClampNeg).toInt32) &&& (63 : Int32))]) (rest := []) (bytes := cX9_round) (maxL := 6) (rty := (some .long)) (n := 2) C0 (c_X9_round l dC dI cI cJ (xr xk.toNatClampNeg) (((262143 : Int32) - (xr ((16 : Int32) + xj).toNatClampNeg).toInt32) &&& (63 : Int32)) (m64a _)) ⟨rfl, rfl, rfl, by decide +kernel, by decide, by decide⟩ ggX9_shifted_X9_round mm_X9_shifted_iX9 mm_X9_shifted_l113 mm_X9_shifted_tX9_round (hP.sub (ws' := []) [] rfl) hK hl.1 rfl rfl (Nat.le_of_ble_eq_true rfl) dX9_shifted_151 ⟨Nat.zero_le _, Nat.zero_le _⟩ ?_
              have e9 : (F_X9_shifted xo xi xj xk xr ) = (F_X9_round (xr xk.toNatClampNeg) (((262143 : Int32) - (xr ((16 : Int32) + xj).toNatClampNeg).toInt32) &&& (63 : Int32))) := by rw [F_X9_shifted, if_neg c1, if_neg c2, if_pos c3, if_neg c4, if_pos c8, if_neg c10]
              rw [e9] at hV
              subst hV
              exact roRetL C0 rfl dX9_shifted_154
            · refine lv_aload_n hx hb dX9_shifted_123 rfl (lv_at hl 4 rfl) ?_
              refine va_get (D := (dC, dI)) (ci := 6) (v := .ref x3) (C := RX9) (T := TX9) (N := 24) hx hb hts mi_X9_shifted_X9 hown hK hP 0 rfl rfl 3 (by decide) (hts (.fieldLink RX9 16 "ScoreboardCoreModel" "\x72" "[J") mm_X9_shifted_f16) (fun _ h9 => h9) rfl dX9_shifted_124 ?_
              refine lv_aload_n hx hb dX9_shifted_127 rfl (lv_at hl 4 rfl) ?_
              refine va_get (D := (dC, dI)) (ci := 6) (v := .int xk) (C := RX9) (T := TX9) (N := 24) hx hb hts mi_X9_shifted_X9 hown hK hP 0 rfl rfl 19 (by decide) (hts (.fieldLink RX9 86 "ScoreboardCoreModel" "k" "I") mm_X9_shifted_f86) (fun _ h9 => h9) rfl dX9_shifted_128 ?_
              refine va_lald (D := (dC, dI)) hx hb hK hP 3 1 rfl rfl hk.x dX9_shifted_131 ?_
              refine lv_iload hx hb dX9_shifted_132 (lv_at hl 0 rfl) ?_
              refine roSl (As := [.long (xr xk.toNatClampNeg), .int (((262143 : Int32) - (xr ((16 : Int32) + xj).toNatClampNeg).toInt32) &&& (63 : Int32))]) (rest := []) (bytes := cX9_right) (maxL := 6) (rty := (some .long)) (n := 2) C0 (c_X9_right l dC dI cI cJ (xr xk.toNatClampNeg) (((262143 : Int32) - (xr ((16 : Int32) + xj).toNatClampNeg).toInt32) &&& (63 : Int32)) (m64a _)) ⟨rfl, rfl, rfl, by decide +kernel, by decide, by decide⟩ ggX9_shifted_X9_right mm_X9_shifted_iX9 mm_X9_shifted_l117 mm_X9_shifted_tX9_right (hP.sub (ws' := []) [] rfl) hK hl.1 rfl rfl (Nat.le_of_ble_eq_true rfl) dX9_shifted_134 ⟨Nat.zero_le _, Nat.zero_le _⟩ ?_
              refine lv_goto (tgt := 154) hx hb dX9_shifted_137 (by decide) ?_
              have e9 : (F_X9_shifted xo xi xj xk xr ) = (F_X9_right (xr xk.toNatClampNeg) (((262143 : Int32) - (xr ((16 : Int32) + xj).toNatClampNeg).toInt32) &&& (63 : Int32))) := by rw [F_X9_shifted, if_neg c1, if_neg c2, if_pos c3, if_neg c4, if_pos c8, if_pos c10]
              rw [e9] at hV
              subst hV
              exact roRetL C0 rfl dX9_shifted_154
      · refine lv_iconst (v := (1 : Int32)) hx hb dX9_shifted_79 (by decide) ?_
        refine lv_goto (tgt := 84) hx hb dX9_shifted_80 (by decide) ?_
        refine lv_istore_n (lv' := [(3, .int (1 : Int32)), (2, .int (xr ((16 : Int32) + xj).toNatClampNeg).toInt32), (1, .int (((8 : Int32) * xj) + xk)), (0, .ref hX)]) hx hb dX9_shifted_84 rfl hl (by decide) rfl (fun ls hl => ?_)
        refine lv_iload_n hx hb dX9_shifted_85 rfl (lv_at hl 0 rfl) ?_
        refine lv_if_eq (x := (1 : Int32)) (tgt := 99) hx hb dX9_shifted_86 (by decide) (fun c11 => ?_) (fun c11 => ?_)
        · refine lv_iload_n hx hb dX9_shifted_99 rfl (lv_at hl 1 rfl) ?_
          refine lv_bipush (v := (63 : Int32)) hx hb dX9_shifted_100 (by decide) ?_
          refine lv_iand hx hb dX9_shifted_102 ?_
          refine lv_istore (lv' := [(4, .int ((xr ((16 : Int32) + xj).toNatClampNeg).toInt32 &&& (63 : Int32))), (3, .int (1 : Int32)), (2, .int (xr ((16 : Int32) + xj).toNatClampNeg).toInt32), (1, .int (((8 : Int32) * xj) + xk)), (0, .ref hX)]) hx hb dX9_shifted_103 hl (by decide) rfl (fun ls hl => ?_)
          refine lv_iload_n hx hb dX9_shifted_105 rfl (lv_at hl 1 rfl) ?_
          refine lv_aload_n hx hb dX9_shifted_106 rfl (lv_at hl 4 rfl) ?_
          refine va_get (D := (dC, dI)) (ci := 6) (v := .int xo) (C := RX9) (T := TX9) (N := 24) hx hb hts mi_X9_shifted_X9 hown hK hP 0 rfl rfl 16 (by decide) (hts (.fieldLink RX9 68 "ScoreboardCoreModel" "op" "I") mm_X9_shifted_f68) (fun _ h9 => h9) rfl dX9_shifted_107 ?_
          refine lv_bipush (v := (18 : Int32)) hx hb dX9_shifted_110 (by decide) ?_
          refine lv_icmp_ne (x := xo) (y := (18 : Int32)) (tgt := 119) hx hb dX9_shifted_112 (by decide) (fun c12 => ?_) (fun c12 => ?_)
          · refine lv_iconst (v := (0 : Int32)) hx hb dX9_shifted_119 (by decide) ?_
            refine lv_icmp_ne (x := (1 : Int32)) (y := (0 : Int32)) (tgt := 140) hx hb dX9_shifted_120 (by decide) (fun c13 => ?_) (fun c13 => ?_)
            · refine lv_aload_n hx hb dX9_shifted_140 rfl (lv_at hl 4 rfl) ?_
              refine va_get (D := (dC, dI)) (ci := 6) (v := .ref x3) (C := RX9) (T := TX9) (N := 24) hx hb hts mi_X9_shifted_X9 hown hK hP 0 rfl rfl 3 (by decide) (hts (.fieldLink RX9 16 "ScoreboardCoreModel" "\x72" "[J") mm_X9_shifted_f16) (fun _ h9 => h9) rfl dX9_shifted_141 ?_
              refine lv_aload_n hx hb dX9_shifted_144 rfl (lv_at hl 4 rfl) ?_
              refine va_get (D := (dC, dI)) (ci := 6) (v := .int xk) (C := RX9) (T := TX9) (N := 24) hx hb hts mi_X9_shifted_X9 hown hK hP 0 rfl rfl 19 (by decide) (hts (.fieldLink RX9 86 "ScoreboardCoreModel" "k" "I") mm_X9_shifted_f86) (fun _ h9 => h9) rfl dX9_shifted_145 ?_
              refine va_lald (D := (dC, dI)) hx hb hK hP 3 1 rfl rfl hk.x dX9_shifted_148 ?_
              refine lv_iload hx hb dX9_shifted_149 (lv_at hl 0 rfl) ?_
              refine roSl (As := [.long (xr xk.toNatClampNeg), .int ((xr ((16 : Int32) + xj).toNatClampNeg).toInt32 &&& (63 : Int32))]) (rest := []) (bytes := cX9_round) (maxL := 6) (rty := (some .long)) (n := 2) C0 (c_X9_round l dC dI cI cJ (xr xk.toNatClampNeg) ((xr ((16 : Int32) + xj).toNatClampNeg).toInt32 &&& (63 : Int32)) (m64a _)) ⟨rfl, rfl, rfl, by decide +kernel, by decide, by decide⟩ ggX9_shifted_X9_round mm_X9_shifted_iX9 mm_X9_shifted_l113 mm_X9_shifted_tX9_round (hP.sub (ws' := []) [] rfl) hK hl.1 rfl rfl (Nat.le_of_ble_eq_true rfl) dX9_shifted_151 ⟨Nat.zero_le _, Nat.zero_le _⟩ ?_
              have e9 : (F_X9_shifted xo xi xj xk xr ) = (F_X9_round (xr xk.toNatClampNeg) ((xr ((16 : Int32) + xj).toNatClampNeg).toInt32 &&& (63 : Int32))) := by rw [F_X9_shifted, if_neg c1, if_neg c2, if_neg c3, if_pos c11, if_neg c12, if_neg c13]
              rw [e9] at hV
              subst hV
              exact roRetL C0 rfl dX9_shifted_154
            · refine lv_aload_n hx hb dX9_shifted_123 rfl (lv_at hl 4 rfl) ?_
              refine va_get (D := (dC, dI)) (ci := 6) (v := .ref x3) (C := RX9) (T := TX9) (N := 24) hx hb hts mi_X9_shifted_X9 hown hK hP 0 rfl rfl 3 (by decide) (hts (.fieldLink RX9 16 "ScoreboardCoreModel" "\x72" "[J") mm_X9_shifted_f16) (fun _ h9 => h9) rfl dX9_shifted_124 ?_
              refine lv_aload_n hx hb dX9_shifted_127 rfl (lv_at hl 4 rfl) ?_
              refine va_get (D := (dC, dI)) (ci := 6) (v := .int xk) (C := RX9) (T := TX9) (N := 24) hx hb hts mi_X9_shifted_X9 hown hK hP 0 rfl rfl 19 (by decide) (hts (.fieldLink RX9 86 "ScoreboardCoreModel" "k" "I") mm_X9_shifted_f86) (fun _ h9 => h9) rfl dX9_shifted_128 ?_
              refine va_lald (D := (dC, dI)) hx hb hK hP 3 1 rfl rfl hk.x dX9_shifted_131 ?_
              refine lv_iload hx hb dX9_shifted_132 (lv_at hl 0 rfl) ?_
              refine roSl (As := [.long (xr xk.toNatClampNeg), .int ((xr ((16 : Int32) + xj).toNatClampNeg).toInt32 &&& (63 : Int32))]) (rest := []) (bytes := cX9_right) (maxL := 6) (rty := (some .long)) (n := 2) C0 (c_X9_right l dC dI cI cJ (xr xk.toNatClampNeg) ((xr ((16 : Int32) + xj).toNatClampNeg).toInt32 &&& (63 : Int32)) (m64a _)) ⟨rfl, rfl, rfl, by decide +kernel, by decide, by decide⟩ ggX9_shifted_X9_right mm_X9_shifted_iX9 mm_X9_shifted_l117 mm_X9_shifted_tX9_right (hP.sub (ws' := []) [] rfl) hK hl.1 rfl rfl (Nat.le_of_ble_eq_true rfl) dX9_shifted_134 ⟨Nat.zero_le _, Nat.zero_le _⟩ ?_
              refine lv_goto (tgt := 154) hx hb dX9_shifted_137 (by decide) ?_
              have e9 : (F_X9_shifted xo xi xj xk xr ) = (F_X9_right (xr xk.toNatClampNeg) ((xr ((16 : Int32) + xj).toNatClampNeg).toInt32 &&& (63 : Int32))) := by rw [F_X9_shifted, if_neg c1, if_neg c2, if_neg c3, if_pos c11, if_neg c12, if_pos c13]
              rw [e9] at hV
              subst hV
              exact roRetL C0 rfl dX9_shifted_154
          · refine lv_iconst (v := (1 : Int32)) hx hb dX9_shifted_115 (by decide) ?_
            refine lv_goto (tgt := 120) hx hb dX9_shifted_116 (by decide) ?_
            refine lv_icmp_ne (x := (1 : Int32)) (y := (1 : Int32)) (tgt := 140) hx hb dX9_shifted_120 (by decide) (fun c14 => ?_) (fun c14 => ?_)
            · refine lv_aload_n hx hb dX9_shifted_140 rfl (lv_at hl 4 rfl) ?_
              refine va_get (D := (dC, dI)) (ci := 6) (v := .ref x3) (C := RX9) (T := TX9) (N := 24) hx hb hts mi_X9_shifted_X9 hown hK hP 0 rfl rfl 3 (by decide) (hts (.fieldLink RX9 16 "ScoreboardCoreModel" "\x72" "[J") mm_X9_shifted_f16) (fun _ h9 => h9) rfl dX9_shifted_141 ?_
              refine lv_aload_n hx hb dX9_shifted_144 rfl (lv_at hl 4 rfl) ?_
              refine va_get (D := (dC, dI)) (ci := 6) (v := .int xk) (C := RX9) (T := TX9) (N := 24) hx hb hts mi_X9_shifted_X9 hown hK hP 0 rfl rfl 19 (by decide) (hts (.fieldLink RX9 86 "ScoreboardCoreModel" "k" "I") mm_X9_shifted_f86) (fun _ h9 => h9) rfl dX9_shifted_145 ?_
              refine va_lald (D := (dC, dI)) hx hb hK hP 3 1 rfl rfl hk.x dX9_shifted_148 ?_
              refine lv_iload hx hb dX9_shifted_149 (lv_at hl 0 rfl) ?_
              refine roSl (As := [.long (xr xk.toNatClampNeg), .int ((xr ((16 : Int32) + xj).toNatClampNeg).toInt32 &&& (63 : Int32))]) (rest := []) (bytes := cX9_round) (maxL := 6) (rty := (some .long)) (n := 2) C0 (c_X9_round l dC dI cI cJ (xr xk.toNatClampNeg) ((xr ((16 : Int32) + xj).toNatClampNeg).toInt32 &&& (63 : Int32)) (m64a _)) ⟨rfl, rfl, rfl, by decide +kernel, by decide, by decide⟩ ggX9_shifted_X9_round mm_X9_shifted_iX9 mm_X9_shifted_l113 mm_X9_shifted_tX9_round (hP.sub (ws' := []) [] rfl) hK hl.1 rfl rfl (Nat.le_of_ble_eq_true rfl) dX9_shifted_151 ⟨Nat.zero_le _, Nat.zero_le _⟩ ?_
              have e9 : (F_X9_shifted xo xi xj xk xr ) = (F_X9_round (xr xk.toNatClampNeg) ((xr ((16 : Int32) + xj).toNatClampNeg).toInt32 &&& (63 : Int32))) := by rw [F_X9_shifted, if_neg c1, if_neg c2, if_neg c3, if_pos c11, if_pos c12, if_neg c14]
              rw [e9] at hV
              subst hV
              exact roRetL C0 rfl dX9_shifted_154
            · refine lv_aload_n hx hb dX9_shifted_123 rfl (lv_at hl 4 rfl) ?_
              refine va_get (D := (dC, dI)) (ci := 6) (v := .ref x3) (C := RX9) (T := TX9) (N := 24) hx hb hts mi_X9_shifted_X9 hown hK hP 0 rfl rfl 3 (by decide) (hts (.fieldLink RX9 16 "ScoreboardCoreModel" "\x72" "[J") mm_X9_shifted_f16) (fun _ h9 => h9) rfl dX9_shifted_124 ?_
              refine lv_aload_n hx hb dX9_shifted_127 rfl (lv_at hl 4 rfl) ?_
              refine va_get (D := (dC, dI)) (ci := 6) (v := .int xk) (C := RX9) (T := TX9) (N := 24) hx hb hts mi_X9_shifted_X9 hown hK hP 0 rfl rfl 19 (by decide) (hts (.fieldLink RX9 86 "ScoreboardCoreModel" "k" "I") mm_X9_shifted_f86) (fun _ h9 => h9) rfl dX9_shifted_128 ?_
              refine va_lald (D := (dC, dI)) hx hb hK hP 3 1 rfl rfl hk.x dX9_shifted_131 ?_
              refine lv_iload hx hb dX9_shifted_132 (lv_at hl 0 rfl) ?_
              refine roSl (As := [.long (xr xk.toNatClampNeg), .int ((xr ((16 : Int32) + xj).toNatClampNeg).toInt32 &&& (63 : Int32))]) (rest := []) (bytes := cX9_right) (maxL := 6) (rty := (some .long)) (n := 2) C0 (c_X9_right l dC dI cI cJ (xr xk.toNatClampNeg) ((xr ((16 : Int32) + xj).toNatClampNeg).toInt32 &&& (63 : Int32)) (m64a _)) ⟨rfl, rfl, rfl, by decide +kernel, by decide, by decide⟩ ggX9_shifted_X9_right mm_X9_shifted_iX9 mm_X9_shifted_l117 mm_X9_shifted_tX9_right (hP.sub (ws' := []) [] rfl) hK hl.1 rfl rfl (Nat.le_of_ble_eq_true rfl) dX9_shifted_134 ⟨Nat.zero_le _, Nat.zero_le _⟩ ?_
              refine lv_goto (tgt := 154) hx hb dX9_shifted_137 (by decide) ?_
              have e9 : (F_X9_shifted xo xi xj xk xr ) = (F_X9_right (xr xk.toNatClampNeg) ((xr ((16 : Int32) + xj).toNatClampNeg).toInt32 &&& (63 : Int32))) := by rw [F_X9_shifted, if_neg c1, if_neg c2, if_neg c3, if_pos c11, if_pos c12, if_pos c14]
              rw [e9] at hV
              subst hV
              exact roRetL C0 rfl dX9_shifted_154
        · refine lv_ldc (v := (262143 : Int32)) hx hb hown (hts _ mm_X9_shifted_k121) dX9_shifted_89 ?_
          refine lv_iload_n hx hb dX9_shifted_91 rfl (lv_at hl 1 rfl) ?_
          refine lv_isub hx hb dX9_shifted_92 ?_
          refine lv_bipush (v := (63 : Int32)) hx hb dX9_shifted_93 (by decide) ?_
          refine lv_iand hx hb dX9_shifted_95 ?_
          refine lv_goto (tgt := 103) hx hb dX9_shifted_96 (by decide) ?_
          refine lv_istore (lv' := [(4, .int (((262143 : Int32) - (xr ((16 : Int32) + xj).toNatClampNeg).toInt32) &&& (63 : Int32))), (3, .int (1 : Int32)), (2, .int (xr ((16 : Int32) + xj).toNatClampNeg).toInt32), (1, .int (((8 : Int32) * xj) + xk)), (0, .ref hX)]) hx hb dX9_shifted_103 hl (by decide) rfl (fun ls hl => ?_)
          refine lv_iload_n hx hb dX9_shifted_105 rfl (lv_at hl 1 rfl) ?_
          refine lv_aload_n hx hb dX9_shifted_106 rfl (lv_at hl 4 rfl) ?_
          refine va_get (D := (dC, dI)) (ci := 6) (v := .int xo) (C := RX9) (T := TX9) (N := 24) hx hb hts mi_X9_shifted_X9 hown hK hP 0 rfl rfl 16 (by decide) (hts (.fieldLink RX9 68 "ScoreboardCoreModel" "op" "I") mm_X9_shifted_f68) (fun _ h9 => h9) rfl dX9_shifted_107 ?_
          refine lv_bipush (v := (18 : Int32)) hx hb dX9_shifted_110 (by decide) ?_
          refine lv_icmp_ne (x := xo) (y := (18 : Int32)) (tgt := 119) hx hb dX9_shifted_112 (by decide) (fun c15 => ?_) (fun c15 => ?_)
          · refine lv_iconst (v := (0 : Int32)) hx hb dX9_shifted_119 (by decide) ?_
            refine lv_icmp_ne (x := (1 : Int32)) (y := (0 : Int32)) (tgt := 140) hx hb dX9_shifted_120 (by decide) (fun c16 => ?_) (fun c16 => ?_)
            · refine lv_aload_n hx hb dX9_shifted_140 rfl (lv_at hl 4 rfl) ?_
              refine va_get (D := (dC, dI)) (ci := 6) (v := .ref x3) (C := RX9) (T := TX9) (N := 24) hx hb hts mi_X9_shifted_X9 hown hK hP 0 rfl rfl 3 (by decide) (hts (.fieldLink RX9 16 "ScoreboardCoreModel" "\x72" "[J") mm_X9_shifted_f16) (fun _ h9 => h9) rfl dX9_shifted_141 ?_
              refine lv_aload_n hx hb dX9_shifted_144 rfl (lv_at hl 4 rfl) ?_
              refine va_get (D := (dC, dI)) (ci := 6) (v := .int xk) (C := RX9) (T := TX9) (N := 24) hx hb hts mi_X9_shifted_X9 hown hK hP 0 rfl rfl 19 (by decide) (hts (.fieldLink RX9 86 "ScoreboardCoreModel" "k" "I") mm_X9_shifted_f86) (fun _ h9 => h9) rfl dX9_shifted_145 ?_
              refine va_lald (D := (dC, dI)) hx hb hK hP 3 1 rfl rfl hk.x dX9_shifted_148 ?_
              refine lv_iload hx hb dX9_shifted_149 (lv_at hl 0 rfl) ?_
              refine roSl (As := [.long (xr xk.toNatClampNeg), .int (((262143 : Int32) - (xr ((16 : Int32) + xj).toNatClampNeg).toInt32) &&& (63 : Int32))]) (rest := []) (bytes := cX9_round) (maxL := 6) (rty := (some .long)) (n := 2) C0 (c_X9_round l dC dI cI cJ (xr xk.toNatClampNeg) (((262143 : Int32) - (xr ((16 : Int32) + xj).toNatClampNeg).toInt32) &&& (63 : Int32)) (m64a _)) ⟨rfl, rfl, rfl, by decide +kernel, by decide, by decide⟩ ggX9_shifted_X9_round mm_X9_shifted_iX9 mm_X9_shifted_l113 mm_X9_shifted_tX9_round (hP.sub (ws' := []) [] rfl) hK hl.1 rfl rfl (Nat.le_of_ble_eq_true rfl) dX9_shifted_151 ⟨Nat.zero_le _, Nat.zero_le _⟩ ?_
              have e9 : (F_X9_shifted xo xi xj xk xr ) = (F_X9_round (xr xk.toNatClampNeg) (((262143 : Int32) - (xr ((16 : Int32) + xj).toNatClampNeg).toInt32) &&& (63 : Int32))) := by rw [F_X9_shifted, if_neg c1, if_neg c2, if_neg c3, if_neg c11, if_neg c15, if_neg c16]
              rw [e9] at hV
              subst hV
              exact roRetL C0 rfl dX9_shifted_154
            · refine lv_aload_n hx hb dX9_shifted_123 rfl (lv_at hl 4 rfl) ?_
              refine va_get (D := (dC, dI)) (ci := 6) (v := .ref x3) (C := RX9) (T := TX9) (N := 24) hx hb hts mi_X9_shifted_X9 hown hK hP 0 rfl rfl 3 (by decide) (hts (.fieldLink RX9 16 "ScoreboardCoreModel" "\x72" "[J") mm_X9_shifted_f16) (fun _ h9 => h9) rfl dX9_shifted_124 ?_
              refine lv_aload_n hx hb dX9_shifted_127 rfl (lv_at hl 4 rfl) ?_
              refine va_get (D := (dC, dI)) (ci := 6) (v := .int xk) (C := RX9) (T := TX9) (N := 24) hx hb hts mi_X9_shifted_X9 hown hK hP 0 rfl rfl 19 (by decide) (hts (.fieldLink RX9 86 "ScoreboardCoreModel" "k" "I") mm_X9_shifted_f86) (fun _ h9 => h9) rfl dX9_shifted_128 ?_
              refine va_lald (D := (dC, dI)) hx hb hK hP 3 1 rfl rfl hk.x dX9_shifted_131 ?_
              refine lv_iload hx hb dX9_shifted_132 (lv_at hl 0 rfl) ?_
              refine roSl (As := [.long (xr xk.toNatClampNeg), .int (((262143 : Int32) - (xr ((16 : Int32) + xj).toNatClampNeg).toInt32) &&& (63 : Int32))]) (rest := []) (bytes := cX9_right) (maxL := 6) (rty := (some .long)) (n := 2) C0 (c_X9_right l dC dI cI cJ (xr xk.toNatClampNeg) (((262143 : Int32) - (xr ((16 : Int32) + xj).toNatClampNeg).toInt32) &&& (63 : Int32)) (m64a _)) ⟨rfl, rfl, rfl, by decide +kernel, by decide, by decide⟩ ggX9_shifted_X9_right mm_X9_shifted_iX9 mm_X9_shifted_l117 mm_X9_shifted_tX9_right (hP.sub (ws' := []) [] rfl) hK hl.1 rfl rfl (Nat.le_of_ble_eq_true rfl) dX9_shifted_134 ⟨Nat.zero_le _, Nat.zero_le _⟩ ?_
              refine lv_goto (tgt := 154) hx hb dX9_shifted_137 (by decide) ?_
              have e9 : (F_X9_shifted xo xi xj xk xr ) = (F_X9_right (xr xk.toNatClampNeg) (((262143 : Int32) - (xr ((16 : Int32) + xj).toNatClampNeg).toInt32) &&& (63 : Int32))) := by rw [F_X9_shifted, if_neg c1, if_neg c2, if_neg c3, if_neg c11, if_neg c15, if_pos c16]
              rw [e9] at hV
              subst hV
              exact roRetL C0 rfl dX9_shifted_154
          · refine lv_iconst (v := (1 : Int32)) hx hb dX9_shifted_115 (by decide) ?_
            refine lv_goto (tgt := 120) hx hb dX9_shifted_116 (by decide) ?_
            refine lv_icmp_ne (x := (1 : Int32)) (y := (1 : Int32)) (tgt := 140) hx hb dX9_shifted_120 (by decide) (fun c17 => ?_) (fun c17 => ?_)
            · refine lv_aload_n hx hb dX9_shifted_140 rfl (lv_at hl 4 rfl) ?_
              refine va_get (D := (dC, dI)) (ci := 6) (v := .ref x3) (C := RX9) (T := TX9) (N := 24) hx hb hts mi_X9_shifted_X9 hown hK hP 0 rfl rfl 3 (by decide) (hts (.fieldLink RX9 16 "ScoreboardCoreModel" "\x72" "[J") mm_X9_shifted_f16) (fun _ h9 => h9) rfl dX9_shifted_141 ?_
              refine lv_aload_n hx hb dX9_shifted_144 rfl (lv_at hl 4 rfl) ?_
              refine va_get (D := (dC, dI)) (ci := 6) (v := .int xk) (C := RX9) (T := TX9) (N := 24) hx hb hts mi_X9_shifted_X9 hown hK hP 0 rfl rfl 19 (by decide) (hts (.fieldLink RX9 86 "ScoreboardCoreModel" "k" "I") mm_X9_shifted_f86) (fun _ h9 => h9) rfl dX9_shifted_145 ?_
              refine va_lald (D := (dC, dI)) hx hb hK hP 3 1 rfl rfl hk.x dX9_shifted_148 ?_
              refine lv_iload hx hb dX9_shifted_149 (lv_at hl 0 rfl) ?_
              refine roSl (As := [.long (xr xk.toNatClampNeg), .int (((262143 : Int32) - (xr ((16 : Int32) + xj).toNatClampNeg).toInt32) &&& (63 : Int32))]) (rest := []) (bytes := cX9_round) (maxL := 6) (rty := (some .long)) (n := 2) C0 (c_X9_round l dC dI cI cJ (xr xk.toNatClampNeg) (((262143 : Int32) - (xr ((16 : Int32) + xj).toNatClampNeg).toInt32) &&& (63 : Int32)) (m64a _)) ⟨rfl, rfl, rfl, by decide +kernel, by decide, by decide⟩ ggX9_shifted_X9_round mm_X9_shifted_iX9 mm_X9_shifted_l113 mm_X9_shifted_tX9_round (hP.sub (ws' := []) [] rfl) hK hl.1 rfl rfl (Nat.le_of_ble_eq_true rfl) dX9_shifted_151 ⟨Nat.zero_le _, Nat.zero_le _⟩ ?_
              have e9 : (F_X9_shifted xo xi xj xk xr ) = (F_X9_round (xr xk.toNatClampNeg) (((262143 : Int32) - (xr ((16 : Int32) + xj).toNatClampNeg).toInt32) &&& (63 : Int32))) := by rw [F_X9_shifted, if_neg c1, if_neg c2, if_neg c3, if_neg c11, if_pos c15, if_neg c17]
              rw [e9] at hV
              subst hV
              exact roRetL C0 rfl dX9_shifted_154
            · refine lv_aload_n hx hb dX9_shifted_123 rfl (lv_at hl 4 rfl) ?_
              refine va_get (D := (dC, dI)) (ci := 6) (v := .ref x3) (C := RX9) (T := TX9) (N := 24) hx hb hts mi_X9_shifted_X9 hown hK hP 0 rfl rfl 3 (by decide) (hts (.fieldLink RX9 16 "ScoreboardCoreModel" "\x72" "[J") mm_X9_shifted_f16) (fun _ h9 => h9) rfl dX9_shifted_124 ?_
              refine lv_aload_n hx hb dX9_shifted_127 rfl (lv_at hl 4 rfl) ?_
              refine va_get (D := (dC, dI)) (ci := 6) (v := .int xk) (C := RX9) (T := TX9) (N := 24) hx hb hts mi_X9_shifted_X9 hown hK hP 0 rfl rfl 19 (by decide) (hts (.fieldLink RX9 86 "ScoreboardCoreModel" "k" "I") mm_X9_shifted_f86) (fun _ h9 => h9) rfl dX9_shifted_128 ?_
              refine va_lald (D := (dC, dI)) hx hb hK hP 3 1 rfl rfl hk.x dX9_shifted_131 ?_
              refine lv_iload hx hb dX9_shifted_132 (lv_at hl 0 rfl) ?_
              refine roSl (As := [.long (xr xk.toNatClampNeg), .int (((262143 : Int32) - (xr ((16 : Int32) + xj).toNatClampNeg).toInt32) &&& (63 : Int32))]) (rest := []) (bytes := cX9_right) (maxL := 6) (rty := (some .long)) (n := 2) C0 (c_X9_right l dC dI cI cJ (xr xk.toNatClampNeg) (((262143 : Int32) - (xr ((16 : Int32) + xj).toNatClampNeg).toInt32) &&& (63 : Int32)) (m64a _)) ⟨rfl, rfl, rfl, by decide +kernel, by decide, by decide⟩ ggX9_shifted_X9_right mm_X9_shifted_iX9 mm_X9_shifted_l117 mm_X9_shifted_tX9_right (hP.sub (ws' := []) [] rfl) hK hl.1 rfl rfl (Nat.le_of_ble_eq_true rfl) dX9_shifted_134 ⟨Nat.zero_le _, Nat.zero_le _⟩ ?_
              refine lv_goto (tgt := 154) hx hb dX9_shifted_137 (by decide) ?_
              have e9 : (F_X9_shifted xo xi xj xk xr ) = (F_X9_right (xr xk.toNatClampNeg) (((262143 : Int32) - (xr ((16 : Int32) + xj).toNatClampNeg).toInt32) &&& (63 : Int32))) := by rw [F_X9_shifted, if_neg c1, if_neg c2, if_neg c3, if_neg c11, if_pos c15, if_pos c17]
              rw [e9] at hV
              subst hV
              exact roRetL C0 rfl dX9_shifted_154
    · refine lv_aload_n hx hb dX9_shifted_45 rfl (lv_at hl 1 rfl) ?_
      refine va_get (D := (dC, dI)) (ci := 6) (v := .ref x3) (C := RX9) (T := TX9) (N := 24) hx hb hts mi_X9_shifted_X9 hown hK hP 0 rfl rfl 3 (by decide) (hts (.fieldLink RX9 16 "ScoreboardCoreModel" "\x72" "[J") mm_X9_shifted_f16) (fun _ h9 => h9) rfl dX9_shifted_46 ?_
      refine lv_aload_n hx hb dX9_shifted_49 rfl (lv_at hl 1 rfl) ?_
      refine va_get (D := (dC, dI)) (ci := 6) (v := .int xi) (C := RX9) (T := TX9) (N := 24) hx hb hts mi_X9_shifted_X9 hown hK hP 0 rfl rfl 17 (by decide) (hts (.fieldLink RX9 71 "ScoreboardCoreModel" "i" "I") mm_X9_shifted_f71) (fun _ h9 => h9) rfl dX9_shifted_50 ?_
      refine va_lald (D := (dC, dI)) hx hb hK hP 3 1 rfl rfl hi.x dX9_shifted_53 ?_
      refine lv_iload_n hx hb dX9_shifted_54 rfl (lv_at hl 0 rfl) ?_
      refine roSl (As := [.long (xr xi.toNatClampNeg), .int (((8 : Int32) * xj) + xk)]) (rest := []) (bytes := cX9_right) (maxL := 6) (rty := (some .long)) (n := 2) C0 (c_X9_right l dC dI cI cJ (xr xi.toNatClampNeg) (((8 : Int32) * xj) + xk) (m64b hj hk)) ⟨rfl, rfl, rfl, by decide +kernel, by decide, by decide⟩ ggX9_shifted_X9_right mm_X9_shifted_iX9 mm_X9_shifted_l117 mm_X9_shifted_tX9_right (hP.sub (ws' := []) [] rfl) hK hl.1 rfl rfl (Nat.le_of_ble_eq_true rfl) dX9_shifted_55 ⟨Nat.zero_le _, Nat.zero_le _⟩ ?_
      have e9 : (F_X9_shifted xo xi xj xk xr ) = (F_X9_right (xr xi.toNatClampNeg) (((8 : Int32) * xj) + xk)) := by rw [F_X9_shifted, if_neg c1, if_pos c2]
      rw [e9] at hV
      subst hV
      exact roRetL C0 rfl dX9_shifted_58
  · refine lv_aload_n hx hb dX9_shifted_22 rfl (lv_at hl 1 rfl) ?_
    refine va_get (D := (dC, dI)) (ci := 6) (v := .ref x3) (C := RX9) (T := TX9) (N := 24) hx hb hts mi_X9_shifted_X9 hown hK hP 0 rfl rfl 3 (by decide) (hts (.fieldLink RX9 16 "ScoreboardCoreModel" "\x72" "[J") mm_X9_shifted_f16) (fun _ h9 => h9) rfl dX9_shifted_23 ?_
    refine lv_aload_n hx hb dX9_shifted_26 rfl (lv_at hl 1 rfl) ?_
    refine va_get (D := (dC, dI)) (ci := 6) (v := .int xi) (C := RX9) (T := TX9) (N := 24) hx hb hts mi_X9_shifted_X9 hown hK hP 0 rfl rfl 17 (by decide) (hts (.fieldLink RX9 71 "ScoreboardCoreModel" "i" "I") mm_X9_shifted_f71) (fun _ h9 => h9) rfl dX9_shifted_27 ?_
    refine va_lald (D := (dC, dI)) hx hb hK hP 3 1 rfl rfl hi.x dX9_shifted_30 ?_
    refine lv_iload_n hx hb dX9_shifted_31 rfl (lv_at hl 0 rfl) ?_
    refine roSl (As := [.long (xr xi.toNatClampNeg), .int (((8 : Int32) * xj) + xk)]) (rest := []) (bytes := cX9_round) (maxL := 6) (rty := (some .long)) (n := 2) C0 (c_X9_round l dC dI cI cJ (xr xi.toNatClampNeg) (((8 : Int32) * xj) + xk) (m64b hj hk)) ⟨rfl, rfl, rfl, by decide +kernel, by decide, by decide⟩ ggX9_shifted_X9_round mm_X9_shifted_iX9 mm_X9_shifted_l113 mm_X9_shifted_tX9_round (hP.sub (ws' := []) [] rfl) hK hl.1 rfl rfl (Nat.le_of_ble_eq_true rfl) dX9_shifted_32 ⟨Nat.zero_le _, Nat.zero_le _⟩ ?_
    have e9 : (F_X9_shifted xo xi xj xk xr ) = (F_X9_round (xr xi.toNatClampNeg) (((8 : Int32) * xj) + xk)) := by rw [F_X9_shifted, if_pos c1]
    rw [e9] at hV
    subst hV
    exact roRetL C0 rfl dX9_shifted_35
theorem c_X9_shifted (l : Launch) (dC : Nat → ClassId) (dI : Nat → Nat → Nat) (cI cJ : ClassId) (hX x1 x2 x3 x4 x5 x6 x7 x8 : Nat) (xt : Int32) (xw : Int32) (xp : Int32) (xs : Int32) (xc : Int64) (xM : Int64) (xE : Int64) (xL : Int64) (xo : Int32) (xi : Int32) (xj : Int32) (xk : Int32) (xn : Int32) (xz : Int32) (xa : Int32) (xg : Int32) (xmw : Nat → Int64) (xmp : Nat → Int64) (xr : Nat → Int64) (xd : Nat → Int32) (xwt : Nat → Int64) (xf : Nat → Int64) (xrd : Nat → Int64) (xu : Nat → Int64) (hi : R8 xi) (hj : R8 xj) (hk : R8 xk) : RoL l yX9_shifted wsX9_shifted rm_X9_shifted (dC, dI) [(cI, .int), (cJ, .long)] [(hX, .inr (6, [.int xt, .ref x1, .ref x2, .ref x3, .int xw, .int xp, .int xs, .long xc, .ref x4, .ref x5, .ref x6, .ref x7, .ref x8, .long xM, .long xE, .long xL, .int xo, .int xi, .int xj, .int xk, .int xn, .int xz, .int xa, .int xg])), (x1, .inl (cJ, 512, .inr (.inl xmw))), (x2, .inl (cJ, 512, .inr (.inl xmp))), (x3, .inl (cJ, 24, .inr (.inl xr))), (x4, .inl (cI, 8, .inl xd)), (x5, .inl (cJ, 5, .inr (.inl xwt))), (x6, .inl (cJ, 24, .inr (.inl xf))), (x7, .inl (cJ, 24, .inr (.inl xrd))), (x8, .inl (cJ, 6, .inr (.inl xu)))] [.ref hX] (F_X9_shifted xo xi xj xk xr ) := by
  refine RoL.mk (cc := cX9_shifted) (nL := 5) (ret := (some .long)) [(0, .ref hX)] (by decide) rfl (Nat.le_of_ble_eq_true rfl) rfl ?_
  intro p e s m below meth c C0 hP hK ls hl
  exact w_X9_shifted dC dI cI cJ hX x1 x2 x3 x4 x5 x6 x7 x8 xt xw xp xs xc xM xE xL xo xi xj xk xn xz xa xg xmw xmp xr xd xwt xf xrd xu C0 hK hP hi hj hk rfl ls hl

-- X9_reckoned
def F_X9_reckoned_151 (xk : Int32) (xr : Nat → Int64) : Nat → Int64 → Int32 → Int64
  | 0, v1, v3 => 0
  | fuel + 1, v1, v3 => (if (60 : Int32) ≤ v3 then v1 else (F_X9_reckoned_151 xk xr fuel (v1 + (((xr xk.toNatClampNeg) >>> (v3.toInt64 &&& 63)) &&& (1 : Int64))) (v3 + (1 : Int32))))
def F_X9_reckoned (xo : Int32) (xi : Int32) (xj : Int32) (xk : Int32) (xr : Nat → Int64) : Int64 :=
  (if (16 : Int32) ≤ xo then (if (20 : Int32) ≤ xo then (if xo = (30 : Int32) then (F_X9_sum (xr xj.toNatClampNeg) (xr xk.toNatClampNeg) (1152921504606846975 : Int64)) else (if xo = (31 : Int32) then (F_X9_less (xr xj.toNatClampNeg) (xr xk.toNatClampNeg) (1152921504606846975 : Int64)) else (if xo = (35 : Int32) then (if (((8 : Int32) * xj) + xk) < (60 : Int32) then ((1152921504606846975 : Int64) - ((1152921504606846975 : Int64) >>> ((((8 : Int32) * xj) + xk).toInt64 &&& 63))) else ((1152921504606846975 : Int64) - (0 : Int64))) else (F_X9_reckoned_151 xk xr 61 (0 : Int64) (0 : Int32))))) else (F_X9_shifted xo xi xj xk xr)) else (F_X9_mixed xo xj xk xr))
abbrev rm_X9_reckoned : Room := { frames := 2, cells := 0, slots := 0, locals := 52 }
set_option maxRecDepth 20000 in
theorem mi_X9_reckoned_X9 : ∀ w ∈ wsX90, w ∈ wsX9_reckoned := by decide +kernel
set_option maxRecDepth 20000 in
theorem mm_X9_reckoned_f16 : Cond.fieldLink RX9 16 "ScoreboardCoreModel" "\x72" "[J" ∈ wsX9_reckoned := by decide +kernel
set_option maxRecDepth 20000 in
theorem mm_X9_reckoned_f68 : Cond.fieldLink RX9 68 "ScoreboardCoreModel" "op" "I" ∈ wsX9_reckoned := by decide +kernel
set_option maxRecDepth 20000 in
theorem mm_X9_reckoned_f83 : Cond.fieldLink RX9 83 "ScoreboardCoreModel" "j" "I" ∈ wsX9_reckoned := by decide +kernel
set_option maxRecDepth 20000 in
theorem mm_X9_reckoned_f86 : Cond.fieldLink RX9 86 "ScoreboardCoreModel" "k" "I" ∈ wsX9_reckoned := by decide +kernel
set_option maxRecDepth 20000 in
theorem mm_X9_reckoned_iX9 : Cond.initialized RX9 ∈ wsX9_reckoned := by decide +kernel
set_option maxRecDepth 20000 in
theorem mm_X9_reckoned_k42 : Cond.constantLong RX9 42 (1152921504606846975) ∈ wsX9_reckoned := by decide +kernel
set_option maxRecDepth 20000 in
theorem mm_X9_reckoned_l122 : Cond.methodLink RX9 122 yX9_mixed ∈ wsX9_reckoned := by decide +kernel
set_option maxRecDepth 20000 in
theorem mm_X9_reckoned_l126 : Cond.methodLink RX9 126 yX9_shifted ∈ wsX9_reckoned := by decide +kernel
set_option maxRecDepth 20000 in
theorem mm_X9_reckoned_l129 : Cond.methodLink RX9 129 yX9_less ∈ wsX9_reckoned := by decide +kernel
set_option maxRecDepth 20000 in
theorem mm_X9_reckoned_l56 : Cond.methodLink RX9 56 yX9_sum ∈ wsX9_reckoned := by decide +kernel
set_option maxRecDepth 20000 in
theorem mm_X9_reckoned_nX9_mixed : Cond.instanceMethod yX9_mixed ∈ wsX9_reckoned := by decide +kernel
set_option maxRecDepth 20000 in
theorem mm_X9_reckoned_nX9_shifted : Cond.instanceMethod yX9_shifted ∈ wsX9_reckoned := by decide +kernel
set_option maxRecDepth 20000 in
theorem mm_X9_reckoned_sX9_mixed : Cond.selects RX9 yX9_mixed yX9_mixed ∈ wsX9_reckoned := by decide +kernel
set_option maxRecDepth 20000 in
theorem mm_X9_reckoned_sX9_shifted : Cond.selects RX9 yX9_shifted yX9_shifted ∈ wsX9_reckoned := by decide +kernel
set_option maxRecDepth 20000 in
theorem mm_X9_reckoned_tX9_less : Cond.static yX9_less ∈ wsX9_reckoned := by decide +kernel
set_option maxRecDepth 20000 in
theorem mm_X9_reckoned_tX9_sum : Cond.static yX9_sum ∈ wsX9_reckoned := by decide +kernel
set_option maxHeartbeats 4000000 in
set_option maxRecDepth 100000 in
theorem j_X9_reckoned_151 {p : Program} {l : Launch} {e : Env} {s : State} {m : MethodId} {below : List Frame} {meth : Method} {c : Code} {args : Array Value} (dC : Nat → ClassId) (dI : Nat → Nat → Nat) (cI cJ : ClassId) (hX x1 x2 x3 x4 x5 x6 x7 x8 : Nat) (xt : Int32) (xw : Int32) (xp : Int32) (xs : Int32) (xc : Int64) (xM : Int64) (xE : Int64) (xL : Int64) (xo : Int32) (xi : Int32) (xj : Int32) (xk : Int32) (xn : Int32) (xz : Int32) (xa : Int32) (xg : Int32) (xmw : Nat → Int64) (xmp : Nat → Int64) (xr : Nat → Int64) (xd : Nat → Int32) (xwt : Nat → Int64) (xf : Nat → Int64) (xrd : Nat → Int64) (xu : Nat → Int64) (C0 : Cx p s m meth c cX9_reckoned 4 (some .long) wsX9_reckoned RX9 args) (hK : va_K (dC, dI) vwCl [(cI, .int), (cJ, .long)] s) (hP : va_P (dC, dI) vwCl [(hX, .inr (6, [.int xt, .ref x1, .ref x2, .ref x3, .int xw, .int xp, .int xs, .long xc, .ref x4, .ref x5, .ref x6, .ref x7, .ref x8, .long xM, .long xE, .long xL, .int xo, .int xi, .int xj, .int xk, .int xn, .int xz, .int xa, .int xg])), (x1, .inl (cJ, 512, .inr (.inl xmw))), (x2, .inl (cJ, 512, .inr (.inl xmp))), (x3, .inl (cJ, 24, .inr (.inl xr))), (x4, .inl (cI, 8, .inl xd)), (x5, .inl (cJ, 5, .inr (.inl xwt))), (x6, .inl (cJ, 24, .inr (.inl xf))), (x7, .inl (cJ, 24, .inr (.inl xrd))), (x8, .inl (cJ, 6, .inr (.inl xu)))] s.heap) (hi : R8 xi) (hj : R8 xj) (hk : R8 xk) {V : Int64} : ∀ (fuel : Nat) (v1 : Int64) (v3 : Int32), Lp (60 : Int32) v3 fuel → (F_X9_reckoned_151 xk xr fuel v1 v3) = V → ∀ ls : Array Slot, lv_has ls 4 [(0, .ref hX), (1, .long v1), (3, .int v3)] → W p l e rm_X9_reckoned s m args below meth c s.heap [] 0 0 (MQ below (vp_Sl (fun r => r = V)) args s 0 0 (fun _ => False)) (F0 m 151 ls []) := by
  obtain ⟨hx, hb, hr, hlk, hml, hown, hts⟩ := id C0
  intro fuel
  induction fuel with
  | zero =>
    intro v1 v3 g0
    exact absurd g0 (by exact Lp.zero)
  | succ fuel ih =>
    intro v1 v3 g0 hV ls hl
    refine lv_iload_n hx hb dX9_reckoned_151 rfl (lv_at hl 2 rfl) ?_
    refine lv_bipush (v := (60 : Int32)) hx hb dX9_reckoned_152 (by decide) ?_
    refine lv_icmp_ge (x := v3) (y := (60 : Int32)) (tgt := 179) hx hb dX9_reckoned_154 (by decide) (fun c1 => ?_) (fun c1 => ?_)
    · refine lv_lload_n hx hb dX9_reckoned_179 rfl (lv_at hl 1 rfl) ?_
      have e9 : (F_X9_reckoned_151 xk xr (fuel + 1) v1 v3) = v1 := by rw [F_X9_reckoned_151, if_pos c1]
      rw [e9] at hV
      subst hV
      exact roRetL C0 rfl dX9_reckoned_180
    · refine lv_lload_n hx hb dX9_reckoned_157 rfl (lv_at hl 1 rfl) ?_
      refine lv_aload_n hx hb dX9_reckoned_158 rfl (lv_at hl 0 rfl) ?_
      refine va_get (D := (dC, dI)) (ci := 6) (v := .ref x3) (C := RX9) (T := TX9) (N := 24) hx hb hts mi_X9_reckoned_X9 hown hK hP 0 rfl rfl 3 (by decide) (hts (.fieldLink RX9 16 "ScoreboardCoreModel" "\x72" "[J") mm_X9_reckoned_f16) (fun _ h9 => h9) rfl dX9_reckoned_159 ?_
      refine lv_aload_n hx hb dX9_reckoned_162 rfl (lv_at hl 0 rfl) ?_
      refine va_get (D := (dC, dI)) (ci := 6) (v := .int xk) (C := RX9) (T := TX9) (N := 24) hx hb hts mi_X9_reckoned_X9 hown hK hP 0 rfl rfl 19 (by decide) (hts (.fieldLink RX9 86 "ScoreboardCoreModel" "k" "I") mm_X9_reckoned_f86) (fun _ h9 => h9) rfl dX9_reckoned_163 ?_
      refine va_lald (D := (dC, dI)) hx hb hK hP 3 1 rfl rfl hk.x dX9_reckoned_166 ?_
      refine lv_iload_n hx hb dX9_reckoned_167 rfl (lv_at hl 2 rfl) ?_
      refine lv_lshr hx hb dX9_reckoned_168 rfl ?_
      refine lv_lconst (v := (1 : Int64)) hx hb dX9_reckoned_169 (by decide) ?_
      refine lv_land hx hb dX9_reckoned_170 ?_
      refine lv_ladd hx hb dX9_reckoned_171 ?_
      refine lv_lstore_n (lv' := [(1, .long (v1 + (((xr xk.toNatClampNeg) >>> (v3.toInt64 &&& 63)) &&& (1 : Int64)))), (0, .ref hX), (3, .int v3)]) hx hb dX9_reckoned_172 rfl hl (by decide) rfl (fun ls hl => ?_)
      refine lv_iinc (v := (v3 + (1 : Int32))) (lv' := [(3, .int (v3 + (1 : Int32))), (1, .long (v1 + (((xr xk.toNatClampNeg) >>> (v3.toInt64 &&& 63)) &&& (1 : Int64)))), (0, .ref hX)]) hx hb dX9_reckoned_173 hl (k := 2) rfl rfl (by decide) rfl (fun ls hl => ?_)
      refine lv_goto (tgt := 151) hx hb dX9_reckoned_176 (by decide) ?_
      have e9 : (F_X9_reckoned_151 xk xr (fuel + 1) v1 v3) = (F_X9_reckoned_151 xk xr fuel (v1 + (((xr xk.toNatClampNeg) >>> (v3.toInt64 &&& 63)) &&& (1 : Int64))) (v3 + (1 : Int32))) := by rw [F_X9_reckoned_151, if_neg c1]
      rw [e9] at hV
      exact ih (v1 + (((xr xk.toNatClampNeg) >>> (v3.toInt64 &&& 63)) &&& (1 : Int64))) (v3 + (1 : Int32)) (Lp.step g0 c1) hV ls (lv_sub hl [2, 1, 0] rfl)
set_option maxHeartbeats 4000000 in
set_option maxRecDepth 100000 in
theorem w_X9_reckoned {p : Program} {l : Launch} {e : Env} {s : State} {m : MethodId} {below : List Frame} {meth : Method} {c : Code} {args : Array Value} (dC : Nat → ClassId) (dI : Nat → Nat → Nat) (cI cJ : ClassId) (hX x1 x2 x3 x4 x5 x6 x7 x8 : Nat) (xt : Int32) (xw : Int32) (xp : Int32) (xs : Int32) (xc : Int64) (xM : Int64) (xE : Int64) (xL : Int64) (xo : Int32) (xi : Int32) (xj : Int32) (xk : Int32) (xn : Int32) (xz : Int32) (xa : Int32) (xg : Int32) (xmw : Nat → Int64) (xmp : Nat → Int64) (xr : Nat → Int64) (xd : Nat → Int32) (xwt : Nat → Int64) (xf : Nat → Int64) (xrd : Nat → Int64) (xu : Nat → Int64) (C0 : Cx p s m meth c cX9_reckoned 4 (some .long) wsX9_reckoned RX9 args) (hK : va_K (dC, dI) vwCl [(cI, .int), (cJ, .long)] s) (hP : va_P (dC, dI) vwCl [(hX, .inr (6, [.int xt, .ref x1, .ref x2, .ref x3, .int xw, .int xp, .int xs, .long xc, .ref x4, .ref x5, .ref x6, .ref x7, .ref x8, .long xM, .long xE, .long xL, .int xo, .int xi, .int xj, .int xk, .int xn, .int xz, .int xa, .int xg])), (x1, .inl (cJ, 512, .inr (.inl xmw))), (x2, .inl (cJ, 512, .inr (.inl xmp))), (x3, .inl (cJ, 24, .inr (.inl xr))), (x4, .inl (cI, 8, .inl xd)), (x5, .inl (cJ, 5, .inr (.inl xwt))), (x6, .inl (cJ, 24, .inr (.inl xf))), (x7, .inl (cJ, 24, .inr (.inl xrd))), (x8, .inl (cJ, 6, .inr (.inl xu)))] s.heap) (hi : R8 xi) (hj : R8 xj) (hk : R8 xk) {V : Int64} (hV : (F_X9_reckoned xo xi xj xk xr ) = V) (ls : Array Slot) (hl : lv_has ls 4 [(0, .ref hX)]) : W p l e rm_X9_reckoned s m args below meth c s.heap [] 0 0 (MQ below (vp_Sl (fun r => r = V)) args s 0 0 (fun _ => False)) (F0 m 0 ls []) := by
  obtain ⟨hx, hb, hr, hlk, hml, hown, hts⟩ := id C0
  refine lv_lconst (v := (0 : Int64)) hx hb dX9_reckoned_0 (by decide) ?_
  refine lv_lstore_n (lv' := [(1, .long (0 : Int64)), (0, .ref hX)]) hx hb dX9_reckoned_1 rfl hl (by decide) rfl (fun ls hl => ?_)
  refine lv_aload_n hx hb dX9_reckoned_2 rfl (lv_at hl 1 rfl) ?_
  refine va_get (D := (dC, dI)) (ci := 6) (v := .int xo) (C := RX9) (T := TX9) (N := 24) hx hb hts mi_X9_reckoned_X9 hown hK hP 0 rfl rfl 16 (by decide) (hts (.fieldLink RX9 68 "ScoreboardCoreModel" "op" "I") mm_X9_reckoned_f68) (fun _ h9 => h9) rfl dX9_reckoned_3 ?_
  refine lv_bipush (v := (16 : Int32)) hx hb dX9_reckoned_6 (by decide) ?_
  refine lv_icmp_ge (x := xo) (y := (16 : Int32)) (tgt := 16) hx hb dX9_reckoned_8 (by decide) (fun c1 => ?_) (fun c1 => ?_)
  · refine lv_aload_n hx hb dX9_reckoned_16 rfl (lv_at hl 1 rfl) ?_
    refine va_get (D := (dC, dI)) (ci := 6) (v := .int xo) (C := RX9) (T := TX9) (N := 24) hx hb hts mi_X9_reckoned_X9 hown hK hP 0 rfl rfl 16 (by decide) (hts (.fieldLink RX9 68 "ScoreboardCoreModel" "op" "I") mm_X9_reckoned_f68) (fun _ h9 => h9) rfl dX9_reckoned_17 ?_
    refine lv_bipush (v := (20 : Int32)) hx hb dX9_reckoned_20 (by decide) ?_
    refine lv_icmp_ge (x := xo) (y := (20 : Int32)) (tgt := 30) hx hb dX9_reckoned_22 (by decide) (fun c2 => ?_) (fun c2 => ?_)
    · refine lv_aload_n hx hb dX9_reckoned_30 rfl (lv_at hl 1 rfl) ?_
      refine va_get (D := (dC, dI)) (ci := 6) (v := .int xo) (C := RX9) (T := TX9) (N := 24) hx hb hts mi_X9_reckoned_X9 hown hK hP 0 rfl rfl 16 (by decide) (hts (.fieldLink RX9 68 "ScoreboardCoreModel" "op" "I") mm_X9_reckoned_f68) (fun _ h9 => h9) rfl dX9_reckoned_31 ?_
      refine lv_bipush (v := (30 : Int32)) hx hb dX9_reckoned_34 (by decide) ?_
      refine lv_icmp_ne (x := xo) (y := (30 : Int32)) (tgt := 64) hx hb dX9_reckoned_36 (by decide) (fun c3 => ?_) (fun c3 => ?_)
      · refine lv_aload_n hx hb dX9_reckoned_64 rfl (lv_at hl 1 rfl) ?_
        refine va_get (D := (dC, dI)) (ci := 6) (v := .int xo) (C := RX9) (T := TX9) (N := 24) hx hb hts mi_X9_reckoned_X9 hown hK hP 0 rfl rfl 16 (by decide) (hts (.fieldLink RX9 68 "ScoreboardCoreModel" "op" "I") mm_X9_reckoned_f68) (fun _ h9 => h9) rfl dX9_reckoned_65 ?_
        refine lv_bipush (v := (31 : Int32)) hx hb dX9_reckoned_68 (by decide) ?_
        refine lv_icmp_ne (x := xo) (y := (31 : Int32)) (tgt := 98) hx hb dX9_reckoned_70 (by decide) (fun c4 => ?_) (fun c4 => ?_)
        · refine lv_aload_n hx hb dX9_reckoned_98 rfl (lv_at hl 1 rfl) ?_
          refine va_get (D := (dC, dI)) (ci := 6) (v := .int xo) (C := RX9) (T := TX9) (N := 24) hx hb hts mi_X9_reckoned_X9 hown hK hP 0 rfl rfl 16 (by decide) (hts (.fieldLink RX9 68 "ScoreboardCoreModel" "op" "I") mm_X9_reckoned_f68) (fun _ h9 => h9) rfl dX9_reckoned_99 ?_
          refine lv_bipush (v := (35 : Int32)) hx hb dX9_reckoned_102 (by decide) ?_
          refine lv_icmp_ne (x := xo) (y := (35 : Int32)) (tgt := 149) hx hb dX9_reckoned_104 (by decide) (fun c5 => ?_) (fun c5 => ?_)
          · refine lv_iconst (v := (0 : Int32)) hx hb dX9_reckoned_149 (by decide) ?_
            refine lv_istore_n (lv' := [(3, .int (0 : Int32)), (1, .long (0 : Int64)), (0, .ref hX)]) hx hb dX9_reckoned_150 rfl hl (by decide) rfl (fun ls hl => ?_)
            have e9 : (F_X9_reckoned xo xi xj xk xr ) = (F_X9_reckoned_151 xk xr 61 (0 : Int64) (0 : Int32)) := by rw [F_X9_reckoned, if_pos c1, if_pos c2, if_neg c3, if_neg c4, if_neg c5]
            rw [e9] at hV
            exact j_X9_reckoned_151 dC dI cI cJ hX x1 x2 x3 x4 x5 x6 x7 x8 xt xw xp xs xc xM xE xL xo xi xj xk xn xz xa xg xmw xmp xr xd xwt xf xrd xu C0 hK hP hi hj hk 61 (0 : Int64) (0 : Int32) (Lp.s (k := 60) (by decide) (by decide)) hV ls (lv_sub hl [2, 1, 0] rfl)
          · refine lv_ldc2 (v := (1152921504606846975 : Int64)) hx hb hown (hts _ mm_X9_reckoned_k42) dX9_reckoned_107 ?_
            refine lv_bipush (v := (8 : Int32)) hx hb dX9_reckoned_110 (by decide) ?_
            refine lv_aload_n hx hb dX9_reckoned_112 rfl (lv_at hl 1 rfl) ?_
            refine va_get (D := (dC, dI)) (ci := 6) (v := .int xj) (C := RX9) (T := TX9) (N := 24) hx hb hts mi_X9_reckoned_X9 hown hK hP 0 rfl rfl 18 (by decide) (hts (.fieldLink RX9 83 "ScoreboardCoreModel" "j" "I") mm_X9_reckoned_f83) (fun _ h9 => h9) rfl dX9_reckoned_113 ?_
            refine lv_imul hx hb dX9_reckoned_116 ?_
            refine lv_aload_n hx hb dX9_reckoned_117 rfl (lv_at hl 1 rfl) ?_
            refine va_get (D := (dC, dI)) (ci := 6) (v := .int xk) (C := RX9) (T := TX9) (N := 24) hx hb hts mi_X9_reckoned_X9 hown hK hP 0 rfl rfl 19 (by decide) (hts (.fieldLink RX9 86 "ScoreboardCoreModel" "k" "I") mm_X9_reckoned_f86) (fun _ h9 => h9) rfl dX9_reckoned_118 ?_
            refine lv_iadd hx hb dX9_reckoned_121 ?_
            refine lv_bipush (v := (60 : Int32)) hx hb dX9_reckoned_122 (by decide) ?_
            refine lv_icmp_lt (x := (((8 : Int32) * xj) + xk)) (y := (60 : Int32)) (tgt := 131) hx hb dX9_reckoned_124 (by decide) (fun c6 => ?_) (fun c6 => ?_)
            · refine lv_ldc2 (v := (1152921504606846975 : Int64)) hx hb hown (hts _ mm_X9_reckoned_k42) dX9_reckoned_131 ?_
              refine lv_bipush (v := (8 : Int32)) hx hb dX9_reckoned_134 (by decide) ?_
              refine lv_aload_n hx hb dX9_reckoned_136 rfl (lv_at hl 1 rfl) ?_
              refine va_get (D := (dC, dI)) (ci := 6) (v := .int xj) (C := RX9) (T := TX9) (N := 24) hx hb hts mi_X9_reckoned_X9 hown hK hP 0 rfl rfl 18 (by decide) (hts (.fieldLink RX9 83 "ScoreboardCoreModel" "j" "I") mm_X9_reckoned_f83) (fun _ h9 => h9) rfl dX9_reckoned_137 ?_
              refine lv_imul hx hb dX9_reckoned_140 ?_
              refine lv_aload_n hx hb dX9_reckoned_141 rfl (lv_at hl 1 rfl) ?_
              refine va_get (D := (dC, dI)) (ci := 6) (v := .int xk) (C := RX9) (T := TX9) (N := 24) hx hb hts mi_X9_reckoned_X9 hown hK hP 0 rfl rfl 19 (by decide) (hts (.fieldLink RX9 86 "ScoreboardCoreModel" "k" "I") mm_X9_reckoned_f86) (fun _ h9 => h9) rfl dX9_reckoned_142 ?_
              refine lv_iadd hx hb dX9_reckoned_145 ?_
              refine lv_lshr hx hb dX9_reckoned_146 rfl ?_
              refine lv_lsub hx hb dX9_reckoned_147 ?_
              have e9 : (F_X9_reckoned xo xi xj xk xr ) = ((1152921504606846975 : Int64) - ((1152921504606846975 : Int64) >>> ((((8 : Int32) * xj) + xk).toInt64 &&& 63))) := by rw [F_X9_reckoned, if_pos c1, if_pos c2, if_neg c3, if_neg c4, if_pos c5, if_pos c6]
              rw [e9] at hV
              subst hV
              exact roRetL C0 rfl dX9_reckoned_148
            · refine lv_lconst (v := (0 : Int64)) hx hb dX9_reckoned_127 (by decide) ?_
              refine lv_goto (tgt := 147) hx hb dX9_reckoned_128 (by decide) ?_
              refine lv_lsub hx hb dX9_reckoned_147 ?_
              have e9 : (F_X9_reckoned xo xi xj xk xr ) = ((1152921504606846975 : Int64) - (0 : Int64)) := by rw [F_X9_reckoned, if_pos c1, if_pos c2, if_neg c3, if_neg c4, if_pos c5, if_neg c6]
              rw [e9] at hV
              subst hV
              exact roRetL C0 rfl dX9_reckoned_148
        · refine lv_aload_n hx hb dX9_reckoned_73 rfl (lv_at hl 1 rfl) ?_
          refine va_get (D := (dC, dI)) (ci := 6) (v := .ref x3) (C := RX9) (T := TX9) (N := 24) hx hb hts mi_X9_reckoned_X9 hown hK hP 0 rfl rfl 3 (by decide) (hts (.fieldLink RX9 16 "ScoreboardCoreModel" "\x72" "[J") mm_X9_reckoned_f16) (fun _ h9 => h9) rfl dX9_reckoned_74 ?_
          refine lv_aload_n hx hb dX9_reckoned_77 rfl (lv_at hl 1 rfl) ?_
          refine va_get (D := (dC, dI)) (ci := 6) (v := .int xj) (C := RX9) (T := TX9) (N := 24) hx hb hts mi_X9_reckoned_X9 hown hK hP 0 rfl rfl 18 (by decide) (hts (.fieldLink RX9 83 "ScoreboardCoreModel" "j" "I") mm_X9_reckoned_f83) (fun _ h9 => h9) rfl dX9_reckoned_78 ?_
          refine va_lald (D := (dC, dI)) hx hb hK hP 3 1 rfl rfl hj.x dX9_reckoned_81 ?_
          refine lv_aload_n hx hb dX9_reckoned_82 rfl (lv_at hl 1 rfl) ?_
          refine va_get (D := (dC, dI)) (ci := 6) (v := .ref x3) (C := RX9) (T := TX9) (N := 24) hx hb hts mi_X9_reckoned_X9 hown hK hP 0 rfl rfl 3 (by decide) (hts (.fieldLink RX9 16 "ScoreboardCoreModel" "\x72" "[J") mm_X9_reckoned_f16) (fun _ h9 => h9) rfl dX9_reckoned_83 ?_
          refine lv_aload_n hx hb dX9_reckoned_86 rfl (lv_at hl 1 rfl) ?_
          refine va_get (D := (dC, dI)) (ci := 6) (v := .int xk) (C := RX9) (T := TX9) (N := 24) hx hb hts mi_X9_reckoned_X9 hown hK hP 0 rfl rfl 19 (by decide) (hts (.fieldLink RX9 86 "ScoreboardCoreModel" "k" "I") mm_X9_reckoned_f86) (fun _ h9 => h9) rfl dX9_reckoned_87 ?_
          refine va_lald (D := (dC, dI)) hx hb hK hP 3 1 rfl rfl hk.x dX9_reckoned_90 ?_
          refine lv_ldc2 (v := (1152921504606846975 : Int64)) hx hb hown (hts _ mm_X9_reckoned_k42) dX9_reckoned_91 ?_
          refine roSl (As := [.long (xr xj.toNatClampNeg), .long (xr xk.toNatClampNeg), .long (1152921504606846975 : Int64)]) (rest := []) (bytes := cX9_less) (maxL := 6) (rty := (some .long)) (n := 3) C0 (c_X9_less l dC dI cI cJ (xr xj.toNatClampNeg) (xr xk.toNatClampNeg) (1152921504606846975 : Int64)) ⟨rfl, rfl, rfl, by decide +kernel, by decide, by decide⟩ ggX9_reckoned_X9_less mm_X9_reckoned_iX9 mm_X9_reckoned_l129 mm_X9_reckoned_tX9_less (hP.sub (ws' := []) [] rfl) hK hl.1 rfl rfl (Nat.le_of_ble_eq_true rfl) dX9_reckoned_94 ⟨Nat.zero_le _, Nat.zero_le _⟩ ?_
          have e9 : (F_X9_reckoned xo xi xj xk xr ) = (F_X9_less (xr xj.toNatClampNeg) (xr xk.toNatClampNeg) (1152921504606846975 : Int64)) := by rw [F_X9_reckoned, if_pos c1, if_pos c2, if_neg c3, if_pos c4]
          rw [e9] at hV
          subst hV
          exact roRetL C0 rfl dX9_reckoned_97
      · refine lv_aload_n hx hb dX9_reckoned_39 rfl (lv_at hl 1 rfl) ?_
        refine va_get (D := (dC, dI)) (ci := 6) (v := .ref x3) (C := RX9) (T := TX9) (N := 24) hx hb hts mi_X9_reckoned_X9 hown hK hP 0 rfl rfl 3 (by decide) (hts (.fieldLink RX9 16 "ScoreboardCoreModel" "\x72" "[J") mm_X9_reckoned_f16) (fun _ h9 => h9) rfl dX9_reckoned_40 ?_
        refine lv_aload_n hx hb dX9_reckoned_43 rfl (lv_at hl 1 rfl) ?_
        refine va_get (D := (dC, dI)) (ci := 6) (v := .int xj) (C := RX9) (T := TX9) (N := 24) hx hb hts mi_X9_reckoned_X9 hown hK hP 0 rfl rfl 18 (by decide) (hts (.fieldLink RX9 83 "ScoreboardCoreModel" "j" "I") mm_X9_reckoned_f83) (fun _ h9 => h9) rfl dX9_reckoned_44 ?_
        refine va_lald (D := (dC, dI)) hx hb hK hP 3 1 rfl rfl hj.x dX9_reckoned_47 ?_
        refine lv_aload_n hx hb dX9_reckoned_48 rfl (lv_at hl 1 rfl) ?_
        refine va_get (D := (dC, dI)) (ci := 6) (v := .ref x3) (C := RX9) (T := TX9) (N := 24) hx hb hts mi_X9_reckoned_X9 hown hK hP 0 rfl rfl 3 (by decide) (hts (.fieldLink RX9 16 "ScoreboardCoreModel" "\x72" "[J") mm_X9_reckoned_f16) (fun _ h9 => h9) rfl dX9_reckoned_49 ?_
        refine lv_aload_n hx hb dX9_reckoned_52 rfl (lv_at hl 1 rfl) ?_
        refine va_get (D := (dC, dI)) (ci := 6) (v := .int xk) (C := RX9) (T := TX9) (N := 24) hx hb hts mi_X9_reckoned_X9 hown hK hP 0 rfl rfl 19 (by decide) (hts (.fieldLink RX9 86 "ScoreboardCoreModel" "k" "I") mm_X9_reckoned_f86) (fun _ h9 => h9) rfl dX9_reckoned_53 ?_
        refine va_lald (D := (dC, dI)) hx hb hK hP 3 1 rfl rfl hk.x dX9_reckoned_56 ?_
        refine lv_ldc2 (v := (1152921504606846975 : Int64)) hx hb hown (hts _ mm_X9_reckoned_k42) dX9_reckoned_57 ?_
        refine roSl (As := [.long (xr xj.toNatClampNeg), .long (xr xk.toNatClampNeg), .long (1152921504606846975 : Int64)]) (rest := []) (bytes := cX9_sum) (maxL := 8) (rty := (some .long)) (n := 3) C0 (c_X9_sum l dC dI cI cJ (xr xj.toNatClampNeg) (xr xk.toNatClampNeg) (1152921504606846975 : Int64)) ⟨rfl, rfl, rfl, by decide +kernel, by decide, by decide⟩ ggX9_reckoned_X9_sum mm_X9_reckoned_iX9 mm_X9_reckoned_l56 mm_X9_reckoned_tX9_sum (hP.sub (ws' := []) [] rfl) hK hl.1 rfl rfl (Nat.le_of_ble_eq_true rfl) dX9_reckoned_60 ⟨Nat.zero_le _, Nat.zero_le _⟩ ?_
        have e9 : (F_X9_reckoned xo xi xj xk xr ) = (F_X9_sum (xr xj.toNatClampNeg) (xr xk.toNatClampNeg) (1152921504606846975 : Int64)) := by rw [F_X9_reckoned, if_pos c1, if_pos c2, if_pos c3]
        rw [e9] at hV
        subst hV
        exact roRetL C0 rfl dX9_reckoned_63
    · refine lv_aload_n hx hb dX9_reckoned_25 rfl (lv_at hl 1 rfl) ?_
      refine roVl (As := []) (rest := []) (bytes := cX9_shifted) (maxL := 5) (rty := (some .long)) (n := 0) (ci := 6) C0 (c_X9_shifted l dC dI cI cJ hX x1 x2 x3 x4 x5 x6 x7 x8 xt xw xp xs xc xM xE xL xo xi xj xk xn xz xa xg xmw xmp xr xd xwt xf xrd xu hi hj hk) ⟨rfl, rfl, rfl, by decide +kernel, by decide, by decide⟩ ggX9_reckoned_X9_shifted mm_X9_reckoned_iX9 mm_X9_reckoned_l126 mm_X9_reckoned_nX9_shifted mm_X9_reckoned_sX9_shifted rfl rfl (hP.sub (ws' := [(hX, .inr (6, [.int xt, .ref x1, .ref x2, .ref x3, .int xw, .int xp, .int xs, .long xc, .ref x4, .ref x5, .ref x6, .ref x7, .ref x8, .long xM, .long xE, .long xL, .int xo, .int xi, .int xj, .int xk, .int xn, .int xz, .int xa, .int xg])), (x1, .inl (cJ, 512, .inr (.inl xmw))), (x2, .inl (cJ, 512, .inr (.inl xmp))), (x3, .inl (cJ, 24, .inr (.inl xr))), (x4, .inl (cI, 8, .inl xd)), (x5, .inl (cJ, 5, .inr (.inl xwt))), (x6, .inl (cJ, 24, .inr (.inl xf))), (x7, .inl (cJ, 24, .inr (.inl xrd))), (x8, .inl (cJ, 6, .inr (.inl xu)))]) [0, 1, 2, 3, 4, 5, 6, 7, 8] rfl) hK hl.1 rfl rfl (Nat.le_of_ble_eq_true rfl) dX9_reckoned_26 ⟨Nat.zero_le _, Nat.zero_le _⟩ ?_
      have e9 : (F_X9_reckoned xo xi xj xk xr ) = (F_X9_shifted xo xi xj xk xr) := by rw [F_X9_reckoned, if_pos c1, if_neg c2]
      rw [e9] at hV
      subst hV
      exact roRetL C0 rfl dX9_reckoned_29
  · refine lv_aload_n hx hb dX9_reckoned_11 rfl (lv_at hl 1 rfl) ?_
    refine roVl (As := []) (rest := []) (bytes := cX9_mixed) (maxL := 5) (rty := (some .long)) (n := 0) (ci := 6) C0 (c_X9_mixed l dC dI cI cJ hX x1 x2 x3 x4 x5 x6 x7 x8 xt xw xp xs xc xM xE xL xo xi xj xk xn xz xa xg xmw xmp xr xd xwt xf xrd xu hi hj hk) ⟨rfl, rfl, rfl, by decide +kernel, by decide, by decide⟩ ggX9_reckoned_X9_mixed mm_X9_reckoned_iX9 mm_X9_reckoned_l122 mm_X9_reckoned_nX9_mixed mm_X9_reckoned_sX9_mixed rfl rfl (hP.sub (ws' := [(hX, .inr (6, [.int xt, .ref x1, .ref x2, .ref x3, .int xw, .int xp, .int xs, .long xc, .ref x4, .ref x5, .ref x6, .ref x7, .ref x8, .long xM, .long xE, .long xL, .int xo, .int xi, .int xj, .int xk, .int xn, .int xz, .int xa, .int xg])), (x1, .inl (cJ, 512, .inr (.inl xmw))), (x2, .inl (cJ, 512, .inr (.inl xmp))), (x3, .inl (cJ, 24, .inr (.inl xr))), (x4, .inl (cI, 8, .inl xd)), (x5, .inl (cJ, 5, .inr (.inl xwt))), (x6, .inl (cJ, 24, .inr (.inl xf))), (x7, .inl (cJ, 24, .inr (.inl xrd))), (x8, .inl (cJ, 6, .inr (.inl xu)))]) [0, 1, 2, 3, 4, 5, 6, 7, 8] rfl) hK hl.1 rfl rfl (Nat.le_of_ble_eq_true rfl) dX9_reckoned_12 ⟨Nat.zero_le _, Nat.zero_le _⟩ ?_
    have e9 : (F_X9_reckoned xo xi xj xk xr ) = (F_X9_mixed xo xj xk xr) := by rw [F_X9_reckoned, if_neg c1]
    rw [e9] at hV
    subst hV
    exact roRetL C0 rfl dX9_reckoned_15
theorem c_X9_reckoned (l : Launch) (dC : Nat → ClassId) (dI : Nat → Nat → Nat) (cI cJ : ClassId) (hX x1 x2 x3 x4 x5 x6 x7 x8 : Nat) (xt : Int32) (xw : Int32) (xp : Int32) (xs : Int32) (xc : Int64) (xM : Int64) (xE : Int64) (xL : Int64) (xo : Int32) (xi : Int32) (xj : Int32) (xk : Int32) (xn : Int32) (xz : Int32) (xa : Int32) (xg : Int32) (xmw : Nat → Int64) (xmp : Nat → Int64) (xr : Nat → Int64) (xd : Nat → Int32) (xwt : Nat → Int64) (xf : Nat → Int64) (xrd : Nat → Int64) (xu : Nat → Int64) (hi : R8 xi) (hj : R8 xj) (hk : R8 xk) : RoL l yX9_reckoned wsX9_reckoned rm_X9_reckoned (dC, dI) [(cI, .int), (cJ, .long)] [(hX, .inr (6, [.int xt, .ref x1, .ref x2, .ref x3, .int xw, .int xp, .int xs, .long xc, .ref x4, .ref x5, .ref x6, .ref x7, .ref x8, .long xM, .long xE, .long xL, .int xo, .int xi, .int xj, .int xk, .int xn, .int xz, .int xa, .int xg])), (x1, .inl (cJ, 512, .inr (.inl xmw))), (x2, .inl (cJ, 512, .inr (.inl xmp))), (x3, .inl (cJ, 24, .inr (.inl xr))), (x4, .inl (cI, 8, .inl xd)), (x5, .inl (cJ, 5, .inr (.inl xwt))), (x6, .inl (cJ, 24, .inr (.inl xf))), (x7, .inl (cJ, 24, .inr (.inl xrd))), (x8, .inl (cJ, 6, .inr (.inl xu)))] [.ref hX] (F_X9_reckoned xo xi xj xk xr ) := by
  refine RoL.mk (cc := cX9_reckoned) (nL := 4) (ret := (some .long)) [(0, .ref hX)] (by decide) rfl (Nat.le_of_ble_eq_true rfl) rfl ?_
  intro p e s m below meth c C0 hP hK ls hl
  exact w_X9_reckoned dC dI cI cJ hX x1 x2 x3 x4 x5 x6 x7 x8 xt xw xp xs xc xM xE xL xo xi xj xk xn xz xa xg xmw xmp xr xd xwt xf xrd xu C0 hK hP hi hj hk rfl ls hl

-- X9_placed
def F_X9_placed (xo : Int32) (xj : Int32) (xk : Int32) (xn : Int32) (xr : Nat → Int64) : Int64 :=
  (if (xo - xo / (8 : Int32) * (8 : Int32)) = 0 then (if (3 : Int32) ≤ (xo - xo / (8 : Int32) * (8 : Int32)) then (if (xo - xo / (8 : Int32) * (8 : Int32)) = (5 : Int32) then (F_X9_less (xr ((8 : Int32) + xj).toNatClampNeg) (xr ((16 : Int32) + xk).toNatClampNeg) (262143 : Int64)) else (if (xo - xo / (8 : Int32) * (8 : Int32)) = (7 : Int32) then (F_X9_less (xr ((8 : Int32) + xj).toNatClampNeg) (xr ((16 : Int32) + xk).toNatClampNeg) (262143 : Int64)) else (F_X9_sum (xr ((8 : Int32) + xj).toNatClampNeg) (xr ((16 : Int32) + xk).toNatClampNeg) (262143 : Int64)))) else (if (xo - xo / (8 : Int32) * (8 : Int32)) = (5 : Int32) then (F_X9_less (xr ((8 : Int32) + xj).toNatClampNeg) xn.toInt64 (262143 : Int64)) else (if (xo - xo / (8 : Int32) * (8 : Int32)) = (7 : Int32) then (F_X9_less (xr ((8 : Int32) + xj).toNatClampNeg) xn.toInt64 (262143 : Int64)) else (F_X9_sum (xr ((8 : Int32) + xj).toNatClampNeg) xn.toInt64 (262143 : Int64))))) else (if (xo - xo / (8 : Int32) * (8 : Int32)) = (4 : Int32) then (if (3 : Int32) ≤ (xo - xo / (8 : Int32) * (8 : Int32)) then (if (xo - xo / (8 : Int32) * (8 : Int32)) = (5 : Int32) then (F_X9_less (xr ((8 : Int32) + xj).toNatClampNeg) (xr ((16 : Int32) + xk).toNatClampNeg) (262143 : Int64)) else (if (xo - xo / (8 : Int32) * (8 : Int32)) = (7 : Int32) then (F_X9_less (xr ((8 : Int32) + xj).toNatClampNeg) (xr ((16 : Int32) + xk).toNatClampNeg) (262143 : Int64)) else (F_X9_sum (xr ((8 : Int32) + xj).toNatClampNeg) (xr ((16 : Int32) + xk).toNatClampNeg) (262143 : Int64)))) else (if (xo - xo / (8 : Int32) * (8 : Int32)) = (5 : Int32) then (F_X9_less (xr ((8 : Int32) + xj).toNatClampNeg) xn.toInt64 (262143 : Int64)) else (if (xo - xo / (8 : Int32) * (8 : Int32)) = (7 : Int32) then (F_X9_less (xr ((8 : Int32) + xj).toNatClampNeg) xn.toInt64 (262143 : Int64)) else (F_X9_sum (xr ((8 : Int32) + xj).toNatClampNeg) xn.toInt64 (262143 : Int64))))) else (if (xo - xo / (8 : Int32) * (8 : Int32)) = (5 : Int32) then (if (3 : Int32) ≤ (xo - xo / (8 : Int32) * (8 : Int32)) then (if (xo - xo / (8 : Int32) * (8 : Int32)) = (5 : Int32) then (F_X9_less (xr ((8 : Int32) + xj).toNatClampNeg) (xr ((16 : Int32) + xk).toNatClampNeg) (262143 : Int64)) else (if (xo - xo / (8 : Int32) * (8 : Int32)) = (7 : Int32) then (F_X9_less (xr ((8 : Int32) + xj).toNatClampNeg) (xr ((16 : Int32) + xk).toNatClampNeg) (262143 : Int64)) else (F_X9_sum (xr ((8 : Int32) + xj).toNatClampNeg) (xr ((16 : Int32) + xk).toNatClampNeg) (262143 : Int64)))) else (if (xo - xo / (8 : Int32) * (8 : Int32)) = (5 : Int32) then (F_X9_less (xr ((8 : Int32) + xj).toNatClampNeg) xn.toInt64 (262143 : Int64)) else (if (xo - xo / (8 : Int32) * (8 : Int32)) = (7 : Int32) then (F_X9_less (xr ((8 : Int32) + xj).toNatClampNeg) xn.toInt64 (262143 : Int64)) else (F_X9_sum (xr ((8 : Int32) + xj).toNatClampNeg) xn.toInt64 (262143 : Int64))))) else (if (xo - xo / (8 : Int32) * (8 : Int32)) = (2 : Int32) then (if (3 : Int32) ≤ (xo - xo / (8 : Int32) * (8 : Int32)) then (if (xo - xo / (8 : Int32) * (8 : Int32)) = (5 : Int32) then (F_X9_less ((xr xj.toNatClampNeg) &&& (262143 : Int64)) (xr ((16 : Int32) + xk).toNatClampNeg) (262143 : Int64)) else (if (xo - xo / (8 : Int32) * (8 : Int32)) = (7 : Int32) then (F_X9_less ((xr xj.toNatClampNeg) &&& (262143 : Int64)) (xr ((16 : Int32) + xk).toNatClampNeg) (262143 : Int64)) else (F_X9_sum ((xr xj.toNatClampNeg) &&& (262143 : Int64)) (xr ((16 : Int32) + xk).toNatClampNeg) (262143 : Int64)))) else (if (xo - xo / (8 : Int32) * (8 : Int32)) = (5 : Int32) then (F_X9_less ((xr xj.toNatClampNeg) &&& (262143 : Int64)) xn.toInt64 (262143 : Int64)) else (if (xo - xo / (8 : Int32) * (8 : Int32)) = (7 : Int32) then (F_X9_less ((xr xj.toNatClampNeg) &&& (262143 : Int64)) xn.toInt64 (262143 : Int64)) else (F_X9_sum ((xr xj.toNatClampNeg) &&& (262143 : Int64)) xn.toInt64 (262143 : Int64))))) else (if (xo - xo / (8 : Int32) * (8 : Int32)) = (3 : Int32) then (if (3 : Int32) ≤ (xo - xo / (8 : Int32) * (8 : Int32)) then (if (xo - xo / (8 : Int32) * (8 : Int32)) = (5 : Int32) then (F_X9_less ((xr xj.toNatClampNeg) &&& (262143 : Int64)) (xr ((16 : Int32) + xk).toNatClampNeg) (262143 : Int64)) else (if (xo - xo / (8 : Int32) * (8 : Int32)) = (7 : Int32) then (F_X9_less ((xr xj.toNatClampNeg) &&& (262143 : Int64)) (xr ((16 : Int32) + xk).toNatClampNeg) (262143 : Int64)) else (F_X9_sum ((xr xj.toNatClampNeg) &&& (262143 : Int64)) (xr ((16 : Int32) + xk).toNatClampNeg) (262143 : Int64)))) else (if (xo - xo / (8 : Int32) * (8 : Int32)) = (5 : Int32) then (F_X9_less ((xr xj.toNatClampNeg) &&& (262143 : Int64)) xn.toInt64 (262143 : Int64)) else (if (xo - xo / (8 : Int32) * (8 : Int32)) = (7 : Int32) then (F_X9_less ((xr xj.toNatClampNeg) &&& (262143 : Int64)) xn.toInt64 (262143 : Int64)) else (F_X9_sum ((xr xj.toNatClampNeg) &&& (262143 : Int64)) xn.toInt64 (262143 : Int64))))) else (if (3 : Int32) ≤ (xo - xo / (8 : Int32) * (8 : Int32)) then (if (xo - xo / (8 : Int32) * (8 : Int32)) = (5 : Int32) then (F_X9_less (xr ((16 : Int32) + xj).toNatClampNeg) (xr ((16 : Int32) + xk).toNatClampNeg) (262143 : Int64)) else (if (xo - xo / (8 : Int32) * (8 : Int32)) = (7 : Int32) then (F_X9_less (xr ((16 : Int32) + xj).toNatClampNeg) (xr ((16 : Int32) + xk).toNatClampNeg) (262143 : Int64)) else (F_X9_sum (xr ((16 : Int32) + xj).toNatClampNeg) (xr ((16 : Int32) + xk).toNatClampNeg) (262143 : Int64)))) else (if (xo - xo / (8 : Int32) * (8 : Int32)) = (5 : Int32) then (F_X9_less (xr ((16 : Int32) + xj).toNatClampNeg) xn.toInt64 (262143 : Int64)) else (if (xo - xo / (8 : Int32) * (8 : Int32)) = (7 : Int32) then (F_X9_less (xr ((16 : Int32) + xj).toNatClampNeg) xn.toInt64 (262143 : Int64)) else (F_X9_sum (xr ((16 : Int32) + xj).toNatClampNeg) xn.toInt64 (262143 : Int64))))))))))
abbrev rm_X9_placed : Room := { frames := 2, cells := 0, slots := 0, locals := 52 }
set_option maxRecDepth 20000 in
theorem mi_X9_placed_X9 : ∀ w ∈ wsX90, w ∈ wsX9_placed := by decide +kernel
set_option maxRecDepth 20000 in
theorem mm_X9_placed_f16 : Cond.fieldLink RX9 16 "ScoreboardCoreModel" "\x72" "[J" ∈ wsX9_placed := by decide +kernel
set_option maxRecDepth 20000 in
theorem mm_X9_placed_f68 : Cond.fieldLink RX9 68 "ScoreboardCoreModel" "op" "I" ∈ wsX9_placed := by decide +kernel
set_option maxRecDepth 20000 in
theorem mm_X9_placed_f83 : Cond.fieldLink RX9 83 "ScoreboardCoreModel" "j" "I" ∈ wsX9_placed := by decide +kernel
set_option maxRecDepth 20000 in
theorem mm_X9_placed_f86 : Cond.fieldLink RX9 86 "ScoreboardCoreModel" "k" "I" ∈ wsX9_placed := by decide +kernel
set_option maxRecDepth 20000 in
theorem mm_X9_placed_f93 : Cond.fieldLink RX9 93 "ScoreboardCoreModel" "number" "I" ∈ wsX9_placed := by decide +kernel
set_option maxRecDepth 20000 in
theorem mm_X9_placed_iX9 : Cond.initialized RX9 ∈ wsX9_placed := by decide +kernel
set_option maxRecDepth 20000 in
theorem mm_X9_placed_k44 : Cond.constantLong RX9 44 (262143) ∈ wsX9_placed := by decide +kernel
set_option maxRecDepth 20000 in
theorem mm_X9_placed_l129 : Cond.methodLink RX9 129 yX9_less ∈ wsX9_placed := by decide +kernel
set_option maxRecDepth 20000 in
theorem mm_X9_placed_l56 : Cond.methodLink RX9 56 yX9_sum ∈ wsX9_placed := by decide +kernel
set_option maxRecDepth 20000 in
theorem mm_X9_placed_tX9_less : Cond.static yX9_less ∈ wsX9_placed := by decide +kernel
set_option maxRecDepth 20000 in
theorem mm_X9_placed_tX9_sum : Cond.static yX9_sum ∈ wsX9_placed := by decide +kernel
set_option maxHeartbeats 4000000 in
set_option maxRecDepth 100000 in
theorem w_X9_placed {p : Program} {l : Launch} {e : Env} {s : State} {m : MethodId} {below : List Frame} {meth : Method} {c : Code} {args : Array Value} (dC : Nat → ClassId) (dI : Nat → Nat → Nat) (cI cJ : ClassId) (hX x1 x2 x3 x4 x5 x6 x7 x8 : Nat) (xt : Int32) (xw : Int32) (xp : Int32) (xs : Int32) (xc : Int64) (xM : Int64) (xE : Int64) (xL : Int64) (xo : Int32) (xi : Int32) (xj : Int32) (xk : Int32) (xn : Int32) (xz : Int32) (xa : Int32) (xg : Int32) (xmw : Nat → Int64) (xmp : Nat → Int64) (xr : Nat → Int64) (xd : Nat → Int32) (xwt : Nat → Int64) (xf : Nat → Int64) (xrd : Nat → Int64) (xu : Nat → Int64) (C0 : Cx p s m meth c cX9_placed 6 (some .long) wsX9_placed RX9 args) (hK : va_K (dC, dI) vwCl [(cI, .int), (cJ, .long)] s) (hP : va_P (dC, dI) vwCl [(hX, .inr (6, [.int xt, .ref x1, .ref x2, .ref x3, .int xw, .int xp, .int xs, .long xc, .ref x4, .ref x5, .ref x6, .ref x7, .ref x8, .long xM, .long xE, .long xL, .int xo, .int xi, .int xj, .int xk, .int xn, .int xz, .int xa, .int xg])), (x1, .inl (cJ, 512, .inr (.inl xmw))), (x2, .inl (cJ, 512, .inr (.inl xmp))), (x3, .inl (cJ, 24, .inr (.inl xr))), (x4, .inl (cI, 8, .inl xd)), (x5, .inl (cJ, 5, .inr (.inl xwt))), (x6, .inl (cJ, 24, .inr (.inl xf))), (x7, .inl (cJ, 24, .inr (.inl xrd))), (x8, .inl (cJ, 6, .inr (.inl xu)))] s.heap) (hi : R8 xi) (hj : R8 xj) (hk : R8 xk) {V : Int64} (hV : (F_X9_placed xo xj xk xn xr ) = V) (ls : Array Slot) (hl : lv_has ls 6 [(0, .ref hX)]) : W p l e rm_X9_placed s m args below meth c s.heap [] 0 0 (MQ below (vp_Sl (fun r => r = V)) args s 0 0 (fun _ => False)) (F0 m 0 ls []) := by
  obtain ⟨hx, hb, hr, hlk, hml, hown, hts⟩ := id C0
  refine lv_aload_n hx hb dX9_placed_0 rfl (lv_at hl 0 rfl) ?_
  refine va_get (D := (dC, dI)) (ci := 6) (v := .int xo) (C := RX9) (T := TX9) (N := 24) hx hb hts mi_X9_placed_X9 hown hK hP 0 rfl rfl 16 (by decide) (hts (.fieldLink RX9 68 "ScoreboardCoreModel" "op" "I") mm_X9_placed_f68) (fun _ h9 => h9) rfl dX9_placed_1 ?_
  refine lv_bipush (v := (8 : Int32)) hx hb dX9_placed_4 (by decide) ?_
  refine lv_irem hx hb dX9_placed_6 (by decide) ?_
  refine lv_istore_n (lv' := [(1, .int (xo - xo / (8 : Int32) * (8 : Int32))), (0, .ref hX)]) hx hb dX9_placed_7 rfl hl (by decide) rfl (fun ls hl => ?_)
  refine lv_iload_n hx hb dX9_placed_8 rfl (lv_at hl 0 rfl) ?_
  refine lv_if_eq (x := (xo - xo / (8 : Int32) * (8 : Int32))) (tgt := 22) hx hb dX9_placed_9 (by decide) (fun c1 => ?_) (fun c1 => ?_)
  · refine lv_aload_n hx hb dX9_placed_22 rfl (lv_at hl 1 rfl) ?_
    refine va_get (D := (dC, dI)) (ci := 6) (v := .ref x3) (C := RX9) (T := TX9) (N := 24) hx hb hts mi_X9_placed_X9 hown hK hP 0 rfl rfl 3 (by decide) (hts (.fieldLink RX9 16 "ScoreboardCoreModel" "\x72" "[J") mm_X9_placed_f16) (fun _ h9 => h9) rfl dX9_placed_23 ?_
    refine lv_bipush (v := (8 : Int32)) hx hb dX9_placed_26 (by decide) ?_
    refine lv_aload_n hx hb dX9_placed_28 rfl (lv_at hl 1 rfl) ?_
    refine va_get (D := (dC, dI)) (ci := 6) (v := .int xj) (C := RX9) (T := TX9) (N := 24) hx hb hts mi_X9_placed_X9 hown hK hP 0 rfl rfl 18 (by decide) (hts (.fieldLink RX9 83 "ScoreboardCoreModel" "j" "I") mm_X9_placed_f83) (fun _ h9 => h9) rfl dX9_placed_29 ?_
    refine lv_iadd hx hb dX9_placed_32 ?_
    refine va_lald (D := (dC, dI)) hx hb hK hP 3 1 rfl rfl hj.a dX9_placed_33 ?_
    refine lv_goto (tgt := 75) hx hb dX9_placed_34 (by decide) ?_
    refine lv_lstore_n (lv' := [(2, .long (xr ((8 : Int32) + xj).toNatClampNeg)), (1, .int (xo - xo / (8 : Int32) * (8 : Int32))), (0, .ref hX)]) hx hb dX9_placed_75 rfl hl (by decide) rfl (fun ls hl => ?_)
    refine lv_iload_n hx hb dX9_placed_76 rfl (lv_at hl 1 rfl) ?_
    refine lv_iconst (v := (3 : Int32)) hx hb dX9_placed_77 (by decide) ?_
    refine lv_icmp_ge (x := (xo - xo / (8 : Int32) * (8 : Int32))) (y := (3 : Int32)) (tgt := 89) hx hb dX9_placed_78 (by decide) (fun c2 => ?_) (fun c2 => ?_)
    · refine lv_aload_n hx hb dX9_placed_89 rfl (lv_at hl 2 rfl) ?_
      refine va_get (D := (dC, dI)) (ci := 6) (v := .ref x3) (C := RX9) (T := TX9) (N := 24) hx hb hts mi_X9_placed_X9 hown hK hP 0 rfl rfl 3 (by decide) (hts (.fieldLink RX9 16 "ScoreboardCoreModel" "\x72" "[J") mm_X9_placed_f16) (fun _ h9 => h9) rfl dX9_placed_90 ?_
      refine lv_bipush (v := (16 : Int32)) hx hb dX9_placed_93 (by decide) ?_
      refine lv_aload_n hx hb dX9_placed_95 rfl (lv_at hl 2 rfl) ?_
      refine va_get (D := (dC, dI)) (ci := 6) (v := .int xk) (C := RX9) (T := TX9) (N := 24) hx hb hts mi_X9_placed_X9 hown hK hP 0 rfl rfl 19 (by decide) (hts (.fieldLink RX9 86 "ScoreboardCoreModel" "k" "I") mm_X9_placed_f86) (fun _ h9 => h9) rfl dX9_placed_96 ?_
      refine lv_iadd hx hb dX9_placed_99 ?_
      refine va_lald (D := (dC, dI)) hx hb hK hP 3 1 rfl rfl hk.b dX9_placed_100 ?_
      refine lv_lstore (lv' := [(4, .long (xr ((16 : Int32) + xk).toNatClampNeg)), (2, .long (xr ((8 : Int32) + xj).toNatClampNeg)), (1, .int (xo - xo / (8 : Int32) * (8 : Int32))), (0, .ref hX)]) hx hb dX9_placed_101 hl (by decide) rfl (fun ls hl => ?_)
      refine lv_iload_n hx hb dX9_placed_103 rfl (lv_at hl 2 rfl) ?_
      refine lv_iconst (v := (5 : Int32)) hx hb dX9_placed_104 (by decide) ?_
      refine lv_icmp_eq (x := (xo - xo / (8 : Int32) * (8 : Int32))) (y := (5 : Int32)) (tgt := 114) hx hb dX9_placed_105 (by decide) (fun c3 => ?_) (fun c3 => ?_)
      · refine lv_lload_n hx hb dX9_placed_114 rfl (lv_at hl 1 rfl) ?_
        refine lv_lload hx hb dX9_placed_115 (lv_at hl 0 rfl) ?_
        refine lv_ldc2 (v := (262143 : Int64)) hx hb hown (hts _ mm_X9_placed_k44) dX9_placed_117 ?_
        refine roSl (As := [.long (xr ((8 : Int32) + xj).toNatClampNeg), .long (xr ((16 : Int32) + xk).toNatClampNeg), .long (262143 : Int64)]) (rest := []) (bytes := cX9_less) (maxL := 6) (rty := (some .long)) (n := 3) C0 (c_X9_less l dC dI cI cJ (xr ((8 : Int32) + xj).toNatClampNeg) (xr ((16 : Int32) + xk).toNatClampNeg) (262143 : Int64)) ⟨rfl, rfl, rfl, by decide +kernel, by decide, by decide⟩ ggX9_placed_X9_less mm_X9_placed_iX9 mm_X9_placed_l129 mm_X9_placed_tX9_less (hP.sub (ws' := []) [] rfl) hK hl.1 rfl rfl (Nat.le_of_ble_eq_true rfl) dX9_placed_120 ⟨Nat.zero_le _, Nat.zero_le _⟩ ?_
        refine lv_goto (tgt := 135) hx hb dX9_placed_123 (by decide) ?_
        have e9 : (F_X9_placed xo xj xk xn xr ) = (F_X9_less (xr ((8 : Int32) + xj).toNatClampNeg) (xr ((16 : Int32) + xk).toNatClampNeg) (262143 : Int64)) := by rw [F_X9_placed, if_pos c1, if_pos c2, if_pos c3]
        rw [e9] at hV
        subst hV
        exact roRetL C0 rfl dX9_placed_135
      · refine lv_iload_n hx hb dX9_placed_108 rfl (lv_at hl 2 rfl) ?_
        refine lv_bipush (v := (7 : Int32)) hx hb dX9_placed_109 (by decide) ?_
        refine lv_icmp_ne (x := (xo - xo / (8 : Int32) * (8 : Int32))) (y := (7 : Int32)) (tgt := 126) hx hb dX9_placed_111 (by decide) (fun c4 => ?_) (fun c4 => ?_)
        · refine lv_lload_n hx hb dX9_placed_126 rfl (lv_at hl 1 rfl) ?_
          refine lv_lload hx hb dX9_placed_127 (lv_at hl 0 rfl) ?_
          refine lv_ldc2 (v := (262143 : Int64)) hx hb hown (hts _ mm_X9_placed_k44) dX9_placed_129 ?_
          refine roSl (As := [.long (xr ((8 : Int32) + xj).toNatClampNeg), .long (xr ((16 : Int32) + xk).toNatClampNeg), .long (262143 : Int64)]) (rest := []) (bytes := cX9_sum) (maxL := 8) (rty := (some .long)) (n := 3) C0 (c_X9_sum l dC dI cI cJ (xr ((8 : Int32) + xj).toNatClampNeg) (xr ((16 : Int32) + xk).toNatClampNeg) (262143 : Int64)) ⟨rfl, rfl, rfl, by decide +kernel, by decide, by decide⟩ ggX9_placed_X9_sum mm_X9_placed_iX9 mm_X9_placed_l56 mm_X9_placed_tX9_sum (hP.sub (ws' := []) [] rfl) hK hl.1 rfl rfl (Nat.le_of_ble_eq_true rfl) dX9_placed_132 ⟨Nat.zero_le _, Nat.zero_le _⟩ ?_
          have e9 : (F_X9_placed xo xj xk xn xr ) = (F_X9_sum (xr ((8 : Int32) + xj).toNatClampNeg) (xr ((16 : Int32) + xk).toNatClampNeg) (262143 : Int64)) := by rw [F_X9_placed, if_pos c1, if_pos c2, if_neg c3, if_neg c4]
          rw [e9] at hV
          subst hV
          exact roRetL C0 rfl dX9_placed_135
        · refine lv_lload_n hx hb dX9_placed_114 rfl (lv_at hl 1 rfl) ?_
          refine lv_lload hx hb dX9_placed_115 (lv_at hl 0 rfl) ?_
          refine lv_ldc2 (v := (262143 : Int64)) hx hb hown (hts _ mm_X9_placed_k44) dX9_placed_117 ?_
          refine roSl (As := [.long (xr ((8 : Int32) + xj).toNatClampNeg), .long (xr ((16 : Int32) + xk).toNatClampNeg), .long (262143 : Int64)]) (rest := []) (bytes := cX9_less) (maxL := 6) (rty := (some .long)) (n := 3) C0 (c_X9_less l dC dI cI cJ (xr ((8 : Int32) + xj).toNatClampNeg) (xr ((16 : Int32) + xk).toNatClampNeg) (262143 : Int64)) ⟨rfl, rfl, rfl, by decide +kernel, by decide, by decide⟩ ggX9_placed_X9_less mm_X9_placed_iX9 mm_X9_placed_l129 mm_X9_placed_tX9_less (hP.sub (ws' := []) [] rfl) hK hl.1 rfl rfl (Nat.le_of_ble_eq_true rfl) dX9_placed_120 ⟨Nat.zero_le _, Nat.zero_le _⟩ ?_
          refine lv_goto (tgt := 135) hx hb dX9_placed_123 (by decide) ?_
          have e9 : (F_X9_placed xo xj xk xn xr ) = (F_X9_less (xr ((8 : Int32) + xj).toNatClampNeg) (xr ((16 : Int32) + xk).toNatClampNeg) (262143 : Int64)) := by rw [F_X9_placed, if_pos c1, if_pos c2, if_neg c3, if_pos c4]
          rw [e9] at hV
          subst hV
          exact roRetL C0 rfl dX9_placed_135
    · refine lv_aload_n hx hb dX9_placed_81 rfl (lv_at hl 2 rfl) ?_
      refine va_get (D := (dC, dI)) (ci := 6) (v := .int xn) (C := RX9) (T := TX9) (N := 24) hx hb hts mi_X9_placed_X9 hown hK hP 0 rfl rfl 20 (by decide) (hts (.fieldLink RX9 93 "ScoreboardCoreModel" "number" "I") mm_X9_placed_f93) (fun _ h9 => h9) rfl dX9_placed_82 ?_
      refine lv_i2l hx hb dX9_placed_85 rfl ?_
      refine lv_goto (tgt := 101) hx hb dX9_placed_86 (by decide) ?_
      refine lv_lstore (lv' := [(4, .long xn.toInt64), (2, .long (xr ((8 : Int32) + xj).toNatClampNeg)), (1, .int (xo - xo / (8 : Int32) * (8 : Int32))), (0, .ref hX)]) hx hb dX9_placed_101 hl (by decide) rfl (fun ls hl => ?_)
      refine lv_iload_n hx hb dX9_placed_103 rfl (lv_at hl 2 rfl) ?_
      refine lv_iconst (v := (5 : Int32)) hx hb dX9_placed_104 (by decide) ?_
      refine lv_icmp_eq (x := (xo - xo / (8 : Int32) * (8 : Int32))) (y := (5 : Int32)) (tgt := 114) hx hb dX9_placed_105 (by decide) (fun c5 => ?_) (fun c5 => ?_)
      · refine lv_lload_n hx hb dX9_placed_114 rfl (lv_at hl 1 rfl) ?_
        refine lv_lload hx hb dX9_placed_115 (lv_at hl 0 rfl) ?_
        refine lv_ldc2 (v := (262143 : Int64)) hx hb hown (hts _ mm_X9_placed_k44) dX9_placed_117 ?_
        refine roSl (As := [.long (xr ((8 : Int32) + xj).toNatClampNeg), .long xn.toInt64, .long (262143 : Int64)]) (rest := []) (bytes := cX9_less) (maxL := 6) (rty := (some .long)) (n := 3) C0 (c_X9_less l dC dI cI cJ (xr ((8 : Int32) + xj).toNatClampNeg) xn.toInt64 (262143 : Int64)) ⟨rfl, rfl, rfl, by decide +kernel, by decide, by decide⟩ ggX9_placed_X9_less mm_X9_placed_iX9 mm_X9_placed_l129 mm_X9_placed_tX9_less (hP.sub (ws' := []) [] rfl) hK hl.1 rfl rfl (Nat.le_of_ble_eq_true rfl) dX9_placed_120 ⟨Nat.zero_le _, Nat.zero_le _⟩ ?_
        refine lv_goto (tgt := 135) hx hb dX9_placed_123 (by decide) ?_
        have e9 : (F_X9_placed xo xj xk xn xr ) = (F_X9_less (xr ((8 : Int32) + xj).toNatClampNeg) xn.toInt64 (262143 : Int64)) := by rw [F_X9_placed, if_pos c1, if_neg c2, if_pos c5]
        rw [e9] at hV
        subst hV
        exact roRetL C0 rfl dX9_placed_135
      · refine lv_iload_n hx hb dX9_placed_108 rfl (lv_at hl 2 rfl) ?_
        refine lv_bipush (v := (7 : Int32)) hx hb dX9_placed_109 (by decide) ?_
        refine lv_icmp_ne (x := (xo - xo / (8 : Int32) * (8 : Int32))) (y := (7 : Int32)) (tgt := 126) hx hb dX9_placed_111 (by decide) (fun c6 => ?_) (fun c6 => ?_)
        · refine lv_lload_n hx hb dX9_placed_126 rfl (lv_at hl 1 rfl) ?_
          refine lv_lload hx hb dX9_placed_127 (lv_at hl 0 rfl) ?_
          refine lv_ldc2 (v := (262143 : Int64)) hx hb hown (hts _ mm_X9_placed_k44) dX9_placed_129 ?_
          refine roSl (As := [.long (xr ((8 : Int32) + xj).toNatClampNeg), .long xn.toInt64, .long (262143 : Int64)]) (rest := []) (bytes := cX9_sum) (maxL := 8) (rty := (some .long)) (n := 3) C0 (c_X9_sum l dC dI cI cJ (xr ((8 : Int32) + xj).toNatClampNeg) xn.toInt64 (262143 : Int64)) ⟨rfl, rfl, rfl, by decide +kernel, by decide, by decide⟩ ggX9_placed_X9_sum mm_X9_placed_iX9 mm_X9_placed_l56 mm_X9_placed_tX9_sum (hP.sub (ws' := []) [] rfl) hK hl.1 rfl rfl (Nat.le_of_ble_eq_true rfl) dX9_placed_132 ⟨Nat.zero_le _, Nat.zero_le _⟩ ?_
          have e9 : (F_X9_placed xo xj xk xn xr ) = (F_X9_sum (xr ((8 : Int32) + xj).toNatClampNeg) xn.toInt64 (262143 : Int64)) := by rw [F_X9_placed, if_pos c1, if_neg c2, if_neg c5, if_neg c6]
          rw [e9] at hV
          subst hV
          exact roRetL C0 rfl dX9_placed_135
        · refine lv_lload_n hx hb dX9_placed_114 rfl (lv_at hl 1 rfl) ?_
          refine lv_lload hx hb dX9_placed_115 (lv_at hl 0 rfl) ?_
          refine lv_ldc2 (v := (262143 : Int64)) hx hb hown (hts _ mm_X9_placed_k44) dX9_placed_117 ?_
          refine roSl (As := [.long (xr ((8 : Int32) + xj).toNatClampNeg), .long xn.toInt64, .long (262143 : Int64)]) (rest := []) (bytes := cX9_less) (maxL := 6) (rty := (some .long)) (n := 3) C0 (c_X9_less l dC dI cI cJ (xr ((8 : Int32) + xj).toNatClampNeg) xn.toInt64 (262143 : Int64)) ⟨rfl, rfl, rfl, by decide +kernel, by decide, by decide⟩ ggX9_placed_X9_less mm_X9_placed_iX9 mm_X9_placed_l129 mm_X9_placed_tX9_less (hP.sub (ws' := []) [] rfl) hK hl.1 rfl rfl (Nat.le_of_ble_eq_true rfl) dX9_placed_120 ⟨Nat.zero_le _, Nat.zero_le _⟩ ?_
          refine lv_goto (tgt := 135) hx hb dX9_placed_123 (by decide) ?_
          have e9 : (F_X9_placed xo xj xk xn xr ) = (F_X9_less (xr ((8 : Int32) + xj).toNatClampNeg) xn.toInt64 (262143 : Int64)) := by rw [F_X9_placed, if_pos c1, if_neg c2, if_neg c5, if_pos c6]
          rw [e9] at hV
          subst hV
          exact roRetL C0 rfl dX9_placed_135
  · refine lv_iload_n hx hb dX9_placed_12 rfl (lv_at hl 0 rfl) ?_
    refine lv_iconst (v := (4 : Int32)) hx hb dX9_placed_13 (by decide) ?_
    refine lv_icmp_eq (x := (xo - xo / (8 : Int32) * (8 : Int32))) (y := (4 : Int32)) (tgt := 22) hx hb dX9_placed_14 (by decide) (fun c7 => ?_) (fun c7 => ?_)
    · refine lv_aload_n hx hb dX9_placed_22 rfl (lv_at hl 1 rfl) ?_
      refine va_get (D := (dC, dI)) (ci := 6) (v := .ref x3) (C := RX9) (T := TX9) (N := 24) hx hb hts mi_X9_placed_X9 hown hK hP 0 rfl rfl 3 (by decide) (hts (.fieldLink RX9 16 "ScoreboardCoreModel" "\x72" "[J") mm_X9_placed_f16) (fun _ h9 => h9) rfl dX9_placed_23 ?_
      refine lv_bipush (v := (8 : Int32)) hx hb dX9_placed_26 (by decide) ?_
      refine lv_aload_n hx hb dX9_placed_28 rfl (lv_at hl 1 rfl) ?_
      refine va_get (D := (dC, dI)) (ci := 6) (v := .int xj) (C := RX9) (T := TX9) (N := 24) hx hb hts mi_X9_placed_X9 hown hK hP 0 rfl rfl 18 (by decide) (hts (.fieldLink RX9 83 "ScoreboardCoreModel" "j" "I") mm_X9_placed_f83) (fun _ h9 => h9) rfl dX9_placed_29 ?_
      refine lv_iadd hx hb dX9_placed_32 ?_
      refine va_lald (D := (dC, dI)) hx hb hK hP 3 1 rfl rfl hj.a dX9_placed_33 ?_
      refine lv_goto (tgt := 75) hx hb dX9_placed_34 (by decide) ?_
      refine lv_lstore_n (lv' := [(2, .long (xr ((8 : Int32) + xj).toNatClampNeg)), (1, .int (xo - xo / (8 : Int32) * (8 : Int32))), (0, .ref hX)]) hx hb dX9_placed_75 rfl hl (by decide) rfl (fun ls hl => ?_)
      refine lv_iload_n hx hb dX9_placed_76 rfl (lv_at hl 1 rfl) ?_
      refine lv_iconst (v := (3 : Int32)) hx hb dX9_placed_77 (by decide) ?_
      refine lv_icmp_ge (x := (xo - xo / (8 : Int32) * (8 : Int32))) (y := (3 : Int32)) (tgt := 89) hx hb dX9_placed_78 (by decide) (fun c8 => ?_) (fun c8 => ?_)
      · refine lv_aload_n hx hb dX9_placed_89 rfl (lv_at hl 2 rfl) ?_
        refine va_get (D := (dC, dI)) (ci := 6) (v := .ref x3) (C := RX9) (T := TX9) (N := 24) hx hb hts mi_X9_placed_X9 hown hK hP 0 rfl rfl 3 (by decide) (hts (.fieldLink RX9 16 "ScoreboardCoreModel" "\x72" "[J") mm_X9_placed_f16) (fun _ h9 => h9) rfl dX9_placed_90 ?_
        refine lv_bipush (v := (16 : Int32)) hx hb dX9_placed_93 (by decide) ?_
        refine lv_aload_n hx hb dX9_placed_95 rfl (lv_at hl 2 rfl) ?_
        refine va_get (D := (dC, dI)) (ci := 6) (v := .int xk) (C := RX9) (T := TX9) (N := 24) hx hb hts mi_X9_placed_X9 hown hK hP 0 rfl rfl 19 (by decide) (hts (.fieldLink RX9 86 "ScoreboardCoreModel" "k" "I") mm_X9_placed_f86) (fun _ h9 => h9) rfl dX9_placed_96 ?_
        refine lv_iadd hx hb dX9_placed_99 ?_
        refine va_lald (D := (dC, dI)) hx hb hK hP 3 1 rfl rfl hk.b dX9_placed_100 ?_
        refine lv_lstore (lv' := [(4, .long (xr ((16 : Int32) + xk).toNatClampNeg)), (2, .long (xr ((8 : Int32) + xj).toNatClampNeg)), (1, .int (xo - xo / (8 : Int32) * (8 : Int32))), (0, .ref hX)]) hx hb dX9_placed_101 hl (by decide) rfl (fun ls hl => ?_)
        refine lv_iload_n hx hb dX9_placed_103 rfl (lv_at hl 2 rfl) ?_
        refine lv_iconst (v := (5 : Int32)) hx hb dX9_placed_104 (by decide) ?_
        refine lv_icmp_eq (x := (xo - xo / (8 : Int32) * (8 : Int32))) (y := (5 : Int32)) (tgt := 114) hx hb dX9_placed_105 (by decide) (fun c9 => ?_) (fun c9 => ?_)
        · refine lv_lload_n hx hb dX9_placed_114 rfl (lv_at hl 1 rfl) ?_
          refine lv_lload hx hb dX9_placed_115 (lv_at hl 0 rfl) ?_
          refine lv_ldc2 (v := (262143 : Int64)) hx hb hown (hts _ mm_X9_placed_k44) dX9_placed_117 ?_
          refine roSl (As := [.long (xr ((8 : Int32) + xj).toNatClampNeg), .long (xr ((16 : Int32) + xk).toNatClampNeg), .long (262143 : Int64)]) (rest := []) (bytes := cX9_less) (maxL := 6) (rty := (some .long)) (n := 3) C0 (c_X9_less l dC dI cI cJ (xr ((8 : Int32) + xj).toNatClampNeg) (xr ((16 : Int32) + xk).toNatClampNeg) (262143 : Int64)) ⟨rfl, rfl, rfl, by decide +kernel, by decide, by decide⟩ ggX9_placed_X9_less mm_X9_placed_iX9 mm_X9_placed_l129 mm_X9_placed_tX9_less (hP.sub (ws' := []) [] rfl) hK hl.1 rfl rfl (Nat.le_of_ble_eq_true rfl) dX9_placed_120 ⟨Nat.zero_le _, Nat.zero_le _⟩ ?_
          refine lv_goto (tgt := 135) hx hb dX9_placed_123 (by decide) ?_
          have e9 : (F_X9_placed xo xj xk xn xr ) = (F_X9_less (xr ((8 : Int32) + xj).toNatClampNeg) (xr ((16 : Int32) + xk).toNatClampNeg) (262143 : Int64)) := by rw [F_X9_placed, if_neg c1, if_pos c7, if_pos c8, if_pos c9]
          rw [e9] at hV
          subst hV
          exact roRetL C0 rfl dX9_placed_135
        · refine lv_iload_n hx hb dX9_placed_108 rfl (lv_at hl 2 rfl) ?_
          refine lv_bipush (v := (7 : Int32)) hx hb dX9_placed_109 (by decide) ?_
          refine lv_icmp_ne (x := (xo - xo / (8 : Int32) * (8 : Int32))) (y := (7 : Int32)) (tgt := 126) hx hb dX9_placed_111 (by decide) (fun c10 => ?_) (fun c10 => ?_)
          · refine lv_lload_n hx hb dX9_placed_126 rfl (lv_at hl 1 rfl) ?_
            refine lv_lload hx hb dX9_placed_127 (lv_at hl 0 rfl) ?_
            refine lv_ldc2 (v := (262143 : Int64)) hx hb hown (hts _ mm_X9_placed_k44) dX9_placed_129 ?_
            refine roSl (As := [.long (xr ((8 : Int32) + xj).toNatClampNeg), .long (xr ((16 : Int32) + xk).toNatClampNeg), .long (262143 : Int64)]) (rest := []) (bytes := cX9_sum) (maxL := 8) (rty := (some .long)) (n := 3) C0 (c_X9_sum l dC dI cI cJ (xr ((8 : Int32) + xj).toNatClampNeg) (xr ((16 : Int32) + xk).toNatClampNeg) (262143 : Int64)) ⟨rfl, rfl, rfl, by decide +kernel, by decide, by decide⟩ ggX9_placed_X9_sum mm_X9_placed_iX9 mm_X9_placed_l56 mm_X9_placed_tX9_sum (hP.sub (ws' := []) [] rfl) hK hl.1 rfl rfl (Nat.le_of_ble_eq_true rfl) dX9_placed_132 ⟨Nat.zero_le _, Nat.zero_le _⟩ ?_
            have e9 : (F_X9_placed xo xj xk xn xr ) = (F_X9_sum (xr ((8 : Int32) + xj).toNatClampNeg) (xr ((16 : Int32) + xk).toNatClampNeg) (262143 : Int64)) := by rw [F_X9_placed, if_neg c1, if_pos c7, if_pos c8, if_neg c9, if_neg c10]
            rw [e9] at hV
            subst hV
            exact roRetL C0 rfl dX9_placed_135
          · refine lv_lload_n hx hb dX9_placed_114 rfl (lv_at hl 1 rfl) ?_
            refine lv_lload hx hb dX9_placed_115 (lv_at hl 0 rfl) ?_
            refine lv_ldc2 (v := (262143 : Int64)) hx hb hown (hts _ mm_X9_placed_k44) dX9_placed_117 ?_
            refine roSl (As := [.long (xr ((8 : Int32) + xj).toNatClampNeg), .long (xr ((16 : Int32) + xk).toNatClampNeg), .long (262143 : Int64)]) (rest := []) (bytes := cX9_less) (maxL := 6) (rty := (some .long)) (n := 3) C0 (c_X9_less l dC dI cI cJ (xr ((8 : Int32) + xj).toNatClampNeg) (xr ((16 : Int32) + xk).toNatClampNeg) (262143 : Int64)) ⟨rfl, rfl, rfl, by decide +kernel, by decide, by decide⟩ ggX9_placed_X9_less mm_X9_placed_iX9 mm_X9_placed_l129 mm_X9_placed_tX9_less (hP.sub (ws' := []) [] rfl) hK hl.1 rfl rfl (Nat.le_of_ble_eq_true rfl) dX9_placed_120 ⟨Nat.zero_le _, Nat.zero_le _⟩ ?_
            refine lv_goto (tgt := 135) hx hb dX9_placed_123 (by decide) ?_
            have e9 : (F_X9_placed xo xj xk xn xr ) = (F_X9_less (xr ((8 : Int32) + xj).toNatClampNeg) (xr ((16 : Int32) + xk).toNatClampNeg) (262143 : Int64)) := by rw [F_X9_placed, if_neg c1, if_pos c7, if_pos c8, if_neg c9, if_pos c10]
            rw [e9] at hV
            subst hV
            exact roRetL C0 rfl dX9_placed_135
      · refine lv_aload_n hx hb dX9_placed_81 rfl (lv_at hl 2 rfl) ?_
        refine va_get (D := (dC, dI)) (ci := 6) (v := .int xn) (C := RX9) (T := TX9) (N := 24) hx hb hts mi_X9_placed_X9 hown hK hP 0 rfl rfl 20 (by decide) (hts (.fieldLink RX9 93 "ScoreboardCoreModel" "number" "I") mm_X9_placed_f93) (fun _ h9 => h9) rfl dX9_placed_82 ?_
        refine lv_i2l hx hb dX9_placed_85 rfl ?_
        refine lv_goto (tgt := 101) hx hb dX9_placed_86 (by decide) ?_
        refine lv_lstore (lv' := [(4, .long xn.toInt64), (2, .long (xr ((8 : Int32) + xj).toNatClampNeg)), (1, .int (xo - xo / (8 : Int32) * (8 : Int32))), (0, .ref hX)]) hx hb dX9_placed_101 hl (by decide) rfl (fun ls hl => ?_)
        refine lv_iload_n hx hb dX9_placed_103 rfl (lv_at hl 2 rfl) ?_
        refine lv_iconst (v := (5 : Int32)) hx hb dX9_placed_104 (by decide) ?_
        refine lv_icmp_eq (x := (xo - xo / (8 : Int32) * (8 : Int32))) (y := (5 : Int32)) (tgt := 114) hx hb dX9_placed_105 (by decide) (fun c11 => ?_) (fun c11 => ?_)
        · refine lv_lload_n hx hb dX9_placed_114 rfl (lv_at hl 1 rfl) ?_
          refine lv_lload hx hb dX9_placed_115 (lv_at hl 0 rfl) ?_
          refine lv_ldc2 (v := (262143 : Int64)) hx hb hown (hts _ mm_X9_placed_k44) dX9_placed_117 ?_
          refine roSl (As := [.long (xr ((8 : Int32) + xj).toNatClampNeg), .long xn.toInt64, .long (262143 : Int64)]) (rest := []) (bytes := cX9_less) (maxL := 6) (rty := (some .long)) (n := 3) C0 (c_X9_less l dC dI cI cJ (xr ((8 : Int32) + xj).toNatClampNeg) xn.toInt64 (262143 : Int64)) ⟨rfl, rfl, rfl, by decide +kernel, by decide, by decide⟩ ggX9_placed_X9_less mm_X9_placed_iX9 mm_X9_placed_l129 mm_X9_placed_tX9_less (hP.sub (ws' := []) [] rfl) hK hl.1 rfl rfl (Nat.le_of_ble_eq_true rfl) dX9_placed_120 ⟨Nat.zero_le _, Nat.zero_le _⟩ ?_
          refine lv_goto (tgt := 135) hx hb dX9_placed_123 (by decide) ?_
          have e9 : (F_X9_placed xo xj xk xn xr ) = (F_X9_less (xr ((8 : Int32) + xj).toNatClampNeg) xn.toInt64 (262143 : Int64)) := by rw [F_X9_placed, if_neg c1, if_pos c7, if_neg c8, if_pos c11]
          rw [e9] at hV
          subst hV
          exact roRetL C0 rfl dX9_placed_135
        · refine lv_iload_n hx hb dX9_placed_108 rfl (lv_at hl 2 rfl) ?_
          refine lv_bipush (v := (7 : Int32)) hx hb dX9_placed_109 (by decide) ?_
          refine lv_icmp_ne (x := (xo - xo / (8 : Int32) * (8 : Int32))) (y := (7 : Int32)) (tgt := 126) hx hb dX9_placed_111 (by decide) (fun c12 => ?_) (fun c12 => ?_)
          · refine lv_lload_n hx hb dX9_placed_126 rfl (lv_at hl 1 rfl) ?_
            refine lv_lload hx hb dX9_placed_127 (lv_at hl 0 rfl) ?_
            refine lv_ldc2 (v := (262143 : Int64)) hx hb hown (hts _ mm_X9_placed_k44) dX9_placed_129 ?_
            refine roSl (As := [.long (xr ((8 : Int32) + xj).toNatClampNeg), .long xn.toInt64, .long (262143 : Int64)]) (rest := []) (bytes := cX9_sum) (maxL := 8) (rty := (some .long)) (n := 3) C0 (c_X9_sum l dC dI cI cJ (xr ((8 : Int32) + xj).toNatClampNeg) xn.toInt64 (262143 : Int64)) ⟨rfl, rfl, rfl, by decide +kernel, by decide, by decide⟩ ggX9_placed_X9_sum mm_X9_placed_iX9 mm_X9_placed_l56 mm_X9_placed_tX9_sum (hP.sub (ws' := []) [] rfl) hK hl.1 rfl rfl (Nat.le_of_ble_eq_true rfl) dX9_placed_132 ⟨Nat.zero_le _, Nat.zero_le _⟩ ?_
            have e9 : (F_X9_placed xo xj xk xn xr ) = (F_X9_sum (xr ((8 : Int32) + xj).toNatClampNeg) xn.toInt64 (262143 : Int64)) := by rw [F_X9_placed, if_neg c1, if_pos c7, if_neg c8, if_neg c11, if_neg c12]
            rw [e9] at hV
            subst hV
            exact roRetL C0 rfl dX9_placed_135
          · refine lv_lload_n hx hb dX9_placed_114 rfl (lv_at hl 1 rfl) ?_
            refine lv_lload hx hb dX9_placed_115 (lv_at hl 0 rfl) ?_
            refine lv_ldc2 (v := (262143 : Int64)) hx hb hown (hts _ mm_X9_placed_k44) dX9_placed_117 ?_
            refine roSl (As := [.long (xr ((8 : Int32) + xj).toNatClampNeg), .long xn.toInt64, .long (262143 : Int64)]) (rest := []) (bytes := cX9_less) (maxL := 6) (rty := (some .long)) (n := 3) C0 (c_X9_less l dC dI cI cJ (xr ((8 : Int32) + xj).toNatClampNeg) xn.toInt64 (262143 : Int64)) ⟨rfl, rfl, rfl, by decide +kernel, by decide, by decide⟩ ggX9_placed_X9_less mm_X9_placed_iX9 mm_X9_placed_l129 mm_X9_placed_tX9_less (hP.sub (ws' := []) [] rfl) hK hl.1 rfl rfl (Nat.le_of_ble_eq_true rfl) dX9_placed_120 ⟨Nat.zero_le _, Nat.zero_le _⟩ ?_
            refine lv_goto (tgt := 135) hx hb dX9_placed_123 (by decide) ?_
            have e9 : (F_X9_placed xo xj xk xn xr ) = (F_X9_less (xr ((8 : Int32) + xj).toNatClampNeg) xn.toInt64 (262143 : Int64)) := by rw [F_X9_placed, if_neg c1, if_pos c7, if_neg c8, if_neg c11, if_pos c12]
            rw [e9] at hV
            subst hV
            exact roRetL C0 rfl dX9_placed_135
    · refine lv_iload_n hx hb dX9_placed_17 rfl (lv_at hl 0 rfl) ?_
      refine lv_iconst (v := (5 : Int32)) hx hb dX9_placed_18 (by decide) ?_
      refine lv_icmp_ne (x := (xo - xo / (8 : Int32) * (8 : Int32))) (y := (5 : Int32)) (tgt := 37) hx hb dX9_placed_19 (by decide) (fun c13 => ?_) (fun c13 => ?_)
      · refine lv_iload_n hx hb dX9_placed_37 rfl (lv_at hl 0 rfl) ?_
        refine lv_iconst (v := (2 : Int32)) hx hb dX9_placed_38 (by decide) ?_
        refine lv_icmp_eq (x := (xo - xo / (8 : Int32) * (8 : Int32))) (y := (2 : Int32)) (tgt := 47) hx hb dX9_placed_39 (by decide) (fun c14 => ?_) (fun c14 => ?_)
        · refine lv_aload_n hx hb dX9_placed_47 rfl (lv_at hl 1 rfl) ?_
          refine va_get (D := (dC, dI)) (ci := 6) (v := .ref x3) (C := RX9) (T := TX9) (N := 24) hx hb hts mi_X9_placed_X9 hown hK hP 0 rfl rfl 3 (by decide) (hts (.fieldLink RX9 16 "ScoreboardCoreModel" "\x72" "[J") mm_X9_placed_f16) (fun _ h9 => h9) rfl dX9_placed_48 ?_
          refine lv_aload_n hx hb dX9_placed_51 rfl (lv_at hl 1 rfl) ?_
          refine va_get (D := (dC, dI)) (ci := 6) (v := .int xj) (C := RX9) (T := TX9) (N := 24) hx hb hts mi_X9_placed_X9 hown hK hP 0 rfl rfl 18 (by decide) (hts (.fieldLink RX9 83 "ScoreboardCoreModel" "j" "I") mm_X9_placed_f83) (fun _ h9 => h9) rfl dX9_placed_52 ?_
          refine va_lald (D := (dC, dI)) hx hb hK hP 3 1 rfl rfl hj.x dX9_placed_55 ?_
          refine lv_ldc2 (v := (262143 : Int64)) hx hb hown (hts _ mm_X9_placed_k44) dX9_placed_56 ?_
          refine lv_land hx hb dX9_placed_59 ?_
          refine lv_goto (tgt := 75) hx hb dX9_placed_60 (by decide) ?_
          refine lv_lstore_n (lv' := [(2, .long ((xr xj.toNatClampNeg) &&& (262143 : Int64))), (1, .int (xo - xo / (8 : Int32) * (8 : Int32))), (0, .ref hX)]) hx hb dX9_placed_75 rfl hl (by decide) rfl (fun ls hl => ?_)
          refine lv_iload_n hx hb dX9_placed_76 rfl (lv_at hl 1 rfl) ?_
          refine lv_iconst (v := (3 : Int32)) hx hb dX9_placed_77 (by decide) ?_
          refine lv_icmp_ge (x := (xo - xo / (8 : Int32) * (8 : Int32))) (y := (3 : Int32)) (tgt := 89) hx hb dX9_placed_78 (by decide) (fun c15 => ?_) (fun c15 => ?_)
          · refine lv_aload_n hx hb dX9_placed_89 rfl (lv_at hl 2 rfl) ?_
            refine va_get (D := (dC, dI)) (ci := 6) (v := .ref x3) (C := RX9) (T := TX9) (N := 24) hx hb hts mi_X9_placed_X9 hown hK hP 0 rfl rfl 3 (by decide) (hts (.fieldLink RX9 16 "ScoreboardCoreModel" "\x72" "[J") mm_X9_placed_f16) (fun _ h9 => h9) rfl dX9_placed_90 ?_
            refine lv_bipush (v := (16 : Int32)) hx hb dX9_placed_93 (by decide) ?_
            refine lv_aload_n hx hb dX9_placed_95 rfl (lv_at hl 2 rfl) ?_
            refine va_get (D := (dC, dI)) (ci := 6) (v := .int xk) (C := RX9) (T := TX9) (N := 24) hx hb hts mi_X9_placed_X9 hown hK hP 0 rfl rfl 19 (by decide) (hts (.fieldLink RX9 86 "ScoreboardCoreModel" "k" "I") mm_X9_placed_f86) (fun _ h9 => h9) rfl dX9_placed_96 ?_
            refine lv_iadd hx hb dX9_placed_99 ?_
            refine va_lald (D := (dC, dI)) hx hb hK hP 3 1 rfl rfl hk.b dX9_placed_100 ?_
            refine lv_lstore (lv' := [(4, .long (xr ((16 : Int32) + xk).toNatClampNeg)), (2, .long ((xr xj.toNatClampNeg) &&& (262143 : Int64))), (1, .int (xo - xo / (8 : Int32) * (8 : Int32))), (0, .ref hX)]) hx hb dX9_placed_101 hl (by decide) rfl (fun ls hl => ?_)
            refine lv_iload_n hx hb dX9_placed_103 rfl (lv_at hl 2 rfl) ?_
            refine lv_iconst (v := (5 : Int32)) hx hb dX9_placed_104 (by decide) ?_
            refine lv_icmp_eq (x := (xo - xo / (8 : Int32) * (8 : Int32))) (y := (5 : Int32)) (tgt := 114) hx hb dX9_placed_105 (by decide) (fun c16 => ?_) (fun c16 => ?_)
            · refine lv_lload_n hx hb dX9_placed_114 rfl (lv_at hl 1 rfl) ?_
              refine lv_lload hx hb dX9_placed_115 (lv_at hl 0 rfl) ?_
              refine lv_ldc2 (v := (262143 : Int64)) hx hb hown (hts _ mm_X9_placed_k44) dX9_placed_117 ?_
              refine roSl (As := [.long ((xr xj.toNatClampNeg) &&& (262143 : Int64)), .long (xr ((16 : Int32) + xk).toNatClampNeg), .long (262143 : Int64)]) (rest := []) (bytes := cX9_less) (maxL := 6) (rty := (some .long)) (n := 3) C0 (c_X9_less l dC dI cI cJ ((xr xj.toNatClampNeg) &&& (262143 : Int64)) (xr ((16 : Int32) + xk).toNatClampNeg) (262143 : Int64)) ⟨rfl, rfl, rfl, by decide +kernel, by decide, by decide⟩ ggX9_placed_X9_less mm_X9_placed_iX9 mm_X9_placed_l129 mm_X9_placed_tX9_less (hP.sub (ws' := []) [] rfl) hK hl.1 rfl rfl (Nat.le_of_ble_eq_true rfl) dX9_placed_120 ⟨Nat.zero_le _, Nat.zero_le _⟩ ?_
              refine lv_goto (tgt := 135) hx hb dX9_placed_123 (by decide) ?_
              have e9 : (F_X9_placed xo xj xk xn xr ) = (F_X9_less ((xr xj.toNatClampNeg) &&& (262143 : Int64)) (xr ((16 : Int32) + xk).toNatClampNeg) (262143 : Int64)) := by rw [F_X9_placed, if_neg c1, if_neg c7, if_neg c13, if_pos c14, if_pos c15, if_pos c16]
              rw [e9] at hV
              subst hV
              exact roRetL C0 rfl dX9_placed_135
            · refine lv_iload_n hx hb dX9_placed_108 rfl (lv_at hl 2 rfl) ?_
              refine lv_bipush (v := (7 : Int32)) hx hb dX9_placed_109 (by decide) ?_
              refine lv_icmp_ne (x := (xo - xo / (8 : Int32) * (8 : Int32))) (y := (7 : Int32)) (tgt := 126) hx hb dX9_placed_111 (by decide) (fun c17 => ?_) (fun c17 => ?_)
              · refine lv_lload_n hx hb dX9_placed_126 rfl (lv_at hl 1 rfl) ?_
                refine lv_lload hx hb dX9_placed_127 (lv_at hl 0 rfl) ?_
                refine lv_ldc2 (v := (262143 : Int64)) hx hb hown (hts _ mm_X9_placed_k44) dX9_placed_129 ?_
                refine roSl (As := [.long ((xr xj.toNatClampNeg) &&& (262143 : Int64)), .long (xr ((16 : Int32) + xk).toNatClampNeg), .long (262143 : Int64)]) (rest := []) (bytes := cX9_sum) (maxL := 8) (rty := (some .long)) (n := 3) C0 (c_X9_sum l dC dI cI cJ ((xr xj.toNatClampNeg) &&& (262143 : Int64)) (xr ((16 : Int32) + xk).toNatClampNeg) (262143 : Int64)) ⟨rfl, rfl, rfl, by decide +kernel, by decide, by decide⟩ ggX9_placed_X9_sum mm_X9_placed_iX9 mm_X9_placed_l56 mm_X9_placed_tX9_sum (hP.sub (ws' := []) [] rfl) hK hl.1 rfl rfl (Nat.le_of_ble_eq_true rfl) dX9_placed_132 ⟨Nat.zero_le _, Nat.zero_le _⟩ ?_
                have e9 : (F_X9_placed xo xj xk xn xr ) = (F_X9_sum ((xr xj.toNatClampNeg) &&& (262143 : Int64)) (xr ((16 : Int32) + xk).toNatClampNeg) (262143 : Int64)) := by rw [F_X9_placed, if_neg c1, if_neg c7, if_neg c13, if_pos c14, if_pos c15, if_neg c16, if_neg c17]
                rw [e9] at hV
                subst hV
                exact roRetL C0 rfl dX9_placed_135
              · refine lv_lload_n hx hb dX9_placed_114 rfl (lv_at hl 1 rfl) ?_
                refine lv_lload hx hb dX9_placed_115 (lv_at hl 0 rfl) ?_
                refine lv_ldc2 (v := (262143 : Int64)) hx hb hown (hts _ mm_X9_placed_k44) dX9_placed_117 ?_
                refine roSl (As := [.long ((xr xj.toNatClampNeg) &&& (262143 : Int64)), .long (xr ((16 : Int32) + xk).toNatClampNeg), .long (262143 : Int64)]) (rest := []) (bytes := cX9_less) (maxL := 6) (rty := (some .long)) (n := 3) C0 (c_X9_less l dC dI cI cJ ((xr xj.toNatClampNeg) &&& (262143 : Int64)) (xr ((16 : Int32) + xk).toNatClampNeg) (262143 : Int64)) ⟨rfl, rfl, rfl, by decide +kernel, by decide, by decide⟩ ggX9_placed_X9_less mm_X9_placed_iX9 mm_X9_placed_l129 mm_X9_placed_tX9_less (hP.sub (ws' := []) [] rfl) hK hl.1 rfl rfl (Nat.le_of_ble_eq_true rfl) dX9_placed_120 ⟨Nat.zero_le _, Nat.zero_le _⟩ ?_
                refine lv_goto (tgt := 135) hx hb dX9_placed_123 (by decide) ?_
                have e9 : (F_X9_placed xo xj xk xn xr ) = (F_X9_less ((xr xj.toNatClampNeg) &&& (262143 : Int64)) (xr ((16 : Int32) + xk).toNatClampNeg) (262143 : Int64)) := by rw [F_X9_placed, if_neg c1, if_neg c7, if_neg c13, if_pos c14, if_pos c15, if_neg c16, if_pos c17]
                rw [e9] at hV
                subst hV
                exact roRetL C0 rfl dX9_placed_135
          · refine lv_aload_n hx hb dX9_placed_81 rfl (lv_at hl 2 rfl) ?_
            refine va_get (D := (dC, dI)) (ci := 6) (v := .int xn) (C := RX9) (T := TX9) (N := 24) hx hb hts mi_X9_placed_X9 hown hK hP 0 rfl rfl 20 (by decide) (hts (.fieldLink RX9 93 "ScoreboardCoreModel" "number" "I") mm_X9_placed_f93) (fun _ h9 => h9) rfl dX9_placed_82 ?_
            refine lv_i2l hx hb dX9_placed_85 rfl ?_
            refine lv_goto (tgt := 101) hx hb dX9_placed_86 (by decide) ?_
            refine lv_lstore (lv' := [(4, .long xn.toInt64), (2, .long ((xr xj.toNatClampNeg) &&& (262143 : Int64))), (1, .int (xo - xo / (8 : Int32) * (8 : Int32))), (0, .ref hX)]) hx hb dX9_placed_101 hl (by decide) rfl (fun ls hl => ?_)
            refine lv_iload_n hx hb dX9_placed_103 rfl (lv_at hl 2 rfl) ?_
            refine lv_iconst (v := (5 : Int32)) hx hb dX9_placed_104 (by decide) ?_
            refine lv_icmp_eq (x := (xo - xo / (8 : Int32) * (8 : Int32))) (y := (5 : Int32)) (tgt := 114) hx hb dX9_placed_105 (by decide) (fun c18 => ?_) (fun c18 => ?_)
            · refine lv_lload_n hx hb dX9_placed_114 rfl (lv_at hl 1 rfl) ?_
              refine lv_lload hx hb dX9_placed_115 (lv_at hl 0 rfl) ?_
              refine lv_ldc2 (v := (262143 : Int64)) hx hb hown (hts _ mm_X9_placed_k44) dX9_placed_117 ?_
              refine roSl (As := [.long ((xr xj.toNatClampNeg) &&& (262143 : Int64)), .long xn.toInt64, .long (262143 : Int64)]) (rest := []) (bytes := cX9_less) (maxL := 6) (rty := (some .long)) (n := 3) C0 (c_X9_less l dC dI cI cJ ((xr xj.toNatClampNeg) &&& (262143 : Int64)) xn.toInt64 (262143 : Int64)) ⟨rfl, rfl, rfl, by decide +kernel, by decide, by decide⟩ ggX9_placed_X9_less mm_X9_placed_iX9 mm_X9_placed_l129 mm_X9_placed_tX9_less (hP.sub (ws' := []) [] rfl) hK hl.1 rfl rfl (Nat.le_of_ble_eq_true rfl) dX9_placed_120 ⟨Nat.zero_le _, Nat.zero_le _⟩ ?_
              refine lv_goto (tgt := 135) hx hb dX9_placed_123 (by decide) ?_
              have e9 : (F_X9_placed xo xj xk xn xr ) = (F_X9_less ((xr xj.toNatClampNeg) &&& (262143 : Int64)) xn.toInt64 (262143 : Int64)) := by rw [F_X9_placed, if_neg c1, if_neg c7, if_neg c13, if_pos c14, if_neg c15, if_pos c18]
              rw [e9] at hV
              subst hV
              exact roRetL C0 rfl dX9_placed_135
            · refine lv_iload_n hx hb dX9_placed_108 rfl (lv_at hl 2 rfl) ?_
              refine lv_bipush (v := (7 : Int32)) hx hb dX9_placed_109 (by decide) ?_
              refine lv_icmp_ne (x := (xo - xo / (8 : Int32) * (8 : Int32))) (y := (7 : Int32)) (tgt := 126) hx hb dX9_placed_111 (by decide) (fun c19 => ?_) (fun c19 => ?_)
              · refine lv_lload_n hx hb dX9_placed_126 rfl (lv_at hl 1 rfl) ?_
                refine lv_lload hx hb dX9_placed_127 (lv_at hl 0 rfl) ?_
                refine lv_ldc2 (v := (262143 : Int64)) hx hb hown (hts _ mm_X9_placed_k44) dX9_placed_129 ?_
                refine roSl (As := [.long ((xr xj.toNatClampNeg) &&& (262143 : Int64)), .long xn.toInt64, .long (262143 : Int64)]) (rest := []) (bytes := cX9_sum) (maxL := 8) (rty := (some .long)) (n := 3) C0 (c_X9_sum l dC dI cI cJ ((xr xj.toNatClampNeg) &&& (262143 : Int64)) xn.toInt64 (262143 : Int64)) ⟨rfl, rfl, rfl, by decide +kernel, by decide, by decide⟩ ggX9_placed_X9_sum mm_X9_placed_iX9 mm_X9_placed_l56 mm_X9_placed_tX9_sum (hP.sub (ws' := []) [] rfl) hK hl.1 rfl rfl (Nat.le_of_ble_eq_true rfl) dX9_placed_132 ⟨Nat.zero_le _, Nat.zero_le _⟩ ?_
                have e9 : (F_X9_placed xo xj xk xn xr ) = (F_X9_sum ((xr xj.toNatClampNeg) &&& (262143 : Int64)) xn.toInt64 (262143 : Int64)) := by rw [F_X9_placed, if_neg c1, if_neg c7, if_neg c13, if_pos c14, if_neg c15, if_neg c18, if_neg c19]
                rw [e9] at hV
                subst hV
                exact roRetL C0 rfl dX9_placed_135
              · refine lv_lload_n hx hb dX9_placed_114 rfl (lv_at hl 1 rfl) ?_
                refine lv_lload hx hb dX9_placed_115 (lv_at hl 0 rfl) ?_
                refine lv_ldc2 (v := (262143 : Int64)) hx hb hown (hts _ mm_X9_placed_k44) dX9_placed_117 ?_
                refine roSl (As := [.long ((xr xj.toNatClampNeg) &&& (262143 : Int64)), .long xn.toInt64, .long (262143 : Int64)]) (rest := []) (bytes := cX9_less) (maxL := 6) (rty := (some .long)) (n := 3) C0 (c_X9_less l dC dI cI cJ ((xr xj.toNatClampNeg) &&& (262143 : Int64)) xn.toInt64 (262143 : Int64)) ⟨rfl, rfl, rfl, by decide +kernel, by decide, by decide⟩ ggX9_placed_X9_less mm_X9_placed_iX9 mm_X9_placed_l129 mm_X9_placed_tX9_less (hP.sub (ws' := []) [] rfl) hK hl.1 rfl rfl (Nat.le_of_ble_eq_true rfl) dX9_placed_120 ⟨Nat.zero_le _, Nat.zero_le _⟩ ?_
                refine lv_goto (tgt := 135) hx hb dX9_placed_123 (by decide) ?_
                have e9 : (F_X9_placed xo xj xk xn xr ) = (F_X9_less ((xr xj.toNatClampNeg) &&& (262143 : Int64)) xn.toInt64 (262143 : Int64)) := by rw [F_X9_placed, if_neg c1, if_neg c7, if_neg c13, if_pos c14, if_neg c15, if_neg c18, if_pos c19]
                rw [e9] at hV
                subst hV
                exact roRetL C0 rfl dX9_placed_135
        · refine lv_iload_n hx hb dX9_placed_42 rfl (lv_at hl 0 rfl) ?_
          refine lv_iconst (v := (3 : Int32)) hx hb dX9_placed_43 (by decide) ?_
          refine lv_icmp_ne (x := (xo - xo / (8 : Int32) * (8 : Int32))) (y := (3 : Int32)) (tgt := 63) hx hb dX9_placed_44 (by decide) (fun c20 => ?_) (fun c20 => ?_)
          · refine lv_aload_n hx hb dX9_placed_63 rfl (lv_at hl 1 rfl) ?_
            refine va_get (D := (dC, dI)) (ci := 6) (v := .ref x3) (C := RX9) (T := TX9) (N := 24) hx hb hts mi_X9_placed_X9 hown hK hP 0 rfl rfl 3 (by decide) (hts (.fieldLink RX9 16 "ScoreboardCoreModel" "\x72" "[J") mm_X9_placed_f16) (fun _ h9 => h9) rfl dX9_placed_64 ?_
            refine lv_bipush (v := (16 : Int32)) hx hb dX9_placed_67 (by decide) ?_
            refine lv_aload_n hx hb dX9_placed_69 rfl (lv_at hl 1 rfl) ?_
            refine va_get (D := (dC, dI)) (ci := 6) (v := .int xj) (C := RX9) (T := TX9) (N := 24) hx hb hts mi_X9_placed_X9 hown hK hP 0 rfl rfl 18 (by decide) (hts (.fieldLink RX9 83 "ScoreboardCoreModel" "j" "I") mm_X9_placed_f83) (fun _ h9 => h9) rfl dX9_placed_70 ?_
            refine lv_iadd hx hb dX9_placed_73 ?_
            refine va_lald (D := (dC, dI)) hx hb hK hP 3 1 rfl rfl hj.b dX9_placed_74 ?_
            refine lv_lstore_n (lv' := [(2, .long (xr ((16 : Int32) + xj).toNatClampNeg)), (1, .int (xo - xo / (8 : Int32) * (8 : Int32))), (0, .ref hX)]) hx hb dX9_placed_75 rfl hl (by decide) rfl (fun ls hl => ?_)
            refine lv_iload_n hx hb dX9_placed_76 rfl (lv_at hl 1 rfl) ?_
            refine lv_iconst (v := (3 : Int32)) hx hb dX9_placed_77 (by decide) ?_
            refine lv_icmp_ge (x := (xo - xo / (8 : Int32) * (8 : Int32))) (y := (3 : Int32)) (tgt := 89) hx hb dX9_placed_78 (by decide) (fun c21 => ?_) (fun c21 => ?_)
            · refine lv_aload_n hx hb dX9_placed_89 rfl (lv_at hl 2 rfl) ?_
              refine va_get (D := (dC, dI)) (ci := 6) (v := .ref x3) (C := RX9) (T := TX9) (N := 24) hx hb hts mi_X9_placed_X9 hown hK hP 0 rfl rfl 3 (by decide) (hts (.fieldLink RX9 16 "ScoreboardCoreModel" "\x72" "[J") mm_X9_placed_f16) (fun _ h9 => h9) rfl dX9_placed_90 ?_
              refine lv_bipush (v := (16 : Int32)) hx hb dX9_placed_93 (by decide) ?_
              refine lv_aload_n hx hb dX9_placed_95 rfl (lv_at hl 2 rfl) ?_
              refine va_get (D := (dC, dI)) (ci := 6) (v := .int xk) (C := RX9) (T := TX9) (N := 24) hx hb hts mi_X9_placed_X9 hown hK hP 0 rfl rfl 19 (by decide) (hts (.fieldLink RX9 86 "ScoreboardCoreModel" "k" "I") mm_X9_placed_f86) (fun _ h9 => h9) rfl dX9_placed_96 ?_
              refine lv_iadd hx hb dX9_placed_99 ?_
              refine va_lald (D := (dC, dI)) hx hb hK hP 3 1 rfl rfl hk.b dX9_placed_100 ?_
              refine lv_lstore (lv' := [(4, .long (xr ((16 : Int32) + xk).toNatClampNeg)), (2, .long (xr ((16 : Int32) + xj).toNatClampNeg)), (1, .int (xo - xo / (8 : Int32) * (8 : Int32))), (0, .ref hX)]) hx hb dX9_placed_101 hl (by decide) rfl (fun ls hl => ?_)
              refine lv_iload_n hx hb dX9_placed_103 rfl (lv_at hl 2 rfl) ?_
              refine lv_iconst (v := (5 : Int32)) hx hb dX9_placed_104 (by decide) ?_
              refine lv_icmp_eq (x := (xo - xo / (8 : Int32) * (8 : Int32))) (y := (5 : Int32)) (tgt := 114) hx hb dX9_placed_105 (by decide) (fun c22 => ?_) (fun c22 => ?_)
              · refine lv_lload_n hx hb dX9_placed_114 rfl (lv_at hl 1 rfl) ?_
                refine lv_lload hx hb dX9_placed_115 (lv_at hl 0 rfl) ?_
                refine lv_ldc2 (v := (262143 : Int64)) hx hb hown (hts _ mm_X9_placed_k44) dX9_placed_117 ?_
                refine roSl (As := [.long (xr ((16 : Int32) + xj).toNatClampNeg), .long (xr ((16 : Int32) + xk).toNatClampNeg), .long (262143 : Int64)]) (rest := []) (bytes := cX9_less) (maxL := 6) (rty := (some .long)) (n := 3) C0 (c_X9_less l dC dI cI cJ (xr ((16 : Int32) + xj).toNatClampNeg) (xr ((16 : Int32) + xk).toNatClampNeg) (262143 : Int64)) ⟨rfl, rfl, rfl, by decide +kernel, by decide, by decide⟩ ggX9_placed_X9_less mm_X9_placed_iX9 mm_X9_placed_l129 mm_X9_placed_tX9_less (hP.sub (ws' := []) [] rfl) hK hl.1 rfl rfl (Nat.le_of_ble_eq_true rfl) dX9_placed_120 ⟨Nat.zero_le _, Nat.zero_le _⟩ ?_
                refine lv_goto (tgt := 135) hx hb dX9_placed_123 (by decide) ?_
                have e9 : (F_X9_placed xo xj xk xn xr ) = (F_X9_less (xr ((16 : Int32) + xj).toNatClampNeg) (xr ((16 : Int32) + xk).toNatClampNeg) (262143 : Int64)) := by rw [F_X9_placed, if_neg c1, if_neg c7, if_neg c13, if_neg c14, if_neg c20, if_pos c21, if_pos c22]
                rw [e9] at hV
                subst hV
                exact roRetL C0 rfl dX9_placed_135
              · refine lv_iload_n hx hb dX9_placed_108 rfl (lv_at hl 2 rfl) ?_
                refine lv_bipush (v := (7 : Int32)) hx hb dX9_placed_109 (by decide) ?_
                refine lv_icmp_ne (x := (xo - xo / (8 : Int32) * (8 : Int32))) (y := (7 : Int32)) (tgt := 126) hx hb dX9_placed_111 (by decide) (fun c23 => ?_) (fun c23 => ?_)
                · refine lv_lload_n hx hb dX9_placed_126 rfl (lv_at hl 1 rfl) ?_
                  refine lv_lload hx hb dX9_placed_127 (lv_at hl 0 rfl) ?_
                  refine lv_ldc2 (v := (262143 : Int64)) hx hb hown (hts _ mm_X9_placed_k44) dX9_placed_129 ?_
                  refine roSl (As := [.long (xr ((16 : Int32) + xj).toNatClampNeg), .long (xr ((16 : Int32) + xk).toNatClampNeg), .long (262143 : Int64)]) (rest := []) (bytes := cX9_sum) (maxL := 8) (rty := (some .long)) (n := 3) C0 (c_X9_sum l dC dI cI cJ (xr ((16 : Int32) + xj).toNatClampNeg) (xr ((16 : Int32) + xk).toNatClampNeg) (262143 : Int64)) ⟨rfl, rfl, rfl, by decide +kernel, by decide, by decide⟩ ggX9_placed_X9_sum mm_X9_placed_iX9 mm_X9_placed_l56 mm_X9_placed_tX9_sum (hP.sub (ws' := []) [] rfl) hK hl.1 rfl rfl (Nat.le_of_ble_eq_true rfl) dX9_placed_132 ⟨Nat.zero_le _, Nat.zero_le _⟩ ?_
                  have e9 : (F_X9_placed xo xj xk xn xr ) = (F_X9_sum (xr ((16 : Int32) + xj).toNatClampNeg) (xr ((16 : Int32) + xk).toNatClampNeg) (262143 : Int64)) := by rw [F_X9_placed, if_neg c1, if_neg c7, if_neg c13, if_neg c14, if_neg c20, if_pos c21, if_neg c22, if_neg c23]
                  rw [e9] at hV
                  subst hV
                  exact roRetL C0 rfl dX9_placed_135
                · refine lv_lload_n hx hb dX9_placed_114 rfl (lv_at hl 1 rfl) ?_
                  refine lv_lload hx hb dX9_placed_115 (lv_at hl 0 rfl) ?_
                  refine lv_ldc2 (v := (262143 : Int64)) hx hb hown (hts _ mm_X9_placed_k44) dX9_placed_117 ?_
                  refine roSl (As := [.long (xr ((16 : Int32) + xj).toNatClampNeg), .long (xr ((16 : Int32) + xk).toNatClampNeg), .long (262143 : Int64)]) (rest := []) (bytes := cX9_less) (maxL := 6) (rty := (some .long)) (n := 3) C0 (c_X9_less l dC dI cI cJ (xr ((16 : Int32) + xj).toNatClampNeg) (xr ((16 : Int32) + xk).toNatClampNeg) (262143 : Int64)) ⟨rfl, rfl, rfl, by decide +kernel, by decide, by decide⟩ ggX9_placed_X9_less mm_X9_placed_iX9 mm_X9_placed_l129 mm_X9_placed_tX9_less (hP.sub (ws' := []) [] rfl) hK hl.1 rfl rfl (Nat.le_of_ble_eq_true rfl) dX9_placed_120 ⟨Nat.zero_le _, Nat.zero_le _⟩ ?_
                  refine lv_goto (tgt := 135) hx hb dX9_placed_123 (by decide) ?_
                  have e9 : (F_X9_placed xo xj xk xn xr ) = (F_X9_less (xr ((16 : Int32) + xj).toNatClampNeg) (xr ((16 : Int32) + xk).toNatClampNeg) (262143 : Int64)) := by rw [F_X9_placed, if_neg c1, if_neg c7, if_neg c13, if_neg c14, if_neg c20, if_pos c21, if_neg c22, if_pos c23]
                  rw [e9] at hV
                  subst hV
                  exact roRetL C0 rfl dX9_placed_135
            · refine lv_aload_n hx hb dX9_placed_81 rfl (lv_at hl 2 rfl) ?_
              refine va_get (D := (dC, dI)) (ci := 6) (v := .int xn) (C := RX9) (T := TX9) (N := 24) hx hb hts mi_X9_placed_X9 hown hK hP 0 rfl rfl 20 (by decide) (hts (.fieldLink RX9 93 "ScoreboardCoreModel" "number" "I") mm_X9_placed_f93) (fun _ h9 => h9) rfl dX9_placed_82 ?_
              refine lv_i2l hx hb dX9_placed_85 rfl ?_
              refine lv_goto (tgt := 101) hx hb dX9_placed_86 (by decide) ?_
              refine lv_lstore (lv' := [(4, .long xn.toInt64), (2, .long (xr ((16 : Int32) + xj).toNatClampNeg)), (1, .int (xo - xo / (8 : Int32) * (8 : Int32))), (0, .ref hX)]) hx hb dX9_placed_101 hl (by decide) rfl (fun ls hl => ?_)
              refine lv_iload_n hx hb dX9_placed_103 rfl (lv_at hl 2 rfl) ?_
              refine lv_iconst (v := (5 : Int32)) hx hb dX9_placed_104 (by decide) ?_
              refine lv_icmp_eq (x := (xo - xo / (8 : Int32) * (8 : Int32))) (y := (5 : Int32)) (tgt := 114) hx hb dX9_placed_105 (by decide) (fun c24 => ?_) (fun c24 => ?_)
              · refine lv_lload_n hx hb dX9_placed_114 rfl (lv_at hl 1 rfl) ?_
                refine lv_lload hx hb dX9_placed_115 (lv_at hl 0 rfl) ?_
                refine lv_ldc2 (v := (262143 : Int64)) hx hb hown (hts _ mm_X9_placed_k44) dX9_placed_117 ?_
                refine roSl (As := [.long (xr ((16 : Int32) + xj).toNatClampNeg), .long xn.toInt64, .long (262143 : Int64)]) (rest := []) (bytes := cX9_less) (maxL := 6) (rty := (some .long)) (n := 3) C0 (c_X9_less l dC dI cI cJ (xr ((16 : Int32) + xj).toNatClampNeg) xn.toInt64 (262143 : Int64)) ⟨rfl, rfl, rfl, by decide +kernel, by decide, by decide⟩ ggX9_placed_X9_less mm_X9_placed_iX9 mm_X9_placed_l129 mm_X9_placed_tX9_less (hP.sub (ws' := []) [] rfl) hK hl.1 rfl rfl (Nat.le_of_ble_eq_true rfl) dX9_placed_120 ⟨Nat.zero_le _, Nat.zero_le _⟩ ?_
                refine lv_goto (tgt := 135) hx hb dX9_placed_123 (by decide) ?_
                have e9 : (F_X9_placed xo xj xk xn xr ) = (F_X9_less (xr ((16 : Int32) + xj).toNatClampNeg) xn.toInt64 (262143 : Int64)) := by rw [F_X9_placed, if_neg c1, if_neg c7, if_neg c13, if_neg c14, if_neg c20, if_neg c21, if_pos c24]
                rw [e9] at hV
                subst hV
                exact roRetL C0 rfl dX9_placed_135
              · refine lv_iload_n hx hb dX9_placed_108 rfl (lv_at hl 2 rfl) ?_
                refine lv_bipush (v := (7 : Int32)) hx hb dX9_placed_109 (by decide) ?_
                refine lv_icmp_ne (x := (xo - xo / (8 : Int32) * (8 : Int32))) (y := (7 : Int32)) (tgt := 126) hx hb dX9_placed_111 (by decide) (fun c25 => ?_) (fun c25 => ?_)
                · refine lv_lload_n hx hb dX9_placed_126 rfl (lv_at hl 1 rfl) ?_
                  refine lv_lload hx hb dX9_placed_127 (lv_at hl 0 rfl) ?_
                  refine lv_ldc2 (v := (262143 : Int64)) hx hb hown (hts _ mm_X9_placed_k44) dX9_placed_129 ?_
                  refine roSl (As := [.long (xr ((16 : Int32) + xj).toNatClampNeg), .long xn.toInt64, .long (262143 : Int64)]) (rest := []) (bytes := cX9_sum) (maxL := 8) (rty := (some .long)) (n := 3) C0 (c_X9_sum l dC dI cI cJ (xr ((16 : Int32) + xj).toNatClampNeg) xn.toInt64 (262143 : Int64)) ⟨rfl, rfl, rfl, by decide +kernel, by decide, by decide⟩ ggX9_placed_X9_sum mm_X9_placed_iX9 mm_X9_placed_l56 mm_X9_placed_tX9_sum (hP.sub (ws' := []) [] rfl) hK hl.1 rfl rfl (Nat.le_of_ble_eq_true rfl) dX9_placed_132 ⟨Nat.zero_le _, Nat.zero_le _⟩ ?_
                  have e9 : (F_X9_placed xo xj xk xn xr ) = (F_X9_sum (xr ((16 : Int32) + xj).toNatClampNeg) xn.toInt64 (262143 : Int64)) := by rw [F_X9_placed, if_neg c1, if_neg c7, if_neg c13, if_neg c14, if_neg c20, if_neg c21, if_neg c24, if_neg c25]
                  rw [e9] at hV
                  subst hV
                  exact roRetL C0 rfl dX9_placed_135
                · refine lv_lload_n hx hb dX9_placed_114 rfl (lv_at hl 1 rfl) ?_
                  refine lv_lload hx hb dX9_placed_115 (lv_at hl 0 rfl) ?_
                  refine lv_ldc2 (v := (262143 : Int64)) hx hb hown (hts _ mm_X9_placed_k44) dX9_placed_117 ?_
                  refine roSl (As := [.long (xr ((16 : Int32) + xj).toNatClampNeg), .long xn.toInt64, .long (262143 : Int64)]) (rest := []) (bytes := cX9_less) (maxL := 6) (rty := (some .long)) (n := 3) C0 (c_X9_less l dC dI cI cJ (xr ((16 : Int32) + xj).toNatClampNeg) xn.toInt64 (262143 : Int64)) ⟨rfl, rfl, rfl, by decide +kernel, by decide, by decide⟩ ggX9_placed_X9_less mm_X9_placed_iX9 mm_X9_placed_l129 mm_X9_placed_tX9_less (hP.sub (ws' := []) [] rfl) hK hl.1 rfl rfl (Nat.le_of_ble_eq_true rfl) dX9_placed_120 ⟨Nat.zero_le _, Nat.zero_le _⟩ ?_
                  refine lv_goto (tgt := 135) hx hb dX9_placed_123 (by decide) ?_
                  have e9 : (F_X9_placed xo xj xk xn xr ) = (F_X9_less (xr ((16 : Int32) + xj).toNatClampNeg) xn.toInt64 (262143 : Int64)) := by rw [F_X9_placed, if_neg c1, if_neg c7, if_neg c13, if_neg c14, if_neg c20, if_neg c21, if_neg c24, if_pos c25]
                  rw [e9] at hV
                  subst hV
                  exact roRetL C0 rfl dX9_placed_135
          · refine lv_aload_n hx hb dX9_placed_47 rfl (lv_at hl 1 rfl) ?_
            refine va_get (D := (dC, dI)) (ci := 6) (v := .ref x3) (C := RX9) (T := TX9) (N := 24) hx hb hts mi_X9_placed_X9 hown hK hP 0 rfl rfl 3 (by decide) (hts (.fieldLink RX9 16 "ScoreboardCoreModel" "\x72" "[J") mm_X9_placed_f16) (fun _ h9 => h9) rfl dX9_placed_48 ?_
            refine lv_aload_n hx hb dX9_placed_51 rfl (lv_at hl 1 rfl) ?_
            refine va_get (D := (dC, dI)) (ci := 6) (v := .int xj) (C := RX9) (T := TX9) (N := 24) hx hb hts mi_X9_placed_X9 hown hK hP 0 rfl rfl 18 (by decide) (hts (.fieldLink RX9 83 "ScoreboardCoreModel" "j" "I") mm_X9_placed_f83) (fun _ h9 => h9) rfl dX9_placed_52 ?_
            refine va_lald (D := (dC, dI)) hx hb hK hP 3 1 rfl rfl hj.x dX9_placed_55 ?_
            refine lv_ldc2 (v := (262143 : Int64)) hx hb hown (hts _ mm_X9_placed_k44) dX9_placed_56 ?_
            refine lv_land hx hb dX9_placed_59 ?_
            refine lv_goto (tgt := 75) hx hb dX9_placed_60 (by decide) ?_
            refine lv_lstore_n (lv' := [(2, .long ((xr xj.toNatClampNeg) &&& (262143 : Int64))), (1, .int (xo - xo / (8 : Int32) * (8 : Int32))), (0, .ref hX)]) hx hb dX9_placed_75 rfl hl (by decide) rfl (fun ls hl => ?_)
            refine lv_iload_n hx hb dX9_placed_76 rfl (lv_at hl 1 rfl) ?_
            refine lv_iconst (v := (3 : Int32)) hx hb dX9_placed_77 (by decide) ?_
            refine lv_icmp_ge (x := (xo - xo / (8 : Int32) * (8 : Int32))) (y := (3 : Int32)) (tgt := 89) hx hb dX9_placed_78 (by decide) (fun c26 => ?_) (fun c26 => ?_)
            · refine lv_aload_n hx hb dX9_placed_89 rfl (lv_at hl 2 rfl) ?_
              refine va_get (D := (dC, dI)) (ci := 6) (v := .ref x3) (C := RX9) (T := TX9) (N := 24) hx hb hts mi_X9_placed_X9 hown hK hP 0 rfl rfl 3 (by decide) (hts (.fieldLink RX9 16 "ScoreboardCoreModel" "\x72" "[J") mm_X9_placed_f16) (fun _ h9 => h9) rfl dX9_placed_90 ?_
              refine lv_bipush (v := (16 : Int32)) hx hb dX9_placed_93 (by decide) ?_
              refine lv_aload_n hx hb dX9_placed_95 rfl (lv_at hl 2 rfl) ?_
              refine va_get (D := (dC, dI)) (ci := 6) (v := .int xk) (C := RX9) (T := TX9) (N := 24) hx hb hts mi_X9_placed_X9 hown hK hP 0 rfl rfl 19 (by decide) (hts (.fieldLink RX9 86 "ScoreboardCoreModel" "k" "I") mm_X9_placed_f86) (fun _ h9 => h9) rfl dX9_placed_96 ?_
              refine lv_iadd hx hb dX9_placed_99 ?_
              refine va_lald (D := (dC, dI)) hx hb hK hP 3 1 rfl rfl hk.b dX9_placed_100 ?_
              refine lv_lstore (lv' := [(4, .long (xr ((16 : Int32) + xk).toNatClampNeg)), (2, .long ((xr xj.toNatClampNeg) &&& (262143 : Int64))), (1, .int (xo - xo / (8 : Int32) * (8 : Int32))), (0, .ref hX)]) hx hb dX9_placed_101 hl (by decide) rfl (fun ls hl => ?_)
              refine lv_iload_n hx hb dX9_placed_103 rfl (lv_at hl 2 rfl) ?_
              refine lv_iconst (v := (5 : Int32)) hx hb dX9_placed_104 (by decide) ?_
              refine lv_icmp_eq (x := (xo - xo / (8 : Int32) * (8 : Int32))) (y := (5 : Int32)) (tgt := 114) hx hb dX9_placed_105 (by decide) (fun c27 => ?_) (fun c27 => ?_)
              · refine lv_lload_n hx hb dX9_placed_114 rfl (lv_at hl 1 rfl) ?_
                refine lv_lload hx hb dX9_placed_115 (lv_at hl 0 rfl) ?_
                refine lv_ldc2 (v := (262143 : Int64)) hx hb hown (hts _ mm_X9_placed_k44) dX9_placed_117 ?_
                refine roSl (As := [.long ((xr xj.toNatClampNeg) &&& (262143 : Int64)), .long (xr ((16 : Int32) + xk).toNatClampNeg), .long (262143 : Int64)]) (rest := []) (bytes := cX9_less) (maxL := 6) (rty := (some .long)) (n := 3) C0 (c_X9_less l dC dI cI cJ ((xr xj.toNatClampNeg) &&& (262143 : Int64)) (xr ((16 : Int32) + xk).toNatClampNeg) (262143 : Int64)) ⟨rfl, rfl, rfl, by decide +kernel, by decide, by decide⟩ ggX9_placed_X9_less mm_X9_placed_iX9 mm_X9_placed_l129 mm_X9_placed_tX9_less (hP.sub (ws' := []) [] rfl) hK hl.1 rfl rfl (Nat.le_of_ble_eq_true rfl) dX9_placed_120 ⟨Nat.zero_le _, Nat.zero_le _⟩ ?_
                refine lv_goto (tgt := 135) hx hb dX9_placed_123 (by decide) ?_
                have e9 : (F_X9_placed xo xj xk xn xr ) = (F_X9_less ((xr xj.toNatClampNeg) &&& (262143 : Int64)) (xr ((16 : Int32) + xk).toNatClampNeg) (262143 : Int64)) := by rw [F_X9_placed, if_neg c1, if_neg c7, if_neg c13, if_neg c14, if_pos c20, if_pos c26, if_pos c27]
                rw [e9] at hV
                subst hV
                exact roRetL C0 rfl dX9_placed_135
              · refine lv_iload_n hx hb dX9_placed_108 rfl (lv_at hl 2 rfl) ?_
                refine lv_bipush (v := (7 : Int32)) hx hb dX9_placed_109 (by decide) ?_
                refine lv_icmp_ne (x := (xo - xo / (8 : Int32) * (8 : Int32))) (y := (7 : Int32)) (tgt := 126) hx hb dX9_placed_111 (by decide) (fun c28 => ?_) (fun c28 => ?_)
                · refine lv_lload_n hx hb dX9_placed_126 rfl (lv_at hl 1 rfl) ?_
                  refine lv_lload hx hb dX9_placed_127 (lv_at hl 0 rfl) ?_
                  refine lv_ldc2 (v := (262143 : Int64)) hx hb hown (hts _ mm_X9_placed_k44) dX9_placed_129 ?_
                  refine roSl (As := [.long ((xr xj.toNatClampNeg) &&& (262143 : Int64)), .long (xr ((16 : Int32) + xk).toNatClampNeg), .long (262143 : Int64)]) (rest := []) (bytes := cX9_sum) (maxL := 8) (rty := (some .long)) (n := 3) C0 (c_X9_sum l dC dI cI cJ ((xr xj.toNatClampNeg) &&& (262143 : Int64)) (xr ((16 : Int32) + xk).toNatClampNeg) (262143 : Int64)) ⟨rfl, rfl, rfl, by decide +kernel, by decide, by decide⟩ ggX9_placed_X9_sum mm_X9_placed_iX9 mm_X9_placed_l56 mm_X9_placed_tX9_sum (hP.sub (ws' := []) [] rfl) hK hl.1 rfl rfl (Nat.le_of_ble_eq_true rfl) dX9_placed_132 ⟨Nat.zero_le _, Nat.zero_le _⟩ ?_
                  have e9 : (F_X9_placed xo xj xk xn xr ) = (F_X9_sum ((xr xj.toNatClampNeg) &&& (262143 : Int64)) (xr ((16 : Int32) + xk).toNatClampNeg) (262143 : Int64)) := by rw [F_X9_placed, if_neg c1, if_neg c7, if_neg c13, if_neg c14, if_pos c20, if_pos c26, if_neg c27, if_neg c28]
                  rw [e9] at hV
                  subst hV
                  exact roRetL C0 rfl dX9_placed_135
                · refine lv_lload_n hx hb dX9_placed_114 rfl (lv_at hl 1 rfl) ?_
                  refine lv_lload hx hb dX9_placed_115 (lv_at hl 0 rfl) ?_
                  refine lv_ldc2 (v := (262143 : Int64)) hx hb hown (hts _ mm_X9_placed_k44) dX9_placed_117 ?_
                  refine roSl (As := [.long ((xr xj.toNatClampNeg) &&& (262143 : Int64)), .long (xr ((16 : Int32) + xk).toNatClampNeg), .long (262143 : Int64)]) (rest := []) (bytes := cX9_less) (maxL := 6) (rty := (some .long)) (n := 3) C0 (c_X9_less l dC dI cI cJ ((xr xj.toNatClampNeg) &&& (262143 : Int64)) (xr ((16 : Int32) + xk).toNatClampNeg) (262143 : Int64)) ⟨rfl, rfl, rfl, by decide +kernel, by decide, by decide⟩ ggX9_placed_X9_less mm_X9_placed_iX9 mm_X9_placed_l129 mm_X9_placed_tX9_less (hP.sub (ws' := []) [] rfl) hK hl.1 rfl rfl (Nat.le_of_ble_eq_true rfl) dX9_placed_120 ⟨Nat.zero_le _, Nat.zero_le _⟩ ?_
                  refine lv_goto (tgt := 135) hx hb dX9_placed_123 (by decide) ?_
                  have e9 : (F_X9_placed xo xj xk xn xr ) = (F_X9_less ((xr xj.toNatClampNeg) &&& (262143 : Int64)) (xr ((16 : Int32) + xk).toNatClampNeg) (262143 : Int64)) := by rw [F_X9_placed, if_neg c1, if_neg c7, if_neg c13, if_neg c14, if_pos c20, if_pos c26, if_neg c27, if_pos c28]
                  rw [e9] at hV
                  subst hV
                  exact roRetL C0 rfl dX9_placed_135
            · refine lv_aload_n hx hb dX9_placed_81 rfl (lv_at hl 2 rfl) ?_
              refine va_get (D := (dC, dI)) (ci := 6) (v := .int xn) (C := RX9) (T := TX9) (N := 24) hx hb hts mi_X9_placed_X9 hown hK hP 0 rfl rfl 20 (by decide) (hts (.fieldLink RX9 93 "ScoreboardCoreModel" "number" "I") mm_X9_placed_f93) (fun _ h9 => h9) rfl dX9_placed_82 ?_
              refine lv_i2l hx hb dX9_placed_85 rfl ?_
              refine lv_goto (tgt := 101) hx hb dX9_placed_86 (by decide) ?_
              refine lv_lstore (lv' := [(4, .long xn.toInt64), (2, .long ((xr xj.toNatClampNeg) &&& (262143 : Int64))), (1, .int (xo - xo / (8 : Int32) * (8 : Int32))), (0, .ref hX)]) hx hb dX9_placed_101 hl (by decide) rfl (fun ls hl => ?_)
              refine lv_iload_n hx hb dX9_placed_103 rfl (lv_at hl 2 rfl) ?_
              refine lv_iconst (v := (5 : Int32)) hx hb dX9_placed_104 (by decide) ?_
              refine lv_icmp_eq (x := (xo - xo / (8 : Int32) * (8 : Int32))) (y := (5 : Int32)) (tgt := 114) hx hb dX9_placed_105 (by decide) (fun c29 => ?_) (fun c29 => ?_)
              · refine lv_lload_n hx hb dX9_placed_114 rfl (lv_at hl 1 rfl) ?_
                refine lv_lload hx hb dX9_placed_115 (lv_at hl 0 rfl) ?_
                refine lv_ldc2 (v := (262143 : Int64)) hx hb hown (hts _ mm_X9_placed_k44) dX9_placed_117 ?_
                refine roSl (As := [.long ((xr xj.toNatClampNeg) &&& (262143 : Int64)), .long xn.toInt64, .long (262143 : Int64)]) (rest := []) (bytes := cX9_less) (maxL := 6) (rty := (some .long)) (n := 3) C0 (c_X9_less l dC dI cI cJ ((xr xj.toNatClampNeg) &&& (262143 : Int64)) xn.toInt64 (262143 : Int64)) ⟨rfl, rfl, rfl, by decide +kernel, by decide, by decide⟩ ggX9_placed_X9_less mm_X9_placed_iX9 mm_X9_placed_l129 mm_X9_placed_tX9_less (hP.sub (ws' := []) [] rfl) hK hl.1 rfl rfl (Nat.le_of_ble_eq_true rfl) dX9_placed_120 ⟨Nat.zero_le _, Nat.zero_le _⟩ ?_
                refine lv_goto (tgt := 135) hx hb dX9_placed_123 (by decide) ?_
                have e9 : (F_X9_placed xo xj xk xn xr ) = (F_X9_less ((xr xj.toNatClampNeg) &&& (262143 : Int64)) xn.toInt64 (262143 : Int64)) := by rw [F_X9_placed, if_neg c1, if_neg c7, if_neg c13, if_neg c14, if_pos c20, if_neg c26, if_pos c29]
                rw [e9] at hV
                subst hV
                exact roRetL C0 rfl dX9_placed_135
              · refine lv_iload_n hx hb dX9_placed_108 rfl (lv_at hl 2 rfl) ?_
                refine lv_bipush (v := (7 : Int32)) hx hb dX9_placed_109 (by decide) ?_
                refine lv_icmp_ne (x := (xo - xo / (8 : Int32) * (8 : Int32))) (y := (7 : Int32)) (tgt := 126) hx hb dX9_placed_111 (by decide) (fun c30 => ?_) (fun c30 => ?_)
                · refine lv_lload_n hx hb dX9_placed_126 rfl (lv_at hl 1 rfl) ?_
                  refine lv_lload hx hb dX9_placed_127 (lv_at hl 0 rfl) ?_
                  refine lv_ldc2 (v := (262143 : Int64)) hx hb hown (hts _ mm_X9_placed_k44) dX9_placed_129 ?_
                  refine roSl (As := [.long ((xr xj.toNatClampNeg) &&& (262143 : Int64)), .long xn.toInt64, .long (262143 : Int64)]) (rest := []) (bytes := cX9_sum) (maxL := 8) (rty := (some .long)) (n := 3) C0 (c_X9_sum l dC dI cI cJ ((xr xj.toNatClampNeg) &&& (262143 : Int64)) xn.toInt64 (262143 : Int64)) ⟨rfl, rfl, rfl, by decide +kernel, by decide, by decide⟩ ggX9_placed_X9_sum mm_X9_placed_iX9 mm_X9_placed_l56 mm_X9_placed_tX9_sum (hP.sub (ws' := []) [] rfl) hK hl.1 rfl rfl (Nat.le_of_ble_eq_true rfl) dX9_placed_132 ⟨Nat.zero_le _, Nat.zero_le _⟩ ?_
                  have e9 : (F_X9_placed xo xj xk xn xr ) = (F_X9_sum ((xr xj.toNatClampNeg) &&& (262143 : Int64)) xn.toInt64 (262143 : Int64)) := by rw [F_X9_placed, if_neg c1, if_neg c7, if_neg c13, if_neg c14, if_pos c20, if_neg c26, if_neg c29, if_neg c30]
                  rw [e9] at hV
                  subst hV
                  exact roRetL C0 rfl dX9_placed_135
                · refine lv_lload_n hx hb dX9_placed_114 rfl (lv_at hl 1 rfl) ?_
                  refine lv_lload hx hb dX9_placed_115 (lv_at hl 0 rfl) ?_
                  refine lv_ldc2 (v := (262143 : Int64)) hx hb hown (hts _ mm_X9_placed_k44) dX9_placed_117 ?_
                  refine roSl (As := [.long ((xr xj.toNatClampNeg) &&& (262143 : Int64)), .long xn.toInt64, .long (262143 : Int64)]) (rest := []) (bytes := cX9_less) (maxL := 6) (rty := (some .long)) (n := 3) C0 (c_X9_less l dC dI cI cJ ((xr xj.toNatClampNeg) &&& (262143 : Int64)) xn.toInt64 (262143 : Int64)) ⟨rfl, rfl, rfl, by decide +kernel, by decide, by decide⟩ ggX9_placed_X9_less mm_X9_placed_iX9 mm_X9_placed_l129 mm_X9_placed_tX9_less (hP.sub (ws' := []) [] rfl) hK hl.1 rfl rfl (Nat.le_of_ble_eq_true rfl) dX9_placed_120 ⟨Nat.zero_le _, Nat.zero_le _⟩ ?_
                  refine lv_goto (tgt := 135) hx hb dX9_placed_123 (by decide) ?_
                  have e9 : (F_X9_placed xo xj xk xn xr ) = (F_X9_less ((xr xj.toNatClampNeg) &&& (262143 : Int64)) xn.toInt64 (262143 : Int64)) := by rw [F_X9_placed, if_neg c1, if_neg c7, if_neg c13, if_neg c14, if_pos c20, if_neg c26, if_neg c29, if_pos c30]
                  rw [e9] at hV
                  subst hV
                  exact roRetL C0 rfl dX9_placed_135
      · refine lv_aload_n hx hb dX9_placed_22 rfl (lv_at hl 1 rfl) ?_
        refine va_get (D := (dC, dI)) (ci := 6) (v := .ref x3) (C := RX9) (T := TX9) (N := 24) hx hb hts mi_X9_placed_X9 hown hK hP 0 rfl rfl 3 (by decide) (hts (.fieldLink RX9 16 "ScoreboardCoreModel" "\x72" "[J") mm_X9_placed_f16) (fun _ h9 => h9) rfl dX9_placed_23 ?_
        refine lv_bipush (v := (8 : Int32)) hx hb dX9_placed_26 (by decide) ?_
        refine lv_aload_n hx hb dX9_placed_28 rfl (lv_at hl 1 rfl) ?_
        refine va_get (D := (dC, dI)) (ci := 6) (v := .int xj) (C := RX9) (T := TX9) (N := 24) hx hb hts mi_X9_placed_X9 hown hK hP 0 rfl rfl 18 (by decide) (hts (.fieldLink RX9 83 "ScoreboardCoreModel" "j" "I") mm_X9_placed_f83) (fun _ h9 => h9) rfl dX9_placed_29 ?_
        refine lv_iadd hx hb dX9_placed_32 ?_
        refine va_lald (D := (dC, dI)) hx hb hK hP 3 1 rfl rfl hj.a dX9_placed_33 ?_
        refine lv_goto (tgt := 75) hx hb dX9_placed_34 (by decide) ?_
        refine lv_lstore_n (lv' := [(2, .long (xr ((8 : Int32) + xj).toNatClampNeg)), (1, .int (xo - xo / (8 : Int32) * (8 : Int32))), (0, .ref hX)]) hx hb dX9_placed_75 rfl hl (by decide) rfl (fun ls hl => ?_)
        refine lv_iload_n hx hb dX9_placed_76 rfl (lv_at hl 1 rfl) ?_
        refine lv_iconst (v := (3 : Int32)) hx hb dX9_placed_77 (by decide) ?_
        refine lv_icmp_ge (x := (xo - xo / (8 : Int32) * (8 : Int32))) (y := (3 : Int32)) (tgt := 89) hx hb dX9_placed_78 (by decide) (fun c31 => ?_) (fun c31 => ?_)
        · refine lv_aload_n hx hb dX9_placed_89 rfl (lv_at hl 2 rfl) ?_
          refine va_get (D := (dC, dI)) (ci := 6) (v := .ref x3) (C := RX9) (T := TX9) (N := 24) hx hb hts mi_X9_placed_X9 hown hK hP 0 rfl rfl 3 (by decide) (hts (.fieldLink RX9 16 "ScoreboardCoreModel" "\x72" "[J") mm_X9_placed_f16) (fun _ h9 => h9) rfl dX9_placed_90 ?_
          refine lv_bipush (v := (16 : Int32)) hx hb dX9_placed_93 (by decide) ?_
          refine lv_aload_n hx hb dX9_placed_95 rfl (lv_at hl 2 rfl) ?_
          refine va_get (D := (dC, dI)) (ci := 6) (v := .int xk) (C := RX9) (T := TX9) (N := 24) hx hb hts mi_X9_placed_X9 hown hK hP 0 rfl rfl 19 (by decide) (hts (.fieldLink RX9 86 "ScoreboardCoreModel" "k" "I") mm_X9_placed_f86) (fun _ h9 => h9) rfl dX9_placed_96 ?_
          refine lv_iadd hx hb dX9_placed_99 ?_
          refine va_lald (D := (dC, dI)) hx hb hK hP 3 1 rfl rfl hk.b dX9_placed_100 ?_
          refine lv_lstore (lv' := [(4, .long (xr ((16 : Int32) + xk).toNatClampNeg)), (2, .long (xr ((8 : Int32) + xj).toNatClampNeg)), (1, .int (xo - xo / (8 : Int32) * (8 : Int32))), (0, .ref hX)]) hx hb dX9_placed_101 hl (by decide) rfl (fun ls hl => ?_)
          refine lv_iload_n hx hb dX9_placed_103 rfl (lv_at hl 2 rfl) ?_
          refine lv_iconst (v := (5 : Int32)) hx hb dX9_placed_104 (by decide) ?_
          refine lv_icmp_eq (x := (xo - xo / (8 : Int32) * (8 : Int32))) (y := (5 : Int32)) (tgt := 114) hx hb dX9_placed_105 (by decide) (fun c32 => ?_) (fun c32 => ?_)
          · refine lv_lload_n hx hb dX9_placed_114 rfl (lv_at hl 1 rfl) ?_
            refine lv_lload hx hb dX9_placed_115 (lv_at hl 0 rfl) ?_
            refine lv_ldc2 (v := (262143 : Int64)) hx hb hown (hts _ mm_X9_placed_k44) dX9_placed_117 ?_
            refine roSl (As := [.long (xr ((8 : Int32) + xj).toNatClampNeg), .long (xr ((16 : Int32) + xk).toNatClampNeg), .long (262143 : Int64)]) (rest := []) (bytes := cX9_less) (maxL := 6) (rty := (some .long)) (n := 3) C0 (c_X9_less l dC dI cI cJ (xr ((8 : Int32) + xj).toNatClampNeg) (xr ((16 : Int32) + xk).toNatClampNeg) (262143 : Int64)) ⟨rfl, rfl, rfl, by decide +kernel, by decide, by decide⟩ ggX9_placed_X9_less mm_X9_placed_iX9 mm_X9_placed_l129 mm_X9_placed_tX9_less (hP.sub (ws' := []) [] rfl) hK hl.1 rfl rfl (Nat.le_of_ble_eq_true rfl) dX9_placed_120 ⟨Nat.zero_le _, Nat.zero_le _⟩ ?_
            refine lv_goto (tgt := 135) hx hb dX9_placed_123 (by decide) ?_
            have e9 : (F_X9_placed xo xj xk xn xr ) = (F_X9_less (xr ((8 : Int32) + xj).toNatClampNeg) (xr ((16 : Int32) + xk).toNatClampNeg) (262143 : Int64)) := by rw [F_X9_placed, if_neg c1, if_neg c7, if_pos c13, if_pos c31, if_pos c32]
            rw [e9] at hV
            subst hV
            exact roRetL C0 rfl dX9_placed_135
          · refine lv_iload_n hx hb dX9_placed_108 rfl (lv_at hl 2 rfl) ?_
            refine lv_bipush (v := (7 : Int32)) hx hb dX9_placed_109 (by decide) ?_
            refine lv_icmp_ne (x := (xo - xo / (8 : Int32) * (8 : Int32))) (y := (7 : Int32)) (tgt := 126) hx hb dX9_placed_111 (by decide) (fun c33 => ?_) (fun c33 => ?_)
            · refine lv_lload_n hx hb dX9_placed_126 rfl (lv_at hl 1 rfl) ?_
              refine lv_lload hx hb dX9_placed_127 (lv_at hl 0 rfl) ?_
              refine lv_ldc2 (v := (262143 : Int64)) hx hb hown (hts _ mm_X9_placed_k44) dX9_placed_129 ?_
              refine roSl (As := [.long (xr ((8 : Int32) + xj).toNatClampNeg), .long (xr ((16 : Int32) + xk).toNatClampNeg), .long (262143 : Int64)]) (rest := []) (bytes := cX9_sum) (maxL := 8) (rty := (some .long)) (n := 3) C0 (c_X9_sum l dC dI cI cJ (xr ((8 : Int32) + xj).toNatClampNeg) (xr ((16 : Int32) + xk).toNatClampNeg) (262143 : Int64)) ⟨rfl, rfl, rfl, by decide +kernel, by decide, by decide⟩ ggX9_placed_X9_sum mm_X9_placed_iX9 mm_X9_placed_l56 mm_X9_placed_tX9_sum (hP.sub (ws' := []) [] rfl) hK hl.1 rfl rfl (Nat.le_of_ble_eq_true rfl) dX9_placed_132 ⟨Nat.zero_le _, Nat.zero_le _⟩ ?_
              have e9 : (F_X9_placed xo xj xk xn xr ) = (F_X9_sum (xr ((8 : Int32) + xj).toNatClampNeg) (xr ((16 : Int32) + xk).toNatClampNeg) (262143 : Int64)) := by rw [F_X9_placed, if_neg c1, if_neg c7, if_pos c13, if_pos c31, if_neg c32, if_neg c33]
              rw [e9] at hV
              subst hV
              exact roRetL C0 rfl dX9_placed_135
            · refine lv_lload_n hx hb dX9_placed_114 rfl (lv_at hl 1 rfl) ?_
              refine lv_lload hx hb dX9_placed_115 (lv_at hl 0 rfl) ?_
              refine lv_ldc2 (v := (262143 : Int64)) hx hb hown (hts _ mm_X9_placed_k44) dX9_placed_117 ?_
              refine roSl (As := [.long (xr ((8 : Int32) + xj).toNatClampNeg), .long (xr ((16 : Int32) + xk).toNatClampNeg), .long (262143 : Int64)]) (rest := []) (bytes := cX9_less) (maxL := 6) (rty := (some .long)) (n := 3) C0 (c_X9_less l dC dI cI cJ (xr ((8 : Int32) + xj).toNatClampNeg) (xr ((16 : Int32) + xk).toNatClampNeg) (262143 : Int64)) ⟨rfl, rfl, rfl, by decide +kernel, by decide, by decide⟩ ggX9_placed_X9_less mm_X9_placed_iX9 mm_X9_placed_l129 mm_X9_placed_tX9_less (hP.sub (ws' := []) [] rfl) hK hl.1 rfl rfl (Nat.le_of_ble_eq_true rfl) dX9_placed_120 ⟨Nat.zero_le _, Nat.zero_le _⟩ ?_
              refine lv_goto (tgt := 135) hx hb dX9_placed_123 (by decide) ?_
              have e9 : (F_X9_placed xo xj xk xn xr ) = (F_X9_less (xr ((8 : Int32) + xj).toNatClampNeg) (xr ((16 : Int32) + xk).toNatClampNeg) (262143 : Int64)) := by rw [F_X9_placed, if_neg c1, if_neg c7, if_pos c13, if_pos c31, if_neg c32, if_pos c33]
              rw [e9] at hV
              subst hV
              exact roRetL C0 rfl dX9_placed_135
        · refine lv_aload_n hx hb dX9_placed_81 rfl (lv_at hl 2 rfl) ?_
          refine va_get (D := (dC, dI)) (ci := 6) (v := .int xn) (C := RX9) (T := TX9) (N := 24) hx hb hts mi_X9_placed_X9 hown hK hP 0 rfl rfl 20 (by decide) (hts (.fieldLink RX9 93 "ScoreboardCoreModel" "number" "I") mm_X9_placed_f93) (fun _ h9 => h9) rfl dX9_placed_82 ?_
          refine lv_i2l hx hb dX9_placed_85 rfl ?_
          refine lv_goto (tgt := 101) hx hb dX9_placed_86 (by decide) ?_
          refine lv_lstore (lv' := [(4, .long xn.toInt64), (2, .long (xr ((8 : Int32) + xj).toNatClampNeg)), (1, .int (xo - xo / (8 : Int32) * (8 : Int32))), (0, .ref hX)]) hx hb dX9_placed_101 hl (by decide) rfl (fun ls hl => ?_)
          refine lv_iload_n hx hb dX9_placed_103 rfl (lv_at hl 2 rfl) ?_
          refine lv_iconst (v := (5 : Int32)) hx hb dX9_placed_104 (by decide) ?_
          refine lv_icmp_eq (x := (xo - xo / (8 : Int32) * (8 : Int32))) (y := (5 : Int32)) (tgt := 114) hx hb dX9_placed_105 (by decide) (fun c34 => ?_) (fun c34 => ?_)
          · refine lv_lload_n hx hb dX9_placed_114 rfl (lv_at hl 1 rfl) ?_
            refine lv_lload hx hb dX9_placed_115 (lv_at hl 0 rfl) ?_
            refine lv_ldc2 (v := (262143 : Int64)) hx hb hown (hts _ mm_X9_placed_k44) dX9_placed_117 ?_
            refine roSl (As := [.long (xr ((8 : Int32) + xj).toNatClampNeg), .long xn.toInt64, .long (262143 : Int64)]) (rest := []) (bytes := cX9_less) (maxL := 6) (rty := (some .long)) (n := 3) C0 (c_X9_less l dC dI cI cJ (xr ((8 : Int32) + xj).toNatClampNeg) xn.toInt64 (262143 : Int64)) ⟨rfl, rfl, rfl, by decide +kernel, by decide, by decide⟩ ggX9_placed_X9_less mm_X9_placed_iX9 mm_X9_placed_l129 mm_X9_placed_tX9_less (hP.sub (ws' := []) [] rfl) hK hl.1 rfl rfl (Nat.le_of_ble_eq_true rfl) dX9_placed_120 ⟨Nat.zero_le _, Nat.zero_le _⟩ ?_
            refine lv_goto (tgt := 135) hx hb dX9_placed_123 (by decide) ?_
            have e9 : (F_X9_placed xo xj xk xn xr ) = (F_X9_less (xr ((8 : Int32) + xj).toNatClampNeg) xn.toInt64 (262143 : Int64)) := by rw [F_X9_placed, if_neg c1, if_neg c7, if_pos c13, if_neg c31, if_pos c34]
            rw [e9] at hV
            subst hV
            exact roRetL C0 rfl dX9_placed_135
          · refine lv_iload_n hx hb dX9_placed_108 rfl (lv_at hl 2 rfl) ?_
            refine lv_bipush (v := (7 : Int32)) hx hb dX9_placed_109 (by decide) ?_
            refine lv_icmp_ne (x := (xo - xo / (8 : Int32) * (8 : Int32))) (y := (7 : Int32)) (tgt := 126) hx hb dX9_placed_111 (by decide) (fun c35 => ?_) (fun c35 => ?_)
            · refine lv_lload_n hx hb dX9_placed_126 rfl (lv_at hl 1 rfl) ?_
              refine lv_lload hx hb dX9_placed_127 (lv_at hl 0 rfl) ?_
              refine lv_ldc2 (v := (262143 : Int64)) hx hb hown (hts _ mm_X9_placed_k44) dX9_placed_129 ?_
              refine roSl (As := [.long (xr ((8 : Int32) + xj).toNatClampNeg), .long xn.toInt64, .long (262143 : Int64)]) (rest := []) (bytes := cX9_sum) (maxL := 8) (rty := (some .long)) (n := 3) C0 (c_X9_sum l dC dI cI cJ (xr ((8 : Int32) + xj).toNatClampNeg) xn.toInt64 (262143 : Int64)) ⟨rfl, rfl, rfl, by decide +kernel, by decide, by decide⟩ ggX9_placed_X9_sum mm_X9_placed_iX9 mm_X9_placed_l56 mm_X9_placed_tX9_sum (hP.sub (ws' := []) [] rfl) hK hl.1 rfl rfl (Nat.le_of_ble_eq_true rfl) dX9_placed_132 ⟨Nat.zero_le _, Nat.zero_le _⟩ ?_
              have e9 : (F_X9_placed xo xj xk xn xr ) = (F_X9_sum (xr ((8 : Int32) + xj).toNatClampNeg) xn.toInt64 (262143 : Int64)) := by rw [F_X9_placed, if_neg c1, if_neg c7, if_pos c13, if_neg c31, if_neg c34, if_neg c35]
              rw [e9] at hV
              subst hV
              exact roRetL C0 rfl dX9_placed_135
            · refine lv_lload_n hx hb dX9_placed_114 rfl (lv_at hl 1 rfl) ?_
              refine lv_lload hx hb dX9_placed_115 (lv_at hl 0 rfl) ?_
              refine lv_ldc2 (v := (262143 : Int64)) hx hb hown (hts _ mm_X9_placed_k44) dX9_placed_117 ?_
              refine roSl (As := [.long (xr ((8 : Int32) + xj).toNatClampNeg), .long xn.toInt64, .long (262143 : Int64)]) (rest := []) (bytes := cX9_less) (maxL := 6) (rty := (some .long)) (n := 3) C0 (c_X9_less l dC dI cI cJ (xr ((8 : Int32) + xj).toNatClampNeg) xn.toInt64 (262143 : Int64)) ⟨rfl, rfl, rfl, by decide +kernel, by decide, by decide⟩ ggX9_placed_X9_less mm_X9_placed_iX9 mm_X9_placed_l129 mm_X9_placed_tX9_less (hP.sub (ws' := []) [] rfl) hK hl.1 rfl rfl (Nat.le_of_ble_eq_true rfl) dX9_placed_120 ⟨Nat.zero_le _, Nat.zero_le _⟩ ?_
              refine lv_goto (tgt := 135) hx hb dX9_placed_123 (by decide) ?_
              have e9 : (F_X9_placed xo xj xk xn xr ) = (F_X9_less (xr ((8 : Int32) + xj).toNatClampNeg) xn.toInt64 (262143 : Int64)) := by rw [F_X9_placed, if_neg c1, if_neg c7, if_pos c13, if_neg c31, if_neg c34, if_pos c35]
              rw [e9] at hV
              subst hV
              exact roRetL C0 rfl dX9_placed_135
theorem c_X9_placed (l : Launch) (dC : Nat → ClassId) (dI : Nat → Nat → Nat) (cI cJ : ClassId) (hX x1 x2 x3 x4 x5 x6 x7 x8 : Nat) (xt : Int32) (xw : Int32) (xp : Int32) (xs : Int32) (xc : Int64) (xM : Int64) (xE : Int64) (xL : Int64) (xo : Int32) (xi : Int32) (xj : Int32) (xk : Int32) (xn : Int32) (xz : Int32) (xa : Int32) (xg : Int32) (xmw : Nat → Int64) (xmp : Nat → Int64) (xr : Nat → Int64) (xd : Nat → Int32) (xwt : Nat → Int64) (xf : Nat → Int64) (xrd : Nat → Int64) (xu : Nat → Int64) (hi : R8 xi) (hj : R8 xj) (hk : R8 xk) : RoL l yX9_placed wsX9_placed rm_X9_placed (dC, dI) [(cI, .int), (cJ, .long)] [(hX, .inr (6, [.int xt, .ref x1, .ref x2, .ref x3, .int xw, .int xp, .int xs, .long xc, .ref x4, .ref x5, .ref x6, .ref x7, .ref x8, .long xM, .long xE, .long xL, .int xo, .int xi, .int xj, .int xk, .int xn, .int xz, .int xa, .int xg])), (x1, .inl (cJ, 512, .inr (.inl xmw))), (x2, .inl (cJ, 512, .inr (.inl xmp))), (x3, .inl (cJ, 24, .inr (.inl xr))), (x4, .inl (cI, 8, .inl xd)), (x5, .inl (cJ, 5, .inr (.inl xwt))), (x6, .inl (cJ, 24, .inr (.inl xf))), (x7, .inl (cJ, 24, .inr (.inl xrd))), (x8, .inl (cJ, 6, .inr (.inl xu)))] [.ref hX] (F_X9_placed xo xj xk xn xr ) := by
  refine RoL.mk (cc := cX9_placed) (nL := 6) (ret := (some .long)) [(0, .ref hX)] (by decide) rfl (Nat.le_of_ble_eq_true rfl) rfl ?_
  intro p e s m below meth c C0 hP hK ls hl
  exact w_X9_placed dC dI cI cJ hX x1 x2 x3 x4 x5 x6 x7 x8 xt xw xp xs xc xM xE xL xo xi xj xk xn xz xa xg xmw xmp xr xd xwt xf xrd xu C0 hK hP hi hj hk rfl ls hl

-- X9_freeFrom
def F_X9_freeFrom_5 (xf : Nat → Int64) : Nat → Int32 → Int64 → Int32 → Int64
  | 0, v1, v2, v4 => 0
  | fuel + 1, v1, v2, v4 => (if (24 : Int32) ≤ v4 then v2 else (if ((v1 >>> (v4 &&& 31)) &&& (1 : Int32)) = (1 : Int32) then (F_X9_freeFrom_5 xf fuel v1 (F_X9_later v2 (xf v4.toNatClampNeg)) (v4 + (1 : Int32))) else (F_X9_freeFrom_5 xf fuel v1 v2 (v4 + (1 : Int32)))))
def F_X9_freeFrom (sm : Int32) (xf : Nat → Int64) : Int64 :=
  (F_X9_freeFrom_5 xf 25 sm (0 : Int64) (0 : Int32))
abbrev rm_X9_freeFrom : Room := { frames := 1, cells := 0, slots := 0, locals := 23 }
set_option maxRecDepth 20000 in
theorem mi_X9_freeFrom_X9 : ∀ w ∈ wsX90, w ∈ wsX9_freeFrom := by decide +kernel
set_option maxRecDepth 20000 in
theorem mm_X9_freeFrom_f30 : Cond.fieldLink RX9 30 "ScoreboardCoreModel" "free" "[J" ∈ wsX9_freeFrom := by decide +kernel
set_option maxRecDepth 20000 in
theorem mm_X9_freeFrom_iX9 : Cond.initialized RX9 ∈ wsX9_freeFrom := by decide +kernel
set_option maxRecDepth 20000 in
theorem mm_X9_freeFrom_l144 : Cond.methodLink RX9 144 yX9_later ∈ wsX9_freeFrom := by decide +kernel
set_option maxRecDepth 20000 in
theorem mm_X9_freeFrom_tX9_later : Cond.static yX9_later ∈ wsX9_freeFrom := by decide +kernel
set_option maxHeartbeats 4000000 in
set_option maxRecDepth 100000 in
theorem j_X9_freeFrom_5 {p : Program} {l : Launch} {e : Env} {s : State} {m : MethodId} {below : List Frame} {meth : Method} {c : Code} {args : Array Value} (dC : Nat → ClassId) (dI : Nat → Nat → Nat) (cI cJ : ClassId) (hX x1 x2 x3 x4 x5 x6 x7 x8 : Nat) (sm : Int32) (xt : Int32) (xw : Int32) (xp : Int32) (xs : Int32) (xc : Int64) (xM : Int64) (xE : Int64) (xL : Int64) (xo : Int32) (xi : Int32) (xj : Int32) (xk : Int32) (xn : Int32) (xz : Int32) (xa : Int32) (xg : Int32) (xmw : Nat → Int64) (xmp : Nat → Int64) (xr : Nat → Int64) (xd : Nat → Int32) (xwt : Nat → Int64) (xf : Nat → Int64) (xrd : Nat → Int64) (xu : Nat → Int64) (C0 : Cx p s m meth c cX9_freeFrom 5 (some .long) wsX9_freeFrom RX9 args) (hK : va_K (dC, dI) vwCl [(cI, .int), (cJ, .long)] s) (hP : va_P (dC, dI) vwCl [(hX, .inr (6, [.int xt, .ref x1, .ref x2, .ref x3, .int xw, .int xp, .int xs, .long xc, .ref x4, .ref x5, .ref x6, .ref x7, .ref x8, .long xM, .long xE, .long xL, .int xo, .int xi, .int xj, .int xk, .int xn, .int xz, .int xa, .int xg])), (x1, .inl (cJ, 512, .inr (.inl xmw))), (x2, .inl (cJ, 512, .inr (.inl xmp))), (x3, .inl (cJ, 24, .inr (.inl xr))), (x4, .inl (cI, 8, .inl xd)), (x5, .inl (cJ, 5, .inr (.inl xwt))), (x6, .inl (cJ, 24, .inr (.inl xf))), (x7, .inl (cJ, 24, .inr (.inl xrd))), (x8, .inl (cJ, 6, .inr (.inl xu)))] s.heap) {V : Int64} : ∀ (fuel : Nat) (v1 : Int32) (v2 : Int64) (v4 : Int32), Lp (24 : Int32) v4 fuel → (F_X9_freeFrom_5 xf fuel v1 v2 v4) = V → ∀ ls : Array Slot, lv_has ls 5 [(0, .ref hX), (1, .int v1), (2, .long v2), (4, .int v4)] → W p l e rm_X9_freeFrom s m args below meth c s.heap [] 0 0 (MQ below (vp_Sl (fun r => r = V)) args s 0 0 (fun _ => False)) (F0 m 5 ls []) := by
  obtain ⟨hx, hb, hr, hlk, hml, hown, hts⟩ := id C0
  intro fuel
  induction fuel with
  | zero =>
    intro v1 v2 v4 g0
    exact absurd g0 (by exact Lp.zero)
  | succ fuel ih =>
    intro v1 v2 v4 g0 hV ls hl
    refine lv_iload hx hb dX9_freeFrom_5 (lv_at hl 3 rfl) ?_
    refine lv_bipush (v := (24 : Int32)) hx hb dX9_freeFrom_7 (by decide) ?_
    refine lv_icmp_ge (x := v4) (y := (24 : Int32)) (tgt := 44) hx hb dX9_freeFrom_9 (by decide) (fun c1 => ?_) (fun c1 => ?_)
    · refine lv_lload_n hx hb dX9_freeFrom_44 rfl (lv_at hl 2 rfl) ?_
      have e9 : (F_X9_freeFrom_5 xf (fuel + 1) v1 v2 v4) = v2 := by rw [F_X9_freeFrom_5, if_pos c1]
      rw [e9] at hV
      subst hV
      exact roRetL C0 rfl dX9_freeFrom_45
    · refine lv_iload_n hx hb dX9_freeFrom_12 rfl (lv_at hl 1 rfl) ?_
      refine lv_iload hx hb dX9_freeFrom_13 (lv_at hl 3 rfl) ?_
      refine lv_ishr hx hb dX9_freeFrom_15 ?_
      refine lv_iconst (v := (1 : Int32)) hx hb dX9_freeFrom_16 (by decide) ?_
      refine lv_iand hx hb dX9_freeFrom_17 ?_
      refine lv_iconst (v := (1 : Int32)) hx hb dX9_freeFrom_18 (by decide) ?_
      refine lv_icmp_ne (x := ((v1 >>> (v4 &&& 31)) &&& (1 : Int32))) (y := (1 : Int32)) (tgt := 36) hx hb dX9_freeFrom_19 (by decide) (fun c2 => ?_) (fun c2 => ?_)
      · refine lv_lload_n hx hb dX9_freeFrom_36 rfl (lv_at hl 2 rfl) ?_
        refine lv_lstore_n (lv' := [(2, .long v2), (0, .ref hX), (1, .int v1), (4, .int v4)]) hx hb dX9_freeFrom_37 rfl hl (by decide) rfl (fun ls hl => ?_)
        refine lv_iinc (v := (v4 + (1 : Int32))) (lv' := [(4, .int (v4 + (1 : Int32))), (2, .long v2), (0, .ref hX), (1, .int v1)]) hx hb dX9_freeFrom_38 hl (k := 3) rfl rfl (by decide) rfl (fun ls hl => ?_)
        refine lv_goto (tgt := 5) hx hb dX9_freeFrom_41 (by decide) ?_
        have e9 : (F_X9_freeFrom_5 xf (fuel + 1) v1 v2 v4) = (F_X9_freeFrom_5 xf fuel v1 v2 (v4 + (1 : Int32))) := by rw [F_X9_freeFrom_5, if_neg c1, if_neg c2]
        rw [e9] at hV
        exact ih v1 v2 (v4 + (1 : Int32)) (Lp.step g0 c1) hV ls (lv_sub hl [2, 3, 1, 0] rfl)
      · refine lv_lload_n hx hb dX9_freeFrom_22 rfl (lv_at hl 2 rfl) ?_
        refine lv_aload_n hx hb dX9_freeFrom_23 rfl (lv_at hl 0 rfl) ?_
        refine va_get (D := (dC, dI)) (ci := 6) (v := .ref x6) (C := RX9) (T := TX9) (N := 24) hx hb hts mi_X9_freeFrom_X9 hown hK hP 0 rfl rfl 10 (by decide) (hts (.fieldLink RX9 30 "ScoreboardCoreModel" "free" "[J") mm_X9_freeFrom_f30) (fun _ h9 => h9) rfl dX9_freeFrom_24 ?_
        refine lv_iload hx hb dX9_freeFrom_27 (lv_at hl 3 rfl) ?_
        refine va_lald (D := (dC, dI)) hx hb hK hP 6 1 rfl rfl (g0.k c1 (k := 24) rfl (by decide)) dX9_freeFrom_29 ?_
        refine roSl (As := [.long v2, .long (xf v4.toNatClampNeg)]) (rest := []) (bytes := cX9_later) (maxL := 4) (rty := (some .long)) (n := 2) C0 (c_X9_later l dC dI cI cJ v2 (xf v4.toNatClampNeg)) ⟨rfl, rfl, rfl, by decide +kernel, by decide, by decide⟩ ggX9_freeFrom_X9_later mm_X9_freeFrom_iX9 mm_X9_freeFrom_l144 mm_X9_freeFrom_tX9_later (hP.sub (ws' := []) [] rfl) hK hl.1 rfl rfl (Nat.le_of_ble_eq_true rfl) dX9_freeFrom_30 ⟨Nat.zero_le _, Nat.zero_le _⟩ ?_
        refine lv_goto (tgt := 37) hx hb dX9_freeFrom_33 (by decide) ?_
        refine lv_lstore_n (lv' := [(2, .long (F_X9_later v2 (xf v4.toNatClampNeg))), (0, .ref hX), (1, .int v1), (4, .int v4)]) hx hb dX9_freeFrom_37 rfl hl (by decide) rfl (fun ls hl => ?_)
        refine lv_iinc (v := (v4 + (1 : Int32))) (lv' := [(4, .int (v4 + (1 : Int32))), (2, .long (F_X9_later v2 (xf v4.toNatClampNeg))), (0, .ref hX), (1, .int v1)]) hx hb dX9_freeFrom_38 hl (k := 3) rfl rfl (by decide) rfl (fun ls hl => ?_)
        refine lv_goto (tgt := 5) hx hb dX9_freeFrom_41 (by decide) ?_
        have e9 : (F_X9_freeFrom_5 xf (fuel + 1) v1 v2 v4) = (F_X9_freeFrom_5 xf fuel v1 (F_X9_later v2 (xf v4.toNatClampNeg)) (v4 + (1 : Int32))) := by rw [F_X9_freeFrom_5, if_neg c1, if_pos c2]
        rw [e9] at hV
        exact ih v1 (F_X9_later v2 (xf v4.toNatClampNeg)) (v4 + (1 : Int32)) (Lp.step g0 c1) hV ls (lv_sub hl [2, 3, 1, 0] rfl)
set_option maxHeartbeats 4000000 in
set_option maxRecDepth 100000 in
theorem w_X9_freeFrom {p : Program} {l : Launch} {e : Env} {s : State} {m : MethodId} {below : List Frame} {meth : Method} {c : Code} {args : Array Value} (dC : Nat → ClassId) (dI : Nat → Nat → Nat) (cI cJ : ClassId) (hX x1 x2 x3 x4 x5 x6 x7 x8 : Nat) (sm : Int32) (xt : Int32) (xw : Int32) (xp : Int32) (xs : Int32) (xc : Int64) (xM : Int64) (xE : Int64) (xL : Int64) (xo : Int32) (xi : Int32) (xj : Int32) (xk : Int32) (xn : Int32) (xz : Int32) (xa : Int32) (xg : Int32) (xmw : Nat → Int64) (xmp : Nat → Int64) (xr : Nat → Int64) (xd : Nat → Int32) (xwt : Nat → Int64) (xf : Nat → Int64) (xrd : Nat → Int64) (xu : Nat → Int64) (C0 : Cx p s m meth c cX9_freeFrom 5 (some .long) wsX9_freeFrom RX9 args) (hK : va_K (dC, dI) vwCl [(cI, .int), (cJ, .long)] s) (hP : va_P (dC, dI) vwCl [(hX, .inr (6, [.int xt, .ref x1, .ref x2, .ref x3, .int xw, .int xp, .int xs, .long xc, .ref x4, .ref x5, .ref x6, .ref x7, .ref x8, .long xM, .long xE, .long xL, .int xo, .int xi, .int xj, .int xk, .int xn, .int xz, .int xa, .int xg])), (x1, .inl (cJ, 512, .inr (.inl xmw))), (x2, .inl (cJ, 512, .inr (.inl xmp))), (x3, .inl (cJ, 24, .inr (.inl xr))), (x4, .inl (cI, 8, .inl xd)), (x5, .inl (cJ, 5, .inr (.inl xwt))), (x6, .inl (cJ, 24, .inr (.inl xf))), (x7, .inl (cJ, 24, .inr (.inl xrd))), (x8, .inl (cJ, 6, .inr (.inl xu)))] s.heap) {V : Int64} (hV : (F_X9_freeFrom sm xf ) = V) (ls : Array Slot) (hl : lv_has ls 5 [(0, .ref hX), (1, .int sm)]) : W p l e rm_X9_freeFrom s m args below meth c s.heap [] 0 0 (MQ below (vp_Sl (fun r => r = V)) args s 0 0 (fun _ => False)) (F0 m 0 ls []) := by
  obtain ⟨hx, hb, hr, hlk, hml, hown, hts⟩ := id C0
  refine lv_lconst (v := (0 : Int64)) hx hb dX9_freeFrom_0 (by decide) ?_
  refine lv_lstore_n (lv' := [(2, .long (0 : Int64)), (0, .ref hX), (1, .int sm)]) hx hb dX9_freeFrom_1 rfl hl (by decide) rfl (fun ls hl => ?_)
  refine lv_iconst (v := (0 : Int32)) hx hb dX9_freeFrom_2 (by decide) ?_
  refine lv_istore (lv' := [(4, .int (0 : Int32)), (2, .long (0 : Int64)), (0, .ref hX), (1, .int sm)]) hx hb dX9_freeFrom_3 hl (by decide) rfl (fun ls hl => ?_)
  have e9 : (F_X9_freeFrom sm xf ) = (F_X9_freeFrom_5 xf 25 sm (0 : Int64) (0 : Int32)) := by rw [F_X9_freeFrom]
  rw [e9] at hV
  exact j_X9_freeFrom_5 dC dI cI cJ hX x1 x2 x3 x4 x5 x6 x7 x8 sm xt xw xp xs xc xM xE xL xo xi xj xk xn xz xa xg xmw xmp xr xd xwt xf xrd xu C0 hK hP 25 sm (0 : Int64) (0 : Int32) (Lp.s (k := 24) (by decide) (by decide)) hV ls (lv_sub hl [2, 3, 1, 0] rfl)
theorem c_X9_freeFrom (l : Launch) (dC : Nat → ClassId) (dI : Nat → Nat → Nat) (cI cJ : ClassId) (hX x1 x2 x3 x4 x5 x6 x7 x8 : Nat) (sm : Int32) (xt : Int32) (xw : Int32) (xp : Int32) (xs : Int32) (xc : Int64) (xM : Int64) (xE : Int64) (xL : Int64) (xo : Int32) (xi : Int32) (xj : Int32) (xk : Int32) (xn : Int32) (xz : Int32) (xa : Int32) (xg : Int32) (xmw : Nat → Int64) (xmp : Nat → Int64) (xr : Nat → Int64) (xd : Nat → Int32) (xwt : Nat → Int64) (xf : Nat → Int64) (xrd : Nat → Int64) (xu : Nat → Int64) : RoL l yX9_freeFrom wsX9_freeFrom rm_X9_freeFrom (dC, dI) [(cI, .int), (cJ, .long)] [(hX, .inr (6, [.int xt, .ref x1, .ref x2, .ref x3, .int xw, .int xp, .int xs, .long xc, .ref x4, .ref x5, .ref x6, .ref x7, .ref x8, .long xM, .long xE, .long xL, .int xo, .int xi, .int xj, .int xk, .int xn, .int xz, .int xa, .int xg])), (x1, .inl (cJ, 512, .inr (.inl xmw))), (x2, .inl (cJ, 512, .inr (.inl xmp))), (x3, .inl (cJ, 24, .inr (.inl xr))), (x4, .inl (cI, 8, .inl xd)), (x5, .inl (cJ, 5, .inr (.inl xwt))), (x6, .inl (cJ, 24, .inr (.inl xf))), (x7, .inl (cJ, 24, .inr (.inl xrd))), (x8, .inl (cJ, 6, .inr (.inl xu)))] [.ref hX, .int sm] (F_X9_freeFrom sm xf ) := by
  refine RoL.mk (cc := cX9_freeFrom) (nL := 5) (ret := (some .long)) [(0, .ref hX), (1, .int sm)] (by decide) rfl (Nat.le_of_ble_eq_true rfl) rfl ?_
  intro p e s m below meth c C0 hP hK ls hl
  exact w_X9_freeFrom dC dI cI cJ hX x1 x2 x3 x4 x5 x6 x7 x8 sm xt xw xp xs xc xM xE xL xo xi xj xk xn xz xa xg xmw xmp xr xd xwt xf xrd xu C0 hK hP rfl ls hl

-- X9_unit
def F_X9_unit (xo : Int32) : Int32 :=
  (if (16 : Int32) ≤ xo then (if xo < (20 : Int32) then (1 : Int32) else (if xo = (35 : Int32) then (1 : Int32) else (if (32 : Int32) ≤ xo then (if xo = (39 : Int32) then (3 : Int32) else (4 : Int32)) else (2 : Int32)))) else (0 : Int32))
abbrev rm_X9_unit : Room := { frames := 0, cells := 0, slots := 0, locals := 0 }
set_option maxRecDepth 20000 in
theorem mi_X9_unit_X9 : ∀ w ∈ wsX90, w ∈ wsX9_unit := by decide +kernel
set_option maxRecDepth 20000 in
theorem mm_X9_unit_f68 : Cond.fieldLink RX9 68 "ScoreboardCoreModel" "op" "I" ∈ wsX9_unit := by decide +kernel
set_option maxHeartbeats 4000000 in
set_option maxRecDepth 100000 in
theorem w_X9_unit {p : Program} {l : Launch} {e : Env} {s : State} {m : MethodId} {below : List Frame} {meth : Method} {c : Code} {args : Array Value} (dC : Nat → ClassId) (dI : Nat → Nat → Nat) (cI cJ : ClassId) (hX x1 x2 x3 x4 x5 x6 x7 x8 : Nat) (xt : Int32) (xw : Int32) (xp : Int32) (xs : Int32) (xc : Int64) (xM : Int64) (xE : Int64) (xL : Int64) (xo : Int32) (xi : Int32) (xj : Int32) (xk : Int32) (xn : Int32) (xz : Int32) (xa : Int32) (xg : Int32) (xmw : Nat → Int64) (xmp : Nat → Int64) (xr : Nat → Int64) (xd : Nat → Int32) (xwt : Nat → Int64) (xf : Nat → Int64) (xrd : Nat → Int64) (xu : Nat → Int64) (C0 : Cx p s m meth c cX9_unit 1 (some .int) wsX9_unit RX9 args) (hK : va_K (dC, dI) vwCl [(cI, .int), (cJ, .long)] s) (hP : va_P (dC, dI) vwCl [(hX, .inr (6, [.int xt, .ref x1, .ref x2, .ref x3, .int xw, .int xp, .int xs, .long xc, .ref x4, .ref x5, .ref x6, .ref x7, .ref x8, .long xM, .long xE, .long xL, .int xo, .int xi, .int xj, .int xk, .int xn, .int xz, .int xa, .int xg])), (x1, .inl (cJ, 512, .inr (.inl xmw))), (x2, .inl (cJ, 512, .inr (.inl xmp))), (x3, .inl (cJ, 24, .inr (.inl xr))), (x4, .inl (cI, 8, .inl xd)), (x5, .inl (cJ, 5, .inr (.inl xwt))), (x6, .inl (cJ, 24, .inr (.inl xf))), (x7, .inl (cJ, 24, .inr (.inl xrd))), (x8, .inl (cJ, 6, .inr (.inl xu)))] s.heap) {V : Int32} (hV : (F_X9_unit xo ) = V) (ls : Array Slot) (hl : lv_has ls 1 [(0, .ref hX)]) : W p l e rm_X9_unit s m args below meth c s.heap [] 0 0 (MQ below (vp_Si (fun r => r = V)) args s 0 0 (fun _ => False)) (F0 m 0 ls []) := by
  obtain ⟨hx, hb, hr, hlk, hml, hown, hts⟩ := id C0
  refine lv_aload_n hx hb dX9_unit_0 rfl (lv_at hl 0 rfl) ?_
  refine va_get (D := (dC, dI)) (ci := 6) (v := .int xo) (C := RX9) (T := TX9) (N := 24) hx hb hts mi_X9_unit_X9 hown hK hP 0 rfl rfl 16 (by decide) (hts (.fieldLink RX9 68 "ScoreboardCoreModel" "op" "I") mm_X9_unit_f68) (fun _ h9 => h9) rfl dX9_unit_1 ?_
  refine lv_bipush (v := (16 : Int32)) hx hb dX9_unit_4 (by decide) ?_
  refine lv_icmp_ge (x := xo) (y := (16 : Int32)) (tgt := 13) hx hb dX9_unit_6 (by decide) (fun c1 => ?_) (fun c1 => ?_)
  · refine lv_aload_n hx hb dX9_unit_13 rfl (lv_at hl 0 rfl) ?_
    refine va_get (D := (dC, dI)) (ci := 6) (v := .int xo) (C := RX9) (T := TX9) (N := 24) hx hb hts mi_X9_unit_X9 hown hK hP 0 rfl rfl 16 (by decide) (hts (.fieldLink RX9 68 "ScoreboardCoreModel" "op" "I") mm_X9_unit_f68) (fun _ h9 => h9) rfl dX9_unit_14 ?_
    refine lv_bipush (v := (20 : Int32)) hx hb dX9_unit_17 (by decide) ?_
    refine lv_icmp_lt (x := xo) (y := (20 : Int32)) (tgt := 31) hx hb dX9_unit_19 (by decide) (fun c2 => ?_) (fun c2 => ?_)
    · refine lv_iconst (v := (1 : Int32)) hx hb dX9_unit_31 (by decide) ?_
      refine lv_goto (tgt := 62) hx hb dX9_unit_32 (by decide) ?_
      have e9 : (F_X9_unit xo ) = (1 : Int32) := by rw [F_X9_unit, if_pos c1, if_pos c2]
      rw [e9] at hV
      subst hV
      exact roRetI C0 rfl dX9_unit_62
    · refine lv_aload_n hx hb dX9_unit_22 rfl (lv_at hl 0 rfl) ?_
      refine va_get (D := (dC, dI)) (ci := 6) (v := .int xo) (C := RX9) (T := TX9) (N := 24) hx hb hts mi_X9_unit_X9 hown hK hP 0 rfl rfl 16 (by decide) (hts (.fieldLink RX9 68 "ScoreboardCoreModel" "op" "I") mm_X9_unit_f68) (fun _ h9 => h9) rfl dX9_unit_23 ?_
      refine lv_bipush (v := (35 : Int32)) hx hb dX9_unit_26 (by decide) ?_
      refine lv_icmp_ne (x := xo) (y := (35 : Int32)) (tgt := 35) hx hb dX9_unit_28 (by decide) (fun c3 => ?_) (fun c3 => ?_)
      · refine lv_aload_n hx hb dX9_unit_35 rfl (lv_at hl 0 rfl) ?_
        refine va_get (D := (dC, dI)) (ci := 6) (v := .int xo) (C := RX9) (T := TX9) (N := 24) hx hb hts mi_X9_unit_X9 hown hK hP 0 rfl rfl 16 (by decide) (hts (.fieldLink RX9 68 "ScoreboardCoreModel" "op" "I") mm_X9_unit_f68) (fun _ h9 => h9) rfl dX9_unit_36 ?_
        refine lv_bipush (v := (32 : Int32)) hx hb dX9_unit_39 (by decide) ?_
        refine lv_icmp_ge (x := xo) (y := (32 : Int32)) (tgt := 48) hx hb dX9_unit_41 (by decide) (fun c4 => ?_) (fun c4 => ?_)
        · refine lv_aload_n hx hb dX9_unit_48 rfl (lv_at hl 0 rfl) ?_
          refine va_get (D := (dC, dI)) (ci := 6) (v := .int xo) (C := RX9) (T := TX9) (N := 24) hx hb hts mi_X9_unit_X9 hown hK hP 0 rfl rfl 16 (by decide) (hts (.fieldLink RX9 68 "ScoreboardCoreModel" "op" "I") mm_X9_unit_f68) (fun _ h9 => h9) rfl dX9_unit_49 ?_
          refine lv_bipush (v := (39 : Int32)) hx hb dX9_unit_52 (by decide) ?_
          refine lv_icmp_ne (x := xo) (y := (39 : Int32)) (tgt := 61) hx hb dX9_unit_54 (by decide) (fun c5 => ?_) (fun c5 => ?_)
          · refine lv_iconst (v := (4 : Int32)) hx hb dX9_unit_61 (by decide) ?_
            have e9 : (F_X9_unit xo ) = (4 : Int32) := by rw [F_X9_unit, if_pos c1, if_neg c2, if_neg c3, if_pos c4, if_neg c5]
            rw [e9] at hV
            subst hV
            exact roRetI C0 rfl dX9_unit_62
          · refine lv_iconst (v := (3 : Int32)) hx hb dX9_unit_57 (by decide) ?_
            refine lv_goto (tgt := 62) hx hb dX9_unit_58 (by decide) ?_
            have e9 : (F_X9_unit xo ) = (3 : Int32) := by rw [F_X9_unit, if_pos c1, if_neg c2, if_neg c3, if_pos c4, if_pos c5]
            rw [e9] at hV
            subst hV
            exact roRetI C0 rfl dX9_unit_62
        · refine lv_iconst (v := (2 : Int32)) hx hb dX9_unit_44 (by decide) ?_
          refine lv_goto (tgt := 62) hx hb dX9_unit_45 (by decide) ?_
          have e9 : (F_X9_unit xo ) = (2 : Int32) := by rw [F_X9_unit, if_pos c1, if_neg c2, if_neg c3, if_neg c4]
          rw [e9] at hV
          subst hV
          exact roRetI C0 rfl dX9_unit_62
      · refine lv_iconst (v := (1 : Int32)) hx hb dX9_unit_31 (by decide) ?_
        refine lv_goto (tgt := 62) hx hb dX9_unit_32 (by decide) ?_
        have e9 : (F_X9_unit xo ) = (1 : Int32) := by rw [F_X9_unit, if_pos c1, if_neg c2, if_pos c3]
        rw [e9] at hV
        subst hV
        exact roRetI C0 rfl dX9_unit_62
  · refine lv_iconst (v := (0 : Int32)) hx hb dX9_unit_9 (by decide) ?_
    refine lv_goto (tgt := 62) hx hb dX9_unit_10 (by decide) ?_
    have e9 : (F_X9_unit xo ) = (0 : Int32) := by rw [F_X9_unit, if_neg c1]
    rw [e9] at hV
    subst hV
    exact roRetI C0 rfl dX9_unit_62
theorem c_X9_unit (l : Launch) (dC : Nat → ClassId) (dI : Nat → Nat → Nat) (cI cJ : ClassId) (hX x1 x2 x3 x4 x5 x6 x7 x8 : Nat) (xt : Int32) (xw : Int32) (xp : Int32) (xs : Int32) (xc : Int64) (xM : Int64) (xE : Int64) (xL : Int64) (xo : Int32) (xi : Int32) (xj : Int32) (xk : Int32) (xn : Int32) (xz : Int32) (xa : Int32) (xg : Int32) (xmw : Nat → Int64) (xmp : Nat → Int64) (xr : Nat → Int64) (xd : Nat → Int32) (xwt : Nat → Int64) (xf : Nat → Int64) (xrd : Nat → Int64) (xu : Nat → Int64) : RoI l yX9_unit wsX9_unit rm_X9_unit (dC, dI) [(cI, .int), (cJ, .long)] [(hX, .inr (6, [.int xt, .ref x1, .ref x2, .ref x3, .int xw, .int xp, .int xs, .long xc, .ref x4, .ref x5, .ref x6, .ref x7, .ref x8, .long xM, .long xE, .long xL, .int xo, .int xi, .int xj, .int xk, .int xn, .int xz, .int xa, .int xg])), (x1, .inl (cJ, 512, .inr (.inl xmw))), (x2, .inl (cJ, 512, .inr (.inl xmp))), (x3, .inl (cJ, 24, .inr (.inl xr))), (x4, .inl (cI, 8, .inl xd)), (x5, .inl (cJ, 5, .inr (.inl xwt))), (x6, .inl (cJ, 24, .inr (.inl xf))), (x7, .inl (cJ, 24, .inr (.inl xrd))), (x8, .inl (cJ, 6, .inr (.inl xu)))] [.ref hX] (F_X9_unit xo ) := by
  refine RoI.mk (cc := cX9_unit) (nL := 1) (ret := (some .int)) [(0, .ref hX)] (by decide) rfl (Nat.le_of_ble_eq_true rfl) rfl ?_
  intro p e s m below meth c C0 hP hK ls hl
  exact w_X9_unit dC dI cI cJ hX x1 x2 x3 x4 x5 x6 x7 x8 xt xw xp xs xc xM xE xL xo xi xj xk xn xz xa xg xmw xmp xr xd xwt xf xrd xu C0 hK hP rfl ls hl
