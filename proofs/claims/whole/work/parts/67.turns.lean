/-- all that a turn of the law stands on -/
def LFx (p : Program) (l : Launch) (s : State) (m : MethodId) (meth : Method) (c : Code) (D : va_G) (tys : List (ClassId × FieldType)) (b L : Nat) (xs : Nat → Int32) : Prop :=
  Cx p s m meth c cL_law 8 ret wsL_law RL #[Value.ref b] ∧ va_X b L xs s s.heap ∧ b < s.heap.size ∧ L ≤ 2048 ∧ va_K D vwCl tys s ∧ Zs true (fun q : Nat => s.heap.size ≤ q) s s.heap ∧ Zx (fun q : Nat => s.heap.size ≤ q) s s.heap ∧ Nx "java/lang/IndexOutOfBoundsException" s ∧ Nx "java/lang/IllegalArgumentException" s
theorem vaP_as {D : va_G} {cl : List vw_C} {a b d : va_W} {H : Heap} (h : va_P D cl ((a ++ b) ++ d) H) : va_P D cl (a ++ (b ++ d)) H := by rw [← List.append_assoc]; exact h
theorem vaP_sa {D : va_G} {cl : List vw_C} {a b d : va_W} {H : Heap} (h : va_P D cl (a ++ (b ++ d)) H) : va_P D cl ((a ++ b) ++ d) H := by rw [List.append_assoc]; exact h
theorem vaD_as {A : Nat → Prop} {a b d : va_W} (h : va_D A ((a ++ b) ++ d)) : va_D A (a ++ (b ++ d)) := by rw [← List.append_assoc]; exact h
theorem vaD_sa {A : Nat → Prop} {a b d : va_W} (h : va_D A (a ++ (b ++ d))) : va_D A ((a ++ b) ++ d) := by rw [List.append_assoc]; exact h
section Turns
variable {p : Program} {l : Launch} {e : Env} {s : State} {m : MethodId} {below : List Frame} {meth : Method} {c : Code} {D : va_G} {tys : List (ClassId × FieldType)} {b L : Nat} {xs : Nat → Int32} {WC WC' WX WX' : va_W} {hC hX o1 : Nat} {cJ : ClassId} {of of' : Nat → Int64} {fsC fsX fsX' : List Value} {i k n : Nat} {H : Heap} {locs : List Loc}
set_option maxHeartbeats 4000000 in
set_option maxRecDepth 100000 in
theorem br_write {tX : Int32} {vX : Int64} (F : LFx p l s m meth c D tys b L xs) (hJ : tys[1]? = some (cJ, .long)) (hi : 4 * i + 4 ≤ L) (hk : k + 1 ≤ 1059) (hn : n + 6 ≤ 10533) (hx0 : WX[0]? = some (hX, .inr (6, fsX))) (hx0' : WX'[0]? = some (hX, .inr (6, fsX'))) (h1 : (WrI false l yL_write wsL_write rm_L_write D tys (WC ++ [(o1, .inl (cJ, 1, .inr (.inl of)))]) (WC' ++ [(o1, .inl (cJ, 1, .inr (.inl of')))]) [.ref hC, .int (xs (4 * i + 1)), .long (((xs (4 * i + 2)).toInt64 <<< ((32 : Int32).toInt64 &&& 63)) ||| ((xs (4 * i + 3)).toInt64 &&& (4294967295 : Int64))), .ref o1] 0 ∧ tX = 0 ∧ of' 0 = vX) ∨ (NoI "java/lang/IndexOutOfBoundsException" l yL_write wsL_write rm_n_L_write D tys (WC ++ [(o1, .inl (cJ, 1, .inr (.inl of)))]) [.ref hC, .int (xs (4 * i + 1)), .long (((xs (4 * i + 2)).toInt64 <<< ((32 : Int32).toInt64 &&& 63)) ||| ((xs (4 * i + 3)).toInt64 &&& (4294967295 : Int64))), .ref o1] ∧ tX = 1 ∧ WC' = WC ∧ of' = of)) (h2 : WrL false l yX9_write wsX9_write rm_X9_write D tys WX WX' [.ref hX, .int (xs (4 * i + 1)), .long (((xs (4 * i + 2)).toInt64 <<< ((32 : Int32).toInt64 &&& 63)) ||| ((xs (4 * i + 3)).toInt64 &&& (4294967295 : Int64)))] vX) (h3 : RoI l yX9_thrown wsX9_thrown rm_X9_thrown D tys WX' [.ref hX] tX) (hP : va_P D vwCl ((WC ++ [(o1, .inl (cJ, 1, .inr (.inl of)))]) ++ WX) H) (hD : va_D (fun q : Nat => s.heap.size ≤ q) ((WC ++ [(o1, .inl (cJ, 1, .inr (.inl of)))]) ++ WX)) (hS : va_S (fun q : Nat => s.heap.size ≤ q) s.heap H locs) (ls : Array Slot) (hl : lv_has ls 8 [(4, .int (nI (4 * i))), (3, .ref o1), (2, .ref hX), (1, .ref hC), (0, .ref b)])
    (kk : ∀ (H : Heap) (locs : List Loc), va_P D vwCl ((WC' ++ [(o1, .inl (cJ, 1, .inr (.inl of')))]) ++ WX') H → va_D (fun q : Nat => s.heap.size ≤ q) ((WC' ++ [(o1, .inl (cJ, 1, .inr (.inl of')))]) ++ WX') → va_S (fun q : Nat => s.heap.size ≤ q) s.heap H locs → ∀ ls : Array Slot, lv_has ls 8 [(4, .int (nI (4 * i))), (3, .ref o1), (2, .ref hX), (1, .ref hC), (0, .ref b)] → W p l e room_1 s m #[Value.ref b] below meth c H locs (k + 1) (n + 6) (lw_Z below #[Value.ref b] s) (F0 m 628 ls [])) : W p l e room_1 s m #[Value.ref b] below meth c H locs k n (lw_Z below #[Value.ref b] s) (F0 m 96 ls []) := by
  obtain ⟨C0, hXs, hbl, hL, hK, hZ, hZx, hN1, hN2⟩ := F
  obtain ⟨hx, hb, hr, hlk, hml, hown, hts⟩ := id C0
  have hA : ∀ q : Nat, s.heap.size ≤ q → (fun q : Nat => s.heap.size ≤ q) q := fun _ h => h
  have hbA : ¬ (fun q : Nat => s.heap.size ≤ q) b := Nat.not_le.mpr hbl
  have hin : ∀ j : Nat, j < 4 → vp_in (nI (4 * i) + nI j) L := fun j hj => by rw [nI_add]; exact vp_in_nI (by omega) (by omega)
  have hix : ∀ j : Nat, j < 4 → (nI (4 * i) + nI j).toNatClampNeg = 4 * i + j := fun j hj => by rw [nI_add]; exact nI_clamp (by omega)
  have hin1 : vp_in (nI (4 * i) + (1 : Int32)) L := hin 1 (by omega)
  have hin2 : vp_in (nI (4 * i) + (2 : Int32)) L := hin 2 (by omega)
  have hin3 : vp_in (nI (4 * i) + (3 : Int32)) L := hin 3 (by omega)
  have hix1 : (nI (4 * i) + (1 : Int32)).toNatClampNeg = 4 * i + 1 := hix 1 (by omega)
  have hix2 : (nI (4 * i) + (2 : Int32)).toNatClampNeg = 4 * i + 2 := hix 2 (by omega)
  have hix3 : (nI (4 * i) + (3 : Int32)).toNatClampNeg = 4 * i + 3 := hix 3 (by omega)
  refine lv_aload_n hx hb dL_law_96 rfl (lv_at hl 3 rfl) ?_
  refine lv_aload_n hx hb dL_law_97 rfl (lv_at hl 4 rfl) ?_
  refine lv_iload hx hb dL_law_98 (lv_at hl 0 rfl) ?_
  refine lv_iconst (v := (1 : Int32)) hx hb dL_law_100 (by decide) ?_
  refine lv_iadd hx hb dL_law_101 ?_
  refine va_sld hx hb hXs hbl hbA hS hin1 dL_law_102 ?_
  rw [hix1]
  refine lv_aload_n hx hb dL_law_103 rfl (lv_at hl 4 rfl) ?_
  refine lv_iload hx hb dL_law_104 (lv_at hl 0 rfl) ?_
  refine lv_iconst (v := (2 : Int32)) hx hb dL_law_106 (by decide) ?_
  refine lv_iadd hx hb dL_law_107 ?_
  refine va_sld hx hb hXs hbl hbA hS hin2 dL_law_108 ?_
  rw [hix2]
  refine lv_i2l hx hb dL_law_109 rfl ?_
  refine lv_bipush (v := (32 : Int32)) hx hb dL_law_110 (by decide) ?_
  refine lv_lshl hx hb dL_law_112 rfl ?_
  refine lv_aload_n hx hb dL_law_113 rfl (lv_at hl 4 rfl) ?_
  refine lv_iload hx hb dL_law_114 (lv_at hl 0 rfl) ?_
  refine lv_iconst (v := (3 : Int32)) hx hb dL_law_116 (by decide) ?_
  refine lv_iadd hx hb dL_law_117 ?_
  refine va_sld hx hb hXs hbl hbA hS hin3 dL_law_118 ?_
  rw [hix3]
  refine lv_i2l hx hb dL_law_119 rfl ?_
  refine lv_ldc2 (v := (4294967295 : Int64)) hx hb hown (hts _ mm_law_k46) dL_law_120 ?_
  refine lv_land hx hb dL_law_123 ?_
  refine lv_lor hx hb dL_law_124 ?_
  refine lv_aload_n hx hb dL_law_125 rfl (lv_at hl 1 rfl) ?_
  rcases h1 with ⟨h1, rfl, hval⟩ | ⟨h1, rfl, rfl, rfl⟩
  · refine lpOk (As := [.ref hC, .int (xs (4 * i + 1)), .long (((xs (4 * i + 2)).toInt64 <<< ((32 : Int32).toInt64 &&& 63)) ||| ((xs (4 * i + 3)).toInt64 &&& (4294967295 : Int64))), .ref o1]) (rest := []) (bytes := cL_write) (maxL := 6) (rty := some .int) (hh := [(0, 10, 13, 13)]) (n := 4) C0 h1 ⟨rfl, rfl, rfl, by decide +kernel, by decide, by decide⟩ ggL_law_L_write mm_law_iL mm_law_l48 mm_law_sL_write hP hD hK hS hA (Zs.no _ _ _) hl.1 rfl rfl (Nat.le_of_ble_eq_true rfl) dL_law_126 ⟨by show k ≤ 1059; omega, by show n ≤ 10533; omega⟩ (fun H locs hP hD hS => ?_)
    have hP := vaP_c hP
    have hD := vaD_c hD
    refine lv_istore (lv' := [(5, .int 0), (4, .int (nI (4 * i))), (3, .ref o1), (2, .ref hX), (1, .ref hC), (0, .ref b)]) hx hb dL_law_129 hl (by decide) rfl (fun ls hl => ?_)
    refine lv_aload_n hx hb dL_law_131 rfl (lv_at hl 3 rfl) ?_
    refine lv_aload_n hx hb dL_law_132 rfl (lv_at hl 5 rfl) ?_
    refine lv_iload hx hb dL_law_133 (lv_at hl 1 rfl) ?_
    refine lv_iconst (v := (1 : Int32)) hx hb dL_law_135 (by decide) ?_
    refine lv_iadd hx hb dL_law_136 ?_
    refine va_sld hx hb hXs hbl hbA hS hin1 dL_law_137 ?_
    rw [hix1]
    refine lv_aload_n hx hb dL_law_138 rfl (lv_at hl 5 rfl) ?_
    refine lv_iload hx hb dL_law_139 (lv_at hl 1 rfl) ?_
    refine lv_iconst (v := (2 : Int32)) hx hb dL_law_141 (by decide) ?_
    refine lv_iadd hx hb dL_law_142 ?_
    refine va_sld hx hb hXs hbl hbA hS hin2 dL_law_143 ?_
    rw [hix2]
    refine lv_i2l hx hb dL_law_144 rfl ?_
    refine lv_bipush (v := (32 : Int32)) hx hb dL_law_145 (by decide) ?_
    refine lv_lshl hx hb dL_law_147 rfl ?_
    refine lv_aload_n hx hb dL_law_148 rfl (lv_at hl 5 rfl) ?_
    refine lv_iload hx hb dL_law_149 (lv_at hl 1 rfl) ?_
    refine lv_iconst (v := (3 : Int32)) hx hb dL_law_151 (by decide) ?_
    refine lv_iadd hx hb dL_law_152 ?_
    refine va_sld hx hb hXs hbl hbA hS hin3 dL_law_153 ?_
    rw [hix3]
    refine lv_i2l hx hb dL_law_154 rfl ?_
    refine lv_ldc2 (v := (4294967295 : Int64)) hx hb hown (hts _ mm_law_k46) dL_law_155 ?_
    refine lv_land hx hb dL_law_158 ?_
    refine lv_lor hx hb dL_law_159 ?_
    refine lpVl (As := [.int (xs (4 * i + 1)), .long (((xs (4 * i + 2)).toInt64 <<< ((32 : Int32).toInt64 &&& 63)) ||| ((xs (4 * i + 3)).toInt64 &&& (4294967295 : Int64)))]) (rest := []) (bytes := cX9_write) (maxL := 6) (rty := (some .long)) (n := 2) (ci := 6) C0 h2 ⟨rfl, rfl, rfl, by decide +kernel, by decide, by decide⟩ ggL_law_X9_write mm_law_iX9 mm_law_l53 mm_law_mX9_write mm_law_eX9_write rfl hx0 hP hD hK hS hA (Zs.no _ _ _) hl.1 rfl rfl (Nat.le_of_ble_eq_true rfl) dL_law_160 ⟨by show k ≤ 1059; omega, by show n ≤ 10533; omega⟩ (fun H locs hP hD hS => ?_)
    refine lv_lstore (lv' := [(6, .long vX), (5, .int 0), (4, .int (nI (4 * i))), (3, .ref o1), (2, .ref hX), (1, .ref hC), (0, .ref b)]) hx hb dL_law_163 hl (by decide) rfl (fun ls hl => ?_)
    refine lv_aload_n hx hb dL_law_165 rfl (lv_at hl 4 rfl) ?_
    refine roVi (As := []) (rest := []) (bytes := cX9_thrown) (maxL := 1) (rty := (some .int)) (n := 0) (ci := 6) C0 h3 ⟨rfl, rfl, rfl, by decide +kernel, by decide, by decide⟩ ggL_law_X9_thrown mm_law_iX9 mm_law_l54 mm_law_mX9_thrown mm_law_eX9_thrown rfl hx0' (vaP_l hP) hK hl.1 rfl rfl (Nat.le_of_ble_eq_true rfl) dL_law_166 ⟨by show k ≤ 1059; omega, by show n ≤ 10533; omega⟩ ?_
    refine lv_iload hx hb dL_law_169 (lv_at hl 1 rfl) ?_
    refine lv_icmp_eq (tgt := 176) hx hb dL_law_171 (by decide) (fun _ => ?_) (fun q => absurd rfl q)
    refine lv_iload hx hb dL_law_176 (lv_at hl 1 rfl) ?_
    refine lv_if_ne (tgt := 192) hx hb dL_law_178 (by decide) (fun q => absurd rfl q) (fun _ => ?_)
    refine lv_aload_n hx hb dL_law_181 rfl (lv_at hl 3 rfl) ?_
    refine lv_iconst (v := (0 : Int32)) hx hb dL_law_182 (by decide) ?_
    refine va_lald (D := D) hx hb hK (vaP_r (vaP_r hP)) 0 1 rfl hJ (vpd (by decide)) dL_law_183 ?_
    rw [cl0, hval]
    refine lv_lload hx hb dL_law_184 (lv_at hl 0 rfl) ?_
    refine lc_eq (tgt := 192) hx hb dL_law_186 dL_law_187 (by decide) (fun _ => ?_) (fun q => absurd rfl q)
    refine lv_goto (tgt := 628) hx hb dL_law_192 (by decide) ?_
    refine W.widen (k := k + 1) (n := n + 6) (by omega) (by omega) ?_
    exact kk H locs (vaP_c hP) (vaD_c hD) hS ls (lv_sub hl [2, 3, 4, 5, 6] rfl)
  · refine lpNo (As := [.ref hC, .int (xs (4 * i + 1)), .long (((xs (4 * i + 2)).toInt64 <<< ((32 : Int32).toInt64 &&& 63)) ||| ((xs (4 * i + 3)).toInt64 &&& (4294967295 : Int64))), .ref o1]) (rest := []) (bytes := cL_write) (maxL := 6) (rty := some .int) (hh := [(0, 10, 13, 13)]) (n := 4) C0 h1 ⟨rfl, rfl, rfl, by decide +kernel, by decide, by decide⟩ ggL_law_L_write mm_law_iL mm_law_l48 mm_law_sL_write hP hD hK hS hA hZx hN1 hl.1 rfl rfl (Nat.le_of_ble_eq_true rfl) dL_law_126 ⟨by show k + 1 ≤ 1059; omega, by show n + 6 ≤ 10533; omega⟩ (fun H locs hP hD hS => ?_)
    have hP := vaP_c hP
    have hD := vaD_c hD
    refine lv_istore (lv' := [(5, .int 1), (4, .int (nI (4 * i))), (3, .ref o1), (2, .ref hX), (1, .ref hC), (0, .ref b)]) hx hb dL_law_129 hl (by decide) rfl (fun ls hl => ?_)
    refine lv_aload_n hx hb dL_law_131 rfl (lv_at hl 3 rfl) ?_
    refine lv_aload_n hx hb dL_law_132 rfl (lv_at hl 5 rfl) ?_
    refine lv_iload hx hb dL_law_133 (lv_at hl 1 rfl) ?_
    refine lv_iconst (v := (1 : Int32)) hx hb dL_law_135 (by decide) ?_
    refine lv_iadd hx hb dL_law_136 ?_
    refine va_sld hx hb hXs hbl hbA hS hin1 dL_law_137 ?_
    rw [hix1]
    refine lv_aload_n hx hb dL_law_138 rfl (lv_at hl 5 rfl) ?_
    refine lv_iload hx hb dL_law_139 (lv_at hl 1 rfl) ?_
    refine lv_iconst (v := (2 : Int32)) hx hb dL_law_141 (by decide) ?_
    refine lv_iadd hx hb dL_law_142 ?_
    refine va_sld hx hb hXs hbl hbA hS hin2 dL_law_143 ?_
    rw [hix2]
    refine lv_i2l hx hb dL_law_144 rfl ?_
    refine lv_bipush (v := (32 : Int32)) hx hb dL_law_145 (by decide) ?_
    refine lv_lshl hx hb dL_law_147 rfl ?_
    refine lv_aload_n hx hb dL_law_148 rfl (lv_at hl 5 rfl) ?_
    refine lv_iload hx hb dL_law_149 (lv_at hl 1 rfl) ?_
    refine lv_iconst (v := (3 : Int32)) hx hb dL_law_151 (by decide) ?_
    refine lv_iadd hx hb dL_law_152 ?_
    refine va_sld hx hb hXs hbl hbA hS hin3 dL_law_153 ?_
    rw [hix3]
    refine lv_i2l hx hb dL_law_154 rfl ?_
    refine lv_ldc2 (v := (4294967295 : Int64)) hx hb hown (hts _ mm_law_k46) dL_law_155 ?_
    refine lv_land hx hb dL_law_158 ?_
    refine lv_lor hx hb dL_law_159 ?_
    refine lpVl (As := [.int (xs (4 * i + 1)), .long (((xs (4 * i + 2)).toInt64 <<< ((32 : Int32).toInt64 &&& 63)) ||| ((xs (4 * i + 3)).toInt64 &&& (4294967295 : Int64)))]) (rest := []) (bytes := cX9_write) (maxL := 6) (rty := (some .long)) (n := 2) (ci := 6) C0 h2 ⟨rfl, rfl, rfl, by decide +kernel, by decide, by decide⟩ ggL_law_X9_write mm_law_iX9 mm_law_l53 mm_law_mX9_write mm_law_eX9_write rfl hx0 hP hD hK hS hA (Zs.no _ _ _) hl.1 rfl rfl (Nat.le_of_ble_eq_true rfl) dL_law_160 ⟨by show (k + 1) ≤ 1059; omega, by show (n + 6) ≤ 10533; omega⟩ (fun H locs hP hD hS => ?_)
    refine lv_lstore (lv' := [(6, .long vX), (5, .int 1), (4, .int (nI (4 * i))), (3, .ref o1), (2, .ref hX), (1, .ref hC), (0, .ref b)]) hx hb dL_law_163 hl (by decide) rfl (fun ls hl => ?_)
    refine lv_aload_n hx hb dL_law_165 rfl (lv_at hl 4 rfl) ?_
    refine roVi (As := []) (rest := []) (bytes := cX9_thrown) (maxL := 1) (rty := (some .int)) (n := 0) (ci := 6) C0 h3 ⟨rfl, rfl, rfl, by decide +kernel, by decide, by decide⟩ ggL_law_X9_thrown mm_law_iX9 mm_law_l54 mm_law_mX9_thrown mm_law_eX9_thrown rfl hx0' (vaP_l hP) hK hl.1 rfl rfl (Nat.le_of_ble_eq_true rfl) dL_law_166 ⟨by show (k + 1) ≤ 1059; omega, by show (n + 6) ≤ 10533; omega⟩ ?_
    refine lv_iload hx hb dL_law_169 (lv_at hl 1 rfl) ?_
    refine lv_icmp_eq (tgt := 176) hx hb dL_law_171 (by decide) (fun _ => ?_) (fun q => absurd rfl q)
    refine lv_iload hx hb dL_law_176 (lv_at hl 1 rfl) ?_
    refine lv_if_ne (tgt := 192) hx hb dL_law_178 (by decide) (fun _ => ?_) (fun q => absurd q (by decide))
    refine lv_goto (tgt := 628) hx hb dL_law_192 (by decide) ?_
    exact kk H locs (vaP_c hP) (vaD_c hD) hS ls (lv_sub hl [2, 3, 4, 5, 6] rfl)
set_option maxHeartbeats 4000000 in
set_option maxRecDepth 100000 in
theorem br_read {tX : Int32} {vX : Int64} (F : LFx p l s m meth c D tys b L xs) (hJ : tys[1]? = some (cJ, .long)) (hi : 4 * i + 4 ≤ L) (hk : k + 1 ≤ 1059) (hn : n + 6 ≤ 10533) (hx0 : WX[0]? = some (hX, .inr (6, fsX))) (hx0' : WX'[0]? = some (hX, .inr (6, fsX'))) (h1 : (WrI false l yL_read wsL_read rm_L_read D tys (WC ++ [(o1, .inl (cJ, 1, .inr (.inl of)))]) (WC' ++ [(o1, .inl (cJ, 1, .inr (.inl of')))]) [.ref hC, .int (xs (4 * i + 1)), .ref o1] 0 ∧ tX = 0 ∧ of' 0 = vX) ∨ (NoI "java/lang/IndexOutOfBoundsException" l yL_read wsL_read rm_n_L_read D tys (WC ++ [(o1, .inl (cJ, 1, .inr (.inl of)))]) [.ref hC, .int (xs (4 * i + 1)), .ref o1] ∧ tX = 1 ∧ WC' = WC ∧ of' = of)) (h2 : WrL false l yX9_read wsX9_read rm_X9_read D tys WX WX' [.ref hX, .int (xs (4 * i + 1))] vX) (h3 : RoI l yX9_thrown wsX9_thrown rm_X9_thrown D tys WX' [.ref hX] tX) (hP : va_P D vwCl ((WC ++ [(o1, .inl (cJ, 1, .inr (.inl of)))]) ++ WX) H) (hD : va_D (fun q : Nat => s.heap.size ≤ q) ((WC ++ [(o1, .inl (cJ, 1, .inr (.inl of)))]) ++ WX)) (hS : va_S (fun q : Nat => s.heap.size ≤ q) s.heap H locs) (ls : Array Slot) (hl : lv_has ls 8 [(4, .int (nI (4 * i))), (3, .ref o1), (2, .ref hX), (1, .ref hC), (0, .ref b)])
    (kk : ∀ (H : Heap) (locs : List Loc), va_P D vwCl ((WC' ++ [(o1, .inl (cJ, 1, .inr (.inl of')))]) ++ WX') H → va_D (fun q : Nat => s.heap.size ≤ q) ((WC' ++ [(o1, .inl (cJ, 1, .inr (.inl of')))]) ++ WX') → va_S (fun q : Nat => s.heap.size ≤ q) s.heap H locs → ∀ ls : Array Slot, lv_has ls 8 [(4, .int (nI (4 * i))), (3, .ref o1), (2, .ref hX), (1, .ref hC), (0, .ref b)] → W p l e room_1 s m #[Value.ref b] below meth c H locs (k + 1) (n + 6) (lw_Z below #[Value.ref b] s) (F0 m 628 ls [])) : W p l e room_1 s m #[Value.ref b] below meth c H locs k n (lw_Z below #[Value.ref b] s) (F0 m 195 ls []) := by
  obtain ⟨C0, hXs, hbl, hL, hK, hZ, hZx, hN1, hN2⟩ := F
  obtain ⟨hx, hb, hr, hlk, hml, hown, hts⟩ := id C0
  have hA : ∀ q : Nat, s.heap.size ≤ q → (fun q : Nat => s.heap.size ≤ q) q := fun _ h => h
  have hbA : ¬ (fun q : Nat => s.heap.size ≤ q) b := Nat.not_le.mpr hbl
  have hin : ∀ j : Nat, j < 4 → vp_in (nI (4 * i) + nI j) L := fun j hj => by rw [nI_add]; exact vp_in_nI (by omega) (by omega)
  have hix : ∀ j : Nat, j < 4 → (nI (4 * i) + nI j).toNatClampNeg = 4 * i + j := fun j hj => by rw [nI_add]; exact nI_clamp (by omega)
  have hin1 : vp_in (nI (4 * i) + (1 : Int32)) L := hin 1 (by omega)
  have hin2 : vp_in (nI (4 * i) + (2 : Int32)) L := hin 2 (by omega)
  have hin3 : vp_in (nI (4 * i) + (3 : Int32)) L := hin 3 (by omega)
  have hix1 : (nI (4 * i) + (1 : Int32)).toNatClampNeg = 4 * i + 1 := hix 1 (by omega)
  have hix2 : (nI (4 * i) + (2 : Int32)).toNatClampNeg = 4 * i + 2 := hix 2 (by omega)
  have hix3 : (nI (4 * i) + (3 : Int32)).toNatClampNeg = 4 * i + 3 := hix 3 (by omega)
  refine lv_aload_n hx hb dL_law_195 rfl (lv_at hl 3 rfl) ?_
  refine lv_aload_n hx hb dL_law_196 rfl (lv_at hl 4 rfl) ?_
  refine lv_iload hx hb dL_law_197 (lv_at hl 0 rfl) ?_
  refine lv_iconst (v := (1 : Int32)) hx hb dL_law_199 (by decide) ?_
  refine lv_iadd hx hb dL_law_200 ?_
  refine va_sld hx hb hXs hbl hbA hS hin1 dL_law_201 ?_
  rw [hix1]
  refine lv_aload_n hx hb dL_law_202 rfl (lv_at hl 1 rfl) ?_
  rcases h1 with ⟨h1, rfl, hval⟩ | ⟨h1, rfl, rfl, rfl⟩
  · refine lpOk (As := [.ref hC, .int (xs (4 * i + 1)), .ref o1]) (rest := []) (bytes := cL_read) (maxL := 4) (rty := some .int) (hh := [(0, 8, 11, 13)]) (n := 3) C0 h1 ⟨rfl, rfl, rfl, by decide +kernel, by decide, by decide⟩ ggL_law_L_read mm_law_iL mm_law_l58 mm_law_sL_read hP hD hK hS hA (Zs.no _ _ _) hl.1 rfl rfl (Nat.le_of_ble_eq_true rfl) dL_law_203 ⟨by show k ≤ 1059; omega, by show n ≤ 10533; omega⟩ (fun H locs hP hD hS => ?_)
    have hP := vaP_c hP
    have hD := vaD_c hD
    refine lv_istore (lv' := [(5, .int 0), (4, .int (nI (4 * i))), (3, .ref o1), (2, .ref hX), (1, .ref hC), (0, .ref b)]) hx hb dL_law_206 hl (by decide) rfl (fun ls hl => ?_)
    refine lv_aload_n hx hb dL_law_208 rfl (lv_at hl 3 rfl) ?_
    refine lv_aload_n hx hb dL_law_209 rfl (lv_at hl 5 rfl) ?_
    refine lv_iload hx hb dL_law_210 (lv_at hl 1 rfl) ?_
    refine lv_iconst (v := (1 : Int32)) hx hb dL_law_212 (by decide) ?_
    refine lv_iadd hx hb dL_law_213 ?_
    refine va_sld hx hb hXs hbl hbA hS hin1 dL_law_214 ?_
    rw [hix1]
    refine lpVl (As := [.int (xs (4 * i + 1))]) (rest := []) (bytes := cX9_read) (maxL := 2) (rty := (some .long)) (n := 1) (ci := 6) C0 h2 ⟨rfl, rfl, rfl, by decide +kernel, by decide, by decide⟩ ggL_law_X9_read mm_law_iX9 mm_law_l61 mm_law_mX9_read mm_law_eX9_read rfl hx0 hP hD hK hS hA (Zs.no _ _ _) hl.1 rfl rfl (Nat.le_of_ble_eq_true rfl) dL_law_215 ⟨by show k ≤ 1059; omega, by show n ≤ 10533; omega⟩ (fun H locs hP hD hS => ?_)
    refine lv_lstore (lv' := [(6, .long vX), (5, .int 0), (4, .int (nI (4 * i))), (3, .ref o1), (2, .ref hX), (1, .ref hC), (0, .ref b)]) hx hb dL_law_218 hl (by decide) rfl (fun ls hl => ?_)
    refine lv_aload_n hx hb dL_law_220 rfl (lv_at hl 4 rfl) ?_
    refine roVi (As := []) (rest := []) (bytes := cX9_thrown) (maxL := 1) (rty := (some .int)) (n := 0) (ci := 6) C0 h3 ⟨rfl, rfl, rfl, by decide +kernel, by decide, by decide⟩ ggL_law_X9_thrown mm_law_iX9 mm_law_l54 mm_law_mX9_thrown mm_law_eX9_thrown rfl hx0' (vaP_l hP) hK hl.1 rfl rfl (Nat.le_of_ble_eq_true rfl) dL_law_221 ⟨by show k ≤ 1059; omega, by show n ≤ 10533; omega⟩ ?_
    refine lv_iload hx hb dL_law_224 (lv_at hl 1 rfl) ?_
    refine lv_icmp_eq (tgt := 231) hx hb dL_law_226 (by decide) (fun _ => ?_) (fun q => absurd rfl q)
    refine lv_iload hx hb dL_law_231 (lv_at hl 1 rfl) ?_
    refine lv_if_ne (tgt := 247) hx hb dL_law_233 (by decide) (fun q => absurd rfl q) (fun _ => ?_)
    refine lv_aload_n hx hb dL_law_236 rfl (lv_at hl 3 rfl) ?_
    refine lv_iconst (v := (0 : Int32)) hx hb dL_law_237 (by decide) ?_
    refine va_lald (D := D) hx hb hK (vaP_r (vaP_r hP)) 0 1 rfl hJ (vpd (by decide)) dL_law_238 ?_
    rw [cl0, hval]
    refine lv_lload hx hb dL_law_239 (lv_at hl 0 rfl) ?_
    refine lc_eq (tgt := 247) hx hb dL_law_241 dL_law_242 (by decide) (fun _ => ?_) (fun q => absurd rfl q)
    refine lv_goto (tgt := 628) hx hb dL_law_247 (by decide) ?_
    refine W.widen (k := k + 1) (n := n + 6) (by omega) (by omega) ?_
    exact kk H locs (vaP_c hP) (vaD_c hD) hS ls (lv_sub hl [2, 3, 4, 5, 6] rfl)
  · refine lpNo (As := [.ref hC, .int (xs (4 * i + 1)), .ref o1]) (rest := []) (bytes := cL_read) (maxL := 4) (rty := some .int) (hh := [(0, 8, 11, 13)]) (n := 3) C0 h1 ⟨rfl, rfl, rfl, by decide +kernel, by decide, by decide⟩ ggL_law_L_read mm_law_iL mm_law_l58 mm_law_sL_read hP hD hK hS hA hZx hN1 hl.1 rfl rfl (Nat.le_of_ble_eq_true rfl) dL_law_203 ⟨by show k + 1 ≤ 1059; omega, by show n + 6 ≤ 10533; omega⟩ (fun H locs hP hD hS => ?_)
    have hP := vaP_c hP
    have hD := vaD_c hD
    refine lv_istore (lv' := [(5, .int 1), (4, .int (nI (4 * i))), (3, .ref o1), (2, .ref hX), (1, .ref hC), (0, .ref b)]) hx hb dL_law_206 hl (by decide) rfl (fun ls hl => ?_)
    refine lv_aload_n hx hb dL_law_208 rfl (lv_at hl 3 rfl) ?_
    refine lv_aload_n hx hb dL_law_209 rfl (lv_at hl 5 rfl) ?_
    refine lv_iload hx hb dL_law_210 (lv_at hl 1 rfl) ?_
    refine lv_iconst (v := (1 : Int32)) hx hb dL_law_212 (by decide) ?_
    refine lv_iadd hx hb dL_law_213 ?_
    refine va_sld hx hb hXs hbl hbA hS hin1 dL_law_214 ?_
    rw [hix1]
    refine lpVl (As := [.int (xs (4 * i + 1))]) (rest := []) (bytes := cX9_read) (maxL := 2) (rty := (some .long)) (n := 1) (ci := 6) C0 h2 ⟨rfl, rfl, rfl, by decide +kernel, by decide, by decide⟩ ggL_law_X9_read mm_law_iX9 mm_law_l61 mm_law_mX9_read mm_law_eX9_read rfl hx0 hP hD hK hS hA (Zs.no _ _ _) hl.1 rfl rfl (Nat.le_of_ble_eq_true rfl) dL_law_215 ⟨by show (k + 1) ≤ 1059; omega, by show (n + 6) ≤ 10533; omega⟩ (fun H locs hP hD hS => ?_)
    refine lv_lstore (lv' := [(6, .long vX), (5, .int 1), (4, .int (nI (4 * i))), (3, .ref o1), (2, .ref hX), (1, .ref hC), (0, .ref b)]) hx hb dL_law_218 hl (by decide) rfl (fun ls hl => ?_)
    refine lv_aload_n hx hb dL_law_220 rfl (lv_at hl 4 rfl) ?_
    refine roVi (As := []) (rest := []) (bytes := cX9_thrown) (maxL := 1) (rty := (some .int)) (n := 0) (ci := 6) C0 h3 ⟨rfl, rfl, rfl, by decide +kernel, by decide, by decide⟩ ggL_law_X9_thrown mm_law_iX9 mm_law_l54 mm_law_mX9_thrown mm_law_eX9_thrown rfl hx0' (vaP_l hP) hK hl.1 rfl rfl (Nat.le_of_ble_eq_true rfl) dL_law_221 ⟨by show (k + 1) ≤ 1059; omega, by show (n + 6) ≤ 10533; omega⟩ ?_
    refine lv_iload hx hb dL_law_224 (lv_at hl 1 rfl) ?_
    refine lv_icmp_eq (tgt := 231) hx hb dL_law_226 (by decide) (fun _ => ?_) (fun q => absurd rfl q)
    refine lv_iload hx hb dL_law_231 (lv_at hl 1 rfl) ?_
    refine lv_if_ne (tgt := 247) hx hb dL_law_233 (by decide) (fun _ => ?_) (fun q => absurd q (by decide))
    refine lv_goto (tgt := 628) hx hb dL_law_247 (by decide) ?_
    exact kk H locs (vaP_c hP) (vaD_c hD) hS ls (lv_sub hl [2, 3, 4, 5, 6] rfl)
set_option maxHeartbeats 4000000 in
set_option maxRecDepth 100000 in
theorem br_register {tX : Int32} {vX : Int64} (F : LFx p l s m meth c D tys b L xs) (hJ : tys[1]? = some (cJ, .long)) (hi : 4 * i + 4 ≤ L) (hk : k + 1 ≤ 1059) (hn : n + 6 ≤ 10533) (hx0 : WX[0]? = some (hX, .inr (6, fsX))) (hx0' : WX'[0]? = some (hX, .inr (6, fsX'))) (h1 : (WrI false l yL_register wsL_register rm_L_register D tys (WC ++ [(o1, .inl (cJ, 1, .inr (.inl of)))]) (WC' ++ [(o1, .inl (cJ, 1, .inr (.inl of')))]) [.ref hC, .int (xs (4 * i + 1)), .ref o1] 0 ∧ tX = 0 ∧ of' 0 = vX) ∨ (NoI "java/lang/IndexOutOfBoundsException" l yL_register wsL_register rm_n_L_register D tys (WC ++ [(o1, .inl (cJ, 1, .inr (.inl of)))]) [.ref hC, .int (xs (4 * i + 1)), .ref o1] ∧ tX = 1 ∧ WC' = WC ∧ of' = of)) (h2 : WrL false l yX9_register wsX9_register rm_X9_register D tys WX WX' [.ref hX, .int (xs (4 * i + 1))] vX) (h3 : RoI l yX9_thrown wsX9_thrown rm_X9_thrown D tys WX' [.ref hX] tX) (hP : va_P D vwCl ((WC ++ [(o1, .inl (cJ, 1, .inr (.inl of)))]) ++ WX) H) (hD : va_D (fun q : Nat => s.heap.size ≤ q) ((WC ++ [(o1, .inl (cJ, 1, .inr (.inl of)))]) ++ WX)) (hS : va_S (fun q : Nat => s.heap.size ≤ q) s.heap H locs) (ls : Array Slot) (hl : lv_has ls 8 [(4, .int (nI (4 * i))), (3, .ref o1), (2, .ref hX), (1, .ref hC), (0, .ref b)])
    (kk : ∀ (H : Heap) (locs : List Loc), va_P D vwCl ((WC' ++ [(o1, .inl (cJ, 1, .inr (.inl of')))]) ++ WX') H → va_D (fun q : Nat => s.heap.size ≤ q) ((WC' ++ [(o1, .inl (cJ, 1, .inr (.inl of')))]) ++ WX') → va_S (fun q : Nat => s.heap.size ≤ q) s.heap H locs → ∀ ls : Array Slot, lv_has ls 8 [(4, .int (nI (4 * i))), (3, .ref o1), (2, .ref hX), (1, .ref hC), (0, .ref b)] → W p l e room_1 s m #[Value.ref b] below meth c H locs (k + 1) (n + 6) (lw_Z below #[Value.ref b] s) (F0 m 628 ls [])) : W p l e room_1 s m #[Value.ref b] below meth c H locs k n (lw_Z below #[Value.ref b] s) (F0 m 250 ls []) := by
  obtain ⟨C0, hXs, hbl, hL, hK, hZ, hZx, hN1, hN2⟩ := F
  obtain ⟨hx, hb, hr, hlk, hml, hown, hts⟩ := id C0
  have hA : ∀ q : Nat, s.heap.size ≤ q → (fun q : Nat => s.heap.size ≤ q) q := fun _ h => h
  have hbA : ¬ (fun q : Nat => s.heap.size ≤ q) b := Nat.not_le.mpr hbl
  have hin : ∀ j : Nat, j < 4 → vp_in (nI (4 * i) + nI j) L := fun j hj => by rw [nI_add]; exact vp_in_nI (by omega) (by omega)
  have hix : ∀ j : Nat, j < 4 → (nI (4 * i) + nI j).toNatClampNeg = 4 * i + j := fun j hj => by rw [nI_add]; exact nI_clamp (by omega)
  have hin1 : vp_in (nI (4 * i) + (1 : Int32)) L := hin 1 (by omega)
  have hin2 : vp_in (nI (4 * i) + (2 : Int32)) L := hin 2 (by omega)
  have hin3 : vp_in (nI (4 * i) + (3 : Int32)) L := hin 3 (by omega)
  have hix1 : (nI (4 * i) + (1 : Int32)).toNatClampNeg = 4 * i + 1 := hix 1 (by omega)
  have hix2 : (nI (4 * i) + (2 : Int32)).toNatClampNeg = 4 * i + 2 := hix 2 (by omega)
  have hix3 : (nI (4 * i) + (3 : Int32)).toNatClampNeg = 4 * i + 3 := hix 3 (by omega)
  refine lv_aload_n hx hb dL_law_250 rfl (lv_at hl 3 rfl) ?_
  refine lv_aload_n hx hb dL_law_251 rfl (lv_at hl 4 rfl) ?_
  refine lv_iload hx hb dL_law_252 (lv_at hl 0 rfl) ?_
  refine lv_iconst (v := (1 : Int32)) hx hb dL_law_254 (by decide) ?_
  refine lv_iadd hx hb dL_law_255 ?_
  refine va_sld hx hb hXs hbl hbA hS hin1 dL_law_256 ?_
  rw [hix1]
  refine lv_aload_n hx hb dL_law_257 rfl (lv_at hl 1 rfl) ?_
  rcases h1 with ⟨h1, rfl, hval⟩ | ⟨h1, rfl, rfl, rfl⟩
  · refine lpOk (As := [.ref hC, .int (xs (4 * i + 1)), .ref o1]) (rest := []) (bytes := cL_register) (maxL := 4) (rty := some .int) (hh := [(0, 8, 11, 13)]) (n := 3) C0 h1 ⟨rfl, rfl, rfl, by decide +kernel, by decide, by decide⟩ ggL_law_L_register mm_law_iL mm_law_l62 mm_law_sL_register hP hD hK hS hA (Zs.no _ _ _) hl.1 rfl rfl (Nat.le_of_ble_eq_true rfl) dL_law_258 ⟨by show k ≤ 1059; omega, by show n ≤ 10533; omega⟩ (fun H locs hP hD hS => ?_)
    have hP := vaP_c hP
    have hD := vaD_c hD
    refine lv_istore (lv' := [(5, .int 0), (4, .int (nI (4 * i))), (3, .ref o1), (2, .ref hX), (1, .ref hC), (0, .ref b)]) hx hb dL_law_261 hl (by decide) rfl (fun ls hl => ?_)
    refine lv_aload_n hx hb dL_law_263 rfl (lv_at hl 3 rfl) ?_
    refine lv_aload_n hx hb dL_law_264 rfl (lv_at hl 5 rfl) ?_
    refine lv_iload hx hb dL_law_265 (lv_at hl 1 rfl) ?_
    refine lv_iconst (v := (1 : Int32)) hx hb dL_law_267 (by decide) ?_
    refine lv_iadd hx hb dL_law_268 ?_
    refine va_sld hx hb hXs hbl hbA hS hin1 dL_law_269 ?_
    rw [hix1]
    refine lpVl (As := [.int (xs (4 * i + 1))]) (rest := []) (bytes := cX9_register) (maxL := 2) (rty := (some .long)) (n := 1) (ci := 6) C0 h2 ⟨rfl, rfl, rfl, by decide +kernel, by decide, by decide⟩ ggL_law_X9_register mm_law_iX9 mm_law_l64 mm_law_mX9_register mm_law_eX9_register rfl hx0 hP hD hK hS hA (Zs.no _ _ _) hl.1 rfl rfl (Nat.le_of_ble_eq_true rfl) dL_law_270 ⟨by show k ≤ 1059; omega, by show n ≤ 10533; omega⟩ (fun H locs hP hD hS => ?_)
    refine lv_lstore (lv' := [(6, .long vX), (5, .int 0), (4, .int (nI (4 * i))), (3, .ref o1), (2, .ref hX), (1, .ref hC), (0, .ref b)]) hx hb dL_law_273 hl (by decide) rfl (fun ls hl => ?_)
    refine lv_aload_n hx hb dL_law_275 rfl (lv_at hl 4 rfl) ?_
    refine roVi (As := []) (rest := []) (bytes := cX9_thrown) (maxL := 1) (rty := (some .int)) (n := 0) (ci := 6) C0 h3 ⟨rfl, rfl, rfl, by decide +kernel, by decide, by decide⟩ ggL_law_X9_thrown mm_law_iX9 mm_law_l54 mm_law_mX9_thrown mm_law_eX9_thrown rfl hx0' (vaP_l hP) hK hl.1 rfl rfl (Nat.le_of_ble_eq_true rfl) dL_law_276 ⟨by show k ≤ 1059; omega, by show n ≤ 10533; omega⟩ ?_
    refine lv_iload hx hb dL_law_279 (lv_at hl 1 rfl) ?_
    refine lv_icmp_eq (tgt := 286) hx hb dL_law_281 (by decide) (fun _ => ?_) (fun q => absurd rfl q)
    refine lv_iload hx hb dL_law_286 (lv_at hl 1 rfl) ?_
    refine lv_if_ne (tgt := 302) hx hb dL_law_288 (by decide) (fun q => absurd rfl q) (fun _ => ?_)
    refine lv_aload_n hx hb dL_law_291 rfl (lv_at hl 3 rfl) ?_
    refine lv_iconst (v := (0 : Int32)) hx hb dL_law_292 (by decide) ?_
    refine va_lald (D := D) hx hb hK (vaP_r (vaP_r hP)) 0 1 rfl hJ (vpd (by decide)) dL_law_293 ?_
    rw [cl0, hval]
    refine lv_lload hx hb dL_law_294 (lv_at hl 0 rfl) ?_
    refine lc_eq (tgt := 302) hx hb dL_law_296 dL_law_297 (by decide) (fun _ => ?_) (fun q => absurd rfl q)
    refine lv_goto (tgt := 628) hx hb dL_law_302 (by decide) ?_
    refine W.widen (k := k + 1) (n := n + 6) (by omega) (by omega) ?_
    exact kk H locs (vaP_c hP) (vaD_c hD) hS ls (lv_sub hl [2, 3, 4, 5, 6] rfl)
  · refine lpNo (As := [.ref hC, .int (xs (4 * i + 1)), .ref o1]) (rest := []) (bytes := cL_register) (maxL := 4) (rty := some .int) (hh := [(0, 8, 11, 13)]) (n := 3) C0 h1 ⟨rfl, rfl, rfl, by decide +kernel, by decide, by decide⟩ ggL_law_L_register mm_law_iL mm_law_l62 mm_law_sL_register hP hD hK hS hA hZx hN1 hl.1 rfl rfl (Nat.le_of_ble_eq_true rfl) dL_law_258 ⟨by show k + 1 ≤ 1059; omega, by show n + 6 ≤ 10533; omega⟩ (fun H locs hP hD hS => ?_)
    have hP := vaP_c hP
    have hD := vaD_c hD
    refine lv_istore (lv' := [(5, .int 1), (4, .int (nI (4 * i))), (3, .ref o1), (2, .ref hX), (1, .ref hC), (0, .ref b)]) hx hb dL_law_261 hl (by decide) rfl (fun ls hl => ?_)
    refine lv_aload_n hx hb dL_law_263 rfl (lv_at hl 3 rfl) ?_
    refine lv_aload_n hx hb dL_law_264 rfl (lv_at hl 5 rfl) ?_
    refine lv_iload hx hb dL_law_265 (lv_at hl 1 rfl) ?_
    refine lv_iconst (v := (1 : Int32)) hx hb dL_law_267 (by decide) ?_
    refine lv_iadd hx hb dL_law_268 ?_
    refine va_sld hx hb hXs hbl hbA hS hin1 dL_law_269 ?_
    rw [hix1]
    refine lpVl (As := [.int (xs (4 * i + 1))]) (rest := []) (bytes := cX9_register) (maxL := 2) (rty := (some .long)) (n := 1) (ci := 6) C0 h2 ⟨rfl, rfl, rfl, by decide +kernel, by decide, by decide⟩ ggL_law_X9_register mm_law_iX9 mm_law_l64 mm_law_mX9_register mm_law_eX9_register rfl hx0 hP hD hK hS hA (Zs.no _ _ _) hl.1 rfl rfl (Nat.le_of_ble_eq_true rfl) dL_law_270 ⟨by show (k + 1) ≤ 1059; omega, by show (n + 6) ≤ 10533; omega⟩ (fun H locs hP hD hS => ?_)
    refine lv_lstore (lv' := [(6, .long vX), (5, .int 1), (4, .int (nI (4 * i))), (3, .ref o1), (2, .ref hX), (1, .ref hC), (0, .ref b)]) hx hb dL_law_273 hl (by decide) rfl (fun ls hl => ?_)
    refine lv_aload_n hx hb dL_law_275 rfl (lv_at hl 4 rfl) ?_
    refine roVi (As := []) (rest := []) (bytes := cX9_thrown) (maxL := 1) (rty := (some .int)) (n := 0) (ci := 6) C0 h3 ⟨rfl, rfl, rfl, by decide +kernel, by decide, by decide⟩ ggL_law_X9_thrown mm_law_iX9 mm_law_l54 mm_law_mX9_thrown mm_law_eX9_thrown rfl hx0' (vaP_l hP) hK hl.1 rfl rfl (Nat.le_of_ble_eq_true rfl) dL_law_276 ⟨by show (k + 1) ≤ 1059; omega, by show (n + 6) ≤ 10533; omega⟩ ?_
    refine lv_iload hx hb dL_law_279 (lv_at hl 1 rfl) ?_
    refine lv_icmp_eq (tgt := 286) hx hb dL_law_281 (by decide) (fun _ => ?_) (fun q => absurd rfl q)
    refine lv_iload hx hb dL_law_286 (lv_at hl 1 rfl) ?_
    refine lv_if_ne (tgt := 302) hx hb dL_law_288 (by decide) (fun _ => ?_) (fun q => absurd q (by decide))
    refine lv_goto (tgt := 628) hx hb dL_law_302 (by decide) ?_
    exact kk H locs (vaP_c hP) (vaD_c hD) hS ls (lv_sub hl [2, 3, 4, 5, 6] rfl)
set_option maxHeartbeats 4000000 in
set_option maxRecDepth 100000 in
theorem br_run {tX : Int32} {vX : Int32} (F : LFx p l s m meth c D tys b L xs) (hJ : tys[1]? = some (cJ, .long)) (hi : 4 * i + 4 ≤ L) (hk : k + 1 ≤ 1059) (hn : n + 6 ≤ 10533) (hx0 : WX[0]? = some (hX, .inr (6, fsX))) (hx0' : WX'[0]? = some (hX, .inr (6, fsX'))) (h1 : (WrI true l yL_run wsL_run rm_L_run D tys (WC ++ [(o1, .inl (cJ, 1, .inr (.inl of)))]) (WC' ++ [(o1, .inl (cJ, 1, .inr (.inl of')))]) [.ref hC, .int (xs (4 * i + 1)), .ref o1] 0 ∧ tX = 0 ∧ of' 0 = vX.toInt64) ∨ (NoI "java/lang/IllegalArgumentException" l yL_run wsL_run rm_n_L_run D tys (WC ++ [(o1, .inl (cJ, 1, .inr (.inl of)))]) [.ref hC, .int (xs (4 * i + 1)), .ref o1] ∧ tX = 1 ∧ WC' = WC ∧ of' = of)) (h2 : WrI false l yX9_run wsX9_run rm_X9_run D tys WX WX' [.ref hX, .int (xs (4 * i + 1))] vX) (h3 : RoI l yX9_thrown wsX9_thrown rm_X9_thrown D tys WX' [.ref hX] tX) (hP : va_P D vwCl ((WC ++ [(o1, .inl (cJ, 1, .inr (.inl of)))]) ++ WX) H) (hD : va_D (fun q : Nat => s.heap.size ≤ q) ((WC ++ [(o1, .inl (cJ, 1, .inr (.inl of)))]) ++ WX)) (hS : va_S (fun q : Nat => s.heap.size ≤ q) s.heap H locs) (ls : Array Slot) (hl : lv_has ls 8 [(4, .int (nI (4 * i))), (3, .ref o1), (2, .ref hX), (1, .ref hC), (0, .ref b)])
    (kk : ∀ (H : Heap) (locs : List Loc), va_P D vwCl ((WC' ++ [(o1, .inl (cJ, 1, .inr (.inl of')))]) ++ WX') H → va_D (fun q : Nat => s.heap.size ≤ q) ((WC' ++ [(o1, .inl (cJ, 1, .inr (.inl of')))]) ++ WX') → va_S (fun q : Nat => s.heap.size ≤ q) s.heap H locs → ∀ ls : Array Slot, lv_has ls 8 [(4, .int (nI (4 * i))), (3, .ref o1), (2, .ref hX), (1, .ref hC), (0, .ref b)] → W p l e room_1 s m #[Value.ref b] below meth c H locs (k + 1) (n + 6) (lw_Z below #[Value.ref b] s) (F0 m 628 ls [])) : W p l e room_1 s m #[Value.ref b] below meth c H locs k n (lw_Z below #[Value.ref b] s) (F0 m 421 ls []) := by
  obtain ⟨C0, hXs, hbl, hL, hK, hZ, hZx, hN1, hN2⟩ := F
  obtain ⟨hx, hb, hr, hlk, hml, hown, hts⟩ := id C0
  have hA : ∀ q : Nat, s.heap.size ≤ q → (fun q : Nat => s.heap.size ≤ q) q := fun _ h => h
  have hbA : ¬ (fun q : Nat => s.heap.size ≤ q) b := Nat.not_le.mpr hbl
  have hin : ∀ j : Nat, j < 4 → vp_in (nI (4 * i) + nI j) L := fun j hj => by rw [nI_add]; exact vp_in_nI (by omega) (by omega)
  have hix : ∀ j : Nat, j < 4 → (nI (4 * i) + nI j).toNatClampNeg = 4 * i + j := fun j hj => by rw [nI_add]; exact nI_clamp (by omega)
  have hin1 : vp_in (nI (4 * i) + (1 : Int32)) L := hin 1 (by omega)
  have hin2 : vp_in (nI (4 * i) + (2 : Int32)) L := hin 2 (by omega)
  have hin3 : vp_in (nI (4 * i) + (3 : Int32)) L := hin 3 (by omega)
  have hix1 : (nI (4 * i) + (1 : Int32)).toNatClampNeg = 4 * i + 1 := hix 1 (by omega)
  have hix2 : (nI (4 * i) + (2 : Int32)).toNatClampNeg = 4 * i + 2 := hix 2 (by omega)
  have hix3 : (nI (4 * i) + (3 : Int32)).toNatClampNeg = 4 * i + 3 := hix 3 (by omega)
  refine lv_aload_n hx hb dL_law_421 rfl (lv_at hl 3 rfl) ?_
  refine lv_aload_n hx hb dL_law_422 rfl (lv_at hl 4 rfl) ?_
  refine lv_iload hx hb dL_law_423 (lv_at hl 0 rfl) ?_
  refine lv_iconst (v := (1 : Int32)) hx hb dL_law_425 (by decide) ?_
  refine lv_iadd hx hb dL_law_426 ?_
  refine va_sld hx hb hXs hbl hbA hS hin1 dL_law_427 ?_
  rw [hix1]
  refine lv_aload_n hx hb dL_law_428 rfl (lv_at hl 1 rfl) ?_
  rcases h1 with ⟨h1, rfl, hval⟩ | ⟨h1, rfl, rfl, rfl⟩
  · refine lpOk (As := [.ref hC, .int (xs (4 * i + 1)), .ref o1]) (rest := []) (bytes := cL_run) (maxL := 4) (rty := some .int) (hh := [(0, 9, 12, 30)]) (n := 3) C0 h1 ⟨rfl, rfl, rfl, by decide +kernel, by decide, by decide⟩ ggL_law_L_run mm_law_iL mm_law_l73 mm_law_sL_run hP hD hK hS hA hZ hl.1 rfl rfl (Nat.le_of_ble_eq_true rfl) dL_law_429 ⟨by show k ≤ 1059; omega, by show n ≤ 10533; omega⟩ (fun H locs hP hD hS => ?_)
    have hP := vaP_c hP
    have hD := vaD_c hD
    refine lv_istore (lv' := [(5, .int 0), (4, .int (nI (4 * i))), (3, .ref o1), (2, .ref hX), (1, .ref hC), (0, .ref b)]) hx hb dL_law_432 hl (by decide) rfl (fun ls hl => ?_)
    refine lv_aload_n hx hb dL_law_434 rfl (lv_at hl 3 rfl) ?_
    refine lv_aload_n hx hb dL_law_435 rfl (lv_at hl 5 rfl) ?_
    refine lv_iload hx hb dL_law_436 (lv_at hl 1 rfl) ?_
    refine lv_iconst (v := (1 : Int32)) hx hb dL_law_438 (by decide) ?_
    refine lv_iadd hx hb dL_law_439 ?_
    refine va_sld hx hb hXs hbl hbA hS hin1 dL_law_440 ?_
    rw [hix1]
    refine lpVi (As := [.int (xs (4 * i + 1))]) (rest := []) (bytes := cX9_run) (maxL := 3) (rty := (some .int)) (n := 1) (ci := 6) C0 h2 ⟨rfl, rfl, rfl, by decide +kernel, by decide, by decide⟩ ggL_law_X9_run mm_law_iX9 mm_law_l75 mm_law_mX9_run mm_law_eX9_run rfl hx0 hP hD hK hS hA (Zs.no _ _ _) hl.1 rfl rfl (Nat.le_of_ble_eq_true rfl) dL_law_441 ⟨by show k ≤ 1059; omega, by show n ≤ 10533; omega⟩ (fun H locs hP hD hS => ?_)
    refine lv_istore (lv' := [(6, .int vX), (5, .int 0), (4, .int (nI (4 * i))), (3, .ref o1), (2, .ref hX), (1, .ref hC), (0, .ref b)]) hx hb dL_law_444 hl (by decide) rfl (fun ls hl => ?_)
    refine lv_aload_n hx hb dL_law_446 rfl (lv_at hl 4 rfl) ?_
    refine roVi (As := []) (rest := []) (bytes := cX9_thrown) (maxL := 1) (rty := (some .int)) (n := 0) (ci := 6) C0 h3 ⟨rfl, rfl, rfl, by decide +kernel, by decide, by decide⟩ ggL_law_X9_thrown mm_law_iX9 mm_law_l54 mm_law_mX9_thrown mm_law_eX9_thrown rfl hx0' (vaP_l hP) hK hl.1 rfl rfl (Nat.le_of_ble_eq_true rfl) dL_law_447 ⟨by show k ≤ 1059; omega, by show n ≤ 10533; omega⟩ ?_
    refine lv_iload hx hb dL_law_450 (lv_at hl 1 rfl) ?_
    refine lv_icmp_eq (tgt := 457) hx hb dL_law_452 (by decide) (fun _ => ?_) (fun q => absurd rfl q)
    refine lv_iload hx hb dL_law_457 (lv_at hl 1 rfl) ?_
    refine lv_if_ne (tgt := 474) hx hb dL_law_459 (by decide) (fun q => absurd rfl q) (fun _ => ?_)
    refine lv_aload_n hx hb dL_law_462 rfl (lv_at hl 3 rfl) ?_
    refine lv_iconst (v := (0 : Int32)) hx hb dL_law_463 (by decide) ?_
    refine va_lald (D := D) hx hb hK (vaP_r (vaP_r hP)) 0 1 rfl hJ (vpd (by decide)) dL_law_464 ?_
    rw [cl0, hval]
    refine lv_iload hx hb dL_law_465 (lv_at hl 0 rfl) ?_
    refine lv_i2l hx hb dL_law_467 rfl ?_
    refine lc_eq (tgt := 474) hx hb dL_law_468 dL_law_469 (by decide) (fun _ => ?_) (fun q => absurd rfl q)
    refine lv_goto (tgt := 628) hx hb dL_law_474 (by decide) ?_
    refine W.widen (k := k + 1) (n := n + 6) (by omega) (by omega) ?_
    exact kk H locs (vaP_c hP) (vaD_c hD) hS ls (lv_sub hl [2, 3, 4, 5, 6] rfl)
  · refine lpNo (As := [.ref hC, .int (xs (4 * i + 1)), .ref o1]) (rest := []) (bytes := cL_run) (maxL := 4) (rty := some .int) (hh := [(0, 9, 12, 30)]) (n := 3) C0 h1 ⟨rfl, rfl, rfl, by decide +kernel, by decide, by decide⟩ ggL_law_L_run mm_law_iL mm_law_l73 mm_law_sL_run hP hD hK hS hA hZx hN2 hl.1 rfl rfl (Nat.le_of_ble_eq_true rfl) dL_law_429 ⟨by show k + 1 ≤ 1059; omega, by show n + 6 ≤ 10533; omega⟩ (fun H locs hP hD hS => ?_)
    have hP := vaP_c hP
    have hD := vaD_c hD
    refine lv_istore (lv' := [(5, .int 1), (4, .int (nI (4 * i))), (3, .ref o1), (2, .ref hX), (1, .ref hC), (0, .ref b)]) hx hb dL_law_432 hl (by decide) rfl (fun ls hl => ?_)
    refine lv_aload_n hx hb dL_law_434 rfl (lv_at hl 3 rfl) ?_
    refine lv_aload_n hx hb dL_law_435 rfl (lv_at hl 5 rfl) ?_
    refine lv_iload hx hb dL_law_436 (lv_at hl 1 rfl) ?_
    refine lv_iconst (v := (1 : Int32)) hx hb dL_law_438 (by decide) ?_
    refine lv_iadd hx hb dL_law_439 ?_
    refine va_sld hx hb hXs hbl hbA hS hin1 dL_law_440 ?_
    rw [hix1]
    refine lpVi (As := [.int (xs (4 * i + 1))]) (rest := []) (bytes := cX9_run) (maxL := 3) (rty := (some .int)) (n := 1) (ci := 6) C0 h2 ⟨rfl, rfl, rfl, by decide +kernel, by decide, by decide⟩ ggL_law_X9_run mm_law_iX9 mm_law_l75 mm_law_mX9_run mm_law_eX9_run rfl hx0 hP hD hK hS hA (Zs.no _ _ _) hl.1 rfl rfl (Nat.le_of_ble_eq_true rfl) dL_law_441 ⟨by show (k + 1) ≤ 1059; omega, by show (n + 6) ≤ 10533; omega⟩ (fun H locs hP hD hS => ?_)
    refine lv_istore (lv' := [(6, .int vX), (5, .int 1), (4, .int (nI (4 * i))), (3, .ref o1), (2, .ref hX), (1, .ref hC), (0, .ref b)]) hx hb dL_law_444 hl (by decide) rfl (fun ls hl => ?_)
    refine lv_aload_n hx hb dL_law_446 rfl (lv_at hl 4 rfl) ?_
    refine roVi (As := []) (rest := []) (bytes := cX9_thrown) (maxL := 1) (rty := (some .int)) (n := 0) (ci := 6) C0 h3 ⟨rfl, rfl, rfl, by decide +kernel, by decide, by decide⟩ ggL_law_X9_thrown mm_law_iX9 mm_law_l54 mm_law_mX9_thrown mm_law_eX9_thrown rfl hx0' (vaP_l hP) hK hl.1 rfl rfl (Nat.le_of_ble_eq_true rfl) dL_law_447 ⟨by show (k + 1) ≤ 1059; omega, by show (n + 6) ≤ 10533; omega⟩ ?_
    refine lv_iload hx hb dL_law_450 (lv_at hl 1 rfl) ?_
    refine lv_icmp_eq (tgt := 457) hx hb dL_law_452 (by decide) (fun _ => ?_) (fun q => absurd rfl q)
    refine lv_iload hx hb dL_law_457 (lv_at hl 1 rfl) ?_
    refine lv_if_ne (tgt := 474) hx hb dL_law_459 (by decide) (fun _ => ?_) (fun q => absurd q (by decide))
    refine lv_goto (tgt := 628) hx hb dL_law_474 (by decide) ?_
    exact kk H locs (vaP_c hP) (vaD_c hD) hS ls (lv_sub hl [2, 3, 4, 5, 6] rfl)
set_option maxHeartbeats 4000000 in
set_option maxRecDepth 100000 in
theorem br_done {tX : Int32} {vX : Int32} (F : LFx p l s m meth c D tys b L xs) (hJ : tys[1]? = some (cJ, .long)) (hi : 4 * i + 4 ≤ L) (hk : k + 1 ≤ 1059) (hn : n + 6 ≤ 10533) (hx0 : WX[0]? = some (hX, .inr (6, fsX))) (hx0' : WX'[0]? = some (hX, .inr (6, fsX'))) (h1 : (WrI false l yL_done wsL_done rm_L_done D tys (WC ++ [(o1, .inl (cJ, 1, .inr (.inl of)))]) (WC' ++ [(o1, .inl (cJ, 1, .inr (.inl of')))]) [.ref hC, .int (xs (4 * i + 1)), .ref o1] 0 ∧ tX = 0 ∧ of' 0 = vX.toInt64) ∨ (NoI "java/lang/IllegalArgumentException" l yL_done wsL_done rm_n_L_done D tys (WC ++ [(o1, .inl (cJ, 1, .inr (.inl of)))]) [.ref hC, .int (xs (4 * i + 1)), .ref o1] ∧ tX = 1 ∧ WC' = WC ∧ of' = of)) (h2 : WrI false l yX9_done wsX9_done rm_X9_done D tys WX WX' [.ref hX, .int (xs (4 * i + 1))] vX) (h3 : RoI l yX9_thrown wsX9_thrown rm_X9_thrown D tys WX' [.ref hX] tX) (hP : va_P D vwCl ((WC ++ [(o1, .inl (cJ, 1, .inr (.inl of)))]) ++ WX) H) (hD : va_D (fun q : Nat => s.heap.size ≤ q) ((WC ++ [(o1, .inl (cJ, 1, .inr (.inl of)))]) ++ WX)) (hS : va_S (fun q : Nat => s.heap.size ≤ q) s.heap H locs) (ls : Array Slot) (hl : lv_has ls 8 [(4, .int (nI (4 * i))), (3, .ref o1), (2, .ref hX), (1, .ref hC), (0, .ref b)])
    (kk : ∀ (H : Heap) (locs : List Loc), va_P D vwCl ((WC' ++ [(o1, .inl (cJ, 1, .inr (.inl of')))]) ++ WX') H → va_D (fun q : Nat => s.heap.size ≤ q) ((WC' ++ [(o1, .inl (cJ, 1, .inr (.inl of')))]) ++ WX') → va_S (fun q : Nat => s.heap.size ≤ q) s.heap H locs → ∀ ls : Array Slot, lv_has ls 8 [(4, .int (nI (4 * i))), (3, .ref o1), (2, .ref hX), (1, .ref hC), (0, .ref b)] → W p l e room_1 s m #[Value.ref b] below meth c H locs (k + 1) (n + 6) (lw_Z below #[Value.ref b] s) (F0 m 628 ls [])) : W p l e room_1 s m #[Value.ref b] below meth c H locs k n (lw_Z below #[Value.ref b] s) (F0 m 517 ls []) := by
  obtain ⟨C0, hXs, hbl, hL, hK, hZ, hZx, hN1, hN2⟩ := F
  obtain ⟨hx, hb, hr, hlk, hml, hown, hts⟩ := id C0
  have hA : ∀ q : Nat, s.heap.size ≤ q → (fun q : Nat => s.heap.size ≤ q) q := fun _ h => h
  have hbA : ¬ (fun q : Nat => s.heap.size ≤ q) b := Nat.not_le.mpr hbl
  have hin : ∀ j : Nat, j < 4 → vp_in (nI (4 * i) + nI j) L := fun j hj => by rw [nI_add]; exact vp_in_nI (by omega) (by omega)
  have hix : ∀ j : Nat, j < 4 → (nI (4 * i) + nI j).toNatClampNeg = 4 * i + j := fun j hj => by rw [nI_add]; exact nI_clamp (by omega)
  have hin1 : vp_in (nI (4 * i) + (1 : Int32)) L := hin 1 (by omega)
  have hin2 : vp_in (nI (4 * i) + (2 : Int32)) L := hin 2 (by omega)
  have hin3 : vp_in (nI (4 * i) + (3 : Int32)) L := hin 3 (by omega)
  have hix1 : (nI (4 * i) + (1 : Int32)).toNatClampNeg = 4 * i + 1 := hix 1 (by omega)
  have hix2 : (nI (4 * i) + (2 : Int32)).toNatClampNeg = 4 * i + 2 := hix 2 (by omega)
  have hix3 : (nI (4 * i) + (3 : Int32)).toNatClampNeg = 4 * i + 3 := hix 3 (by omega)
  refine lv_aload_n hx hb dL_law_517 rfl (lv_at hl 3 rfl) ?_
  refine lv_aload_n hx hb dL_law_518 rfl (lv_at hl 4 rfl) ?_
  refine lv_iload hx hb dL_law_519 (lv_at hl 0 rfl) ?_
  refine lv_iconst (v := (1 : Int32)) hx hb dL_law_521 (by decide) ?_
  refine lv_iadd hx hb dL_law_522 ?_
  refine va_sld hx hb hXs hbl hbA hS hin1 dL_law_523 ?_
  rw [hix1]
  refine lv_aload_n hx hb dL_law_524 rfl (lv_at hl 1 rfl) ?_
  rcases h1 with ⟨h1, rfl, hval⟩ | ⟨h1, rfl, rfl, rfl⟩
  · refine lpOk (As := [.ref hC, .int (xs (4 * i + 1)), .ref o1]) (rest := []) (bytes := cL_done) (maxL := 4) (rty := some .int) (hh := [(0, 9, 12, 30)]) (n := 3) C0 h1 ⟨rfl, rfl, rfl, by decide +kernel, by decide, by decide⟩ ggL_law_L_done mm_law_iL mm_law_l89 mm_law_sL_done hP hD hK hS hA (Zs.no _ _ _) hl.1 rfl rfl (Nat.le_of_ble_eq_true rfl) dL_law_525 ⟨by show k ≤ 1059; omega, by show n ≤ 10533; omega⟩ (fun H locs hP hD hS => ?_)
    have hP := vaP_c hP
    have hD := vaD_c hD
    refine lv_istore (lv' := [(5, .int 0), (4, .int (nI (4 * i))), (3, .ref o1), (2, .ref hX), (1, .ref hC), (0, .ref b)]) hx hb dL_law_528 hl (by decide) rfl (fun ls hl => ?_)
    refine lv_aload_n hx hb dL_law_530 rfl (lv_at hl 3 rfl) ?_
    refine lv_aload_n hx hb dL_law_531 rfl (lv_at hl 5 rfl) ?_
    refine lv_iload hx hb dL_law_532 (lv_at hl 1 rfl) ?_
    refine lv_iconst (v := (1 : Int32)) hx hb dL_law_534 (by decide) ?_
    refine lv_iadd hx hb dL_law_535 ?_
    refine va_sld hx hb hXs hbl hbA hS hin1 dL_law_536 ?_
    rw [hix1]
    refine lpVi (As := [.int (xs (4 * i + 1))]) (rest := []) (bytes := cX9_done) (maxL := 2) (rty := (some .int)) (n := 1) (ci := 6) C0 h2 ⟨rfl, rfl, rfl, by decide +kernel, by decide, by decide⟩ ggL_law_X9_done mm_law_iX9 mm_law_l91 mm_law_mX9_done mm_law_eX9_done rfl hx0 hP hD hK hS hA (Zs.no _ _ _) hl.1 rfl rfl (Nat.le_of_ble_eq_true rfl) dL_law_537 ⟨by show k ≤ 1059; omega, by show n ≤ 10533; omega⟩ (fun H locs hP hD hS => ?_)
    refine lv_istore (lv' := [(6, .int vX), (5, .int 0), (4, .int (nI (4 * i))), (3, .ref o1), (2, .ref hX), (1, .ref hC), (0, .ref b)]) hx hb dL_law_540 hl (by decide) rfl (fun ls hl => ?_)
    refine lv_aload_n hx hb dL_law_542 rfl (lv_at hl 4 rfl) ?_
    refine roVi (As := []) (rest := []) (bytes := cX9_thrown) (maxL := 1) (rty := (some .int)) (n := 0) (ci := 6) C0 h3 ⟨rfl, rfl, rfl, by decide +kernel, by decide, by decide⟩ ggL_law_X9_thrown mm_law_iX9 mm_law_l54 mm_law_mX9_thrown mm_law_eX9_thrown rfl hx0' (vaP_l hP) hK hl.1 rfl rfl (Nat.le_of_ble_eq_true rfl) dL_law_543 ⟨by show k ≤ 1059; omega, by show n ≤ 10533; omega⟩ ?_
    refine lv_iload hx hb dL_law_546 (lv_at hl 1 rfl) ?_
    refine lv_icmp_eq (tgt := 553) hx hb dL_law_548 (by decide) (fun _ => ?_) (fun q => absurd rfl q)
    refine lv_iload hx hb dL_law_553 (lv_at hl 1 rfl) ?_
    refine lv_if_ne (tgt := 570) hx hb dL_law_555 (by decide) (fun q => absurd rfl q) (fun _ => ?_)
    refine lv_aload_n hx hb dL_law_558 rfl (lv_at hl 3 rfl) ?_
    refine lv_iconst (v := (0 : Int32)) hx hb dL_law_559 (by decide) ?_
    refine va_lald (D := D) hx hb hK (vaP_r (vaP_r hP)) 0 1 rfl hJ (vpd (by decide)) dL_law_560 ?_
    rw [cl0, hval]
    refine lv_iload hx hb dL_law_561 (lv_at hl 0 rfl) ?_
    refine lv_i2l hx hb dL_law_563 rfl ?_
    refine lc_eq (tgt := 570) hx hb dL_law_564 dL_law_565 (by decide) (fun _ => ?_) (fun q => absurd rfl q)
    refine lv_goto (tgt := 628) hx hb dL_law_570 (by decide) ?_
    refine W.widen (k := k + 1) (n := n + 6) (by omega) (by omega) ?_
    exact kk H locs (vaP_c hP) (vaD_c hD) hS ls (lv_sub hl [2, 3, 4, 5, 6] rfl)
  · refine lpNo (As := [.ref hC, .int (xs (4 * i + 1)), .ref o1]) (rest := []) (bytes := cL_done) (maxL := 4) (rty := some .int) (hh := [(0, 9, 12, 30)]) (n := 3) C0 h1 ⟨rfl, rfl, rfl, by decide +kernel, by decide, by decide⟩ ggL_law_L_done mm_law_iL mm_law_l89 mm_law_sL_done hP hD hK hS hA hZx hN2 hl.1 rfl rfl (Nat.le_of_ble_eq_true rfl) dL_law_525 ⟨by show k + 1 ≤ 1059; omega, by show n + 6 ≤ 10533; omega⟩ (fun H locs hP hD hS => ?_)
    have hP := vaP_c hP
    have hD := vaD_c hD
    refine lv_istore (lv' := [(5, .int 1), (4, .int (nI (4 * i))), (3, .ref o1), (2, .ref hX), (1, .ref hC), (0, .ref b)]) hx hb dL_law_528 hl (by decide) rfl (fun ls hl => ?_)
    refine lv_aload_n hx hb dL_law_530 rfl (lv_at hl 3 rfl) ?_
    refine lv_aload_n hx hb dL_law_531 rfl (lv_at hl 5 rfl) ?_
    refine lv_iload hx hb dL_law_532 (lv_at hl 1 rfl) ?_
    refine lv_iconst (v := (1 : Int32)) hx hb dL_law_534 (by decide) ?_
    refine lv_iadd hx hb dL_law_535 ?_
    refine va_sld hx hb hXs hbl hbA hS hin1 dL_law_536 ?_
    rw [hix1]
    refine lpVi (As := [.int (xs (4 * i + 1))]) (rest := []) (bytes := cX9_done) (maxL := 2) (rty := (some .int)) (n := 1) (ci := 6) C0 h2 ⟨rfl, rfl, rfl, by decide +kernel, by decide, by decide⟩ ggL_law_X9_done mm_law_iX9 mm_law_l91 mm_law_mX9_done mm_law_eX9_done rfl hx0 hP hD hK hS hA (Zs.no _ _ _) hl.1 rfl rfl (Nat.le_of_ble_eq_true rfl) dL_law_537 ⟨by show (k + 1) ≤ 1059; omega, by show (n + 6) ≤ 10533; omega⟩ (fun H locs hP hD hS => ?_)
    refine lv_istore (lv' := [(6, .int vX), (5, .int 1), (4, .int (nI (4 * i))), (3, .ref o1), (2, .ref hX), (1, .ref hC), (0, .ref b)]) hx hb dL_law_540 hl (by decide) rfl (fun ls hl => ?_)
    refine lv_aload_n hx hb dL_law_542 rfl (lv_at hl 4 rfl) ?_
    refine roVi (As := []) (rest := []) (bytes := cX9_thrown) (maxL := 1) (rty := (some .int)) (n := 0) (ci := 6) C0 h3 ⟨rfl, rfl, rfl, by decide +kernel, by decide, by decide⟩ ggL_law_X9_thrown mm_law_iX9 mm_law_l54 mm_law_mX9_thrown mm_law_eX9_thrown rfl hx0' (vaP_l hP) hK hl.1 rfl rfl (Nat.le_of_ble_eq_true rfl) dL_law_543 ⟨by show (k + 1) ≤ 1059; omega, by show (n + 6) ≤ 10533; omega⟩ ?_
    refine lv_iload hx hb dL_law_546 (lv_at hl 1 rfl) ?_
    refine lv_icmp_eq (tgt := 553) hx hb dL_law_548 (by decide) (fun _ => ?_) (fun q => absurd rfl q)
    refine lv_iload hx hb dL_law_553 (lv_at hl 1 rfl) ?_
    refine lv_if_ne (tgt := 570) hx hb dL_law_555 (by decide) (fun _ => ?_) (fun q => absurd q (by decide))
    refine lv_goto (tgt := 628) hx hb dL_law_570 (by decide) ?_
    exact kk H locs (vaP_c hP) (vaD_c hD) hS ls (lv_sub hl [2, 3, 4, 5, 6] rfl)
set_option maxHeartbeats 4000000 in
set_option maxRecDepth 100000 in
theorem br_waited {tX : Int32} {vX : Int64} (F : LFx p l s m meth c D tys b L xs) (hJ : tys[1]? = some (cJ, .long)) (hi : 4 * i + 4 ≤ L) (hk : k + 1 ≤ 1059) (hn : n + 6 ≤ 10533) (hx0 : WX[0]? = some (hX, .inr (6, fsX))) (hx0' : WX'[0]? = some (hX, .inr (6, fsX'))) (h1 : (WrI false l yL_waited wsL_waited rm_L_waited D tys (WC ++ [(o1, .inl (cJ, 1, .inr (.inl of)))]) (WC' ++ [(o1, .inl (cJ, 1, .inr (.inl of')))]) [.ref hC, .int (xs (4 * i + 1)), .ref o1] 0 ∧ tX = 0 ∧ of' 0 = vX) ∨ (NoI "java/lang/IllegalArgumentException" l yL_waited wsL_waited rm_n_L_waited D tys (WC ++ [(o1, .inl (cJ, 1, .inr (.inl of)))]) [.ref hC, .int (xs (4 * i + 1)), .ref o1] ∧ tX = 1 ∧ WC' = WC ∧ of' = of)) (h2 : WrL false l yX9_waited wsX9_waited rm_X9_waited D tys WX WX' [.ref hX, .int (xs (4 * i + 1))] vX) (h3 : RoI l yX9_thrown wsX9_thrown rm_X9_thrown D tys WX' [.ref hX] tX) (hP : va_P D vwCl ((WC ++ [(o1, .inl (cJ, 1, .inr (.inl of)))]) ++ WX) H) (hD : va_D (fun q : Nat => s.heap.size ≤ q) ((WC ++ [(o1, .inl (cJ, 1, .inr (.inl of)))]) ++ WX)) (hS : va_S (fun q : Nat => s.heap.size ≤ q) s.heap H locs) (ls : Array Slot) (hl : lv_has ls 8 [(4, .int (nI (4 * i))), (3, .ref o1), (2, .ref hX), (1, .ref hC), (0, .ref b)])
    (kk : ∀ (H : Heap) (locs : List Loc), va_P D vwCl ((WC' ++ [(o1, .inl (cJ, 1, .inr (.inl of')))]) ++ WX') H → va_D (fun q : Nat => s.heap.size ≤ q) ((WC' ++ [(o1, .inl (cJ, 1, .inr (.inl of')))]) ++ WX') → va_S (fun q : Nat => s.heap.size ≤ q) s.heap H locs → ∀ ls : Array Slot, lv_has ls 8 [(4, .int (nI (4 * i))), (3, .ref o1), (2, .ref hX), (1, .ref hC), (0, .ref b)] → W p l e room_1 s m #[Value.ref b] below meth c H locs (k + 1) (n + 6) (lw_Z below #[Value.ref b] s) (F0 m 628 ls [])) : W p l e room_1 s m #[Value.ref b] below meth c H locs k n (lw_Z below #[Value.ref b] s) (F0 m 573 ls []) := by
  obtain ⟨C0, hXs, hbl, hL, hK, hZ, hZx, hN1, hN2⟩ := F
  obtain ⟨hx, hb, hr, hlk, hml, hown, hts⟩ := id C0
  have hA : ∀ q : Nat, s.heap.size ≤ q → (fun q : Nat => s.heap.size ≤ q) q := fun _ h => h
  have hbA : ¬ (fun q : Nat => s.heap.size ≤ q) b := Nat.not_le.mpr hbl
  have hin : ∀ j : Nat, j < 4 → vp_in (nI (4 * i) + nI j) L := fun j hj => by rw [nI_add]; exact vp_in_nI (by omega) (by omega)
  have hix : ∀ j : Nat, j < 4 → (nI (4 * i) + nI j).toNatClampNeg = 4 * i + j := fun j hj => by rw [nI_add]; exact nI_clamp (by omega)
  have hin1 : vp_in (nI (4 * i) + (1 : Int32)) L := hin 1 (by omega)
  have hin2 : vp_in (nI (4 * i) + (2 : Int32)) L := hin 2 (by omega)
  have hin3 : vp_in (nI (4 * i) + (3 : Int32)) L := hin 3 (by omega)
  have hix1 : (nI (4 * i) + (1 : Int32)).toNatClampNeg = 4 * i + 1 := hix 1 (by omega)
  have hix2 : (nI (4 * i) + (2 : Int32)).toNatClampNeg = 4 * i + 2 := hix 2 (by omega)
  have hix3 : (nI (4 * i) + (3 : Int32)).toNatClampNeg = 4 * i + 3 := hix 3 (by omega)
  refine lv_aload_n hx hb dL_law_573 rfl (lv_at hl 3 rfl) ?_
  refine lv_aload_n hx hb dL_law_574 rfl (lv_at hl 4 rfl) ?_
  refine lv_iload hx hb dL_law_575 (lv_at hl 0 rfl) ?_
  refine lv_iconst (v := (1 : Int32)) hx hb dL_law_577 (by decide) ?_
  refine lv_iadd hx hb dL_law_578 ?_
  refine va_sld hx hb hXs hbl hbA hS hin1 dL_law_579 ?_
  rw [hix1]
  refine lv_aload_n hx hb dL_law_580 rfl (lv_at hl 1 rfl) ?_
  rcases h1 with ⟨h1, rfl, hval⟩ | ⟨h1, rfl, rfl, rfl⟩
  · refine lpOk (As := [.ref hC, .int (xs (4 * i + 1)), .ref o1]) (rest := []) (bytes := cL_waited) (maxL := 4) (rty := some .int) (hh := [(0, 8, 11, 30)]) (n := 3) C0 h1 ⟨rfl, rfl, rfl, by decide +kernel, by decide, by decide⟩ ggL_law_L_waited mm_law_iL mm_law_l92 mm_law_sL_waited hP hD hK hS hA (Zs.no _ _ _) hl.1 rfl rfl (Nat.le_of_ble_eq_true rfl) dL_law_581 ⟨by show k ≤ 1059; omega, by show n ≤ 10533; omega⟩ (fun H locs hP hD hS => ?_)
    have hP := vaP_c hP
    have hD := vaD_c hD
    refine lv_istore (lv' := [(5, .int 0), (4, .int (nI (4 * i))), (3, .ref o1), (2, .ref hX), (1, .ref hC), (0, .ref b)]) hx hb dL_law_584 hl (by decide) rfl (fun ls hl => ?_)
    refine lv_aload_n hx hb dL_law_586 rfl (lv_at hl 3 rfl) ?_
    refine lv_aload_n hx hb dL_law_587 rfl (lv_at hl 5 rfl) ?_
    refine lv_iload hx hb dL_law_588 (lv_at hl 1 rfl) ?_
    refine lv_iconst (v := (1 : Int32)) hx hb dL_law_590 (by decide) ?_
    refine lv_iadd hx hb dL_law_591 ?_
    refine va_sld hx hb hXs hbl hbA hS hin1 dL_law_592 ?_
    rw [hix1]
    refine lpVl (As := [.int (xs (4 * i + 1))]) (rest := []) (bytes := cX9_waited) (maxL := 2) (rty := (some .long)) (n := 1) (ci := 6) C0 h2 ⟨rfl, rfl, rfl, by decide +kernel, by decide, by decide⟩ ggL_law_X9_waited mm_law_iX9 mm_law_l94 mm_law_mX9_waited mm_law_eX9_waited rfl hx0 hP hD hK hS hA (Zs.no _ _ _) hl.1 rfl rfl (Nat.le_of_ble_eq_true rfl) dL_law_593 ⟨by show k ≤ 1059; omega, by show n ≤ 10533; omega⟩ (fun H locs hP hD hS => ?_)
    refine lv_lstore (lv' := [(6, .long vX), (5, .int 0), (4, .int (nI (4 * i))), (3, .ref o1), (2, .ref hX), (1, .ref hC), (0, .ref b)]) hx hb dL_law_596 hl (by decide) rfl (fun ls hl => ?_)
    refine lv_aload_n hx hb dL_law_598 rfl (lv_at hl 4 rfl) ?_
    refine roVi (As := []) (rest := []) (bytes := cX9_thrown) (maxL := 1) (rty := (some .int)) (n := 0) (ci := 6) C0 h3 ⟨rfl, rfl, rfl, by decide +kernel, by decide, by decide⟩ ggL_law_X9_thrown mm_law_iX9 mm_law_l54 mm_law_mX9_thrown mm_law_eX9_thrown rfl hx0' (vaP_l hP) hK hl.1 rfl rfl (Nat.le_of_ble_eq_true rfl) dL_law_599 ⟨by show k ≤ 1059; omega, by show n ≤ 10533; omega⟩ ?_
    refine lv_iload hx hb dL_law_602 (lv_at hl 1 rfl) ?_
    refine lv_icmp_eq (tgt := 609) hx hb dL_law_604 (by decide) (fun _ => ?_) (fun q => absurd rfl q)
    refine lv_iload hx hb dL_law_609 (lv_at hl 1 rfl) ?_
    refine lv_if_ne (tgt := 625) hx hb dL_law_611 (by decide) (fun q => absurd rfl q) (fun _ => ?_)
    refine lv_aload_n hx hb dL_law_614 rfl (lv_at hl 3 rfl) ?_
    refine lv_iconst (v := (0 : Int32)) hx hb dL_law_615 (by decide) ?_
    refine va_lald (D := D) hx hb hK (vaP_r (vaP_r hP)) 0 1 rfl hJ (vpd (by decide)) dL_law_616 ?_
    rw [cl0, hval]
    refine lv_lload hx hb dL_law_617 (lv_at hl 0 rfl) ?_
    refine lc_eq (tgt := 625) hx hb dL_law_619 dL_law_620 (by decide) (fun _ => ?_) (fun q => absurd rfl q)
    refine lv_goto (tgt := 628) hx hb dL_law_625 (by decide) ?_
    refine W.widen (k := k + 1) (n := n + 6) (by omega) (by omega) ?_
    exact kk H locs (vaP_c hP) (vaD_c hD) hS ls (lv_sub hl [2, 3, 4, 5, 6] rfl)
  · refine lpNo (As := [.ref hC, .int (xs (4 * i + 1)), .ref o1]) (rest := []) (bytes := cL_waited) (maxL := 4) (rty := some .int) (hh := [(0, 8, 11, 30)]) (n := 3) C0 h1 ⟨rfl, rfl, rfl, by decide +kernel, by decide, by decide⟩ ggL_law_L_waited mm_law_iL mm_law_l92 mm_law_sL_waited hP hD hK hS hA hZx hN2 hl.1 rfl rfl (Nat.le_of_ble_eq_true rfl) dL_law_581 ⟨by show k + 1 ≤ 1059; omega, by show n + 6 ≤ 10533; omega⟩ (fun H locs hP hD hS => ?_)
    have hP := vaP_c hP
    have hD := vaD_c hD
    refine lv_istore (lv' := [(5, .int 1), (4, .int (nI (4 * i))), (3, .ref o1), (2, .ref hX), (1, .ref hC), (0, .ref b)]) hx hb dL_law_584 hl (by decide) rfl (fun ls hl => ?_)
    refine lv_aload_n hx hb dL_law_586 rfl (lv_at hl 3 rfl) ?_
    refine lv_aload_n hx hb dL_law_587 rfl (lv_at hl 5 rfl) ?_
    refine lv_iload hx hb dL_law_588 (lv_at hl 1 rfl) ?_
    refine lv_iconst (v := (1 : Int32)) hx hb dL_law_590 (by decide) ?_
    refine lv_iadd hx hb dL_law_591 ?_
    refine va_sld hx hb hXs hbl hbA hS hin1 dL_law_592 ?_
    rw [hix1]
    refine lpVl (As := [.int (xs (4 * i + 1))]) (rest := []) (bytes := cX9_waited) (maxL := 2) (rty := (some .long)) (n := 1) (ci := 6) C0 h2 ⟨rfl, rfl, rfl, by decide +kernel, by decide, by decide⟩ ggL_law_X9_waited mm_law_iX9 mm_law_l94 mm_law_mX9_waited mm_law_eX9_waited rfl hx0 hP hD hK hS hA (Zs.no _ _ _) hl.1 rfl rfl (Nat.le_of_ble_eq_true rfl) dL_law_593 ⟨by show (k + 1) ≤ 1059; omega, by show (n + 6) ≤ 10533; omega⟩ (fun H locs hP hD hS => ?_)
    refine lv_lstore (lv' := [(6, .long vX), (5, .int 1), (4, .int (nI (4 * i))), (3, .ref o1), (2, .ref hX), (1, .ref hC), (0, .ref b)]) hx hb dL_law_596 hl (by decide) rfl (fun ls hl => ?_)
    refine lv_aload_n hx hb dL_law_598 rfl (lv_at hl 4 rfl) ?_
    refine roVi (As := []) (rest := []) (bytes := cX9_thrown) (maxL := 1) (rty := (some .int)) (n := 0) (ci := 6) C0 h3 ⟨rfl, rfl, rfl, by decide +kernel, by decide, by decide⟩ ggL_law_X9_thrown mm_law_iX9 mm_law_l54 mm_law_mX9_thrown mm_law_eX9_thrown rfl hx0' (vaP_l hP) hK hl.1 rfl rfl (Nat.le_of_ble_eq_true rfl) dL_law_599 ⟨by show (k + 1) ≤ 1059; omega, by show (n + 6) ≤ 10533; omega⟩ ?_
    refine lv_iload hx hb dL_law_602 (lv_at hl 1 rfl) ?_
    refine lv_icmp_eq (tgt := 609) hx hb dL_law_604 (by decide) (fun _ => ?_) (fun q => absurd rfl q)
    refine lv_iload hx hb dL_law_609 (lv_at hl 1 rfl) ?_
    refine lv_if_ne (tgt := 625) hx hb dL_law_611 (by decide) (fun _ => ?_) (fun q => absurd q (by decide))
    refine lv_goto (tgt := 628) hx hb dL_law_625 (by decide) ?_
    exact kk H locs (vaP_c hP) (vaD_c hD) hS ls (lv_sub hl [2, 3, 4, 5, 6] rfl)
set_option maxHeartbeats 4000000 in
set_option maxRecDepth 100000 in
theorem br_put {tX : Int32} (F : LFx p l s m meth c D tys b L xs) (hJ : tys[1]? = some (cJ, .long)) (hi : 4 * i + 4 ≤ L) (hk : k + 1 ≤ 1059) (hn : n + 6 ≤ 10533) (hx0 : WX[0]? = some (hX, .inr (6, fsX))) (hx0' : WX'[0]? = some (hX, .inr (6, fsX'))) (h1 : (WrI false l yL_put wsL_put rm_L_put D tys WC WC' [.ref hC, .int (xs (4 * i + 1)), .long (((xs (4 * i + 2)).toInt64 <<< ((32 : Int32).toInt64 &&& 63)) ||| ((xs (4 * i + 3)).toInt64 &&& (4294967295 : Int64)))] 0 ∧ tX = 0 ∧ of' = of) ∨ (NoI "java/lang/IndexOutOfBoundsException" l yL_put wsL_put rm_n_L_put D tys WC [.ref hC, .int (xs (4 * i + 1)), .long (((xs (4 * i + 2)).toInt64 <<< ((32 : Int32).toInt64 &&& 63)) ||| ((xs (4 * i + 3)).toInt64 &&& (4294967295 : Int64)))] ∧ tX = 1 ∧ WC' = WC ∧ of' = of)) (h2 : WrV false l yX9_put wsX9_put rm_X9_put D tys WX WX' [.ref hX, .int (xs (4 * i + 1)), .long (((xs (4 * i + 2)).toInt64 <<< ((32 : Int32).toInt64 &&& 63)) ||| ((xs (4 * i + 3)).toInt64 &&& (4294967295 : Int64)))]) (h3 : RoI l yX9_thrown wsX9_thrown rm_X9_thrown D tys WX' [.ref hX] tX) (hP : va_P D vwCl ((WC ++ [(o1, .inl (cJ, 1, .inr (.inl of)))]) ++ WX) H) (hD : va_D (fun q : Nat => s.heap.size ≤ q) ((WC ++ [(o1, .inl (cJ, 1, .inr (.inl of)))]) ++ WX)) (hS : va_S (fun q : Nat => s.heap.size ≤ q) s.heap H locs) (ls : Array Slot) (hl : lv_has ls 8 [(4, .int (nI (4 * i))), (3, .ref o1), (2, .ref hX), (1, .ref hC), (0, .ref b)])
    (kk : ∀ (H : Heap) (locs : List Loc), va_P D vwCl ((WC' ++ [(o1, .inl (cJ, 1, .inr (.inl of')))]) ++ WX') H → va_D (fun q : Nat => s.heap.size ≤ q) ((WC' ++ [(o1, .inl (cJ, 1, .inr (.inl of')))]) ++ WX') → va_S (fun q : Nat => s.heap.size ≤ q) s.heap H locs → ∀ ls : Array Slot, lv_has ls 8 [(4, .int (nI (4 * i))), (3, .ref o1), (2, .ref hX), (1, .ref hC), (0, .ref b)] → W p l e room_1 s m #[Value.ref b] below meth c H locs (k + 1) (n + 6) (lw_Z below #[Value.ref b] s) (F0 m 628 ls [])) : W p l e room_1 s m #[Value.ref b] below meth c H locs k n (lw_Z below #[Value.ref b] s) (F0 m 305 ls []) := by
  obtain ⟨C0, hXs, hbl, hL, hK, hZ, hZx, hN1, hN2⟩ := F
  obtain ⟨hx, hb, hr, hlk, hml, hown, hts⟩ := id C0
  have hA : ∀ q : Nat, s.heap.size ≤ q → (fun q : Nat => s.heap.size ≤ q) q := fun _ h => h
  have hbA : ¬ (fun q : Nat => s.heap.size ≤ q) b := Nat.not_le.mpr hbl
  have hin : ∀ j : Nat, j < 4 → vp_in (nI (4 * i) + nI j) L := fun j hj => by rw [nI_add]; exact vp_in_nI (by omega) (by omega)
  have hix : ∀ j : Nat, j < 4 → (nI (4 * i) + nI j).toNatClampNeg = 4 * i + j := fun j hj => by rw [nI_add]; exact nI_clamp (by omega)
  have hin1 : vp_in (nI (4 * i) + (1 : Int32)) L := hin 1 (by omega)
  have hin2 : vp_in (nI (4 * i) + (2 : Int32)) L := hin 2 (by omega)
  have hin3 : vp_in (nI (4 * i) + (3 : Int32)) L := hin 3 (by omega)
  have hix1 : (nI (4 * i) + (1 : Int32)).toNatClampNeg = 4 * i + 1 := hix 1 (by omega)
  have hix2 : (nI (4 * i) + (2 : Int32)).toNatClampNeg = 4 * i + 2 := hix 2 (by omega)
  have hix3 : (nI (4 * i) + (3 : Int32)).toNatClampNeg = 4 * i + 3 := hix 3 (by omega)
  refine lv_aload_n hx hb dL_law_305 rfl (lv_at hl 3 rfl) ?_
  refine lv_aload_n hx hb dL_law_306 rfl (lv_at hl 4 rfl) ?_
  refine lv_iload hx hb dL_law_307 (lv_at hl 0 rfl) ?_
  refine lv_iconst (v := (1 : Int32)) hx hb dL_law_309 (by decide) ?_
  refine lv_iadd hx hb dL_law_310 ?_
  refine va_sld hx hb hXs hbl hbA hS hin1 dL_law_311 ?_
  rw [hix1]
  refine lv_aload_n hx hb dL_law_312 rfl (lv_at hl 4 rfl) ?_
  refine lv_iload hx hb dL_law_313 (lv_at hl 0 rfl) ?_
  refine lv_iconst (v := (2 : Int32)) hx hb dL_law_315 (by decide) ?_
  refine lv_iadd hx hb dL_law_316 ?_
  refine va_sld hx hb hXs hbl hbA hS hin2 dL_law_317 ?_
  rw [hix2]
  refine lv_i2l hx hb dL_law_318 rfl ?_
  refine lv_bipush (v := (32 : Int32)) hx hb dL_law_319 (by decide) ?_
  refine lv_lshl hx hb dL_law_321 rfl ?_
  refine lv_aload_n hx hb dL_law_322 rfl (lv_at hl 4 rfl) ?_
  refine lv_iload hx hb dL_law_323 (lv_at hl 0 rfl) ?_
  refine lv_iconst (v := (3 : Int32)) hx hb dL_law_325 (by decide) ?_
  refine lv_iadd hx hb dL_law_326 ?_
  refine va_sld hx hb hXs hbl hbA hS hin3 dL_law_327 ?_
  rw [hix3]
  refine lv_i2l hx hb dL_law_328 rfl ?_
  refine lv_ldc2 (v := (4294967295 : Int64)) hx hb hown (hts _ mm_law_k46) dL_law_329 ?_
  refine lv_land hx hb dL_law_332 ?_
  refine lv_lor hx hb dL_law_333 ?_
  rcases h1 with ⟨h1, rfl, hval⟩ | ⟨h1, rfl, rfl, rfl⟩
  · have hP := vaP_as hP
    have hD := vaD_as hD
    refine lpOk (As := [.ref hC, .int (xs (4 * i + 1)), .long (((xs (4 * i + 2)).toInt64 <<< ((32 : Int32).toInt64 &&& 63)) ||| ((xs (4 * i + 3)).toInt64 &&& (4294967295 : Int64)))]) (rest := []) (bytes := cL_put) (maxL := 5) (rty := some .int) (hh := [(0, 6, 9, 13)]) (n := 3) C0 h1 ⟨rfl, rfl, rfl, by decide +kernel, by decide, by decide⟩ ggL_law_L_put mm_law_iL mm_law_l65 mm_law_sL_put hP hD hK hS hA (Zs.no _ _ _) hl.1 rfl rfl (Nat.le_of_ble_eq_true rfl) dL_law_334 ⟨by show k ≤ 1059; omega, by show n ≤ 10533; omega⟩ (fun H locs hP hD hS => ?_)
    have hP := vaP_sa hP
    have hD := vaD_sa hD
    subst hval
    have hP := vaP_c hP
    have hD := vaD_c hD
    refine lv_istore (lv' := [(5, .int 0), (4, .int (nI (4 * i))), (3, .ref o1), (2, .ref hX), (1, .ref hC), (0, .ref b)]) hx hb dL_law_337 hl (by decide) rfl (fun ls hl => ?_)
    refine lv_aload_n hx hb dL_law_339 rfl (lv_at hl 3 rfl) ?_
    refine lv_aload_n hx hb dL_law_340 rfl (lv_at hl 5 rfl) ?_
    refine lv_iload hx hb dL_law_341 (lv_at hl 1 rfl) ?_
    refine lv_iconst (v := (1 : Int32)) hx hb dL_law_343 (by decide) ?_
    refine lv_iadd hx hb dL_law_344 ?_
    refine va_sld hx hb hXs hbl hbA hS hin1 dL_law_345 ?_
    rw [hix1]
    refine lv_aload_n hx hb dL_law_346 rfl (lv_at hl 5 rfl) ?_
    refine lv_iload hx hb dL_law_347 (lv_at hl 1 rfl) ?_
    refine lv_iconst (v := (2 : Int32)) hx hb dL_law_349 (by decide) ?_
    refine lv_iadd hx hb dL_law_350 ?_
    refine va_sld hx hb hXs hbl hbA hS hin2 dL_law_351 ?_
    rw [hix2]
    refine lv_i2l hx hb dL_law_352 rfl ?_
    refine lv_bipush (v := (32 : Int32)) hx hb dL_law_353 (by decide) ?_
    refine lv_lshl hx hb dL_law_355 rfl ?_
    refine lv_aload_n hx hb dL_law_356 rfl (lv_at hl 5 rfl) ?_
    refine lv_iload hx hb dL_law_357 (lv_at hl 1 rfl) ?_
    refine lv_iconst (v := (3 : Int32)) hx hb dL_law_359 (by decide) ?_
    refine lv_iadd hx hb dL_law_360 ?_
    refine va_sld hx hb hXs hbl hbA hS hin3 dL_law_361 ?_
    rw [hix3]
    refine lv_i2l hx hb dL_law_362 rfl ?_
    refine lv_ldc2 (v := (4294967295 : Int64)) hx hb hown (hts _ mm_law_k46) dL_law_363 ?_
    refine lv_land hx hb dL_law_366 ?_
    refine lv_lor hx hb dL_law_367 ?_
    refine lpVv (As := [.int (xs (4 * i + 1)), .long (((xs (4 * i + 2)).toInt64 <<< ((32 : Int32).toInt64 &&& 63)) ||| ((xs (4 * i + 3)).toInt64 &&& (4294967295 : Int64)))]) (rest := []) (bytes := cX9_put) (maxL := 4) (rty := none) (n := 2) (ci := 6) C0 h2 ⟨rfl, rfl, rfl, by decide +kernel, by decide, by decide⟩ ggL_law_X9_put mm_law_iX9 mm_law_l68 mm_law_mX9_put mm_law_eX9_put rfl hx0 hP hD hK hS hA (Zs.no _ _ _) hl.1 rfl rfl (Nat.le_of_ble_eq_true rfl) dL_law_368 ⟨by show k ≤ 1059; omega, by show n ≤ 10533; omega⟩ (fun H locs hP hD hS => ?_)
    refine lv_aload_n hx hb dL_law_371 rfl (lv_at hl 3 rfl) ?_
    refine roVi (As := []) (rest := []) (bytes := cX9_thrown) (maxL := 1) (rty := (some .int)) (n := 0) (ci := 6) C0 h3 ⟨rfl, rfl, rfl, by decide +kernel, by decide, by decide⟩ ggL_law_X9_thrown mm_law_iX9 mm_law_l54 mm_law_mX9_thrown mm_law_eX9_thrown rfl hx0' (vaP_l hP) hK hl.1 rfl rfl (Nat.le_of_ble_eq_true rfl) dL_law_372 ⟨by show k ≤ 1059; omega, by show n ≤ 10533; omega⟩ ?_
    refine lv_iload hx hb dL_law_375 (lv_at hl 0 rfl) ?_
    refine lv_icmp_eq (tgt := 382) hx hb dL_law_377 (by decide) (fun _ => ?_) (fun q => absurd rfl q)
    refine lv_goto (tgt := 628) hx hb dL_law_382 (by decide) ?_
    refine W.widen (k := k + 1) (n := n + 6) (by omega) (by omega) ?_
    exact kk H locs (vaP_c hP) (vaD_c hD) hS ls (lv_sub hl [1, 2, 3, 4, 5] rfl)
  · have hP := vaP_as hP
    have hD := vaD_as hD
    refine lpNo (As := [.ref hC, .int (xs (4 * i + 1)), .long (((xs (4 * i + 2)).toInt64 <<< ((32 : Int32).toInt64 &&& 63)) ||| ((xs (4 * i + 3)).toInt64 &&& (4294967295 : Int64)))]) (rest := []) (bytes := cL_put) (maxL := 5) (rty := some .int) (hh := [(0, 6, 9, 13)]) (n := 3) C0 h1 ⟨rfl, rfl, rfl, by decide +kernel, by decide, by decide⟩ ggL_law_L_put mm_law_iL mm_law_l65 mm_law_sL_put hP hD hK hS hA hZx hN1 hl.1 rfl rfl (Nat.le_of_ble_eq_true rfl) dL_law_334 ⟨by show k + 1 ≤ 1059; omega, by show n + 6 ≤ 10533; omega⟩ (fun H locs hP hD hS => ?_)
    have hP := vaP_sa hP
    have hD := vaD_sa hD
    have hP := vaP_c hP
    have hD := vaD_c hD
    refine lv_istore (lv' := [(5, .int 1), (4, .int (nI (4 * i))), (3, .ref o1), (2, .ref hX), (1, .ref hC), (0, .ref b)]) hx hb dL_law_337 hl (by decide) rfl (fun ls hl => ?_)
    refine lv_aload_n hx hb dL_law_339 rfl (lv_at hl 3 rfl) ?_
    refine lv_aload_n hx hb dL_law_340 rfl (lv_at hl 5 rfl) ?_
    refine lv_iload hx hb dL_law_341 (lv_at hl 1 rfl) ?_
    refine lv_iconst (v := (1 : Int32)) hx hb dL_law_343 (by decide) ?_
    refine lv_iadd hx hb dL_law_344 ?_
    refine va_sld hx hb hXs hbl hbA hS hin1 dL_law_345 ?_
    rw [hix1]
    refine lv_aload_n hx hb dL_law_346 rfl (lv_at hl 5 rfl) ?_
    refine lv_iload hx hb dL_law_347 (lv_at hl 1 rfl) ?_
    refine lv_iconst (v := (2 : Int32)) hx hb dL_law_349 (by decide) ?_
    refine lv_iadd hx hb dL_law_350 ?_
    refine va_sld hx hb hXs hbl hbA hS hin2 dL_law_351 ?_
    rw [hix2]
    refine lv_i2l hx hb dL_law_352 rfl ?_
    refine lv_bipush (v := (32 : Int32)) hx hb dL_law_353 (by decide) ?_
    refine lv_lshl hx hb dL_law_355 rfl ?_
    refine lv_aload_n hx hb dL_law_356 rfl (lv_at hl 5 rfl) ?_
    refine lv_iload hx hb dL_law_357 (lv_at hl 1 rfl) ?_
    refine lv_iconst (v := (3 : Int32)) hx hb dL_law_359 (by decide) ?_
    refine lv_iadd hx hb dL_law_360 ?_
    refine va_sld hx hb hXs hbl hbA hS hin3 dL_law_361 ?_
    rw [hix3]
    refine lv_i2l hx hb dL_law_362 rfl ?_
    refine lv_ldc2 (v := (4294967295 : Int64)) hx hb hown (hts _ mm_law_k46) dL_law_363 ?_
    refine lv_land hx hb dL_law_366 ?_
    refine lv_lor hx hb dL_law_367 ?_
    refine lpVv (As := [.int (xs (4 * i + 1)), .long (((xs (4 * i + 2)).toInt64 <<< ((32 : Int32).toInt64 &&& 63)) ||| ((xs (4 * i + 3)).toInt64 &&& (4294967295 : Int64)))]) (rest := []) (bytes := cX9_put) (maxL := 4) (rty := none) (n := 2) (ci := 6) C0 h2 ⟨rfl, rfl, rfl, by decide +kernel, by decide, by decide⟩ ggL_law_X9_put mm_law_iX9 mm_law_l68 mm_law_mX9_put mm_law_eX9_put rfl hx0 hP hD hK hS hA (Zs.no _ _ _) hl.1 rfl rfl (Nat.le_of_ble_eq_true rfl) dL_law_368 ⟨by show (k + 1) ≤ 1059; omega, by show (n + 6) ≤ 10533; omega⟩ (fun H locs hP hD hS => ?_)
    refine lv_aload_n hx hb dL_law_371 rfl (lv_at hl 3 rfl) ?_
    refine roVi (As := []) (rest := []) (bytes := cX9_thrown) (maxL := 1) (rty := (some .int)) (n := 0) (ci := 6) C0 h3 ⟨rfl, rfl, rfl, by decide +kernel, by decide, by decide⟩ ggL_law_X9_thrown mm_law_iX9 mm_law_l54 mm_law_mX9_thrown mm_law_eX9_thrown rfl hx0' (vaP_l hP) hK hl.1 rfl rfl (Nat.le_of_ble_eq_true rfl) dL_law_372 ⟨by show (k + 1) ≤ 1059; omega, by show (n + 6) ≤ 10533; omega⟩ ?_
    refine lv_iload hx hb dL_law_375 (lv_at hl 0 rfl) ?_
    refine lv_icmp_eq (tgt := 382) hx hb dL_law_377 (by decide) (fun _ => ?_) (fun q => absurd rfl q)
    refine lv_goto (tgt := 628) hx hb dL_law_382 (by decide) ?_
    exact kk H locs (vaP_c hP) (vaD_c hD) hS ls (lv_sub hl [1, 2, 3, 4, 5] rfl)
set_option maxHeartbeats 4000000 in
set_option maxRecDepth 100000 in
theorem br_start {tX : Int32} (F : LFx p l s m meth c D tys b L xs) (hJ : tys[1]? = some (cJ, .long)) (hi : 4 * i + 4 ≤ L) (hk : k + 1 ≤ 1059) (hn : n + 6 ≤ 10533) (hx0 : WX[0]? = some (hX, .inr (6, fsX))) (hx0' : WX'[0]? = some (hX, .inr (6, fsX'))) (h1 : (WrI false l yL_start wsL_start rm_L_start D tys WC WC' [.ref hC, .int (xs (4 * i + 1))] 0 ∧ tX = 0 ∧ of' = of) ∨ (NoI "java/lang/IllegalArgumentException" l yL_start wsL_start rm_n_L_start D tys WC [.ref hC, .int (xs (4 * i + 1))] ∧ tX = 1 ∧ WC' = WC ∧ of' = of)) (h2 : WrV false l yX9_start wsX9_start rm_X9_start D tys WX WX' [.ref hX, .int (xs (4 * i + 1))]) (h3 : RoI l yX9_thrown wsX9_thrown rm_X9_thrown D tys WX' [.ref hX] tX) (hP : va_P D vwCl ((WC ++ [(o1, .inl (cJ, 1, .inr (.inl of)))]) ++ WX) H) (hD : va_D (fun q : Nat => s.heap.size ≤ q) ((WC ++ [(o1, .inl (cJ, 1, .inr (.inl of)))]) ++ WX)) (hS : va_S (fun q : Nat => s.heap.size ≤ q) s.heap H locs) (ls : Array Slot) (hl : lv_has ls 8 [(4, .int (nI (4 * i))), (3, .ref o1), (2, .ref hX), (1, .ref hC), (0, .ref b)])
    (kk : ∀ (H : Heap) (locs : List Loc), va_P D vwCl ((WC' ++ [(o1, .inl (cJ, 1, .inr (.inl of')))]) ++ WX') H → va_D (fun q : Nat => s.heap.size ≤ q) ((WC' ++ [(o1, .inl (cJ, 1, .inr (.inl of')))]) ++ WX') → va_S (fun q : Nat => s.heap.size ≤ q) s.heap H locs → ∀ ls : Array Slot, lv_has ls 8 [(4, .int (nI (4 * i))), (3, .ref o1), (2, .ref hX), (1, .ref hC), (0, .ref b)] → W p l e room_1 s m #[Value.ref b] below meth c H locs (k + 1) (n + 6) (lw_Z below #[Value.ref b] s) (F0 m 628 ls [])) : W p l e room_1 s m #[Value.ref b] below meth c H locs k n (lw_Z below #[Value.ref b] s) (F0 m 385 ls []) := by
  obtain ⟨C0, hXs, hbl, hL, hK, hZ, hZx, hN1, hN2⟩ := F
  obtain ⟨hx, hb, hr, hlk, hml, hown, hts⟩ := id C0
  have hA : ∀ q : Nat, s.heap.size ≤ q → (fun q : Nat => s.heap.size ≤ q) q := fun _ h => h
  have hbA : ¬ (fun q : Nat => s.heap.size ≤ q) b := Nat.not_le.mpr hbl
  have hin : ∀ j : Nat, j < 4 → vp_in (nI (4 * i) + nI j) L := fun j hj => by rw [nI_add]; exact vp_in_nI (by omega) (by omega)
  have hix : ∀ j : Nat, j < 4 → (nI (4 * i) + nI j).toNatClampNeg = 4 * i + j := fun j hj => by rw [nI_add]; exact nI_clamp (by omega)
  have hin1 : vp_in (nI (4 * i) + (1 : Int32)) L := hin 1 (by omega)
  have hin2 : vp_in (nI (4 * i) + (2 : Int32)) L := hin 2 (by omega)
  have hin3 : vp_in (nI (4 * i) + (3 : Int32)) L := hin 3 (by omega)
  have hix1 : (nI (4 * i) + (1 : Int32)).toNatClampNeg = 4 * i + 1 := hix 1 (by omega)
  have hix2 : (nI (4 * i) + (2 : Int32)).toNatClampNeg = 4 * i + 2 := hix 2 (by omega)
  have hix3 : (nI (4 * i) + (3 : Int32)).toNatClampNeg = 4 * i + 3 := hix 3 (by omega)
  refine lv_aload_n hx hb dL_law_385 rfl (lv_at hl 3 rfl) ?_
  refine lv_aload_n hx hb dL_law_386 rfl (lv_at hl 4 rfl) ?_
  refine lv_iload hx hb dL_law_387 (lv_at hl 0 rfl) ?_
  refine lv_iconst (v := (1 : Int32)) hx hb dL_law_389 (by decide) ?_
  refine lv_iadd hx hb dL_law_390 ?_
  refine va_sld hx hb hXs hbl hbA hS hin1 dL_law_391 ?_
  rw [hix1]
  rcases h1 with ⟨h1, rfl, hval⟩ | ⟨h1, rfl, rfl, rfl⟩
  · have hP := vaP_as hP
    have hD := vaD_as hD
    refine lpOk (As := [.ref hC, .int (xs (4 * i + 1))]) (rest := []) (bytes := cL_start) (maxL := 3) (rty := some .int) (hh := [(0, 5, 8, 30)]) (n := 2) C0 h1 ⟨rfl, rfl, rfl, by decide +kernel, by decide, by decide⟩ ggL_law_L_start mm_law_iL mm_law_l69 mm_law_sL_start hP hD hK hS hA (Zs.no _ _ _) hl.1 rfl rfl (Nat.le_of_ble_eq_true rfl) dL_law_392 ⟨by show k ≤ 1059; omega, by show n ≤ 10533; omega⟩ (fun H locs hP hD hS => ?_)
    have hP := vaP_sa hP
    have hD := vaD_sa hD
    subst hval
    have hP := vaP_c hP
    have hD := vaD_c hD
    refine lv_istore (lv' := [(5, .int 0), (4, .int (nI (4 * i))), (3, .ref o1), (2, .ref hX), (1, .ref hC), (0, .ref b)]) hx hb dL_law_395 hl (by decide) rfl (fun ls hl => ?_)
    refine lv_aload_n hx hb dL_law_397 rfl (lv_at hl 3 rfl) ?_
    refine lv_aload_n hx hb dL_law_398 rfl (lv_at hl 5 rfl) ?_
    refine lv_iload hx hb dL_law_399 (lv_at hl 1 rfl) ?_
    refine lv_iconst (v := (1 : Int32)) hx hb dL_law_401 (by decide) ?_
    refine lv_iadd hx hb dL_law_402 ?_
    refine va_sld hx hb hXs hbl hbA hS hin1 dL_law_403 ?_
    rw [hix1]
    refine lpVv (As := [.int (xs (4 * i + 1))]) (rest := []) (bytes := cX9_start) (maxL := 2) (rty := none) (n := 1) (ci := 6) C0 h2 ⟨rfl, rfl, rfl, by decide +kernel, by decide, by decide⟩ ggL_law_X9_start mm_law_iX9 mm_law_l72 mm_law_mX9_start mm_law_eX9_start rfl hx0 hP hD hK hS hA (Zs.no _ _ _) hl.1 rfl rfl (Nat.le_of_ble_eq_true rfl) dL_law_404 ⟨by show k ≤ 1059; omega, by show n ≤ 10533; omega⟩ (fun H locs hP hD hS => ?_)
    refine lv_aload_n hx hb dL_law_407 rfl (lv_at hl 3 rfl) ?_
    refine roVi (As := []) (rest := []) (bytes := cX9_thrown) (maxL := 1) (rty := (some .int)) (n := 0) (ci := 6) C0 h3 ⟨rfl, rfl, rfl, by decide +kernel, by decide, by decide⟩ ggL_law_X9_thrown mm_law_iX9 mm_law_l54 mm_law_mX9_thrown mm_law_eX9_thrown rfl hx0' (vaP_l hP) hK hl.1 rfl rfl (Nat.le_of_ble_eq_true rfl) dL_law_408 ⟨by show k ≤ 1059; omega, by show n ≤ 10533; omega⟩ ?_
    refine lv_iload hx hb dL_law_411 (lv_at hl 0 rfl) ?_
    refine lv_icmp_eq (tgt := 418) hx hb dL_law_413 (by decide) (fun _ => ?_) (fun q => absurd rfl q)
    refine lv_goto (tgt := 628) hx hb dL_law_418 (by decide) ?_
    refine W.widen (k := k + 1) (n := n + 6) (by omega) (by omega) ?_
    exact kk H locs (vaP_c hP) (vaD_c hD) hS ls (lv_sub hl [1, 2, 3, 4, 5] rfl)
  · have hP := vaP_as hP
    have hD := vaD_as hD
    refine lpNo (As := [.ref hC, .int (xs (4 * i + 1))]) (rest := []) (bytes := cL_start) (maxL := 3) (rty := some .int) (hh := [(0, 5, 8, 30)]) (n := 2) C0 h1 ⟨rfl, rfl, rfl, by decide +kernel, by decide, by decide⟩ ggL_law_L_start mm_law_iL mm_law_l69 mm_law_sL_start hP hD hK hS hA hZx hN2 hl.1 rfl rfl (Nat.le_of_ble_eq_true rfl) dL_law_392 ⟨by show k + 1 ≤ 1059; omega, by show n + 6 ≤ 10533; omega⟩ (fun H locs hP hD hS => ?_)
    have hP := vaP_sa hP
    have hD := vaD_sa hD
    have hP := vaP_c hP
    have hD := vaD_c hD
    refine lv_istore (lv' := [(5, .int 1), (4, .int (nI (4 * i))), (3, .ref o1), (2, .ref hX), (1, .ref hC), (0, .ref b)]) hx hb dL_law_395 hl (by decide) rfl (fun ls hl => ?_)
    refine lv_aload_n hx hb dL_law_397 rfl (lv_at hl 3 rfl) ?_
    refine lv_aload_n hx hb dL_law_398 rfl (lv_at hl 5 rfl) ?_
    refine lv_iload hx hb dL_law_399 (lv_at hl 1 rfl) ?_
    refine lv_iconst (v := (1 : Int32)) hx hb dL_law_401 (by decide) ?_
    refine lv_iadd hx hb dL_law_402 ?_
    refine va_sld hx hb hXs hbl hbA hS hin1 dL_law_403 ?_
    rw [hix1]
    refine lpVv (As := [.int (xs (4 * i + 1))]) (rest := []) (bytes := cX9_start) (maxL := 2) (rty := none) (n := 1) (ci := 6) C0 h2 ⟨rfl, rfl, rfl, by decide +kernel, by decide, by decide⟩ ggL_law_X9_start mm_law_iX9 mm_law_l72 mm_law_mX9_start mm_law_eX9_start rfl hx0 hP hD hK hS hA (Zs.no _ _ _) hl.1 rfl rfl (Nat.le_of_ble_eq_true rfl) dL_law_404 ⟨by show (k + 1) ≤ 1059; omega, by show (n + 6) ≤ 10533; omega⟩ (fun H locs hP hD hS => ?_)
    refine lv_aload_n hx hb dL_law_407 rfl (lv_at hl 3 rfl) ?_
    refine roVi (As := []) (rest := []) (bytes := cX9_thrown) (maxL := 1) (rty := (some .int)) (n := 0) (ci := 6) C0 h3 ⟨rfl, rfl, rfl, by decide +kernel, by decide, by decide⟩ ggL_law_X9_thrown mm_law_iX9 mm_law_l54 mm_law_mX9_thrown mm_law_eX9_thrown rfl hx0' (vaP_l hP) hK hl.1 rfl rfl (Nat.le_of_ble_eq_true rfl) dL_law_408 ⟨by show (k + 1) ≤ 1059; omega, by show (n + 6) ≤ 10533; omega⟩ ?_
    refine lv_iload hx hb dL_law_411 (lv_at hl 0 rfl) ?_
    refine lv_icmp_eq (tgt := 418) hx hb dL_law_413 (by decide) (fun _ => ?_) (fun q => absurd rfl q)
    refine lv_goto (tgt := 628) hx hb dL_law_418 (by decide) ?_
    exact kk H locs (vaP_c hP) (vaD_c hD) hS ls (lv_sub hl [1, 2, 3, 4, 5] rfl)
set_option maxHeartbeats 4000000 in
set_option maxRecDepth 100000 in
theorem br_stopped {vX : Int32} (F : LFx p l s m meth c D tys b L xs) (hJ : tys[1]? = some (cJ, .long)) (hi : 4 * i + 4 ≤ L) (hk : k + 1 ≤ 1059) (hn : n + 6 ≤ 10533) (hc0 : WC[0]? = some (hC, .inr (5, fsC))) (hx0 : WX[0]? = some (hX, .inr (6, fsX))) (h1 : RoI l yX8_stopped wsX8_stopped rm_X8_stopped D tys WC [.ref hC] vX) (h2 : WrI false l yX9_stopped wsX9_stopped rm_X9_stopped D tys WX WX' [.ref hX] vX) (hP : va_P D vwCl ((WC ++ [(o1, .inl (cJ, 1, .inr (.inl of)))]) ++ WX) H) (hD : va_D (fun q : Nat => s.heap.size ≤ q) ((WC ++ [(o1, .inl (cJ, 1, .inr (.inl of)))]) ++ WX)) (hS : va_S (fun q : Nat => s.heap.size ≤ q) s.heap H locs) (ls : Array Slot) (hl : lv_has ls 8 [(4, .int (nI (4 * i))), (3, .ref o1), (2, .ref hX), (1, .ref hC), (0, .ref b)])
    (kk : ∀ (H : Heap) (locs : List Loc), va_P D vwCl ((WC ++ [(o1, .inl (cJ, 1, .inr (.inl of)))]) ++ WX') H → va_D (fun q : Nat => s.heap.size ≤ q) ((WC ++ [(o1, .inl (cJ, 1, .inr (.inl of)))]) ++ WX') → va_S (fun q : Nat => s.heap.size ≤ q) s.heap H locs → ∀ ls : Array Slot, lv_has ls 8 [(4, .int (nI (4 * i))), (3, .ref o1), (2, .ref hX), (1, .ref hC), (0, .ref b)] → W p l e room_1 s m #[Value.ref b] below meth c H locs (k + 1) (n + 6) (lw_Z below #[Value.ref b] s) (F0 m 628 ls [])) : W p l e room_1 s m #[Value.ref b] below meth c H locs k n (lw_Z below #[Value.ref b] s) (F0 m 477 ls []) := by
  obtain ⟨C0, hXs, hbl, hL, hK, hZ, hZx, hN1, hN2⟩ := F
  obtain ⟨hx, hb, hr, hlk, hml, hown, hts⟩ := id C0
  have hA : ∀ q : Nat, s.heap.size ≤ q → (fun q : Nat => s.heap.size ≤ q) q := fun _ h => h
  have hbA : ¬ (fun q : Nat => s.heap.size ≤ q) b := Nat.not_le.mpr hbl
  have hin : ∀ j : Nat, j < 4 → vp_in (nI (4 * i) + nI j) L := fun j hj => by rw [nI_add]; exact vp_in_nI (by omega) (by omega)
  have hix : ∀ j : Nat, j < 4 → (nI (4 * i) + nI j).toNatClampNeg = 4 * i + j := fun j hj => by rw [nI_add]; exact nI_clamp (by omega)
  have hin1 : vp_in (nI (4 * i) + (1 : Int32)) L := hin 1 (by omega)
  have hin2 : vp_in (nI (4 * i) + (2 : Int32)) L := hin 2 (by omega)
  have hin3 : vp_in (nI (4 * i) + (3 : Int32)) L := hin 3 (by omega)
  have hix1 : (nI (4 * i) + (1 : Int32)).toNatClampNeg = 4 * i + 1 := hix 1 (by omega)
  have hix2 : (nI (4 * i) + (2 : Int32)).toNatClampNeg = 4 * i + 2 := hix 2 (by omega)
  have hix3 : (nI (4 * i) + (3 : Int32)).toNatClampNeg = 4 * i + 3 := hix 3 (by omega)
  refine lv_aload_n hx hb dL_law_477 rfl (lv_at hl 3 rfl) ?_
  refine roVi (As := []) (rest := []) (bytes := cX8_stopped) (maxL := 1) (rty := (some .int)) (n := 0) (ci := 5) C0 h1 ⟨rfl, rfl, rfl, by decide +kernel, by decide, by decide⟩ ggL_law_X8_stopped mm_law_iX8 mm_law_l76 mm_law_mX8_stopped mm_law_eX8_stopped rfl hc0 (vaP_l (vaP_l hP)) hK hl.1 rfl rfl (Nat.le_of_ble_eq_true rfl) dL_law_478 ⟨by show k ≤ 1059; omega, by show n ≤ 10533; omega⟩ ?_
  have hP := vaP_c hP
  have hD := vaD_c hD
  refine lv_aload_n hx hb dL_law_481 rfl (lv_at hl 2 rfl) ?_
  refine lpVi (As := []) (rest := [.int vX]) (bytes := cX9_stopped) (maxL := 1) (rty := (some .int)) (n := 0) (ci := 6) C0 h2 ⟨rfl, rfl, rfl, by decide +kernel, by decide, by decide⟩ ggL_law_X9_stopped mm_law_iX9 mm_law_l79 mm_law_mX9_stopped mm_law_eX9_stopped rfl hx0 hP hD hK hS hA (Zs.no _ _ _) hl.1 rfl rfl (Nat.le_of_ble_eq_true rfl) dL_law_482 ⟨by show k ≤ 1059; omega, by show n ≤ 10533; omega⟩ (fun H locs hP hD hS => ?_)
  refine lv_icmp_eq (tgt := 628) hx hb dL_law_485 (by decide) (fun _ => ?_) (fun q => absurd rfl q)
  refine W.widen (k := k + 1) (n := n + 6) (by omega) (by omega) ?_
  exact kk H locs (vaP_c hP) (vaD_c hD) hS ls hl
set_option maxHeartbeats 4000000 in
set_option maxRecDepth 100000 in
theorem br_place {vX : Int32} (F : LFx p l s m meth c D tys b L xs) (hJ : tys[1]? = some (cJ, .long)) (hi : 4 * i + 4 ≤ L) (hk : k + 1 ≤ 1059) (hn : n + 6 ≤ 10533) (hc0 : WC[0]? = some (hC, .inr (5, fsC))) (hx0 : WX[0]? = some (hX, .inr (6, fsX))) (h1 : RoI l yX8_place wsX8_place rm_X8_place D tys WC [.ref hC] vX) (h2 : WrI false l yX9_place wsX9_place rm_X9_place D tys WX WX' [.ref hX] vX) (hP : va_P D vwCl ((WC ++ [(o1, .inl (cJ, 1, .inr (.inl of)))]) ++ WX) H) (hD : va_D (fun q : Nat => s.heap.size ≤ q) ((WC ++ [(o1, .inl (cJ, 1, .inr (.inl of)))]) ++ WX)) (hS : va_S (fun q : Nat => s.heap.size ≤ q) s.heap H locs) (ls : Array Slot) (hl : lv_has ls 8 [(4, .int (nI (4 * i))), (3, .ref o1), (2, .ref hX), (1, .ref hC), (0, .ref b)])
    (kk : ∀ (H : Heap) (locs : List Loc), va_P D vwCl ((WC ++ [(o1, .inl (cJ, 1, .inr (.inl of)))]) ++ WX') H → va_D (fun q : Nat => s.heap.size ≤ q) ((WC ++ [(o1, .inl (cJ, 1, .inr (.inl of)))]) ++ WX') → va_S (fun q : Nat => s.heap.size ≤ q) s.heap H locs → ∀ ls : Array Slot, lv_has ls 8 [(4, .int (nI (4 * i))), (3, .ref o1), (2, .ref hX), (1, .ref hC), (0, .ref b)] → W p l e room_1 s m #[Value.ref b] below meth c H locs (k + 1) (n + 6) (lw_Z below #[Value.ref b] s) (F0 m 628 ls [])) : W p l e room_1 s m #[Value.ref b] below meth c H locs k n (lw_Z below #[Value.ref b] s) (F0 m 490 ls []) := by
  obtain ⟨C0, hXs, hbl, hL, hK, hZ, hZx, hN1, hN2⟩ := F
  obtain ⟨hx, hb, hr, hlk, hml, hown, hts⟩ := id C0
  have hA : ∀ q : Nat, s.heap.size ≤ q → (fun q : Nat => s.heap.size ≤ q) q := fun _ h => h
  have hbA : ¬ (fun q : Nat => s.heap.size ≤ q) b := Nat.not_le.mpr hbl
  have hin : ∀ j : Nat, j < 4 → vp_in (nI (4 * i) + nI j) L := fun j hj => by rw [nI_add]; exact vp_in_nI (by omega) (by omega)
  have hix : ∀ j : Nat, j < 4 → (nI (4 * i) + nI j).toNatClampNeg = 4 * i + j := fun j hj => by rw [nI_add]; exact nI_clamp (by omega)
  have hin1 : vp_in (nI (4 * i) + (1 : Int32)) L := hin 1 (by omega)
  have hin2 : vp_in (nI (4 * i) + (2 : Int32)) L := hin 2 (by omega)
  have hin3 : vp_in (nI (4 * i) + (3 : Int32)) L := hin 3 (by omega)
  have hix1 : (nI (4 * i) + (1 : Int32)).toNatClampNeg = 4 * i + 1 := hix 1 (by omega)
  have hix2 : (nI (4 * i) + (2 : Int32)).toNatClampNeg = 4 * i + 2 := hix 2 (by omega)
  have hix3 : (nI (4 * i) + (3 : Int32)).toNatClampNeg = 4 * i + 3 := hix 3 (by omega)
  refine lv_aload_n hx hb dL_law_490 rfl (lv_at hl 3 rfl) ?_
  refine roVi (As := []) (rest := []) (bytes := cX8_place) (maxL := 1) (rty := (some .int)) (n := 0) (ci := 5) C0 h1 ⟨rfl, rfl, rfl, by decide +kernel, by decide, by decide⟩ ggL_law_X8_place mm_law_iX8 mm_law_l80 mm_law_mX8_place mm_law_eX8_place rfl hc0 (vaP_l (vaP_l hP)) hK hl.1 rfl rfl (Nat.le_of_ble_eq_true rfl) dL_law_491 ⟨by show k ≤ 1059; omega, by show n ≤ 10533; omega⟩ ?_
  have hP := vaP_c hP
  have hD := vaD_c hD
  refine lv_aload_n hx hb dL_law_494 rfl (lv_at hl 2 rfl) ?_
  refine lpVi (As := []) (rest := [.int vX]) (bytes := cX9_place) (maxL := 1) (rty := (some .int)) (n := 0) (ci := 6) C0 h2 ⟨rfl, rfl, rfl, by decide +kernel, by decide, by decide⟩ ggL_law_X9_place mm_law_iX9 mm_law_l83 mm_law_mX9_place mm_law_eX9_place rfl hx0 hP hD hK hS hA (Zs.no _ _ _) hl.1 rfl rfl (Nat.le_of_ble_eq_true rfl) dL_law_495 ⟨by show k ≤ 1059; omega, by show n ≤ 10533; omega⟩ (fun H locs hP hD hS => ?_)
  refine lv_icmp_eq (tgt := 628) hx hb dL_law_498 (by decide) (fun _ => ?_) (fun q => absurd rfl q)
  refine W.widen (k := k + 1) (n := n + 6) (by omega) (by omega) ?_
  exact kk H locs (vaP_c hP) (vaD_c hD) hS ls hl
set_option maxHeartbeats 4000000 in
set_option maxRecDepth 100000 in
theorem br_cycles {vX : Int64} (F : LFx p l s m meth c D tys b L xs) (hJ : tys[1]? = some (cJ, .long)) (hi : 4 * i + 4 ≤ L) (hk : k + 1 ≤ 1059) (hn : n + 6 ≤ 10533) (hc0 : WC[0]? = some (hC, .inr (5, fsC))) (hx0 : WX[0]? = some (hX, .inr (6, fsX))) (h1 : RoL l yX8_cycles wsX8_cycles rm_X8_cycles D tys WC [.ref hC] vX) (h2 : WrL false l yX9_cycles wsX9_cycles rm_X9_cycles D tys WX WX' [.ref hX] vX) (hP : va_P D vwCl ((WC ++ [(o1, .inl (cJ, 1, .inr (.inl of)))]) ++ WX) H) (hD : va_D (fun q : Nat => s.heap.size ≤ q) ((WC ++ [(o1, .inl (cJ, 1, .inr (.inl of)))]) ++ WX)) (hS : va_S (fun q : Nat => s.heap.size ≤ q) s.heap H locs) (ls : Array Slot) (hl : lv_has ls 8 [(4, .int (nI (4 * i))), (3, .ref o1), (2, .ref hX), (1, .ref hC), (0, .ref b)])
    (kk : ∀ (H : Heap) (locs : List Loc), va_P D vwCl ((WC ++ [(o1, .inl (cJ, 1, .inr (.inl of)))]) ++ WX') H → va_D (fun q : Nat => s.heap.size ≤ q) ((WC ++ [(o1, .inl (cJ, 1, .inr (.inl of)))]) ++ WX') → va_S (fun q : Nat => s.heap.size ≤ q) s.heap H locs → ∀ ls : Array Slot, lv_has ls 8 [(4, .int (nI (4 * i))), (3, .ref o1), (2, .ref hX), (1, .ref hC), (0, .ref b)] → W p l e room_1 s m #[Value.ref b] below meth c H locs (k + 1) (n + 6) (lw_Z below #[Value.ref b] s) (F0 m 628 ls [])) : W p l e room_1 s m #[Value.ref b] below meth c H locs k n (lw_Z below #[Value.ref b] s) (F0 m 503 ls []) := by
  obtain ⟨C0, hXs, hbl, hL, hK, hZ, hZx, hN1, hN2⟩ := F
  obtain ⟨hx, hb, hr, hlk, hml, hown, hts⟩ := id C0
  have hA : ∀ q : Nat, s.heap.size ≤ q → (fun q : Nat => s.heap.size ≤ q) q := fun _ h => h
  have hbA : ¬ (fun q : Nat => s.heap.size ≤ q) b := Nat.not_le.mpr hbl
  have hin : ∀ j : Nat, j < 4 → vp_in (nI (4 * i) + nI j) L := fun j hj => by rw [nI_add]; exact vp_in_nI (by omega) (by omega)
  have hix : ∀ j : Nat, j < 4 → (nI (4 * i) + nI j).toNatClampNeg = 4 * i + j := fun j hj => by rw [nI_add]; exact nI_clamp (by omega)
  have hin1 : vp_in (nI (4 * i) + (1 : Int32)) L := hin 1 (by omega)
  have hin2 : vp_in (nI (4 * i) + (2 : Int32)) L := hin 2 (by omega)
  have hin3 : vp_in (nI (4 * i) + (3 : Int32)) L := hin 3 (by omega)
  have hix1 : (nI (4 * i) + (1 : Int32)).toNatClampNeg = 4 * i + 1 := hix 1 (by omega)
  have hix2 : (nI (4 * i) + (2 : Int32)).toNatClampNeg = 4 * i + 2 := hix 2 (by omega)
  have hix3 : (nI (4 * i) + (3 : Int32)).toNatClampNeg = 4 * i + 3 := hix 3 (by omega)
  refine lv_aload_n hx hb dL_law_503 rfl (lv_at hl 3 rfl) ?_
  refine roVl (As := []) (rest := []) (bytes := cX8_cycles) (maxL := 1) (rty := (some .long)) (n := 0) (ci := 5) C0 h1 ⟨rfl, rfl, rfl, by decide +kernel, by decide, by decide⟩ ggL_law_X8_cycles mm_law_iX8 mm_law_l84 mm_law_mX8_cycles mm_law_eX8_cycles rfl hc0 (vaP_l (vaP_l hP)) hK hl.1 rfl rfl (Nat.le_of_ble_eq_true rfl) dL_law_504 ⟨by show k ≤ 1059; omega, by show n ≤ 10533; omega⟩ ?_
  have hP := vaP_c hP
  have hD := vaD_c hD
  refine lv_aload_n hx hb dL_law_507 rfl (lv_at hl 2 rfl) ?_
  refine lpVl (As := []) (rest := [.long vX]) (bytes := cX9_cycles) (maxL := 1) (rty := (some .long)) (n := 0) (ci := 6) C0 h2 ⟨rfl, rfl, rfl, by decide +kernel, by decide, by decide⟩ ggL_law_X9_cycles mm_law_iX9 mm_law_l88 mm_law_mX9_cycles mm_law_eX9_cycles rfl hx0 hP hD hK hS hA (Zs.no _ _ _) hl.1 rfl rfl (Nat.le_of_ble_eq_true rfl) dL_law_508 ⟨by show k ≤ 1059; omega, by show n ≤ 10533; omega⟩ (fun H locs hP hD hS => ?_)
  refine lc_eq (tgt := 628) hx hb dL_law_511 dL_law_512 (by decide) (fun _ => ?_) (fun q => absurd rfl q)
  refine W.widen (k := k + 1) (n := n + 6) (by omega) (by omega) ?_
  exact kk H locs (vaP_c hP) (vaD_c hD) hS ls hl
end Turns
