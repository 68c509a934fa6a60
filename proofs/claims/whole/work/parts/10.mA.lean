def sX6_bad (M : Mem)  : Int32 × Mem :=
  tk (st M 104 0 ((M.1 104 0) + 1)) fun M1 =>
  ((-2), M1)
set_option maxHeartbeats 4000000 in
set_option maxRecDepth 100000 in
theorem kX6_bad (l : Launch) (D : va_G) (cy : Nat → ClassId) (z : Nat → Nat) (hz : zI z) (M : Mem)  : KI l yX6_bad wsX6_bad { frames := 0, cells := 0, slots := 0, locals := 0 } D cy z 100 15 [.ref (z 100)] M (fun r u => (r, u) = sX6_bad M) := by
  refine met_wp (lv := [(0, .ref (z 100))]) hz (by decide) (by decide) rfl rfl (Nat.le_of_ble_eq_true rfl) rfl ?_
  intro p e s m below meth c hc hx hr hk
  have hNW := hx.2.1
  have hin6 : ∀ w ∈ wsX60, w ∈ wsX6_bad := by decide +kernel
  have hf19 : Cond.fieldLink RX6 19 (TX6 4).1 (TX6 4).2.1 (TX6 4).2.2.1 ∈ wsX6_bad := by decide +kernel
  refine wp_aload_n hc 0 dX6_bad_0 rfl ?_
  refine wp_get hc hx hin6 (j := 100) (by decide) (by decide) (ce_5 rfl) rfl 4 (by decide) hf19 rfl dX6_bad_1 ?_
  refine wp_iconst (v := 0) hc dX6_bad_4 (by decide) ?_
  refine wp_dup2 hc dX6_bad_5 rfl rfl ?_
  refine wp_iald hc hx (j := 104) (by decide) (by decide) rfl 0 rfl (vin (by decide)) dX6_bad_6 ?_
  refine wp_iconst (v := 1) hc dX6_bad_7 (by decide) ?_
  refine wp_iadd hc dX6_bad_8 ?_
  refine wp_iast hc hx (j := 104) (by decide) (by decide) rfl 0 rfl (vin (by decide)) dX6_bad_9 ?_
  refine wp_nm (fun M1 hM1 => ?_)
  refine wp_bipush (v := (-2)) hc dX6_bad_10 (by decide) ?_
  refine wp_iret hc hr hk ?_ dX6_bad_12
  show ((-2), M1) = sX6_bad M
  rw [sX6_bad, tk_eq hM1]
def sX6_no (M : Mem)  : Int32 × Mem :=
  tk (st M 104 1 ((M.1 104 1) + 1)) fun M1 =>
  ((-3), M1)
set_option maxHeartbeats 4000000 in
set_option maxRecDepth 100000 in
theorem kX6_no (l : Launch) (D : va_G) (cy : Nat → ClassId) (z : Nat → Nat) (hz : zI z) (M : Mem)  : KI l yX6_no wsX6_no { frames := 0, cells := 0, slots := 0, locals := 0 } D cy z 100 15 [.ref (z 100)] M (fun r u => (r, u) = sX6_no M) := by
  refine met_wp (lv := [(0, .ref (z 100))]) hz (by decide) (by decide) rfl rfl (Nat.le_of_ble_eq_true rfl) rfl ?_
  intro p e s m below meth c hc hx hr hk
  have hNW := hx.2.1
  have hin6 : ∀ w ∈ wsX60, w ∈ wsX6_no := by decide +kernel
  have hf19 : Cond.fieldLink RX6 19 (TX6 4).1 (TX6 4).2.1 (TX6 4).2.2.1 ∈ wsX6_no := by decide +kernel
  refine wp_aload_n hc 0 dX6_no_0 rfl ?_
  refine wp_get hc hx hin6 (j := 100) (by decide) (by decide) (ce_5 rfl) rfl 4 (by decide) hf19 rfl dX6_no_1 ?_
  refine wp_iconst (v := 1) hc dX6_no_4 (by decide) ?_
  refine wp_dup2 hc dX6_no_5 rfl rfl ?_
  refine wp_iald hc hx (j := 104) (by decide) (by decide) rfl 1 rfl (vin (by decide)) dX6_no_6 ?_
  refine wp_iconst (v := 1) hc dX6_no_7 (by decide) ?_
  refine wp_iadd hc dX6_no_8 ?_
  refine wp_iast hc hx (j := 104) (by decide) (by decide) rfl 1 rfl (vin (by decide)) dX6_no_9 ?_
  refine wp_nm (fun M1 hM1 => ?_)
  refine wp_bipush (v := (-3)) hc dX6_no_10 (by decide) ?_
  refine wp_iret hc hr hk ?_ dX6_no_12
  show ((-3), M1) = sX6_no M
  rw [sX6_no, tk_eq hM1]
def sX6_full (M : Mem)  : Int32 × Mem :=
  tk (st M 104 2 ((M.1 104 2) + 1)) fun M1 =>
  ((-4), M1)
set_option maxHeartbeats 4000000 in
set_option maxRecDepth 100000 in
theorem kX6_full (l : Launch) (D : va_G) (cy : Nat → ClassId) (z : Nat → Nat) (hz : zI z) (M : Mem)  : KI l yX6_full wsX6_full { frames := 0, cells := 0, slots := 0, locals := 0 } D cy z 100 15 [.ref (z 100)] M (fun r u => (r, u) = sX6_full M) := by
  refine met_wp (lv := [(0, .ref (z 100))]) hz (by decide) (by decide) rfl rfl (Nat.le_of_ble_eq_true rfl) rfl ?_
  intro p e s m below meth c hc hx hr hk
  have hNW := hx.2.1
  have hin6 : ∀ w ∈ wsX60, w ∈ wsX6_full := by decide +kernel
  have hf19 : Cond.fieldLink RX6 19 (TX6 4).1 (TX6 4).2.1 (TX6 4).2.2.1 ∈ wsX6_full := by decide +kernel
  refine wp_aload_n hc 0 dX6_full_0 rfl ?_
  refine wp_get hc hx hin6 (j := 100) (by decide) (by decide) (ce_5 rfl) rfl 4 (by decide) hf19 rfl dX6_full_1 ?_
  refine wp_iconst (v := 2) hc dX6_full_4 (by decide) ?_
  refine wp_dup2 hc dX6_full_5 rfl rfl ?_
  refine wp_iald hc hx (j := 104) (by decide) (by decide) rfl 2 rfl (vin (by decide)) dX6_full_6 ?_
  refine wp_iconst (v := 1) hc dX6_full_7 (by decide) ?_
  refine wp_iadd hc dX6_full_8 ?_
  refine wp_iast hc hx (j := 104) (by decide) (by decide) rfl 2 rfl (vin (by decide)) dX6_full_9 ?_
  refine wp_nm (fun M1 hM1 => ?_)
  refine wp_bipush (v := (-4)) hc dX6_full_10 (by decide) ?_
  refine wp_iret hc hr hk ?_ dX6_full_12
  show ((-4), M1) = sX6_full M
  rw [sX6_full, tk_eq hM1]
def fX6_boxAt (M : Mem) (i1 : Int32) : Int32 :=
  (1 + (4 * i1))
set_option maxHeartbeats 4000000 in
set_option maxRecDepth 100000 in
theorem kX6_boxAt (l : Launch) (D : va_G) (cy : Nat → ClassId) (z : Nat → Nat) (hz : zI z) (M : Mem) (i1 : Int32) : KI l yX6_boxAt wsX6_boxAt { frames := 0, cells := 0, slots := 0, locals := 0 } D cy z 100 15 [.ref (z 100), .int i1] M (fun r u => r = fX6_boxAt M i1 ∧ u = M) := by
  refine met_wp (lv := [(0, .ref (z 100)), (1, .int i1)]) hz (by decide) (by decide) rfl rfl (Nat.le_of_ble_eq_true rfl) rfl ?_
  intro p e s m below meth c hc hx hr hk
  have hNW := hx.2.1
  refine wp_iconst (v := 1) hc dX6_boxAt_0 (by decide) ?_
  refine wp_iconst (v := 4) hc dX6_boxAt_1 (by decide) ?_
  refine wp_iload_n hc 1 dX6_boxAt_2 rfl ?_
  refine wp_imul hc dX6_boxAt_3 ?_
  refine wp_iadd hc dX6_boxAt_4 ?_
  refine wp_iret hc hr hk ?_ dX6_boxAt_5
  show (1 + (4 * i1)) = fX6_boxAt M i1 ∧ M = M
  exact ⟨by rw [fX6_boxAt], rfl⟩
def fX6_isBox (M : Mem) (i1 : Int32) : Int32 :=
  (fX6_in i1 0 ((M.1 101 0) - 1))
set_option maxHeartbeats 4000000 in
set_option maxRecDepth 100000 in
theorem kX6_isBox (l : Launch) (D : va_G) (cy : Nat → ClassId) (z : Nat → Nat) (hz : zI z) (M : Mem) (i1 : Int32) : KI l yX6_isBox wsX6_isBox { frames := 1, cells := 0, slots := 0, locals := 22 } D cy z 100 15 [.ref (z 100), .int i1] M (fun r u => r = fX6_isBox M i1 ∧ u = M) := by
  refine met_wp (lv := [(0, .ref (z 100)), (1, .int i1)]) hz (by decide) (by decide) rfl rfl (Nat.le_of_ble_eq_true rfl) rfl ?_
  intro p e s m below meth c hc hx hr hk
  have hNW := hx.2.1
  have hin6 : ∀ w ∈ wsX60, w ∈ wsX6_isBox := by decide +kernel
  have hf7 : Cond.fieldLink RX6 7 (TX6 0).1 (TX6 0).2.1 (TX6 0).2.2.1 ∈ wsX6_isBox := by decide +kernel
  have cw81 : CallB ({ frames := 1, cells := 0, slots := 0, locals := 22 }) s _ RX6 81 yX6_in cX6_in 3 (some .boolean) wsX6_in ({ frames := 0, cells := 0, slots := 0, locals := 0 }) 0 0 3 ∧ (Cond.static yX6_in).before _ s = true := va_cwS 3 hc.2.2.2.2 gX6_isBox_X6_in rfl rfl rfl (by decide +kernel) ⟨Nat.le_of_ble_eq_true rfl, Nat.le_of_ble_eq_true rfl⟩
  refine wp_iload_n hc 1 dX6_isBox_0 rfl ?_
  refine wp_iconst (v := 0) hc dX6_isBox_1 (by decide) ?_
  refine wp_aload_n hc 0 dX6_isBox_2 rfl ?_
  refine wp_get hc hx hin6 (j := 100) (by decide) (by decide) (ce_5 rfl) rfl 0 (by decide) hf7 rfl dX6_isBox_3 ?_
  refine wp_iconst (v := 0) hc dX6_isBox_6 (by decide) ?_
  refine wp_iald hc hx (j := 101) (by decide) (by decide) rfl 0 rfl (vin (by decide)) dX6_isBox_7 ?_
  refine wp_iconst (v := 1) hc dX6_isBox_8 (by decide) ?_
  refine wp_isub hc dX6_isBox_9 ?_
  refine wp_callSg (As := [.int i1, .int 0, .int ((M.1 101 0) - 1)]) (rest := []) (v := (fX6_in i1 0 ((M.1 101 0) - 1))) hc hNW (kX6_in l i1 0 ((M.1 101 0) - 1)) cw81 rfl rfl (Nat.le_of_ble_eq_true rfl) dX6_isBox_10 ?_
  refine wp_zret hc hr hk (nz (bX6_in i1 0 ((M.1 101 0) - 1))) ?_ dX6_isBox_13
  show (fX6_in i1 0 ((M.1 101 0) - 1)) = fX6_isBox M i1 ∧ M = M
  exact ⟨by rw [fX6_isBox], rfl⟩
theorem bX6_isBox (M : Mem) (i1 : Int32) : fX6_isBox M i1 = 0 ∨ fX6_isBox M i1 = 1 := by
  unfold fX6_isBox
  (repeat' split) <;> first | exact Or.inl rfl | exact Or.inr rfl | apply bX6_in
def sX6_over (M : Mem) (i1 : Int32) (i2 : Int32) : Int32 × Mem :=
  if i2 = 0 then
  tk (st M 100 7 1) fun M2 =>
  (0, M2)
  else
  tk ((fX6_inverse (rem ((rem ((i2 / 10007) * (i2 / 10007)) 10007) + (rem ((rem i2 10007) * (rem i2 10007)) 10007)) 10007))) fun x1 =>
  ((fX6_by (fX6_by i1 (fX6_otherOf i2)) (fX6_number x1 0)), M)
set_option maxHeartbeats 4000000 in
set_option maxRecDepth 100000 in
theorem kX6_over (l : Launch) (D : va_G) (cy : Nat → ClassId) (z : Nat → Nat) (hz : zI z) (M : Mem) (i1 : Int32) (i2 : Int32) : KI l yX6_over wsX6_over { frames := 3, cells := 0, slots := 0, locals := 67 } D cy z 100 15 [.ref (z 100), .int i1, .int i2] M (fun r u => (r, u) = sX6_over M i1 i2) := by
  refine met_wp (lv := [(0, .ref (z 100)), (1, .int i1), (2, .int i2)]) hz (by decide) (by decide) rfl rfl (Nat.le_of_ble_eq_true rfl) rfl ?_
  intro p e s m below meth c hc hx hr hk
  have hNW := hx.2.1
  have hin6 : ∀ w ∈ wsX60, w ∈ wsX6_over := by decide +kernel
  have hf68 : Cond.fieldLink RX6 68 (TX6 7).1 (TX6 7).2.1 (TX6 7).2.2.1 ∈ wsX6_over := by decide +kernel
  have cw64 : CallB ({ frames := 3, cells := 0, slots := 0, locals := 67 }) s _ RX6 64 yX6_number cX6_number 2 (some .int) wsX6_number ({ frames := 1, cells := 0, slots := 0, locals := 21 }) 0 0 2 ∧ (Cond.static yX6_number).before _ s = true := va_cwS 2 hc.2.2.2.2 gX6_over_X6_number rfl rfl rfl (by decide +kernel) ⟨Nat.le_of_ble_eq_true rfl, Nat.le_of_ble_eq_true rfl⟩
  have cw72 : CallB ({ frames := 3, cells := 0, slots := 0, locals := 67 }) s _ RX6 72 yX6_inverse cX6_inverse 4 (some .int) wsX6_inverse ({ frames := 0, cells := 0, slots := 0, locals := 0 }) 0 0 1 ∧ (Cond.static yX6_inverse).before _ s = true := va_cwS 1 hc.2.2.2.2 gX6_over_X6_inverse rfl rfl rfl (by decide +kernel) ⟨Nat.le_of_ble_eq_true rfl, Nat.le_of_ble_eq_true rfl⟩
  have cw75 : CallB ({ frames := 3, cells := 0, slots := 0, locals := 67 }) s _ RX6 75 yX6_otherOf cX6_otherOf 1 (some .int) wsX6_otherOf ({ frames := 2, cells := 0, slots := 0, locals := 42 }) 0 0 1 ∧ (Cond.static yX6_otherOf).before _ s = true := va_cwS 1 hc.2.2.2.2 gX6_over_X6_otherOf rfl rfl rfl (by decide +kernel) ⟨Nat.le_of_ble_eq_true rfl, Nat.le_of_ble_eq_true rfl⟩
  have cw78 : CallB ({ frames := 3, cells := 0, slots := 0, locals := 67 }) s _ RX6 78 yX6_by cX6_by 6 (some .int) wsX6_by ({ frames := 2, cells := 0, slots := 0, locals := 42 }) 0 0 2 ∧ (Cond.static yX6_by).before _ s = true := va_cwS 2 hc.2.2.2.2 gX6_over_X6_by rfl rfl rfl (by decide +kernel) ⟨Nat.le_of_ble_eq_true rfl, Nat.le_of_ble_eq_true rfl⟩
  refine wp_iload_n hc 2 dX6_over_0 rfl ?_
  refine wp_if_ne (tgt := 11) hc dX6_over_1 (by decide) (fun c1 => ?_) (fun c1 => ?_)
  · refine wp_iload_n hc 2 dX6_over_11 rfl ?_
    refine wp_sipush (v := 10007) hc dX6_over_12 (by decide) ?_
    refine wp_idiv hc dX6_over_15 (by decide) ?_
    refine wp_istore_n (lv' := [(3, .int (i2 / 10007)), (0, .ref (z 100)), (1, .int i1), (2, .int i2)]) hc dX6_over_16 (by decide) rfl ?_
    refine wp_iload_n hc 3 dX6_over_17 rfl ?_
    refine wp_sipush (v := 10007) hc dX6_over_18 (by decide) ?_
    refine wp_iremR hc dX6_over_21 (by decide) ?_
    refine wp_istore (lv' := [(4, .int (rem i2 10007)), (3, .int (i2 / 10007)), (0, .ref (z 100)), (1, .int i1), (2, .int i2)]) hc dX6_over_22 (by decide) rfl ?_
    refine wp_iload_n hc 1 dX6_over_24 rfl ?_
    refine wp_iload_n hc 1 dX6_over_25 rfl ?_
    refine wp_imul hc dX6_over_26 ?_
    refine wp_sipush (v := 10007) hc dX6_over_27 (by decide) ?_
    refine wp_iremR hc dX6_over_30 (by decide) ?_
    refine wp_iload hc 0 dX6_over_31 rfl ?_
    refine wp_iload hc 0 dX6_over_33 rfl ?_
    refine wp_imul hc dX6_over_35 ?_
    refine wp_sipush (v := 10007) hc dX6_over_36 (by decide) ?_
    refine wp_iremR hc dX6_over_39 (by decide) ?_
    refine wp_iadd hc dX6_over_40 ?_
    refine wp_sipush (v := 10007) hc dX6_over_41 (by decide) ?_
    refine wp_iremR hc dX6_over_44 (by decide) ?_
    refine wp_callSg (As := [.int (rem ((rem ((i2 / 10007) * (i2 / 10007)) 10007) + (rem ((rem i2 10007) * (rem i2 10007)) 10007)) 10007)]) (rest := []) (v := (fX6_inverse (rem ((rem ((i2 / 10007) * (i2 / 10007)) 10007) + (rem ((rem i2 10007) * (rem i2 10007)) 10007)) 10007))) hc hNW (kX6_inverse l (rem ((rem ((i2 / 10007) * (i2 / 10007)) 10007) + (rem ((rem i2 10007) * (rem i2 10007)) 10007)) 10007)) cw72 rfl rfl (Nat.le_of_ble_eq_true rfl) dX6_over_45 ?_
    refine wp_topi (fun x1 hx1 => ?_)
    refine wp_istore (lv' := [(5, .int x1), (4, .int (rem i2 10007)), (3, .int (i2 / 10007)), (0, .ref (z 100)), (1, .int i1), (2, .int i2)]) hc dX6_over_48 (by decide) rfl ?_
    refine wp_iload_n hc 4 dX6_over_50 rfl ?_
    refine wp_iload_n hc 5 dX6_over_51 rfl ?_
    refine wp_callSg (As := [.int i2]) (rest := [.int i1]) (v := (fX6_otherOf i2)) hc hNW (kX6_otherOf l i2) cw75 rfl rfl (Nat.le_of_ble_eq_true rfl) dX6_over_52 ?_
    refine wp_callSg (As := [.int i1, .int (fX6_otherOf i2)]) (rest := []) (v := (fX6_by i1 (fX6_otherOf i2))) hc hNW (kX6_by l i1 (fX6_otherOf i2)) cw78 rfl rfl (Nat.le_of_ble_eq_true rfl) dX6_over_55 ?_
    refine wp_iload hc 0 dX6_over_58 rfl ?_
    refine wp_iconst (v := 0) hc dX6_over_60 (by decide) ?_
    refine wp_callSg (As := [.int x1, .int 0]) (rest := [.int (fX6_by i1 (fX6_otherOf i2))]) (v := (fX6_number x1 0)) hc hNW (kX6_number l x1 0) cw64 rfl rfl (Nat.le_of_ble_eq_true rfl) dX6_over_61 ?_
    refine wp_callSg (As := [.int (fX6_by i1 (fX6_otherOf i2)), .int (fX6_number x1 0)]) (rest := []) (v := (fX6_by (fX6_by i1 (fX6_otherOf i2)) (fX6_number x1 0))) hc hNW (kX6_by l (fX6_by i1 (fX6_otherOf i2)) (fX6_number x1 0)) cw78 rfl rfl (Nat.le_of_ble_eq_true rfl) dX6_over_64 ?_
    refine wp_iret hc hr hk ?_ dX6_over_67
    show ((fX6_by (fX6_by i1 (fX6_otherOf i2)) (fX6_number x1 0)), M) = sX6_over M i1 i2
    rw [sX6_over, if_neg c1, tk_eq hx1]
  refine wp_aload_n hc 0 dX6_over_4 rfl ?_
  refine wp_iconst (v := 1) hc dX6_over_5 (by decide) ?_
  refine wp_put (M' := st M 100 7 1) hc hx hin6 tyX6 tyX6_ok nmX6 (j := 100) (by decide) (by decide) (ce_5 rfl) rfl 7 (by decide) hf68 rfl rfl rfl (Nat.le_of_ble_eq_true rfl) (by rw [ce_5 rfl]; exact ce_stM7 _ _ _) (fun i hi => ce_row (va_up_ne _ _ hi) rfl) dX6_over_6 ?_
  refine wp_nm (fun M2 hM2 => ?_)
  refine wp_iconst (v := 0) hc dX6_over_9 (by decide) ?_
  refine wp_iret hc hr hk ?_ dX6_over_10
  show (0, M2) = sX6_over M i1 i2
  rw [sX6_over, if_pos c1, tk_eq hM2]
theorem bxT (M : Mem) {b : Int32} (h : 0 ≤ b.toInt ∧ b.toInt < 9) : (fX6_boxAt M b).toInt = 1 + 4 * b.toInt := by
  have e4 : (4 : Int32).toInt = 4 := rfl
  have e1 : (1 : Int32).toInt = 1 := rfl
  unfold fX6_boxAt
  have hm : ((4 : Int32) * b).toInt = 4 * b.toInt := by rw [fb_mulI (by rw [e4]; omega) (by rw [e4]; omega), e4]
  rw [fb_addI (by rw [hm, e1]; omega) (by rw [hm, e1]; omega), hm, e1]
theorem ixb {M : Mem} {b : Int32} (h : 0 ≤ b.toInt ∧ b.toInt < 8) : vp_in (fX6_boxAt M b) (ln 101) := by
  refine vin ?_
  rw [bxT M (by omega), ln101]
  omega
theorem bxkT {M : Mem} {b : Int32} (h : 0 ≤ b.toInt ∧ b.toInt < 9) {k : Int32} (hk : 0 ≤ k.toInt ∧ k.toInt < 4) : (fX6_boxAt M b + k).toInt = 1 + 4 * b.toInt + k.toInt := by
  have e := bxT M h
  rw [fb_addI (by omega) (by omega), e]
theorem ixbk {M : Mem} {b : Int32} (h : 0 ≤ b.toInt ∧ b.toInt < 8) {k : Int32} (hk : 0 ≤ k.toInt ∧ k.toInt < 4) : vp_in (fX6_boxAt M b + k) (ln 101) := by
  refine vin ?_
  rw [bxkT (by omega) hk, ln101]
  omega
theorem isBox_in {M : Mem} {b : Int32} (hn : 0 ≤ (M.1 101 0).toInt ∧ (M.1 101 0).toInt ≤ 8) (h : ¬ fX6_isBox M b = 0) : 0 ≤ b.toInt ∧ b.toInt < (M.1 101 0).toInt := by
  unfold fX6_isBox fX6_in at h
  have e1 : (1 : Int32).toInt = 1 := rfl
  have e0 : (0 : Int32).toInt = 0 := rfl
  have hs : (M.1 101 0 - 1).toInt = (M.1 101 0).toInt - 1 := by rw [fb_subI (by rw [e1]; omega) (by rw [e1]; omega), e1]
  split at h
  · exact absurd rfl h
  · rename_i h1
    split at h
    · exact absurd rfl h
    · rename_i h2
      rw [fa_lt] at h1 h2
      omega
theorem in_in {v lo hi : Int32} (h : ¬ fX6_in v lo hi = 0) : lo.toInt ≤ v.toInt ∧ v.toInt ≤ hi.toInt := by
  unfold fX6_in at h
  split at h
  · exact absurd rfl h
  · rename_i h1
    split at h
    · exact absurd rfl h
    · rename_i h2
      rw [fa_lt] at h1 h2
      omega
theorem ixk {v : Int32} {n : Nat} {c : Int32} {k : Nat} (hc : c.toInt = (k : Int)) (hk : k < 1000) (hn : n < 1000) (h : 0 ≤ v.toInt ∧ v.toInt < n) : (c + v).toInt = k + v.toInt := by
  rw [fb_addI (by omega) (by omega), hc]
theorem pastT {x : Int32} {i : Nat} (h : 0 ≤ x.toInt ∧ x.toInt ≤ 4) (hi : i < 58) : (58 * x + nI i).toInt = ((58 * x.toNatClampNeg + i : Nat) : Int) := by
  have e : (58 : Int32).toInt = 58 := rfl
  have c := cl_T h.1
  have t := nI_T (k := i) (by omega)
  have hm : ((58 : Int32) * x).toInt = 58 * x.toInt := by rw [fb_mulI (by rw [e]; omega) (by rw [e]; omega), e]
  rw [fb_addI (by rw [hm, t]; omega) (by rw [hm, t]; omega), hm, t]
  omega
theorem vpl {j k : Nat} (n : Nat) (hl : ln j = n) (hk : k < n) (hn : n < 1000) : vp_in (nI k) (ln j) := by rw [hl]; exact vp_in_nI hk (by omega)
theorem nIlt {i N : Nat} (h : i < N) (hN : N < 1000) : ¬ nI N ≤ nI i := nI_ge h (by omega)
