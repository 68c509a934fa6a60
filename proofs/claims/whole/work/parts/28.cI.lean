def sX5_told (M : Mem) (i1 : Int32) (i2 : Int32) : Int32 × Mem :=
  tk (sX4_toldNumber M (M.2.1 0) i1 i2) fun x1 =>
  tk (sX5_noted x1.2 x1.1) fun x2 =>
  (x2.1, x2.2)
set_option maxHeartbeats 4000000 in
set_option maxRecDepth 100000 in
theorem kX5_told (l : Launch) (D : va_G) (cy : Nat → ClassId) (z : Nat → Nat) (hz : zI z) (M : Mem) (i1 : Int32) (i2 : Int32) (hR : RK M) : KI l yX5_told wsX5_told { frames := 5, cells := 0, slots := 0, locals := 120 } D cy z 0 100 [.ref (z 0), .int i1, .int i2] M (fun r u => (r, u) = sX5_told M i1 i2) := by
  refine met_wp (lv := [(0, .ref (z 0)), (1, .int i1), (2, .int i2)]) hz (by decide) (by decide) rfl rfl (Nat.le_of_ble_eq_true rfl) rfl ?_
  intro p e s m below meth c hc hx hr hk
  have hNW := hx.2.1
  have hin5 : ∀ w ∈ wsX50, w ∈ wsX5_told := by decide +kernel
  have hf12 : Cond.fieldLink RX5 12 (TX5 0).1 (TX5 0).2.1 (TX5 0).2.2.1 ∈ wsX5_told := by decide +kernel
  have hf26 : Cond.fieldLink RX5 26 (TX5 3).1 (TX5 3).2.1 (TX5 3).2.2.1 ∈ wsX5_told := by decide +kernel
  have cw68 : CallW ({ frames := 5, cells := 0, slots := 0, locals := 120 }) s _ RX5 RX5 68 yX5_noted cX5_noted 2 (some .int) wsX5_noted ({ frames := 0, cells := 0, slots := 0, locals := 0 }) 0 0 1 := cwV 1 hc.2.2.2.2 gX5_told_X5_noted rfl rfl rfl (by decide +kernel) ⟨Nat.le_of_ble_eq_true rfl, Nat.le_of_ble_eq_true rfl⟩
  have cw84 : CallW ({ frames := 5, cells := 0, slots := 0, locals := 120 }) s _ RX5 RX4 84 yX4_toldNumber cX4_toldNumber 4 (some .int) wsX4_toldNumber ({ frames := 4, cells := 0, slots := 0, locals := 97 }) 0 0 3 := cwV 3 hc.2.2.2.2 gX5_told_X4_toldNumber rfl rfl rfl (by decide +kernel) ⟨Nat.le_of_ble_eq_true rfl, Nat.le_of_ble_eq_true rfl⟩
  refine wp_aload_n hc 0 dX5_told_0 rfl ?_
  refine wp_aload_n hc 0 dX5_told_1 rfl ?_
  refine wp_get hc hx hin5 (j := 0) (by decide) (by decide) (ce_4 rfl) rfl 0 (by decide) hf12 rfl dX5_told_2 ?_
  refine wp_aload_n hc 0 dX5_told_5 rfl ?_
  refine wp_get hc hx hin5 (j := 0) (by decide) (by decide) (ce_4 rfl) rfl 3 (by decide) hf26 rfl dX5_told_6 ?_
  refine wp_iload_n hc 1 dX5_told_9 rfl ?_
  refine wp_iload_n hc 2 dX5_told_10 rfl ?_
  refine wp_callVw (As := [.ref (z (16 + 12 * (M.2.1 0))), .int i1, .int i2]) (rest := [.ref (z 0)]) (j := 1) (w := sX4_toldNumber M (M.2.1 0) i1 i2) hc hx (kX4_toldNumber l D cy z hz M (M.2.1 0) i1 i2 (hR.1 0 (by decide))) cw84 (by decide) (by decide) (ce_3 rfl) rfl rfl rfl rfl (Nat.le_of_ble_eq_true rfl) dX5_told_11 (fun x1 hx1 => ?_)
  refine wp_callVw (As := [.int x1.1]) (rest := []) (j := 0) (w := sX5_noted x1.2 x1.1) hc hx (kX5_noted l D cy z hz x1.2 x1.1) cw68 (by decide) (by decide) (ce_4 rfl) rfl rfl rfl rfl (Nat.le_of_ble_eq_true rfl) dX5_told_14 (fun x2 hx2 => ?_)
  refine wp_iret hc hr hk ?_ dX5_told_17
  show (x2.1, x2.2) = sX5_told M i1 i2
  rw [sX5_told, tk_eq hx1, tk_eq hx2]
def sX5_form (M : Mem) (i1 : Int32) (i2 : Int32) (i3 : Int32) : Int32 × Mem :=
  tk (sX4_formNumber M (M.2.1 0) i1 i2 i3) fun x1 =>
  tk (sX5_noted x1.2 x1.1) fun x2 =>
  (x2.1, x2.2)
set_option maxHeartbeats 4000000 in
set_option maxRecDepth 100000 in
theorem kX5_form (l : Launch) (D : va_G) (cy : Nat → ClassId) (z : Nat → Nat) (hz : zI z) (M : Mem) (i1 : Int32) (i2 : Int32) (i3 : Int32) (hR : RK M) : KI l yX5_form wsX5_form { frames := 5, cells := 0, slots := 0, locals := 125 } D cy z 0 100 [.ref (z 0), .int i1, .int i2, .int i3] M (fun r u => (r, u) = sX5_form M i1 i2 i3) := by
  refine met_wp (lv := [(0, .ref (z 0)), (1, .int i1), (2, .int i2), (3, .int i3)]) hz (by decide) (by decide) rfl rfl (Nat.le_of_ble_eq_true rfl) rfl ?_
  intro p e s m below meth c hc hx hr hk
  have hNW := hx.2.1
  have hin5 : ∀ w ∈ wsX50, w ∈ wsX5_form := by decide +kernel
  have hf12 : Cond.fieldLink RX5 12 (TX5 0).1 (TX5 0).2.1 (TX5 0).2.2.1 ∈ wsX5_form := by decide +kernel
  have hf26 : Cond.fieldLink RX5 26 (TX5 3).1 (TX5 3).2.1 (TX5 3).2.2.1 ∈ wsX5_form := by decide +kernel
  have cw68 : CallW ({ frames := 5, cells := 0, slots := 0, locals := 125 }) s _ RX5 RX5 68 yX5_noted cX5_noted 2 (some .int) wsX5_noted ({ frames := 0, cells := 0, slots := 0, locals := 0 }) 0 0 1 := cwV 1 hc.2.2.2.2 gX5_form_X5_noted rfl rfl rfl (by decide +kernel) ⟨Nat.le_of_ble_eq_true rfl, Nat.le_of_ble_eq_true rfl⟩
  have cw112 : CallW ({ frames := 5, cells := 0, slots := 0, locals := 125 }) s _ RX5 RX4 112 yX4_formNumber cX4_formNumber 6 (some .int) wsX4_formNumber ({ frames := 4, cells := 0, slots := 0, locals := 100 }) 0 0 4 := cwV 4 hc.2.2.2.2 gX5_form_X4_formNumber rfl rfl rfl (by decide +kernel) ⟨Nat.le_of_ble_eq_true rfl, Nat.le_of_ble_eq_true rfl⟩
  refine wp_aload_n hc 0 dX5_form_0 rfl ?_
  refine wp_aload_n hc 0 dX5_form_1 rfl ?_
  refine wp_get hc hx hin5 (j := 0) (by decide) (by decide) (ce_4 rfl) rfl 0 (by decide) hf12 rfl dX5_form_2 ?_
  refine wp_aload_n hc 0 dX5_form_5 rfl ?_
  refine wp_get hc hx hin5 (j := 0) (by decide) (by decide) (ce_4 rfl) rfl 3 (by decide) hf26 rfl dX5_form_6 ?_
  refine wp_iload_n hc 1 dX5_form_9 rfl ?_
  refine wp_iload_n hc 2 dX5_form_10 rfl ?_
  refine wp_iload_n hc 3 dX5_form_11 rfl ?_
  refine wp_callVw (As := [.ref (z (16 + 12 * (M.2.1 0))), .int i1, .int i2, .int i3]) (rest := [.ref (z 0)]) (j := 1) (w := sX4_formNumber M (M.2.1 0) i1 i2 i3) hc hx (kX4_formNumber l D cy z hz M (M.2.1 0) i1 i2 i3 (hR.1 0 (by decide))) cw112 (by decide) (by decide) (ce_3 rfl) rfl rfl rfl rfl (Nat.le_of_ble_eq_true rfl) dX5_form_12 (fun x1 hx1 => ?_)
  refine wp_callVw (As := [.int x1.1]) (rest := []) (j := 0) (w := sX5_noted x1.2 x1.1) hc hx (kX5_noted l D cy z hz x1.2 x1.1) cw68 (by decide) (by decide) (ce_4 rfl) rfl rfl rfl rfl (Nat.le_of_ble_eq_true rfl) dX5_form_15 (fun x2 hx2 => ?_)
  refine wp_iret hc hr hk ?_ dX5_form_18
  show (x2.1, x2.2) = sX5_form M i1 i2 i3
  rw [sX5_form, tk_eq hx1, tk_eq hx2]
def sX5_of (M : Mem) (i1 : Int32) (i2 : Int32) : Int32 × Mem :=
  if (fX2_hasBox M (M.2.1 0) i1) = 0 then
  tk (sX5_noted M (-2)) fun x1 =>
  (x1.1, x1.2)
  else
  if (fX5_isBelow i2 4) = 0 then
  tk (sX5_noted M (-2)) fun x2 =>
  (x2.1, x2.2)
  else
  ((fX0_at M (16 + 12 * (M.2.1 0) + 1 + 3 + i1.toNatClampNeg) i2), M)
set_option maxHeartbeats 4000000 in
set_option maxRecDepth 100000 in
theorem kX5_of (l : Launch) (D : va_G) (cy : Nat → ClassId) (z : Nat → Nat) (hz : zI z) (M : Mem) (i1 : Int32) (i2 : Int32) (hR : RK M) : KI l yX5_of wsX5_of { frames := 2, cells := 0, slots := 0, locals := 42 } D cy z 0 100 [.ref (z 0), .int i1, .int i2] M (fun r u => (r, u) = sX5_of M i1 i2) := by
  refine met_wp (lv := [(0, .ref (z 0)), (1, .int i1), (2, .int i2)]) hz (by decide) (by decide) rfl rfl (Nat.le_of_ble_eq_true rfl) rfl ?_
  intro p e s m below meth c hc hx hr hk
  have hNW := hx.2.1
  have hin2 : ∀ w ∈ wsX20, w ∈ wsX5_of := by decide +kernel
  have hin5 : ∀ w ∈ wsX50, w ∈ wsX5_of := by decide +kernel
  have hf26 : Cond.fieldLink RX5 26 (TX5 3).1 (TX5 3).2.1 (TX5 3).2.2.1 ∈ wsX5_of := by decide +kernel
  have hf71 : Cond.fieldLink RX5 71 (TX2 0).1 (TX2 0).2.1 (TX2 0).2.2.1 ∈ wsX5_of := by decide +kernel
  have cw60 : CallW ({ frames := 2, cells := 0, slots := 0, locals := 42 }) s _ RX5 RX2 60 yX2_hasBox cX2_hasBox 2 (some .boolean) wsX2_hasBox ({ frames := 1, cells := 0, slots := 0, locals := 21 }) 0 0 1 := cwV 1 hc.2.2.2.2 gX5_of_X2_hasBox rfl rfl rfl (by decide +kernel) ⟨Nat.le_of_ble_eq_true rfl, Nat.le_of_ble_eq_true rfl⟩
  have cw64 : CallB ({ frames := 2, cells := 0, slots := 0, locals := 42 }) s _ RX5 64 yX5_isBelow cX5_isBelow 2 (some .boolean) wsX5_isBelow ({ frames := 0, cells := 0, slots := 0, locals := 0 }) 0 0 2 ∧ (Cond.static yX5_isBelow).before _ s = true := va_cwS 2 hc.2.2.2.2 gX5_of_X5_isBelow rfl rfl rfl (by decide +kernel) ⟨Nat.le_of_ble_eq_true rfl, Nat.le_of_ble_eq_true rfl⟩
  have cw68 : CallW ({ frames := 2, cells := 0, slots := 0, locals := 42 }) s _ RX5 RX5 68 yX5_noted cX5_noted 2 (some .int) wsX5_noted ({ frames := 0, cells := 0, slots := 0, locals := 0 }) 0 0 1 := cwV 1 hc.2.2.2.2 gX5_of_X5_noted rfl rfl rfl (by decide +kernel) ⟨Nat.le_of_ble_eq_true rfl, Nat.le_of_ble_eq_true rfl⟩
  have cw75 : CallW ({ frames := 2, cells := 0, slots := 0, locals := 42 }) s _ RX5 RX0 75 yX0_at cX0_at 2 (some .int) wsX0_at ({ frames := 0, cells := 0, slots := 0, locals := 0 }) 0 0 1 := cwV 1 hc.2.2.2.2 gX5_of_X0_at rfl rfl rfl (by decide +kernel) ⟨Nat.le_of_ble_eq_true rfl, Nat.le_of_ble_eq_true rfl⟩
  refine wp_aload_n hc 0 dX5_of_0 rfl ?_
  refine wp_get hc hx hin5 (j := 0) (by decide) (by decide) (ce_4 rfl) rfl 3 (by decide) hf26 rfl dX5_of_1 ?_
  refine wp_iload_n hc 1 dX5_of_4 rfl ?_
  refine wp_callVf (As := [.int i1]) (rest := []) (j := (16 + 12 * (M.2.1 0))) (v := (fX2_hasBox M (M.2.1 0) i1)) hc hx (kX2_hasBox l D cy z hz M (M.2.1 0) i1 (hR.1 0 (by decide))) cw60 (Nat.zero_le _) (by have := (hR.1 0 (by decide)); omega) (ce_1 (kd_st (hR.1 0 (by decide)))) rfl rfl rfl rfl (Nat.le_of_ble_eq_true rfl) dX5_of_5 ?_
  refine wp_if_eq (tgt := 19) hc dX5_of_8 (by decide) (fun c8 => ?_) (fun c8 => ?_)
  · refine wp_aload_n hc 0 dX5_of_19 rfl ?_
    refine wp_bipush (v := (-2)) hc dX5_of_20 (by decide) ?_
    refine wp_callVw (As := [.int (-2)]) (rest := []) (j := 0) (w := sX5_noted M (-2)) hc hx (kX5_noted l D cy z hz M (-2)) cw68 (by decide) (by decide) (ce_4 rfl) rfl rfl rfl rfl (Nat.le_of_ble_eq_true rfl) dX5_of_22 (fun x1 hx1 => ?_)
    refine wp_iret hc hr hk ?_ dX5_of_25
    show (x1.1, x1.2) = sX5_of M i1 i2
    rw [sX5_of, if_pos c8, tk_eq hx1]
  refine wp_iload_n hc 2 dX5_of_11 rfl ?_
  refine wp_iconst (v := 4) hc dX5_of_12 (by decide) ?_
  refine wp_callSg (As := [.int i2, .int 4]) (rest := []) (v := (fX5_isBelow i2 4)) hc hNW (kX5_isBelow l i2 4) cw64 rfl rfl (Nat.le_of_ble_eq_true rfl) dX5_of_13 ?_
  refine wp_if_ne (tgt := 26) hc dX5_of_16 (by decide) (fun c16 => ?_) (fun c16 => ?_)
  · refine wp_aload_n hc 0 dX5_of_26 rfl ?_
    refine wp_get hc hx hin5 (j := 0) (by decide) (by decide) (ce_4 rfl) rfl 3 (by decide) hf26 rfl dX5_of_27 ?_
    refine wp_get hc hx hin2 (j := (16 + 12 * (M.2.1 0))) (Nat.zero_le _) (by have := (hR.1 0 (by decide)); omega) (ce_1 (kd_st (hR.1 0 (by decide)))) rfl 0 (by decide) hf71 rfl dX5_of_30 ?_
    refine wp_iload_n hc 1 dX5_of_33 rfl ?_
    refine wp_aald8 hc hx (j := (16 + 12 * (M.2.1 0) + 1)) (Nat.zero_le _) (by have := (hR.1 0 (by decide)); omega) (kd_bx (hR.1 0 (by decide))) i1.toNatClampNeg rfl (vin8 (show 0 ≤ i1.toInt ∧ i1.toInt < (8 : Nat) from ⟨(hasBox_8 c8).1, (hasBox_8 c8).2.1⟩)) dX5_of_34 ?_
    refine wp_iload_n hc 2 dX5_of_35 rfl ?_
    refine wp_callVf (As := [.int i2]) (rest := []) (j := (16 + 12 * (M.2.1 0) + 1 + 3 + i1.toNatClampNeg)) (v := (fX0_at M (16 + 12 * (M.2.1 0) + 1 + 3 + i1.toNatClampNeg) i2)) hc hx (kX0_at l D cy z hz M (16 + 12 * (M.2.1 0) + 1 + 3 + i1.toNatClampNeg) i2 (by have := (hR.1 0 (by decide)); have : i1.toNatClampNeg < 8 := (cl8 (show 0 ≤ i1.toInt ∧ i1.toInt < (8 : Nat) from ⟨(hasBox_8 c8).1, (hasBox_8 c8).2.1⟩)); omega) (kd_fo (hR.1 0 (by decide)) (cl8 (show 0 ≤ i1.toInt ∧ i1.toInt < (8 : Nat) from ⟨(hasBox_8 c8).1, (hasBox_8 c8).2.1⟩)))) cw75 (Nat.zero_le _) (by have := (hR.1 0 (by decide)); have : i1.toNatClampNeg < 8 := (cl8 (show 0 ≤ i1.toInt ∧ i1.toInt < (8 : Nat) from ⟨(hasBox_8 c8).1, (hasBox_8 c8).2.1⟩)); omega) (ce_0 (kd_fo (hR.1 0 (by decide)) (cl8 (show 0 ≤ i1.toInt ∧ i1.toInt < (8 : Nat) from ⟨(hasBox_8 c8).1, (hasBox_8 c8).2.1⟩)))) rfl rfl rfl rfl (Nat.le_of_ble_eq_true rfl) dX5_of_36 ?_
    refine wp_iret hc hr hk ?_ dX5_of_39
    show ((fX0_at M (16 + 12 * (M.2.1 0) + 1 + 3 + i1.toNatClampNeg) i2), M) = sX5_of M i1 i2
    rw [sX5_of, if_neg c8, if_neg c16]
  refine wp_aload_n hc 0 dX5_of_19 rfl ?_
  refine wp_bipush (v := (-2)) hc dX5_of_20 (by decide) ?_
  refine wp_callVw (As := [.int (-2)]) (rest := []) (j := 0) (w := sX5_noted M (-2)) hc hx (kX5_noted l D cy z hz M (-2)) cw68 (by decide) (by decide) (ce_4 rfl) rfl rfl rfl rfl (Nat.le_of_ble_eq_true rfl) dX5_of_22 (fun x2 hx2 => ?_)
  refine wp_iret hc hr hk ?_ dX5_of_25
  show (x2.1, x2.2) = sX5_of M i1 i2
  rw [sX5_of, if_neg c8, if_pos c16, tk_eq hx2]
def sX5_error (M : Mem) (i1 : Int32) : Int32 × Mem :=
  if (fX5_isBelow i1 12) = 0 then
  tk (sX5_noted M (-2)) fun x1 =>
  (x1.1, x1.2)
  else
  ((M.1 (16 + 12 * (M.2.1 0) + 2) i1.toNatClampNeg), M)
set_option maxHeartbeats 4000000 in
set_option maxRecDepth 100000 in
theorem kX5_error (l : Launch) (D : va_G) (cy : Nat → ClassId) (z : Nat → Nat) (hz : zI z) (M : Mem) (i1 : Int32) (hR : RK M) : KI l yX5_error wsX5_error { frames := 1, cells := 0, slots := 0, locals := 21 } D cy z 0 100 [.ref (z 0), .int i1] M (fun r u => (r, u) = sX5_error M i1) := by
  refine met_wp (lv := [(0, .ref (z 0)), (1, .int i1)]) hz (by decide) (by decide) rfl rfl (Nat.le_of_ble_eq_true rfl) rfl ?_
  intro p e s m below meth c hc hx hr hk
  have hNW := hx.2.1
  have hin2 : ∀ w ∈ wsX20, w ∈ wsX5_error := by decide +kernel
  have hin5 : ∀ w ∈ wsX50, w ∈ wsX5_error := by decide +kernel
  have hf26 : Cond.fieldLink RX5 26 (TX5 3).1 (TX5 3).2.1 (TX5 3).2.2.1 ∈ wsX5_error := by decide +kernel
  have hf80 : Cond.fieldLink RX5 80 (TX2 1).1 (TX2 1).2.1 (TX2 1).2.2.1 ∈ wsX5_error := by decide +kernel
  have cw64 : CallB ({ frames := 1, cells := 0, slots := 0, locals := 21 }) s _ RX5 64 yX5_isBelow cX5_isBelow 2 (some .boolean) wsX5_isBelow ({ frames := 0, cells := 0, slots := 0, locals := 0 }) 0 0 2 ∧ (Cond.static yX5_isBelow).before _ s = true := va_cwS 2 hc.2.2.2.2 gX5_error_X5_isBelow rfl rfl rfl (by decide +kernel) ⟨Nat.le_of_ble_eq_true rfl, Nat.le_of_ble_eq_true rfl⟩
  have cw68 : CallW ({ frames := 1, cells := 0, slots := 0, locals := 21 }) s _ RX5 RX5 68 yX5_noted cX5_noted 2 (some .int) wsX5_noted ({ frames := 0, cells := 0, slots := 0, locals := 0 }) 0 0 1 := cwV 1 hc.2.2.2.2 gX5_error_X5_noted rfl rfl rfl (by decide +kernel) ⟨Nat.le_of_ble_eq_true rfl, Nat.le_of_ble_eq_true rfl⟩
  refine wp_iload_n hc 1 dX5_error_0 rfl ?_
  refine wp_bipush (v := 12) hc dX5_error_1 (by decide) ?_
  refine wp_callSg (As := [.int i1, .int 12]) (rest := []) (v := (fX5_isBelow i1 12)) hc hNW (kX5_isBelow l i1 12) cw64 rfl rfl (Nat.le_of_ble_eq_true rfl) dX5_error_3 ?_
  refine wp_if_ne (tgt := 16) hc dX5_error_6 (by decide) (fun c6 => ?_) (fun c6 => ?_)
  · refine wp_aload_n hc 0 dX5_error_16 rfl ?_
    refine wp_get hc hx hin5 (j := 0) (by decide) (by decide) (ce_4 rfl) rfl 3 (by decide) hf26 rfl dX5_error_17 ?_
    refine wp_get hc hx hin2 (j := (16 + 12 * (M.2.1 0))) (Nat.zero_le _) (by have := (hR.1 0 (by decide)); omega) (ce_1 (kd_st (hR.1 0 (by decide)))) rfl 1 (by decide) hf80 rfl dX5_error_20 ?_
    refine wp_iload_n hc 1 dX5_error_23 rfl ?_
    refine wp_iald hc hx (j := (16 + 12 * (M.2.1 0) + 2)) (Nat.zero_le _) (by have := (hR.1 0 (by decide)); omega) (kd_er (hR.1 0 (by decide))) i1.toNatClampNeg rfl (by rw [ln_er (hR.1 0 (by decide))]; exact vin8 (below_in c6)) dX5_error_24 ?_
    refine wp_iret hc hr hk ?_ dX5_error_25
    show ((M.1 (16 + 12 * (M.2.1 0) + 2) i1.toNatClampNeg), M) = sX5_error M i1
    rw [sX5_error, if_neg c6]
  refine wp_aload_n hc 0 dX5_error_9 rfl ?_
  refine wp_bipush (v := (-2)) hc dX5_error_10 (by decide) ?_
  refine wp_callVw (As := [.int (-2)]) (rest := []) (j := 0) (w := sX5_noted M (-2)) hc hx (kX5_noted l D cy z hz M (-2)) cw68 (by decide) (by decide) (ce_4 rfl) rfl rfl rfl rfl (Nat.le_of_ble_eq_true rfl) dX5_error_12 (fun x1 hx1 => ?_)
  refine wp_iret hc hr hk ?_ dX5_error_15
  show (x1.1, x1.2) = sX5_error M i1
  rw [sX5_error, if_pos c6, tk_eq hx1]
def sX5_learnt (M : Mem) (i1 : Int32) : Int32 × Mem :=
  if (fX5_isBelow i1 12) = 0 then
  tk (sX5_noted M (-2)) fun x1 =>
  (x1.1, x1.2)
  else
  if (M.1 (16 + 12 * (M.2.1 0)) 4) = 0 then
  ((-1), M)
  else
  ((M.1 (16 + 12 * (M.2.1 0) + 3) i1.toNatClampNeg), M)
set_option maxHeartbeats 4000000 in
set_option maxRecDepth 100000 in
theorem kX5_learnt (l : Launch) (D : va_G) (cy : Nat → ClassId) (z : Nat → Nat) (hz : zI z) (M : Mem) (i1 : Int32) (hR : RK M) : KI l yX5_learnt wsX5_learnt { frames := 1, cells := 0, slots := 0, locals := 21 } D cy z 0 100 [.ref (z 0), .int i1] M (fun r u => (r, u) = sX5_learnt M i1) := by
  refine met_wp (lv := [(0, .ref (z 0)), (1, .int i1)]) hz (by decide) (by decide) rfl rfl (Nat.le_of_ble_eq_true rfl) rfl ?_
  intro p e s m below meth c hc hx hr hk
  have hNW := hx.2.1
  have hin2 : ∀ w ∈ wsX20, w ∈ wsX5_learnt := by decide +kernel
  have hin5 : ∀ w ∈ wsX50, w ∈ wsX5_learnt := by decide +kernel
  have hf26 : Cond.fieldLink RX5 26 (TX5 3).1 (TX5 3).2.1 (TX5 3).2.2.1 ∈ wsX5_learnt := by decide +kernel
  have hf91 : Cond.fieldLink RX5 91 (TX2 4).1 (TX2 4).2.1 (TX2 4).2.2.1 ∈ wsX5_learnt := by decide +kernel
  have hf95 : Cond.fieldLink RX5 95 (TX2 2).1 (TX2 2).2.1 (TX2 2).2.2.1 ∈ wsX5_learnt := by decide +kernel
  have cw64 : CallB ({ frames := 1, cells := 0, slots := 0, locals := 21 }) s _ RX5 64 yX5_isBelow cX5_isBelow 2 (some .boolean) wsX5_isBelow ({ frames := 0, cells := 0, slots := 0, locals := 0 }) 0 0 2 ∧ (Cond.static yX5_isBelow).before _ s = true := va_cwS 2 hc.2.2.2.2 gX5_learnt_X5_isBelow rfl rfl rfl (by decide +kernel) ⟨Nat.le_of_ble_eq_true rfl, Nat.le_of_ble_eq_true rfl⟩
  have cw68 : CallW ({ frames := 1, cells := 0, slots := 0, locals := 21 }) s _ RX5 RX5 68 yX5_noted cX5_noted 2 (some .int) wsX5_noted ({ frames := 0, cells := 0, slots := 0, locals := 0 }) 0 0 1 := cwV 1 hc.2.2.2.2 gX5_learnt_X5_noted rfl rfl rfl (by decide +kernel) ⟨Nat.le_of_ble_eq_true rfl, Nat.le_of_ble_eq_true rfl⟩
  refine wp_iload_n hc 1 dX5_learnt_0 rfl ?_
  refine wp_bipush (v := 12) hc dX5_learnt_1 (by decide) ?_
  refine wp_callSg (As := [.int i1, .int 12]) (rest := []) (v := (fX5_isBelow i1 12)) hc hNW (kX5_isBelow l i1 12) cw64 rfl rfl (Nat.le_of_ble_eq_true rfl) dX5_learnt_3 ?_
  refine wp_if_ne (tgt := 16) hc dX5_learnt_6 (by decide) (fun c6 => ?_) (fun c6 => ?_)
  · refine wp_aload_n hc 0 dX5_learnt_16 rfl ?_
    refine wp_get hc hx hin5 (j := 0) (by decide) (by decide) (ce_4 rfl) rfl 3 (by decide) hf26 rfl dX5_learnt_17 ?_
    refine wp_get hc hx hin2 (j := (16 + 12 * (M.2.1 0))) (Nat.zero_le _) (by have := (hR.1 0 (by decide)); omega) (ce_1 (kd_st (hR.1 0 (by decide)))) rfl 4 (by decide) hf91 rfl dX5_learnt_20 ?_
    refine wp_if_eq (tgt := 38) hc dX5_learnt_23 (by decide) (fun c23 => ?_) (fun c23 => ?_)
    · refine wp_iconst (v := (-1)) hc dX5_learnt_38 (by decide) ?_
      refine wp_iret hc hr hk ?_ dX5_learnt_39
      show ((-1), M) = sX5_learnt M i1
      rw [sX5_learnt, if_neg c6, if_pos c23]
    refine wp_aload_n hc 0 dX5_learnt_26 rfl ?_
    refine wp_get hc hx hin5 (j := 0) (by decide) (by decide) (ce_4 rfl) rfl 3 (by decide) hf26 rfl dX5_learnt_27 ?_
    refine wp_get hc hx hin2 (j := (16 + 12 * (M.2.1 0))) (Nat.zero_le _) (by have := (hR.1 0 (by decide)); omega) (ce_1 (kd_st (hR.1 0 (by decide)))) rfl 2 (by decide) hf95 rfl dX5_learnt_30 ?_
    refine wp_iload_n hc 1 dX5_learnt_33 rfl ?_
    refine wp_iald hc hx (j := (16 + 12 * (M.2.1 0) + 3)) (Nat.zero_le _) (by have := (hR.1 0 (by decide)); omega) (kd_kn (hR.1 0 (by decide))) i1.toNatClampNeg rfl (by rw [ln_kn (hR.1 0 (by decide))]; exact vin8 (below_in c6)) dX5_learnt_34 ?_
    refine wp_goto (tgt := 39) hc dX5_learnt_35 (by decide) ?_
    refine wp_iret hc hr hk ?_ dX5_learnt_39
    show ((M.1 (16 + 12 * (M.2.1 0) + 3) i1.toNatClampNeg), M) = sX5_learnt M i1
    rw [sX5_learnt, if_neg c6, if_neg c23]
  refine wp_aload_n hc 0 dX5_learnt_9 rfl ?_
  refine wp_bipush (v := (-2)) hc dX5_learnt_10 (by decide) ?_
  refine wp_callVw (As := [.int (-2)]) (rest := []) (j := 0) (w := sX5_noted M (-2)) hc hx (kX5_noted l D cy z hz M (-2)) cw68 (by decide) (by decide) (ce_4 rfl) rfl rfl rfl rfl (Nat.le_of_ble_eq_true rfl) dX5_learnt_12 (fun x1 hx1 => ?_)
  refine wp_iret hc hr hk ?_ dX5_learnt_15
  show (x1.1, x1.2) = sX5_learnt M i1
  rw [sX5_learnt, if_pos c6, tk_eq hx1]
def sX5_det (M : Mem) (i1 : Int32) : Int32 × Mem :=
  if (fX2_hasBox M (M.2.1 0) i1) = 0 then
  tk (sX5_noted M (-2)) fun x1 =>
  (x1.1, x1.2)
  else
  ((fX0_determinant M (16 + 12 * (M.2.1 0) + 1 + 3 + i1.toNatClampNeg)), M)
set_option maxHeartbeats 4000000 in
set_option maxRecDepth 100000 in
theorem kX5_det (l : Launch) (D : va_G) (cy : Nat → ClassId) (z : Nat → Nat) (hz : zI z) (M : Mem) (i1 : Int32) (hR : RK M) : KI l yX5_det wsX5_det { frames := 3, cells := 0, slots := 0, locals := 68 } D cy z 0 100 [.ref (z 0), .int i1] M (fun r u => (r, u) = sX5_det M i1) := by
  refine met_wp (lv := [(0, .ref (z 0)), (1, .int i1)]) hz (by decide) (by decide) rfl rfl (Nat.le_of_ble_eq_true rfl) rfl ?_
  intro p e s m below meth c hc hx hr hk
  have hNW := hx.2.1
  have hin2 : ∀ w ∈ wsX20, w ∈ wsX5_det := by decide +kernel
  have hin5 : ∀ w ∈ wsX50, w ∈ wsX5_det := by decide +kernel
  have hf26 : Cond.fieldLink RX5 26 (TX5 3).1 (TX5 3).2.1 (TX5 3).2.2.1 ∈ wsX5_det := by decide +kernel
  have hf71 : Cond.fieldLink RX5 71 (TX2 0).1 (TX2 0).2.1 (TX2 0).2.2.1 ∈ wsX5_det := by decide +kernel
  have cw60 : CallW ({ frames := 3, cells := 0, slots := 0, locals := 68 }) s _ RX5 RX2 60 yX2_hasBox cX2_hasBox 2 (some .boolean) wsX2_hasBox ({ frames := 1, cells := 0, slots := 0, locals := 21 }) 0 0 1 := cwV 1 hc.2.2.2.2 gX5_det_X2_hasBox rfl rfl rfl (by decide +kernel) ⟨Nat.le_of_ble_eq_true rfl, Nat.le_of_ble_eq_true rfl⟩
  have cw68 : CallW ({ frames := 3, cells := 0, slots := 0, locals := 68 }) s _ RX5 RX5 68 yX5_noted cX5_noted 2 (some .int) wsX5_noted ({ frames := 0, cells := 0, slots := 0, locals := 0 }) 0 0 1 := cwV 1 hc.2.2.2.2 gX5_det_X5_noted rfl rfl rfl (by decide +kernel) ⟨Nat.le_of_ble_eq_true rfl, Nat.le_of_ble_eq_true rfl⟩
  have cw115 : CallW ({ frames := 3, cells := 0, slots := 0, locals := 68 }) s _ RX5 RX0 115 yX0_determinant cX0_determinant 1 (some .int) wsX0_determinant ({ frames := 2, cells := 0, slots := 0, locals := 48 }) 0 0 0 := cwV 0 hc.2.2.2.2 gX5_det_X0_determinant rfl rfl rfl (by decide +kernel) ⟨Nat.le_of_ble_eq_true rfl, Nat.le_of_ble_eq_true rfl⟩
  refine wp_aload_n hc 0 dX5_det_0 rfl ?_
  refine wp_get hc hx hin5 (j := 0) (by decide) (by decide) (ce_4 rfl) rfl 3 (by decide) hf26 rfl dX5_det_1 ?_
  refine wp_iload_n hc 1 dX5_det_4 rfl ?_
  refine wp_callVf (As := [.int i1]) (rest := []) (j := (16 + 12 * (M.2.1 0))) (v := (fX2_hasBox M (M.2.1 0) i1)) hc hx (kX2_hasBox l D cy z hz M (M.2.1 0) i1 (hR.1 0 (by decide))) cw60 (Nat.zero_le _) (by have := (hR.1 0 (by decide)); omega) (ce_1 (kd_st (hR.1 0 (by decide)))) rfl rfl rfl rfl (Nat.le_of_ble_eq_true rfl) dX5_det_5 ?_
  refine wp_if_ne (tgt := 18) hc dX5_det_8 (by decide) (fun c8 => ?_) (fun c8 => ?_)
  · refine wp_aload_n hc 0 dX5_det_18 rfl ?_
    refine wp_get hc hx hin5 (j := 0) (by decide) (by decide) (ce_4 rfl) rfl 3 (by decide) hf26 rfl dX5_det_19 ?_
    refine wp_get hc hx hin2 (j := (16 + 12 * (M.2.1 0))) (Nat.zero_le _) (by have := (hR.1 0 (by decide)); omega) (ce_1 (kd_st (hR.1 0 (by decide)))) rfl 0 (by decide) hf71 rfl dX5_det_22 ?_
    refine wp_iload_n hc 1 dX5_det_25 rfl ?_
    refine wp_aald8 hc hx (j := (16 + 12 * (M.2.1 0) + 1)) (Nat.zero_le _) (by have := (hR.1 0 (by decide)); omega) (kd_bx (hR.1 0 (by decide))) i1.toNatClampNeg rfl (vin8 (show 0 ≤ i1.toInt ∧ i1.toInt < (8 : Nat) from ⟨(hasBox_8 c8).1, (hasBox_8 c8).2.1⟩)) dX5_det_26 ?_
    refine wp_callVf (As := []) (rest := []) (j := (16 + 12 * (M.2.1 0) + 1 + 3 + i1.toNatClampNeg)) (v := (fX0_determinant M (16 + 12 * (M.2.1 0) + 1 + 3 + i1.toNatClampNeg))) hc hx (kX0_determinant l D cy z hz M (16 + 12 * (M.2.1 0) + 1 + 3 + i1.toNatClampNeg) (by have := (hR.1 0 (by decide)); have : i1.toNatClampNeg < 8 := (cl8 (show 0 ≤ i1.toInt ∧ i1.toInt < (8 : Nat) from ⟨(hasBox_8 c8).1, (hasBox_8 c8).2.1⟩)); omega) (kd_fo (hR.1 0 (by decide)) (cl8 (show 0 ≤ i1.toInt ∧ i1.toInt < (8 : Nat) from ⟨(hasBox_8 c8).1, (hasBox_8 c8).2.1⟩)))) cw115 (Nat.zero_le _) (by have := (hR.1 0 (by decide)); have : i1.toNatClampNeg < 8 := (cl8 (show 0 ≤ i1.toInt ∧ i1.toInt < (8 : Nat) from ⟨(hasBox_8 c8).1, (hasBox_8 c8).2.1⟩)); omega) (ce_0 (kd_fo (hR.1 0 (by decide)) (cl8 (show 0 ≤ i1.toInt ∧ i1.toInt < (8 : Nat) from ⟨(hasBox_8 c8).1, (hasBox_8 c8).2.1⟩)))) rfl rfl rfl rfl (Nat.le_of_ble_eq_true rfl) dX5_det_27 ?_
    refine wp_iret hc hr hk ?_ dX5_det_30
    show ((fX0_determinant M (16 + 12 * (M.2.1 0) + 1 + 3 + i1.toNatClampNeg)), M) = sX5_det M i1
    rw [sX5_det, if_neg c8]
  refine wp_aload_n hc 0 dX5_det_11 rfl ?_
  refine wp_bipush (v := (-2)) hc dX5_det_12 (by decide) ?_
  refine wp_callVw (As := [.int (-2)]) (rest := []) (j := 0) (w := sX5_noted M (-2)) hc hx (kX5_noted l D cy z hz M (-2)) cw68 (by decide) (by decide) (ce_4 rfl) rfl rfl rfl rfl (Nat.le_of_ble_eq_true rfl) dX5_det_14 (fun x1 hx1 => ?_)
  refine wp_iret hc hr hk ?_ dX5_det_17
  show (x1.1, x1.2) = sX5_det M i1
  rw [sX5_det, if_pos c8, tk_eq hx1]
def fX5_seenInto (M : Mem) (q1 : Nat) (i2 : Int32) (i3 : Int32) : Int32 :=
  if i2 = 0 then
  if i2 = 0 then
  if (fX1_minus 10007 (fX1_times (M.1 q1 3) i3)) = 0 then
  (-3)
  else
  (fX1_plus (M.1 q1 0) (fX1_over (fX1_times (fX1_times (M.1 q1 1) (M.1 q1 2)) i3) (fX1_minus 10007 (fX1_times (M.1 q1 3) i3))))
  else
  if (fX1_minus 10007 (fX1_times (M.1 q1 0) i3)) = 0 then
  (-3)
  else
  (fX1_plus (M.1 q1 0) (fX1_over (fX1_times (fX1_times (M.1 q1 1) (M.1 q1 2)) i3) (fX1_minus 10007 (fX1_times (M.1 q1 0) i3))))
  else
  if i2 = 0 then
  if (fX1_minus 10007 (fX1_times (M.1 q1 3) i3)) = 0 then
  (-3)
  else
  (fX1_plus (M.1 q1 3) (fX1_over (fX1_times (fX1_times (M.1 q1 1) (M.1 q1 2)) i3) (fX1_minus 10007 (fX1_times (M.1 q1 3) i3))))
  else
  if (fX1_minus 10007 (fX1_times (M.1 q1 0) i3)) = 0 then
  (-3)
  else
  (fX1_plus (M.1 q1 3) (fX1_over (fX1_times (fX1_times (M.1 q1 1) (M.1 q1 2)) i3) (fX1_minus 10007 (fX1_times (M.1 q1 0) i3))))
set_option maxHeartbeats 4000000 in
set_option maxRecDepth 100000 in
theorem kX5_seenInto (l : Launch) (D : va_G) (cy : Nat → ClassId) (z : Nat → Nat) (hz : zI z) (M : Mem) (q1 : Nat) (i2 : Int32) (i3 : Int32) (hjq1 : q1 < 0 + 100) (hkq1 : kd q1 = 0) : KI l yX5_seenInto wsX5_seenInto { frames := 2, cells := 0, slots := 0, locals := 51 } D cy z 0 100 [.ref (z q1), .int i2, .int i3] M (fun r u => r = fX5_seenInto M q1 i2 i3 ∧ u = M) := by
  refine met_wp (lv := [(0, .ref (z q1)), (1, .int i2), (2, .int i3)]) hz (by decide) (by decide) rfl rfl (Nat.le_of_ble_eq_true rfl) rfl ?_
  intro p e s m below meth c hc hx hr hk
  have hNW := hx.2.1
  have hin0 : ∀ w ∈ wsX00, w ∈ wsX5_seenInto := by decide +kernel
  have hf207 : Cond.fieldLink RX5 207 (TX0 0).1 (TX0 0).2.1 (TX0 0).2.2.1 ∈ wsX5_seenInto := by decide +kernel
  have hf210 : Cond.fieldLink RX5 210 (TX0 3).1 (TX0 3).2.1 (TX0 3).2.2.1 ∈ wsX5_seenInto := by decide +kernel
  have hf219 : Cond.fieldLink RX5 219 (TX0 1).1 (TX0 1).2.1 (TX0 1).2.2.1 ∈ wsX5_seenInto := by decide +kernel
  have hf222 : Cond.fieldLink RX5 222 (TX0 2).1 (TX0 2).2.1 (TX0 2).2.2.1 ∈ wsX5_seenInto := by decide +kernel
  have cw213 : CallB ({ frames := 2, cells := 0, slots := 0, locals := 51 }) s _ RX5 213 yX1_times cX1_times 6 (some .int) wsX1_times ({ frames := 1, cells := 0, slots := 0, locals := 23 }) 0 0 2 ∧ (Cond.static yX1_times).before _ s = true := va_cwS 2 hc.2.2.2.2 gX5_seenInto_X1_times rfl rfl rfl (by decide +kernel) ⟨Nat.le_of_ble_eq_true rfl, Nat.le_of_ble_eq_true rfl⟩
  have cw216 : CallB ({ frames := 2, cells := 0, slots := 0, locals := 51 }) s _ RX5 216 yX1_minus cX1_minus 2 (some .int) wsX1_minus ({ frames := 1, cells := 0, slots := 0, locals := 23 }) 0 0 2 ∧ (Cond.static yX1_minus).before _ s = true := va_cwS 2 hc.2.2.2.2 gX5_seenInto_X1_minus rfl rfl rfl (by decide +kernel) ⟨Nat.le_of_ble_eq_true rfl, Nat.le_of_ble_eq_true rfl⟩
  have cw225 : CallB ({ frames := 2, cells := 0, slots := 0, locals := 51 }) s _ RX5 225 yX1_over cX1_over 9 (some .int) wsX1_over ({ frames := 1, cells := 0, slots := 0, locals := 23 }) 0 0 2 ∧ (Cond.static yX1_over).before _ s = true := va_cwS 2 hc.2.2.2.2 gX5_seenInto_X1_over rfl rfl rfl (by decide +kernel) ⟨Nat.le_of_ble_eq_true rfl, Nat.le_of_ble_eq_true rfl⟩
  have cw228 : CallB ({ frames := 2, cells := 0, slots := 0, locals := 51 }) s _ RX5 228 yX1_plus cX1_plus 2 (some .int) wsX1_plus ({ frames := 1, cells := 0, slots := 0, locals := 23 }) 0 0 2 ∧ (Cond.static yX1_plus).before _ s = true := va_cwS 2 hc.2.2.2.2 gX5_seenInto_X1_plus rfl rfl rfl (by decide +kernel) ⟨Nat.le_of_ble_eq_true rfl, Nat.le_of_ble_eq_true rfl⟩
  refine wp_iload_n hc 1 dX5_seenInto_0 rfl ?_
  refine wp_if_ne (tgt := 11) hc dX5_seenInto_1 (by decide) (fun c1 => ?_) (fun c1 => ?_)
  · refine wp_aload_n hc 0 dX5_seenInto_11 rfl ?_
    refine wp_get hc hx hin0 (j := q1) (Nat.zero_le _) hjq1 (ce_0 hkq1) rfl 3 (by decide) hf210 rfl dX5_seenInto_12 ?_
    refine wp_istore_n (lv' := [(3, .int (M.1 q1 3)), (0, .ref (z q1)), (1, .int i2), (2, .int i3)]) hc dX5_seenInto_15 (by decide) rfl ?_
    refine wp_iload_n hc 2 dX5_seenInto_16 rfl ?_
    refine wp_if_ne (tgt := 27) hc dX5_seenInto_17 (by decide) (fun c17 => ?_) (fun c17 => ?_)
    · refine wp_aload_n hc 1 dX5_seenInto_27 rfl ?_
      refine wp_get hc hx hin0 (j := q1) (Nat.zero_le _) hjq1 (ce_0 hkq1) rfl 0 (by decide) hf207 rfl dX5_seenInto_28 ?_
      refine wp_istore (lv' := [(4, .int (M.1 q1 0)), (3, .int (M.1 q1 3)), (0, .ref (z q1)), (1, .int i2), (2, .int i3)]) hc dX5_seenInto_31 (by decide) rfl ?_
      refine wp_sipush (v := 10007) hc dX5_seenInto_33 (by decide) ?_
      refine wp_iload hc 0 dX5_seenInto_36 rfl ?_
      refine wp_iload_n hc 4 dX5_seenInto_38 rfl ?_
      refine wp_callSg (As := [.int (M.1 q1 0), .int i3]) (rest := [.int 10007]) (v := (fX1_times (M.1 q1 0) i3)) hc hNW (kX1_times l (M.1 q1 0) i3) cw213 rfl rfl (Nat.le_of_ble_eq_true rfl) dX5_seenInto_39 ?_
      refine wp_callSg (As := [.int 10007, .int (fX1_times (M.1 q1 0) i3)]) (rest := []) (v := (fX1_minus 10007 (fX1_times (M.1 q1 0) i3))) hc hNW (kX1_minus l 10007 (fX1_times (M.1 q1 0) i3)) cw216 rfl rfl (Nat.le_of_ble_eq_true rfl) dX5_seenInto_42 ?_
      refine wp_istore (lv' := [(5, .int (fX1_minus 10007 (fX1_times (M.1 q1 0) i3))), (4, .int (M.1 q1 0)), (3, .int (M.1 q1 3)), (0, .ref (z q1)), (1, .int i2), (2, .int i3)]) hc dX5_seenInto_45 (by decide) rfl ?_
      refine wp_iload hc 0 dX5_seenInto_47 rfl ?_
      refine wp_if_ne (tgt := 55) hc dX5_seenInto_49 (by decide) (fun c49 => ?_) (fun c49 => ?_)
      · refine wp_aload_n hc 3 dX5_seenInto_55 rfl ?_
        refine wp_get hc hx hin0 (j := q1) (Nat.zero_le _) hjq1 (ce_0 hkq1) rfl 1 (by decide) hf219 rfl dX5_seenInto_56 ?_
        refine wp_aload_n hc 3 dX5_seenInto_59 rfl ?_
        refine wp_get hc hx hin0 (j := q1) (Nat.zero_le _) hjq1 (ce_0 hkq1) rfl 2 (by decide) hf222 rfl dX5_seenInto_60 ?_
        refine wp_callSg (As := [.int (M.1 q1 1), .int (M.1 q1 2)]) (rest := []) (v := (fX1_times (M.1 q1 1) (M.1 q1 2))) hc hNW (kX1_times l (M.1 q1 1) (M.1 q1 2)) cw213 rfl rfl (Nat.le_of_ble_eq_true rfl) dX5_seenInto_63 ?_
        refine wp_iload_n hc 5 dX5_seenInto_66 rfl ?_
        refine wp_callSg (As := [.int (fX1_times (M.1 q1 1) (M.1 q1 2)), .int i3]) (rest := []) (v := (fX1_times (fX1_times (M.1 q1 1) (M.1 q1 2)) i3)) hc hNW (kX1_times l (fX1_times (M.1 q1 1) (M.1 q1 2)) i3) cw213 rfl rfl (Nat.le_of_ble_eq_true rfl) dX5_seenInto_67 ?_
        refine wp_istore (lv' := [(6, .int (fX1_times (fX1_times (M.1 q1 1) (M.1 q1 2)) i3)), (5, .int (fX1_minus 10007 (fX1_times (M.1 q1 0) i3))), (4, .int (M.1 q1 0)), (3, .int (M.1 q1 3)), (0, .ref (z q1)), (1, .int i2), (2, .int i3)]) hc dX5_seenInto_70 (by decide) rfl ?_
        refine wp_iload_n hc 3 dX5_seenInto_72 rfl ?_
        refine wp_iload hc 0 dX5_seenInto_73 rfl ?_
        refine wp_iload hc 1 dX5_seenInto_75 rfl ?_
        refine wp_callSg (As := [.int (fX1_times (fX1_times (M.1 q1 1) (M.1 q1 2)) i3), .int (fX1_minus 10007 (fX1_times (M.1 q1 0) i3))]) (rest := [.int (M.1 q1 3)]) (v := (fX1_over (fX1_times (fX1_times (M.1 q1 1) (M.1 q1 2)) i3) (fX1_minus 10007 (fX1_times (M.1 q1 0) i3)))) hc hNW (kX1_over l (fX1_times (fX1_times (M.1 q1 1) (M.1 q1 2)) i3) (fX1_minus 10007 (fX1_times (M.1 q1 0) i3))) cw225 rfl rfl (Nat.le_of_ble_eq_true rfl) dX5_seenInto_77 ?_
        refine wp_callSg (As := [.int (M.1 q1 3), .int (fX1_over (fX1_times (fX1_times (M.1 q1 1) (M.1 q1 2)) i3) (fX1_minus 10007 (fX1_times (M.1 q1 0) i3)))]) (rest := []) (v := (fX1_plus (M.1 q1 3) (fX1_over (fX1_times (fX1_times (M.1 q1 1) (M.1 q1 2)) i3) (fX1_minus 10007 (fX1_times (M.1 q1 0) i3))))) hc hNW (kX1_plus l (M.1 q1 3) (fX1_over (fX1_times (fX1_times (M.1 q1 1) (M.1 q1 2)) i3) (fX1_minus 10007 (fX1_times (M.1 q1 0) i3)))) cw228 rfl rfl (Nat.le_of_ble_eq_true rfl) dX5_seenInto_80 ?_
        refine wp_iret hc hr hk ?_ dX5_seenInto_83
        show (fX1_plus (M.1 q1 3) (fX1_over (fX1_times (fX1_times (M.1 q1 1) (M.1 q1 2)) i3) (fX1_minus 10007 (fX1_times (M.1 q1 0) i3)))) = fX5_seenInto M q1 i2 i3 ∧ M = M
        exact ⟨by rw [fX5_seenInto, if_neg c1, if_neg c17, if_neg c49], rfl⟩
      refine wp_bipush (v := (-3)) hc dX5_seenInto_52 (by decide) ?_
      refine wp_iret hc hr hk ?_ dX5_seenInto_54
      show (-3) = fX5_seenInto M q1 i2 i3 ∧ M = M
      exact ⟨by rw [fX5_seenInto, if_neg c1, if_neg c17, if_pos c49], rfl⟩
    refine wp_aload_n hc 1 dX5_seenInto_20 rfl ?_
    refine wp_get hc hx hin0 (j := q1) (Nat.zero_le _) hjq1 (ce_0 hkq1) rfl 3 (by decide) hf210 rfl dX5_seenInto_21 ?_
    refine wp_goto (tgt := 31) hc dX5_seenInto_24 (by decide) ?_
    refine wp_istore (lv' := [(4, .int (M.1 q1 3)), (3, .int (M.1 q1 3)), (0, .ref (z q1)), (1, .int i2), (2, .int i3)]) hc dX5_seenInto_31 (by decide) rfl ?_
    refine wp_sipush (v := 10007) hc dX5_seenInto_33 (by decide) ?_
    refine wp_iload hc 0 dX5_seenInto_36 rfl ?_
    refine wp_iload_n hc 4 dX5_seenInto_38 rfl ?_
    refine wp_callSg (As := [.int (M.1 q1 3), .int i3]) (rest := [.int 10007]) (v := (fX1_times (M.1 q1 3) i3)) hc hNW (kX1_times l (M.1 q1 3) i3) cw213 rfl rfl (Nat.le_of_ble_eq_true rfl) dX5_seenInto_39 ?_
    refine wp_callSg (As := [.int 10007, .int (fX1_times (M.1 q1 3) i3)]) (rest := []) (v := (fX1_minus 10007 (fX1_times (M.1 q1 3) i3))) hc hNW (kX1_minus l 10007 (fX1_times (M.1 q1 3) i3)) cw216 rfl rfl (Nat.le_of_ble_eq_true rfl) dX5_seenInto_42 ?_
    refine wp_istore (lv' := [(5, .int (fX1_minus 10007 (fX1_times (M.1 q1 3) i3))), (4, .int (M.1 q1 3)), (3, .int (M.1 q1 3)), (0, .ref (z q1)), (1, .int i2), (2, .int i3)]) hc dX5_seenInto_45 (by decide) rfl ?_
    refine wp_iload hc 0 dX5_seenInto_47 rfl ?_
    refine wp_if_ne (tgt := 55) hc dX5_seenInto_49 (by decide) (fun c49 => ?_) (fun c49 => ?_)
    · refine wp_aload_n hc 3 dX5_seenInto_55 rfl ?_
      refine wp_get hc hx hin0 (j := q1) (Nat.zero_le _) hjq1 (ce_0 hkq1) rfl 1 (by decide) hf219 rfl dX5_seenInto_56 ?_
      refine wp_aload_n hc 3 dX5_seenInto_59 rfl ?_
      refine wp_get hc hx hin0 (j := q1) (Nat.zero_le _) hjq1 (ce_0 hkq1) rfl 2 (by decide) hf222 rfl dX5_seenInto_60 ?_
      refine wp_callSg (As := [.int (M.1 q1 1), .int (M.1 q1 2)]) (rest := []) (v := (fX1_times (M.1 q1 1) (M.1 q1 2))) hc hNW (kX1_times l (M.1 q1 1) (M.1 q1 2)) cw213 rfl rfl (Nat.le_of_ble_eq_true rfl) dX5_seenInto_63 ?_
      refine wp_iload_n hc 5 dX5_seenInto_66 rfl ?_
      refine wp_callSg (As := [.int (fX1_times (M.1 q1 1) (M.1 q1 2)), .int i3]) (rest := []) (v := (fX1_times (fX1_times (M.1 q1 1) (M.1 q1 2)) i3)) hc hNW (kX1_times l (fX1_times (M.1 q1 1) (M.1 q1 2)) i3) cw213 rfl rfl (Nat.le_of_ble_eq_true rfl) dX5_seenInto_67 ?_
      refine wp_istore (lv' := [(6, .int (fX1_times (fX1_times (M.1 q1 1) (M.1 q1 2)) i3)), (5, .int (fX1_minus 10007 (fX1_times (M.1 q1 3) i3))), (4, .int (M.1 q1 3)), (3, .int (M.1 q1 3)), (0, .ref (z q1)), (1, .int i2), (2, .int i3)]) hc dX5_seenInto_70 (by decide) rfl ?_
      refine wp_iload_n hc 3 dX5_seenInto_72 rfl ?_
      refine wp_iload hc 0 dX5_seenInto_73 rfl ?_
      refine wp_iload hc 1 dX5_seenInto_75 rfl ?_
      refine wp_callSg (As := [.int (fX1_times (fX1_times (M.1 q1 1) (M.1 q1 2)) i3), .int (fX1_minus 10007 (fX1_times (M.1 q1 3) i3))]) (rest := [.int (M.1 q1 3)]) (v := (fX1_over (fX1_times (fX1_times (M.1 q1 1) (M.1 q1 2)) i3) (fX1_minus 10007 (fX1_times (M.1 q1 3) i3)))) hc hNW (kX1_over l (fX1_times (fX1_times (M.1 q1 1) (M.1 q1 2)) i3) (fX1_minus 10007 (fX1_times (M.1 q1 3) i3))) cw225 rfl rfl (Nat.le_of_ble_eq_true rfl) dX5_seenInto_77 ?_
      refine wp_callSg (As := [.int (M.1 q1 3), .int (fX1_over (fX1_times (fX1_times (M.1 q1 1) (M.1 q1 2)) i3) (fX1_minus 10007 (fX1_times (M.1 q1 3) i3)))]) (rest := []) (v := (fX1_plus (M.1 q1 3) (fX1_over (fX1_times (fX1_times (M.1 q1 1) (M.1 q1 2)) i3) (fX1_minus 10007 (fX1_times (M.1 q1 3) i3))))) hc hNW (kX1_plus l (M.1 q1 3) (fX1_over (fX1_times (fX1_times (M.1 q1 1) (M.1 q1 2)) i3) (fX1_minus 10007 (fX1_times (M.1 q1 3) i3)))) cw228 rfl rfl (Nat.le_of_ble_eq_true rfl) dX5_seenInto_80 ?_
      refine wp_iret hc hr hk ?_ dX5_seenInto_83
      show (fX1_plus (M.1 q1 3) (fX1_over (fX1_times (fX1_times (M.1 q1 1) (M.1 q1 2)) i3) (fX1_minus 10007 (fX1_times (M.1 q1 3) i3)))) = fX5_seenInto M q1 i2 i3 ∧ M = M
      exact ⟨by rw [fX5_seenInto, if_neg c1, if_pos c17, if_neg c49], rfl⟩
    refine wp_bipush (v := (-3)) hc dX5_seenInto_52 (by decide) ?_
    refine wp_iret hc hr hk ?_ dX5_seenInto_54
    show (-3) = fX5_seenInto M q1 i2 i3 ∧ M = M
    exact ⟨by rw [fX5_seenInto, if_neg c1, if_pos c17, if_pos c49], rfl⟩
  refine wp_aload_n hc 0 dX5_seenInto_4 rfl ?_
  refine wp_get hc hx hin0 (j := q1) (Nat.zero_le _) hjq1 (ce_0 hkq1) rfl 0 (by decide) hf207 rfl dX5_seenInto_5 ?_
  refine wp_goto (tgt := 15) hc dX5_seenInto_8 (by decide) ?_
  refine wp_istore_n (lv' := [(3, .int (M.1 q1 0)), (0, .ref (z q1)), (1, .int i2), (2, .int i3)]) hc dX5_seenInto_15 (by decide) rfl ?_
  refine wp_iload_n hc 2 dX5_seenInto_16 rfl ?_
  refine wp_if_ne (tgt := 27) hc dX5_seenInto_17 (by decide) (fun c17 => ?_) (fun c17 => ?_)
  · refine wp_aload_n hc 1 dX5_seenInto_27 rfl ?_
    refine wp_get hc hx hin0 (j := q1) (Nat.zero_le _) hjq1 (ce_0 hkq1) rfl 0 (by decide) hf207 rfl dX5_seenInto_28 ?_
    refine wp_istore (lv' := [(4, .int (M.1 q1 0)), (3, .int (M.1 q1 0)), (0, .ref (z q1)), (1, .int i2), (2, .int i3)]) hc dX5_seenInto_31 (by decide) rfl ?_
    refine wp_sipush (v := 10007) hc dX5_seenInto_33 (by decide) ?_
    refine wp_iload hc 0 dX5_seenInto_36 rfl ?_
    refine wp_iload_n hc 4 dX5_seenInto_38 rfl ?_
    refine wp_callSg (As := [.int (M.1 q1 0), .int i3]) (rest := [.int 10007]) (v := (fX1_times (M.1 q1 0) i3)) hc hNW (kX1_times l (M.1 q1 0) i3) cw213 rfl rfl (Nat.le_of_ble_eq_true rfl) dX5_seenInto_39 ?_
    refine wp_callSg (As := [.int 10007, .int (fX1_times (M.1 q1 0) i3)]) (rest := []) (v := (fX1_minus 10007 (fX1_times (M.1 q1 0) i3))) hc hNW (kX1_minus l 10007 (fX1_times (M.1 q1 0) i3)) cw216 rfl rfl (Nat.le_of_ble_eq_true rfl) dX5_seenInto_42 ?_
    refine wp_istore (lv' := [(5, .int (fX1_minus 10007 (fX1_times (M.1 q1 0) i3))), (4, .int (M.1 q1 0)), (3, .int (M.1 q1 0)), (0, .ref (z q1)), (1, .int i2), (2, .int i3)]) hc dX5_seenInto_45 (by decide) rfl ?_
    refine wp_iload hc 0 dX5_seenInto_47 rfl ?_
    refine wp_if_ne (tgt := 55) hc dX5_seenInto_49 (by decide) (fun c49 => ?_) (fun c49 => ?_)
    · refine wp_aload_n hc 3 dX5_seenInto_55 rfl ?_
      refine wp_get hc hx hin0 (j := q1) (Nat.zero_le _) hjq1 (ce_0 hkq1) rfl 1 (by decide) hf219 rfl dX5_seenInto_56 ?_
      refine wp_aload_n hc 3 dX5_seenInto_59 rfl ?_
      refine wp_get hc hx hin0 (j := q1) (Nat.zero_le _) hjq1 (ce_0 hkq1) rfl 2 (by decide) hf222 rfl dX5_seenInto_60 ?_
      refine wp_callSg (As := [.int (M.1 q1 1), .int (M.1 q1 2)]) (rest := []) (v := (fX1_times (M.1 q1 1) (M.1 q1 2))) hc hNW (kX1_times l (M.1 q1 1) (M.1 q1 2)) cw213 rfl rfl (Nat.le_of_ble_eq_true rfl) dX5_seenInto_63 ?_
      refine wp_iload_n hc 5 dX5_seenInto_66 rfl ?_
      refine wp_callSg (As := [.int (fX1_times (M.1 q1 1) (M.1 q1 2)), .int i3]) (rest := []) (v := (fX1_times (fX1_times (M.1 q1 1) (M.1 q1 2)) i3)) hc hNW (kX1_times l (fX1_times (M.1 q1 1) (M.1 q1 2)) i3) cw213 rfl rfl (Nat.le_of_ble_eq_true rfl) dX5_seenInto_67 ?_
      refine wp_istore (lv' := [(6, .int (fX1_times (fX1_times (M.1 q1 1) (M.1 q1 2)) i3)), (5, .int (fX1_minus 10007 (fX1_times (M.1 q1 0) i3))), (4, .int (M.1 q1 0)), (3, .int (M.1 q1 0)), (0, .ref (z q1)), (1, .int i2), (2, .int i3)]) hc dX5_seenInto_70 (by decide) rfl ?_
      refine wp_iload_n hc 3 dX5_seenInto_72 rfl ?_
      refine wp_iload hc 0 dX5_seenInto_73 rfl ?_
      refine wp_iload hc 1 dX5_seenInto_75 rfl ?_
      refine wp_callSg (As := [.int (fX1_times (fX1_times (M.1 q1 1) (M.1 q1 2)) i3), .int (fX1_minus 10007 (fX1_times (M.1 q1 0) i3))]) (rest := [.int (M.1 q1 0)]) (v := (fX1_over (fX1_times (fX1_times (M.1 q1 1) (M.1 q1 2)) i3) (fX1_minus 10007 (fX1_times (M.1 q1 0) i3)))) hc hNW (kX1_over l (fX1_times (fX1_times (M.1 q1 1) (M.1 q1 2)) i3) (fX1_minus 10007 (fX1_times (M.1 q1 0) i3))) cw225 rfl rfl (Nat.le_of_ble_eq_true rfl) dX5_seenInto_77 ?_
      refine wp_callSg (As := [.int (M.1 q1 0), .int (fX1_over (fX1_times (fX1_times (M.1 q1 1) (M.1 q1 2)) i3) (fX1_minus 10007 (fX1_times (M.1 q1 0) i3)))]) (rest := []) (v := (fX1_plus (M.1 q1 0) (fX1_over (fX1_times (fX1_times (M.1 q1 1) (M.1 q1 2)) i3) (fX1_minus 10007 (fX1_times (M.1 q1 0) i3))))) hc hNW (kX1_plus l (M.1 q1 0) (fX1_over (fX1_times (fX1_times (M.1 q1 1) (M.1 q1 2)) i3) (fX1_minus 10007 (fX1_times (M.1 q1 0) i3)))) cw228 rfl rfl (Nat.le_of_ble_eq_true rfl) dX5_seenInto_80 ?_
      refine wp_iret hc hr hk ?_ dX5_seenInto_83
      show (fX1_plus (M.1 q1 0) (fX1_over (fX1_times (fX1_times (M.1 q1 1) (M.1 q1 2)) i3) (fX1_minus 10007 (fX1_times (M.1 q1 0) i3)))) = fX5_seenInto M q1 i2 i3 ∧ M = M
      exact ⟨by rw [fX5_seenInto, if_pos c1, if_neg c17, if_neg c49], rfl⟩
    refine wp_bipush (v := (-3)) hc dX5_seenInto_52 (by decide) ?_
    refine wp_iret hc hr hk ?_ dX5_seenInto_54
    show (-3) = fX5_seenInto M q1 i2 i3 ∧ M = M
    exact ⟨by rw [fX5_seenInto, if_pos c1, if_neg c17, if_pos c49], rfl⟩
  refine wp_aload_n hc 1 dX5_seenInto_20 rfl ?_
  refine wp_get hc hx hin0 (j := q1) (Nat.zero_le _) hjq1 (ce_0 hkq1) rfl 3 (by decide) hf210 rfl dX5_seenInto_21 ?_
  refine wp_goto (tgt := 31) hc dX5_seenInto_24 (by decide) ?_
  refine wp_istore (lv' := [(4, .int (M.1 q1 3)), (3, .int (M.1 q1 0)), (0, .ref (z q1)), (1, .int i2), (2, .int i3)]) hc dX5_seenInto_31 (by decide) rfl ?_
  refine wp_sipush (v := 10007) hc dX5_seenInto_33 (by decide) ?_
  refine wp_iload hc 0 dX5_seenInto_36 rfl ?_
  refine wp_iload_n hc 4 dX5_seenInto_38 rfl ?_
  refine wp_callSg (As := [.int (M.1 q1 3), .int i3]) (rest := [.int 10007]) (v := (fX1_times (M.1 q1 3) i3)) hc hNW (kX1_times l (M.1 q1 3) i3) cw213 rfl rfl (Nat.le_of_ble_eq_true rfl) dX5_seenInto_39 ?_
  refine wp_callSg (As := [.int 10007, .int (fX1_times (M.1 q1 3) i3)]) (rest := []) (v := (fX1_minus 10007 (fX1_times (M.1 q1 3) i3))) hc hNW (kX1_minus l 10007 (fX1_times (M.1 q1 3) i3)) cw216 rfl rfl (Nat.le_of_ble_eq_true rfl) dX5_seenInto_42 ?_
  refine wp_istore (lv' := [(5, .int (fX1_minus 10007 (fX1_times (M.1 q1 3) i3))), (4, .int (M.1 q1 3)), (3, .int (M.1 q1 0)), (0, .ref (z q1)), (1, .int i2), (2, .int i3)]) hc dX5_seenInto_45 (by decide) rfl ?_
  refine wp_iload hc 0 dX5_seenInto_47 rfl ?_
  refine wp_if_ne (tgt := 55) hc dX5_seenInto_49 (by decide) (fun c49 => ?_) (fun c49 => ?_)
  · refine wp_aload_n hc 3 dX5_seenInto_55 rfl ?_
    refine wp_get hc hx hin0 (j := q1) (Nat.zero_le _) hjq1 (ce_0 hkq1) rfl 1 (by decide) hf219 rfl dX5_seenInto_56 ?_
    refine wp_aload_n hc 3 dX5_seenInto_59 rfl ?_
    refine wp_get hc hx hin0 (j := q1) (Nat.zero_le _) hjq1 (ce_0 hkq1) rfl 2 (by decide) hf222 rfl dX5_seenInto_60 ?_
    refine wp_callSg (As := [.int (M.1 q1 1), .int (M.1 q1 2)]) (rest := []) (v := (fX1_times (M.1 q1 1) (M.1 q1 2))) hc hNW (kX1_times l (M.1 q1 1) (M.1 q1 2)) cw213 rfl rfl (Nat.le_of_ble_eq_true rfl) dX5_seenInto_63 ?_
    refine wp_iload_n hc 5 dX5_seenInto_66 rfl ?_
    refine wp_callSg (As := [.int (fX1_times (M.1 q1 1) (M.1 q1 2)), .int i3]) (rest := []) (v := (fX1_times (fX1_times (M.1 q1 1) (M.1 q1 2)) i3)) hc hNW (kX1_times l (fX1_times (M.1 q1 1) (M.1 q1 2)) i3) cw213 rfl rfl (Nat.le_of_ble_eq_true rfl) dX5_seenInto_67 ?_
    refine wp_istore (lv' := [(6, .int (fX1_times (fX1_times (M.1 q1 1) (M.1 q1 2)) i3)), (5, .int (fX1_minus 10007 (fX1_times (M.1 q1 3) i3))), (4, .int (M.1 q1 3)), (3, .int (M.1 q1 0)), (0, .ref (z q1)), (1, .int i2), (2, .int i3)]) hc dX5_seenInto_70 (by decide) rfl ?_
    refine wp_iload_n hc 3 dX5_seenInto_72 rfl ?_
    refine wp_iload hc 0 dX5_seenInto_73 rfl ?_
    refine wp_iload hc 1 dX5_seenInto_75 rfl ?_
    refine wp_callSg (As := [.int (fX1_times (fX1_times (M.1 q1 1) (M.1 q1 2)) i3), .int (fX1_minus 10007 (fX1_times (M.1 q1 3) i3))]) (rest := [.int (M.1 q1 0)]) (v := (fX1_over (fX1_times (fX1_times (M.1 q1 1) (M.1 q1 2)) i3) (fX1_minus 10007 (fX1_times (M.1 q1 3) i3)))) hc hNW (kX1_over l (fX1_times (fX1_times (M.1 q1 1) (M.1 q1 2)) i3) (fX1_minus 10007 (fX1_times (M.1 q1 3) i3))) cw225 rfl rfl (Nat.le_of_ble_eq_true rfl) dX5_seenInto_77 ?_
    refine wp_callSg (As := [.int (M.1 q1 0), .int (fX1_over (fX1_times (fX1_times (M.1 q1 1) (M.1 q1 2)) i3) (fX1_minus 10007 (fX1_times (M.1 q1 3) i3)))]) (rest := []) (v := (fX1_plus (M.1 q1 0) (fX1_over (fX1_times (fX1_times (M.1 q1 1) (M.1 q1 2)) i3) (fX1_minus 10007 (fX1_times (M.1 q1 3) i3))))) hc hNW (kX1_plus l (M.1 q1 0) (fX1_over (fX1_times (fX1_times (M.1 q1 1) (M.1 q1 2)) i3) (fX1_minus 10007 (fX1_times (M.1 q1 3) i3)))) cw228 rfl rfl (Nat.le_of_ble_eq_true rfl) dX5_seenInto_80 ?_
    refine wp_iret hc hr hk ?_ dX5_seenInto_83
    show (fX1_plus (M.1 q1 0) (fX1_over (fX1_times (fX1_times (M.1 q1 1) (M.1 q1 2)) i3) (fX1_minus 10007 (fX1_times (M.1 q1 3) i3)))) = fX5_seenInto M q1 i2 i3 ∧ M = M
    exact ⟨by rw [fX5_seenInto, if_pos c1, if_pos c17, if_neg c49], rfl⟩
  refine wp_bipush (v := (-3)) hc dX5_seenInto_52 (by decide) ?_
  refine wp_iret hc hr hk ?_ dX5_seenInto_54
  show (-3) = fX5_seenInto M q1 i2 i3 ∧ M = M
  exact ⟨by rw [fX5_seenInto, if_pos c1, if_pos c17, if_pos c49], rfl⟩
def fX5_losesNothing (M : Mem) (q1 : Nat) : Int32 :=
  if (fX1_pairs (fX1_other (M.1 q1 0)) (M.1 q1 0) (fX1_other (M.1 q1 2)) (M.1 q1 2)) = 10007 then
  if (fX1_pairs (fX1_other (M.1 q1 1)) (M.1 q1 1) (fX1_other (M.1 q1 3)) (M.1 q1 3)) = 10007 then
  if (fX1_pairs (fX1_other (M.1 q1 0)) (M.1 q1 1) (fX1_other (M.1 q1 2)) (M.1 q1 3)) = 0 then
  1
  else
  0
  else
  0
  else
  0
set_option maxHeartbeats 4000000 in
set_option maxRecDepth 100000 in
theorem kX5_losesNothing (l : Launch) (D : va_G) (cy : Nat → ClassId) (z : Nat → Nat) (hz : zI z) (M : Mem) (q1 : Nat) (hjq1 : q1 < 0 + 100) (hkq1 : kd q1 = 0) : KI l yX5_losesNothing wsX5_losesNothing { frames := 3, cells := 0, slots := 0, locals := 71 } D cy z 0 100 [.ref (z q1)] M (fun r u => r = fX5_losesNothing M q1 ∧ u = M) := by
  refine met_wp (lv := [(0, .ref (z q1))]) hz (by decide) (by decide) rfl rfl (Nat.le_of_ble_eq_true rfl) rfl ?_
  intro p e s m below meth c hc hx hr hk
  have hNW := hx.2.1
  have hin0 : ∀ w ∈ wsX00, w ∈ wsX5_losesNothing := by decide +kernel
  have hf207 : Cond.fieldLink RX5 207 (TX0 0).1 (TX0 0).2.1 (TX0 0).2.2.1 ∈ wsX5_losesNothing := by decide +kernel
  have hf210 : Cond.fieldLink RX5 210 (TX0 3).1 (TX0 3).2.1 (TX0 3).2.2.1 ∈ wsX5_losesNothing := by decide +kernel
  have hf219 : Cond.fieldLink RX5 219 (TX0 1).1 (TX0 1).2.1 (TX0 1).2.2.1 ∈ wsX5_losesNothing := by decide +kernel
  have hf222 : Cond.fieldLink RX5 222 (TX0 2).1 (TX0 2).2.1 (TX0 2).2.2.1 ∈ wsX5_losesNothing := by decide +kernel
  have cw235 : CallB ({ frames := 3, cells := 0, slots := 0, locals := 71 }) s _ RX5 235 yX1_other cX1_other 1 (some .int) wsX1_other ({ frames := 1, cells := 0, slots := 0, locals := 23 }) 0 0 1 ∧ (Cond.static yX1_other).before _ s = true := va_cwS 1 hc.2.2.2.2 gX5_losesNothing_X1_other rfl rfl rfl (by decide +kernel) ⟨Nat.le_of_ble_eq_true rfl, Nat.le_of_ble_eq_true rfl⟩
  have cw238 : CallB ({ frames := 3, cells := 0, slots := 0, locals := 71 }) s _ RX5 238 yX1_pairs cX1_pairs 4 (some .int) wsX1_pairs ({ frames := 2, cells := 0, slots := 0, locals := 48 }) 0 0 4 ∧ (Cond.static yX1_pairs).before _ s = true := va_cwS 4 hc.2.2.2.2 gX5_losesNothing_X1_pairs rfl rfl rfl (by decide +kernel) ⟨Nat.le_of_ble_eq_true rfl, Nat.le_of_ble_eq_true rfl⟩
  refine wp_aload_n hc 0 dX5_losesNothing_0 rfl ?_
  refine wp_get hc hx hin0 (j := q1) (Nat.zero_le _) hjq1 (ce_0 hkq1) rfl 0 (by decide) hf207 rfl dX5_losesNothing_1 ?_
  refine wp_callSg (As := [.int (M.1 q1 0)]) (rest := []) (v := (fX1_other (M.1 q1 0))) hc hNW (kX1_other l (M.1 q1 0)) cw235 rfl rfl (Nat.le_of_ble_eq_true rfl) dX5_losesNothing_4 ?_
  refine wp_istore_n (lv' := [(1, .int (fX1_other (M.1 q1 0))), (0, .ref (z q1))]) hc dX5_losesNothing_7 (by decide) rfl ?_
  refine wp_aload_n hc 1 dX5_losesNothing_8 rfl ?_
  refine wp_get hc hx hin0 (j := q1) (Nat.zero_le _) hjq1 (ce_0 hkq1) rfl 1 (by decide) hf219 rfl dX5_losesNothing_9 ?_
  refine wp_callSg (As := [.int (M.1 q1 1)]) (rest := []) (v := (fX1_other (M.1 q1 1))) hc hNW (kX1_other l (M.1 q1 1)) cw235 rfl rfl (Nat.le_of_ble_eq_true rfl) dX5_losesNothing_12 ?_
  refine wp_istore_n (lv' := [(2, .int (fX1_other (M.1 q1 1))), (1, .int (fX1_other (M.1 q1 0))), (0, .ref (z q1))]) hc dX5_losesNothing_15 (by decide) rfl ?_
  refine wp_aload_n hc 2 dX5_losesNothing_16 rfl ?_
  refine wp_get hc hx hin0 (j := q1) (Nat.zero_le _) hjq1 (ce_0 hkq1) rfl 2 (by decide) hf222 rfl dX5_losesNothing_17 ?_
  refine wp_callSg (As := [.int (M.1 q1 2)]) (rest := []) (v := (fX1_other (M.1 q1 2))) hc hNW (kX1_other l (M.1 q1 2)) cw235 rfl rfl (Nat.le_of_ble_eq_true rfl) dX5_losesNothing_20 ?_
  refine wp_istore_n (lv' := [(3, .int (fX1_other (M.1 q1 2))), (2, .int (fX1_other (M.1 q1 1))), (1, .int (fX1_other (M.1 q1 0))), (0, .ref (z q1))]) hc dX5_losesNothing_23 (by decide) rfl ?_
  refine wp_aload_n hc 3 dX5_losesNothing_24 rfl ?_
  refine wp_get hc hx hin0 (j := q1) (Nat.zero_le _) hjq1 (ce_0 hkq1) rfl 3 (by decide) hf210 rfl dX5_losesNothing_25 ?_
  refine wp_callSg (As := [.int (M.1 q1 3)]) (rest := []) (v := (fX1_other (M.1 q1 3))) hc hNW (kX1_other l (M.1 q1 3)) cw235 rfl rfl (Nat.le_of_ble_eq_true rfl) dX5_losesNothing_28 ?_
  refine wp_istore (lv' := [(4, .int (fX1_other (M.1 q1 3))), (3, .int (fX1_other (M.1 q1 2))), (2, .int (fX1_other (M.1 q1 1))), (1, .int (fX1_other (M.1 q1 0))), (0, .ref (z q1))]) hc dX5_losesNothing_31 (by decide) rfl ?_
  refine wp_iload_n hc 3 dX5_losesNothing_33 rfl ?_
  refine wp_aload_n hc 4 dX5_losesNothing_34 rfl ?_
  refine wp_get hc hx hin0 (j := q1) (Nat.zero_le _) hjq1 (ce_0 hkq1) rfl 0 (by decide) hf207 rfl dX5_losesNothing_35 ?_
  refine wp_iload_n hc 1 dX5_losesNothing_38 rfl ?_
  refine wp_aload_n hc 4 dX5_losesNothing_39 rfl ?_
  refine wp_get hc hx hin0 (j := q1) (Nat.zero_le _) hjq1 (ce_0 hkq1) rfl 2 (by decide) hf222 rfl dX5_losesNothing_40 ?_
  refine wp_callSg (As := [.int (fX1_other (M.1 q1 0)), .int (M.1 q1 0), .int (fX1_other (M.1 q1 2)), .int (M.1 q1 2)]) (rest := []) (v := (fX1_pairs (fX1_other (M.1 q1 0)) (M.1 q1 0) (fX1_other (M.1 q1 2)) (M.1 q1 2))) hc hNW (kX1_pairs l (fX1_other (M.1 q1 0)) (M.1 q1 0) (fX1_other (M.1 q1 2)) (M.1 q1 2)) cw238 rfl rfl (Nat.le_of_ble_eq_true rfl) dX5_losesNothing_43 ?_
  refine wp_sipush (v := 10007) hc dX5_losesNothing_46 (by decide) ?_
  refine wp_icmp_ne (tgt := 92) hc dX5_losesNothing_49 (by decide) (fun c49 => ?_) (fun c49 => ?_)
  · refine wp_iconst (v := 0) hc dX5_losesNothing_92 (by decide) ?_
    refine wp_zret hc hr hk rfl ?_ dX5_losesNothing_93
    show 0 = fX5_losesNothing M q1 ∧ M = M
    exact ⟨by rw [fX5_losesNothing, if_neg c49], rfl⟩
  refine wp_iload_n hc 2 dX5_losesNothing_52 rfl ?_
  refine wp_aload_n hc 4 dX5_losesNothing_53 rfl ?_
  refine wp_get hc hx hin0 (j := q1) (Nat.zero_le _) hjq1 (ce_0 hkq1) rfl 1 (by decide) hf219 rfl dX5_losesNothing_54 ?_
  refine wp_iload hc 0 dX5_losesNothing_57 rfl ?_
  refine wp_aload_n hc 4 dX5_losesNothing_59 rfl ?_
  refine wp_get hc hx hin0 (j := q1) (Nat.zero_le _) hjq1 (ce_0 hkq1) rfl 3 (by decide) hf210 rfl dX5_losesNothing_60 ?_
  refine wp_callSg (As := [.int (fX1_other (M.1 q1 1)), .int (M.1 q1 1), .int (fX1_other (M.1 q1 3)), .int (M.1 q1 3)]) (rest := []) (v := (fX1_pairs (fX1_other (M.1 q1 1)) (M.1 q1 1) (fX1_other (M.1 q1 3)) (M.1 q1 3))) hc hNW (kX1_pairs l (fX1_other (M.1 q1 1)) (M.1 q1 1) (fX1_other (M.1 q1 3)) (M.1 q1 3)) cw238 rfl rfl (Nat.le_of_ble_eq_true rfl) dX5_losesNothing_63 ?_
  refine wp_sipush (v := 10007) hc dX5_losesNothing_66 (by decide) ?_
  refine wp_icmp_ne (tgt := 92) hc dX5_losesNothing_69 (by decide) (fun c69 => ?_) (fun c69 => ?_)
  · refine wp_iconst (v := 0) hc dX5_losesNothing_92 (by decide) ?_
    refine wp_zret hc hr hk rfl ?_ dX5_losesNothing_93
    show 0 = fX5_losesNothing M q1 ∧ M = M
    exact ⟨by rw [fX5_losesNothing, if_pos c49, if_neg c69], rfl⟩
  refine wp_iload_n hc 3 dX5_losesNothing_72 rfl ?_
  refine wp_aload_n hc 4 dX5_losesNothing_73 rfl ?_
  refine wp_get hc hx hin0 (j := q1) (Nat.zero_le _) hjq1 (ce_0 hkq1) rfl 1 (by decide) hf219 rfl dX5_losesNothing_74 ?_
  refine wp_iload_n hc 1 dX5_losesNothing_77 rfl ?_
  refine wp_aload_n hc 4 dX5_losesNothing_78 rfl ?_
  refine wp_get hc hx hin0 (j := q1) (Nat.zero_le _) hjq1 (ce_0 hkq1) rfl 3 (by decide) hf210 rfl dX5_losesNothing_79 ?_
  refine wp_callSg (As := [.int (fX1_other (M.1 q1 0)), .int (M.1 q1 1), .int (fX1_other (M.1 q1 2)), .int (M.1 q1 3)]) (rest := []) (v := (fX1_pairs (fX1_other (M.1 q1 0)) (M.1 q1 1) (fX1_other (M.1 q1 2)) (M.1 q1 3))) hc hNW (kX1_pairs l (fX1_other (M.1 q1 0)) (M.1 q1 1) (fX1_other (M.1 q1 2)) (M.1 q1 3)) cw238 rfl rfl (Nat.le_of_ble_eq_true rfl) dX5_losesNothing_82 ?_
  refine wp_if_ne (tgt := 92) hc dX5_losesNothing_85 (by decide) (fun c85 => ?_) (fun c85 => ?_)
  · refine wp_iconst (v := 0) hc dX5_losesNothing_92 (by decide) ?_
    refine wp_zret hc hr hk rfl ?_ dX5_losesNothing_93
    show 0 = fX5_losesNothing M q1 ∧ M = M
    exact ⟨by rw [fX5_losesNothing, if_pos c49, if_pos c69, if_neg c85], rfl⟩
  refine wp_iconst (v := 1) hc dX5_losesNothing_88 (by decide) ?_
  refine wp_goto (tgt := 93) hc dX5_losesNothing_89 (by decide) ?_
  refine wp_zret hc hr hk rfl ?_ dX5_losesNothing_93
  show 1 = fX5_losesNothing M q1 ∧ M = M
  exact ⟨by rw [fX5_losesNothing, if_pos c49, if_pos c69, if_pos c85], rfl⟩
theorem bX5_losesNothing (M : Mem) (q1 : Nat) : fX5_losesNothing M q1 = 0 ∨ fX5_losesNothing M q1 = 1 := by
  unfold fX5_losesNothing
  (repeat' split) <;> first | exact Or.inl rfl | exact Or.inr rfl
def fX5_passed (M : Mem) (q1 : Nat) (i2 : Int32) : Int32 :=
  if i2 = 0 then
  if (M.1 q1 1) = (M.1 q1 2) then
  1
  else
  0
  else
  if i2 = 1 then
  if (M.1 q1 0) = (M.1 q1 3) then
  1
  else
  0
  else
  if i2 = 2 then
  if (M.1 q1 0) = 0 then
  if (M.1 q1 3) = 0 then
  1
  else
  0
  else
  0
  else
  if (fX5_losesNothing M q1) = 0 then
  0
  else
  1
set_option maxHeartbeats 4000000 in
set_option maxRecDepth 100000 in
theorem kX5_passed (l : Launch) (D : va_G) (cy : Nat → ClassId) (z : Nat → Nat) (hz : zI z) (M : Mem) (q1 : Nat) (i2 : Int32) (hjq1 : q1 < 0 + 100) (hkq1 : kd q1 = 0) : KI l yX5_passed wsX5_passed { frames := 4, cells := 0, slots := 0, locals := 95 } D cy z 0 100 [.ref (z q1), .int i2] M (fun r u => r = fX5_passed M q1 i2 ∧ u = M) := by
  refine met_wp (lv := [(0, .ref (z q1)), (1, .int i2)]) hz (by decide) (by decide) rfl rfl (Nat.le_of_ble_eq_true rfl) rfl ?_
  intro p e s m below meth c hc hx hr hk
  have hNW := hx.2.1
  have hin0 : ∀ w ∈ wsX00, w ∈ wsX5_passed := by decide +kernel
  have hf207 : Cond.fieldLink RX5 207 (TX0 0).1 (TX0 0).2.1 (TX0 0).2.2.1 ∈ wsX5_passed := by decide +kernel
  have hf210 : Cond.fieldLink RX5 210 (TX0 3).1 (TX0 3).2.1 (TX0 3).2.2.1 ∈ wsX5_passed := by decide +kernel
  have hf219 : Cond.fieldLink RX5 219 (TX0 1).1 (TX0 1).2.1 (TX0 1).2.2.1 ∈ wsX5_passed := by decide +kernel
  have hf222 : Cond.fieldLink RX5 222 (TX0 2).1 (TX0 2).2.1 (TX0 2).2.2.1 ∈ wsX5_passed := by decide +kernel
  have cw231 : CallB ({ frames := 4, cells := 0, slots := 0, locals := 95 }) s _ RX5 231 yX5_losesNothing cX5_losesNothing 5 (some .boolean) wsX5_losesNothing ({ frames := 3, cells := 0, slots := 0, locals := 71 }) 0 0 1 ∧ (Cond.static yX5_losesNothing).before _ s = true := va_cwS 1 hc.2.2.2.2 gX5_passed_X5_losesNothing rfl rfl rfl (by decide +kernel) ⟨Nat.le_of_ble_eq_true rfl, Nat.le_of_ble_eq_true rfl⟩
  refine wp_iload_n hc 1 dX5_passed_0 rfl ?_
  by_cases c1_0 : i2 = 0
  · refine wp_cvt c1_0 ?_
    refine wp_tableIn (tgt := 28) (off := 27) hc dX5_passed_1 (by decide) (by decide) rfl (by decide) ?_
    refine wp_aload_n hc 0 dX5_passed_28 rfl ?_
    refine wp_get hc hx hin0 (j := q1) (Nat.zero_le _) hjq1 (ce_0 hkq1) rfl 1 (by decide) hf219 rfl dX5_passed_29 ?_
    refine wp_aload_n hc 0 dX5_passed_32 rfl ?_
    refine wp_get hc hx hin0 (j := q1) (Nat.zero_le _) hjq1 (ce_0 hkq1) rfl 2 (by decide) hf222 rfl dX5_passed_33 ?_
    refine wp_icmp_ne (tgt := 43) hc dX5_passed_36 (by decide) (fun c36 => ?_) (fun c36 => ?_)
    · refine wp_iconst (v := 0) hc dX5_passed_43 (by decide) ?_
      refine wp_iret hc hr hk ?_ dX5_passed_44
      show 0 = fX5_passed M q1 i2 ∧ M = M
      exact ⟨by rw [fX5_passed, if_pos c1_0, if_neg c36], rfl⟩
    refine wp_iconst (v := 1) hc dX5_passed_39 (by decide) ?_
    refine wp_goto (tgt := 44) hc dX5_passed_40 (by decide) ?_
    refine wp_iret hc hr hk ?_ dX5_passed_44
    show 1 = fX5_passed M q1 i2 ∧ M = M
    exact ⟨by rw [fX5_passed, if_pos c1_0, if_pos c36], rfl⟩
  by_cases c1_1 : i2 = 1
  · refine wp_cvt c1_1 ?_
    refine wp_tableIn (tgt := 45) (off := 44) hc dX5_passed_1 (by decide) (by decide) rfl (by decide) ?_
    refine wp_aload_n hc 0 dX5_passed_45 rfl ?_
    refine wp_get hc hx hin0 (j := q1) (Nat.zero_le _) hjq1 (ce_0 hkq1) rfl 0 (by decide) hf207 rfl dX5_passed_46 ?_
    refine wp_aload_n hc 0 dX5_passed_49 rfl ?_
    refine wp_get hc hx hin0 (j := q1) (Nat.zero_le _) hjq1 (ce_0 hkq1) rfl 3 (by decide) hf210 rfl dX5_passed_50 ?_
    refine wp_icmp_ne (tgt := 60) hc dX5_passed_53 (by decide) (fun c53 => ?_) (fun c53 => ?_)
    · refine wp_iconst (v := 0) hc dX5_passed_60 (by decide) ?_
      refine wp_iret hc hr hk ?_ dX5_passed_61
      show 0 = fX5_passed M q1 i2 ∧ M = M
      exact ⟨by rw [fX5_passed, if_neg c1_0, if_pos c1_1, if_neg c53], rfl⟩
    refine wp_iconst (v := 1) hc dX5_passed_56 (by decide) ?_
    refine wp_goto (tgt := 61) hc dX5_passed_57 (by decide) ?_
    refine wp_iret hc hr hk ?_ dX5_passed_61
    show 1 = fX5_passed M q1 i2 ∧ M = M
    exact ⟨by rw [fX5_passed, if_neg c1_0, if_pos c1_1, if_pos c53], rfl⟩
  by_cases c1_2 : i2 = 2
  · refine wp_cvt c1_2 ?_
    refine wp_tableIn (tgt := 62) (off := 61) hc dX5_passed_1 (by decide) (by decide) rfl (by decide) ?_
    refine wp_aload_n hc 0 dX5_passed_62 rfl ?_
    refine wp_get hc hx hin0 (j := q1) (Nat.zero_le _) hjq1 (ce_0 hkq1) rfl 0 (by decide) hf207 rfl dX5_passed_63 ?_
    refine wp_if_ne (tgt := 80) hc dX5_passed_66 (by decide) (fun c66 => ?_) (fun c66 => ?_)
    · refine wp_iconst (v := 0) hc dX5_passed_80 (by decide) ?_
      refine wp_iret hc hr hk ?_ dX5_passed_81
      show 0 = fX5_passed M q1 i2 ∧ M = M
      exact ⟨by rw [fX5_passed, if_neg c1_0, if_neg c1_1, if_pos c1_2, if_neg c66], rfl⟩
    refine wp_aload_n hc 0 dX5_passed_69 rfl ?_
    refine wp_get hc hx hin0 (j := q1) (Nat.zero_le _) hjq1 (ce_0 hkq1) rfl 3 (by decide) hf210 rfl dX5_passed_70 ?_
    refine wp_if_ne (tgt := 80) hc dX5_passed_73 (by decide) (fun c73 => ?_) (fun c73 => ?_)
    · refine wp_iconst (v := 0) hc dX5_passed_80 (by decide) ?_
      refine wp_iret hc hr hk ?_ dX5_passed_81
      show 0 = fX5_passed M q1 i2 ∧ M = M
      exact ⟨by rw [fX5_passed, if_neg c1_0, if_neg c1_1, if_pos c1_2, if_pos c66, if_neg c73], rfl⟩
    refine wp_iconst (v := 1) hc dX5_passed_76 (by decide) ?_
    refine wp_goto (tgt := 81) hc dX5_passed_77 (by decide) ?_
    refine wp_iret hc hr hk ?_ dX5_passed_81
    show 1 = fX5_passed M q1 i2 ∧ M = M
    exact ⟨by rw [fX5_passed, if_neg c1_0, if_neg c1_1, if_pos c1_2, if_pos c66, if_pos c73], rfl⟩
  refine wp_tableOut (tgt := 82) hc dX5_passed_1 (by have q0 := lv_neT (a := 0) c1_0 (by decide); have q1 := lv_neT (a := 1) c1_1 (by decide); have q2 := lv_neT (a := 2) c1_2 (by decide); omega) (by decide) ?_
  refine wp_aload_n hc 0 dX5_passed_82 rfl ?_
  refine wp_callSf (As := [.ref (z q1)]) (rest := []) (v := (fX5_losesNothing M q1)) hc hx (kX5_losesNothing l D cy z hz M q1 hjq1 hkq1) cw231 rfl rfl (Nat.le_of_ble_eq_true rfl) dX5_passed_83 ?_
  refine wp_if_eq (tgt := 93) hc dX5_passed_86 (by decide) (fun c86 => ?_) (fun c86 => ?_)
  · refine wp_iconst (v := 0) hc dX5_passed_93 (by decide) ?_
    refine wp_iret hc hr hk ?_ dX5_passed_94
    show 0 = fX5_passed M q1 i2 ∧ M = M
    exact ⟨by rw [fX5_passed, if_neg c1_0, if_neg c1_1, if_neg c1_2, if_pos c86], rfl⟩
  refine wp_iconst (v := 1) hc dX5_passed_89 (by decide) ?_
  refine wp_goto (tgt := 94) hc dX5_passed_90 (by decide) ?_
  refine wp_iret hc hr hk ?_ dX5_passed_94
  show 1 = fX5_passed M q1 i2 ∧ M = M
  exact ⟨by rw [fX5_passed, if_neg c1_0, if_neg c1_1, if_neg c1_2, if_neg c86], rfl⟩
def sX5_ends (M : Mem) (i1 : Int32) (i2 : Int32) (i3 : Int32) (i4 : Int32) : Int32 × Mem :=
  if (fX2_hasBox M (M.2.1 0) i1) = 0 then
  tk (sX5_noted M (-2)) fun x1 =>
  (x1.1, x1.2)
  else
  if (fX5_isBelow i2 2) = 0 then
  tk (sX5_noted M (-2)) fun x2 =>
  (x2.1, x2.2)
  else
  if (fX1_isGiven i3 i4) = 0 then
  tk (sX5_noted M (-2)) fun x4 =>
  (x4.1, x4.2)
  else
  tk (sX5_noted M (fX5_seenInto M (16 + 12 * (M.2.1 0) + 1 + 3 + i1.toNatClampNeg) i2 (fX1_made i3 i4))) fun x3 =>
  (x3.1, x3.2)
set_option maxHeartbeats 4000000 in
set_option maxRecDepth 100000 in
theorem kX5_ends (l : Launch) (D : va_G) (cy : Nat → ClassId) (z : Nat → Nat) (hz : zI z) (M : Mem) (i1 : Int32) (i2 : Int32) (i3 : Int32) (i4 : Int32) (hR : RK M) : KI l yX5_ends wsX5_ends { frames := 3, cells := 0, slots := 0, locals := 77 } D cy z 0 100 [.ref (z 0), .int i1, .int i2, .int i3, .int i4] M (fun r u => (r, u) = sX5_ends M i1 i2 i3 i4) := by
  refine met_wp (lv := [(0, .ref (z 0)), (1, .int i1), (2, .int i2), (3, .int i3), (4, .int i4)]) hz (by decide) (by decide) rfl rfl (Nat.le_of_ble_eq_true rfl) rfl ?_
  intro p e s m below meth c hc hx hr hk
  have hNW := hx.2.1
  have hin2 : ∀ w ∈ wsX20, w ∈ wsX5_ends := by decide +kernel
  have hin5 : ∀ w ∈ wsX50, w ∈ wsX5_ends := by decide +kernel
  have hf26 : Cond.fieldLink RX5 26 (TX5 3).1 (TX5 3).2.1 (TX5 3).2.2.1 ∈ wsX5_ends := by decide +kernel
  have hf71 : Cond.fieldLink RX5 71 (TX2 0).1 (TX2 0).2.1 (TX2 0).2.2.1 ∈ wsX5_ends := by decide +kernel
  have cw60 : CallW ({ frames := 3, cells := 0, slots := 0, locals := 77 }) s _ RX5 RX2 60 yX2_hasBox cX2_hasBox 2 (some .boolean) wsX2_hasBox ({ frames := 1, cells := 0, slots := 0, locals := 21 }) 0 0 1 := cwV 1 hc.2.2.2.2 gX5_ends_X2_hasBox rfl rfl rfl (by decide +kernel) ⟨Nat.le_of_ble_eq_true rfl, Nat.le_of_ble_eq_true rfl⟩
  have cw64 : CallB ({ frames := 3, cells := 0, slots := 0, locals := 77 }) s _ RX5 64 yX5_isBelow cX5_isBelow 2 (some .boolean) wsX5_isBelow ({ frames := 0, cells := 0, slots := 0, locals := 0 }) 0 0 2 ∧ (Cond.static yX5_isBelow).before _ s = true := va_cwS 2 hc.2.2.2.2 gX5_ends_X5_isBelow rfl rfl rfl (by decide +kernel) ⟨Nat.le_of_ble_eq_true rfl, Nat.le_of_ble_eq_true rfl⟩
  have cw68 : CallW ({ frames := 3, cells := 0, slots := 0, locals := 77 }) s _ RX5 RX5 68 yX5_noted cX5_noted 2 (some .int) wsX5_noted ({ frames := 0, cells := 0, slots := 0, locals := 0 }) 0 0 1 := cwV 1 hc.2.2.2.2 gX5_ends_X5_noted rfl rfl rfl (by decide +kernel) ⟨Nat.le_of_ble_eq_true rfl, Nat.le_of_ble_eq_true rfl⟩
  have cw119 : CallB ({ frames := 3, cells := 0, slots := 0, locals := 77 }) s _ RX5 119 yX1_isGiven cX1_isGiven 2 (some .boolean) wsX1_isGiven ({ frames := 1, cells := 0, slots := 0, locals := 21 }) 0 0 2 ∧ (Cond.static yX1_isGiven).before _ s = true := va_cwS 2 hc.2.2.2.2 gX5_ends_X1_isGiven rfl rfl rfl (by decide +kernel) ⟨Nat.le_of_ble_eq_true rfl, Nat.le_of_ble_eq_true rfl⟩
  have cw124 : CallB ({ frames := 3, cells := 0, slots := 0, locals := 77 }) s _ RX5 124 yX1_made cX1_made 4 (some .int) wsX1_made ({ frames := 0, cells := 0, slots := 0, locals := 0 }) 0 0 2 ∧ (Cond.static yX1_made).before _ s = true := va_cwS 2 hc.2.2.2.2 gX5_ends_X1_made rfl rfl rfl (by decide +kernel) ⟨Nat.le_of_ble_eq_true rfl, Nat.le_of_ble_eq_true rfl⟩
  have cw128 : CallB ({ frames := 3, cells := 0, slots := 0, locals := 77 }) s _ RX5 128 yX5_seenInto cX5_seenInto 7 (some .int) wsX5_seenInto ({ frames := 2, cells := 0, slots := 0, locals := 51 }) 0 0 3 ∧ (Cond.static yX5_seenInto).before _ s = true := va_cwS 3 hc.2.2.2.2 gX5_ends_X5_seenInto rfl rfl rfl (by decide +kernel) ⟨Nat.le_of_ble_eq_true rfl, Nat.le_of_ble_eq_true rfl⟩
  refine wp_aload_n hc 0 dX5_ends_0 rfl ?_
  refine wp_get hc hx hin5 (j := 0) (by decide) (by decide) (ce_4 rfl) rfl 3 (by decide) hf26 rfl dX5_ends_1 ?_
  refine wp_iload_n hc 1 dX5_ends_4 rfl ?_
  refine wp_callVf (As := [.int i1]) (rest := []) (j := (16 + 12 * (M.2.1 0))) (v := (fX2_hasBox M (M.2.1 0) i1)) hc hx (kX2_hasBox l D cy z hz M (M.2.1 0) i1 (hR.1 0 (by decide))) cw60 (Nat.zero_le _) (by have := (hR.1 0 (by decide)); omega) (ce_1 (kd_st (hR.1 0 (by decide)))) rfl rfl rfl rfl (Nat.le_of_ble_eq_true rfl) dX5_ends_5 ?_
  refine wp_if_eq (tgt := 28) hc dX5_ends_8 (by decide) (fun c8 => ?_) (fun c8 => ?_)
  · refine wp_aload_n hc 0 dX5_ends_28 rfl ?_
    refine wp_bipush (v := (-2)) hc dX5_ends_29 (by decide) ?_
    refine wp_callVw (As := [.int (-2)]) (rest := []) (j := 0) (w := sX5_noted M (-2)) hc hx (kX5_noted l D cy z hz M (-2)) cw68 (by decide) (by decide) (ce_4 rfl) rfl rfl rfl rfl (Nat.le_of_ble_eq_true rfl) dX5_ends_31 (fun x1 hx1 => ?_)
    refine wp_iret hc hr hk ?_ dX5_ends_34
    show (x1.1, x1.2) = sX5_ends M i1 i2 i3 i4
    rw [sX5_ends, if_pos c8, tk_eq hx1]
  refine wp_iload_n hc 2 dX5_ends_11 rfl ?_
  refine wp_iconst (v := 2) hc dX5_ends_12 (by decide) ?_
  refine wp_callSg (As := [.int i2, .int 2]) (rest := []) (v := (fX5_isBelow i2 2)) hc hNW (kX5_isBelow l i2 2) cw64 rfl rfl (Nat.le_of_ble_eq_true rfl) dX5_ends_13 ?_
  refine wp_if_eq (tgt := 28) hc dX5_ends_16 (by decide) (fun c16 => ?_) (fun c16 => ?_)
  · refine wp_aload_n hc 0 dX5_ends_28 rfl ?_
    refine wp_bipush (v := (-2)) hc dX5_ends_29 (by decide) ?_
    refine wp_callVw (As := [.int (-2)]) (rest := []) (j := 0) (w := sX5_noted M (-2)) hc hx (kX5_noted l D cy z hz M (-2)) cw68 (by decide) (by decide) (ce_4 rfl) rfl rfl rfl rfl (Nat.le_of_ble_eq_true rfl) dX5_ends_31 (fun x2 hx2 => ?_)
    refine wp_iret hc hr hk ?_ dX5_ends_34
    show (x2.1, x2.2) = sX5_ends M i1 i2 i3 i4
    rw [sX5_ends, if_neg c8, if_pos c16, tk_eq hx2]
  refine wp_iload_n hc 3 dX5_ends_19 rfl ?_
  refine wp_iload hc 4 dX5_ends_20 rfl ?_
  refine wp_callSg (As := [.int i3, .int i4]) (rest := []) (v := (fX1_isGiven i3 i4)) hc hNW (kX1_isGiven l i3 i4) cw119 rfl rfl (Nat.le_of_ble_eq_true rfl) dX5_ends_22 ?_
  refine wp_if_ne (tgt := 35) hc dX5_ends_25 (by decide) (fun c25 => ?_) (fun c25 => ?_)
  · refine wp_aload_n hc 0 dX5_ends_35 rfl ?_
    refine wp_aload_n hc 0 dX5_ends_36 rfl ?_
    refine wp_get hc hx hin5 (j := 0) (by decide) (by decide) (ce_4 rfl) rfl 3 (by decide) hf26 rfl dX5_ends_37 ?_
    refine wp_get hc hx hin2 (j := (16 + 12 * (M.2.1 0))) (Nat.zero_le _) (by have := (hR.1 0 (by decide)); omega) (ce_1 (kd_st (hR.1 0 (by decide)))) rfl 0 (by decide) hf71 rfl dX5_ends_40 ?_
    refine wp_iload_n hc 1 dX5_ends_43 rfl ?_
    refine wp_aald8 hc hx (j := (16 + 12 * (M.2.1 0) + 1)) (Nat.zero_le _) (by have := (hR.1 0 (by decide)); omega) (kd_bx (hR.1 0 (by decide))) i1.toNatClampNeg rfl (vin8 (show 0 ≤ i1.toInt ∧ i1.toInt < (8 : Nat) from ⟨(hasBox_8 c8).1, (hasBox_8 c8).2.1⟩)) dX5_ends_44 ?_
    refine wp_iload_n hc 2 dX5_ends_45 rfl ?_
    refine wp_iload_n hc 3 dX5_ends_46 rfl ?_
    refine wp_iload hc 4 dX5_ends_47 rfl ?_
    refine wp_callSg (As := [.int i3, .int i4]) (rest := [.int i2, .ref (z (16 + 12 * (M.2.1 0) + 1 + 3 + i1.toNatClampNeg)), .ref (z 0)]) (v := (fX1_made i3 i4)) hc hNW (kX1_made l i3 i4) cw124 rfl rfl (Nat.le_of_ble_eq_true rfl) dX5_ends_49 ?_
    refine wp_callSf (As := [.ref (z (16 + 12 * (M.2.1 0) + 1 + 3 + i1.toNatClampNeg)), .int i2, .int (fX1_made i3 i4)]) (rest := [.ref (z 0)]) (v := (fX5_seenInto M (16 + 12 * (M.2.1 0) + 1 + 3 + i1.toNatClampNeg) i2 (fX1_made i3 i4))) hc hx (kX5_seenInto l D cy z hz M (16 + 12 * (M.2.1 0) + 1 + 3 + i1.toNatClampNeg) i2 (fX1_made i3 i4) (by have := (hR.1 0 (by decide)); have : i1.toNatClampNeg < 8 := (cl8 (show 0 ≤ i1.toInt ∧ i1.toInt < (8 : Nat) from ⟨(hasBox_8 c8).1, (hasBox_8 c8).2.1⟩)); omega) (kd_fo (hR.1 0 (by decide)) (cl8 (show 0 ≤ i1.toInt ∧ i1.toInt < (8 : Nat) from ⟨(hasBox_8 c8).1, (hasBox_8 c8).2.1⟩)))) cw128 rfl rfl (Nat.le_of_ble_eq_true rfl) dX5_ends_52 ?_
    refine wp_callVw (As := [.int (fX5_seenInto M (16 + 12 * (M.2.1 0) + 1 + 3 + i1.toNatClampNeg) i2 (fX1_made i3 i4))]) (rest := []) (j := 0) (w := sX5_noted M (fX5_seenInto M (16 + 12 * (M.2.1 0) + 1 + 3 + i1.toNatClampNeg) i2 (fX1_made i3 i4))) hc hx (kX5_noted l D cy z hz M (fX5_seenInto M (16 + 12 * (M.2.1 0) + 1 + 3 + i1.toNatClampNeg) i2 (fX1_made i3 i4))) cw68 (by decide) (by decide) (ce_4 rfl) rfl rfl rfl rfl (Nat.le_of_ble_eq_true rfl) dX5_ends_55 (fun x3 hx3 => ?_)
    refine wp_iret hc hr hk ?_ dX5_ends_58
    show (x3.1, x3.2) = sX5_ends M i1 i2 i3 i4
    rw [sX5_ends, if_neg c8, if_neg c16, if_neg c25, tk_eq hx3]
  refine wp_aload_n hc 0 dX5_ends_28 rfl ?_
  refine wp_bipush (v := (-2)) hc dX5_ends_29 (by decide) ?_
  refine wp_callVw (As := [.int (-2)]) (rest := []) (j := 0) (w := sX5_noted M (-2)) hc hx (kX5_noted l D cy z hz M (-2)) cw68 (by decide) (by decide) (ce_4 rfl) rfl rfl rfl rfl (Nat.le_of_ble_eq_true rfl) dX5_ends_31 (fun x4 hx4 => ?_)
  refine wp_iret hc hr hk ?_ dX5_ends_34
  show (x4.1, x4.2) = sX5_ends M i1 i2 i3 i4
  rw [sX5_ends, if_neg c8, if_neg c16, if_pos c25, tk_eq hx4]
def sX5_test (M : Mem) (i1 : Int32) (i2 : Int32) : Int32 × Mem :=
  if (fX2_hasBox M (M.2.1 0) i1) = 0 then
  tk (sX5_noted M (-2)) fun x1 =>
  (x1.1, x1.2)
  else
  if (fX5_isBelow i2 4) = 0 then
  tk (sX5_noted M (-2)) fun x2 =>
  (x2.1, x2.2)
  else
  ((fX5_passed M (16 + 12 * (M.2.1 0) + 1 + 3 + i1.toNatClampNeg) i2), M)
set_option maxHeartbeats 4000000 in
set_option maxRecDepth 100000 in
theorem kX5_test (l : Launch) (D : va_G) (cy : Nat → ClassId) (z : Nat → Nat) (hz : zI z) (M : Mem) (i1 : Int32) (i2 : Int32) (hR : RK M) : KI l yX5_test wsX5_test { frames := 5, cells := 0, slots := 0, locals := 116 } D cy z 0 100 [.ref (z 0), .int i1, .int i2] M (fun r u => (r, u) = sX5_test M i1 i2) := by
  refine met_wp (lv := [(0, .ref (z 0)), (1, .int i1), (2, .int i2)]) hz (by decide) (by decide) rfl rfl (Nat.le_of_ble_eq_true rfl) rfl ?_
  intro p e s m below meth c hc hx hr hk
  have hNW := hx.2.1
  have hin2 : ∀ w ∈ wsX20, w ∈ wsX5_test := by decide +kernel
  have hin5 : ∀ w ∈ wsX50, w ∈ wsX5_test := by decide +kernel
  have hf26 : Cond.fieldLink RX5 26 (TX5 3).1 (TX5 3).2.1 (TX5 3).2.2.1 ∈ wsX5_test := by decide +kernel
  have hf71 : Cond.fieldLink RX5 71 (TX2 0).1 (TX2 0).2.1 (TX2 0).2.2.1 ∈ wsX5_test := by decide +kernel
  have cw60 : CallW ({ frames := 5, cells := 0, slots := 0, locals := 116 }) s _ RX5 RX2 60 yX2_hasBox cX2_hasBox 2 (some .boolean) wsX2_hasBox ({ frames := 1, cells := 0, slots := 0, locals := 21 }) 0 0 1 := cwV 1 hc.2.2.2.2 gX5_test_X2_hasBox rfl rfl rfl (by decide +kernel) ⟨Nat.le_of_ble_eq_true rfl, Nat.le_of_ble_eq_true rfl⟩
  have cw64 : CallB ({ frames := 5, cells := 0, slots := 0, locals := 116 }) s _ RX5 64 yX5_isBelow cX5_isBelow 2 (some .boolean) wsX5_isBelow ({ frames := 0, cells := 0, slots := 0, locals := 0 }) 0 0 2 ∧ (Cond.static yX5_isBelow).before _ s = true := va_cwS 2 hc.2.2.2.2 gX5_test_X5_isBelow rfl rfl rfl (by decide +kernel) ⟨Nat.le_of_ble_eq_true rfl, Nat.le_of_ble_eq_true rfl⟩
  have cw68 : CallW ({ frames := 5, cells := 0, slots := 0, locals := 116 }) s _ RX5 RX5 68 yX5_noted cX5_noted 2 (some .int) wsX5_noted ({ frames := 0, cells := 0, slots := 0, locals := 0 }) 0 0 1 := cwV 1 hc.2.2.2.2 gX5_test_X5_noted rfl rfl rfl (by decide +kernel) ⟨Nat.le_of_ble_eq_true rfl, Nat.le_of_ble_eq_true rfl⟩
  have cw132 : CallB ({ frames := 5, cells := 0, slots := 0, locals := 116 }) s _ RX5 132 yX5_passed cX5_passed 2 (some .int) wsX5_passed ({ frames := 4, cells := 0, slots := 0, locals := 95 }) 0 0 2 ∧ (Cond.static yX5_passed).before _ s = true := va_cwS 2 hc.2.2.2.2 gX5_test_X5_passed rfl rfl rfl (by decide +kernel) ⟨Nat.le_of_ble_eq_true rfl, Nat.le_of_ble_eq_true rfl⟩
  refine wp_aload_n hc 0 dX5_test_0 rfl ?_
  refine wp_get hc hx hin5 (j := 0) (by decide) (by decide) (ce_4 rfl) rfl 3 (by decide) hf26 rfl dX5_test_1 ?_
  refine wp_iload_n hc 1 dX5_test_4 rfl ?_
  refine wp_callVf (As := [.int i1]) (rest := []) (j := (16 + 12 * (M.2.1 0))) (v := (fX2_hasBox M (M.2.1 0) i1)) hc hx (kX2_hasBox l D cy z hz M (M.2.1 0) i1 (hR.1 0 (by decide))) cw60 (Nat.zero_le _) (by have := (hR.1 0 (by decide)); omega) (ce_1 (kd_st (hR.1 0 (by decide)))) rfl rfl rfl rfl (Nat.le_of_ble_eq_true rfl) dX5_test_5 ?_
  refine wp_if_eq (tgt := 19) hc dX5_test_8 (by decide) (fun c8 => ?_) (fun c8 => ?_)
  · refine wp_aload_n hc 0 dX5_test_19 rfl ?_
    refine wp_bipush (v := (-2)) hc dX5_test_20 (by decide) ?_
    refine wp_callVw (As := [.int (-2)]) (rest := []) (j := 0) (w := sX5_noted M (-2)) hc hx (kX5_noted l D cy z hz M (-2)) cw68 (by decide) (by decide) (ce_4 rfl) rfl rfl rfl rfl (Nat.le_of_ble_eq_true rfl) dX5_test_22 (fun x1 hx1 => ?_)
    refine wp_iret hc hr hk ?_ dX5_test_25
    show (x1.1, x1.2) = sX5_test M i1 i2
    rw [sX5_test, if_pos c8, tk_eq hx1]
  refine wp_iload_n hc 2 dX5_test_11 rfl ?_
  refine wp_iconst (v := 4) hc dX5_test_12 (by decide) ?_
  refine wp_callSg (As := [.int i2, .int 4]) (rest := []) (v := (fX5_isBelow i2 4)) hc hNW (kX5_isBelow l i2 4) cw64 rfl rfl (Nat.le_of_ble_eq_true rfl) dX5_test_13 ?_
  refine wp_if_ne (tgt := 26) hc dX5_test_16 (by decide) (fun c16 => ?_) (fun c16 => ?_)
  · refine wp_aload_n hc 0 dX5_test_26 rfl ?_
    refine wp_get hc hx hin5 (j := 0) (by decide) (by decide) (ce_4 rfl) rfl 3 (by decide) hf26 rfl dX5_test_27 ?_
    refine wp_get hc hx hin2 (j := (16 + 12 * (M.2.1 0))) (Nat.zero_le _) (by have := (hR.1 0 (by decide)); omega) (ce_1 (kd_st (hR.1 0 (by decide)))) rfl 0 (by decide) hf71 rfl dX5_test_30 ?_
    refine wp_iload_n hc 1 dX5_test_33 rfl ?_
    refine wp_aald8 hc hx (j := (16 + 12 * (M.2.1 0) + 1)) (Nat.zero_le _) (by have := (hR.1 0 (by decide)); omega) (kd_bx (hR.1 0 (by decide))) i1.toNatClampNeg rfl (vin8 (show 0 ≤ i1.toInt ∧ i1.toInt < (8 : Nat) from ⟨(hasBox_8 c8).1, (hasBox_8 c8).2.1⟩)) dX5_test_34 ?_
    refine wp_iload_n hc 2 dX5_test_35 rfl ?_
    refine wp_callSf (As := [.ref (z (16 + 12 * (M.2.1 0) + 1 + 3 + i1.toNatClampNeg)), .int i2]) (rest := []) (v := (fX5_passed M (16 + 12 * (M.2.1 0) + 1 + 3 + i1.toNatClampNeg) i2)) hc hx (kX5_passed l D cy z hz M (16 + 12 * (M.2.1 0) + 1 + 3 + i1.toNatClampNeg) i2 (by have := (hR.1 0 (by decide)); have : i1.toNatClampNeg < 8 := (cl8 (show 0 ≤ i1.toInt ∧ i1.toInt < (8 : Nat) from ⟨(hasBox_8 c8).1, (hasBox_8 c8).2.1⟩)); omega) (kd_fo (hR.1 0 (by decide)) (cl8 (show 0 ≤ i1.toInt ∧ i1.toInt < (8 : Nat) from ⟨(hasBox_8 c8).1, (hasBox_8 c8).2.1⟩)))) cw132 rfl rfl (Nat.le_of_ble_eq_true rfl) dX5_test_36 ?_
    refine wp_iret hc hr hk ?_ dX5_test_39
    show ((fX5_passed M (16 + 12 * (M.2.1 0) + 1 + 3 + i1.toNatClampNeg) i2), M) = sX5_test M i1 i2
    rw [sX5_test, if_neg c8, if_neg c16]
  refine wp_aload_n hc 0 dX5_test_19 rfl ?_
  refine wp_bipush (v := (-2)) hc dX5_test_20 (by decide) ?_
  refine wp_callVw (As := [.int (-2)]) (rest := []) (j := 0) (w := sX5_noted M (-2)) hc hx (kX5_noted l D cy z hz M (-2)) cw68 (by decide) (by decide) (ce_4 rfl) rfl rfl rfl rfl (Nat.le_of_ble_eq_true rfl) dX5_test_22 (fun x2 hx2 => ?_)
  refine wp_iret hc hr hk ?_ dX5_test_25
  show (x2.1, x2.2) = sX5_test M i1 i2
  rw [sX5_test, if_neg c8, if_pos c16, tk_eq hx2]
def sX5_like (M : Mem) (i1 : Int32) : Int32 × Mem :=
  if (fX2_hasBox M (M.2.1 0) i1) = 0 then
  tk (sX5_noted M (-2)) fun x1 =>
  (x1.1, x1.2)
  else
  ((fX2_leastAlike M (M.2.1 0) i1), M)
set_option maxHeartbeats 4000000 in
set_option maxRecDepth 100000 in
theorem kX5_like (l : Launch) (D : va_G) (cy : Nat → ClassId) (z : Nat → Nat) (hz : zI z) (M : Mem) (i1 : Int32) (hR : RK M) : KI l yX5_like wsX5_like { frames := 2, cells := 0, slots := 0, locals := 43 } D cy z 0 100 [.ref (z 0), .int i1] M (fun r u => (r, u) = sX5_like M i1) := by
  refine met_wp (lv := [(0, .ref (z 0)), (1, .int i1)]) hz (by decide) (by decide) rfl rfl (Nat.le_of_ble_eq_true rfl) rfl ?_
  intro p e s m below meth c hc hx hr hk
  have hNW := hx.2.1
  have hin5 : ∀ w ∈ wsX50, w ∈ wsX5_like := by decide +kernel
  have hf26 : Cond.fieldLink RX5 26 (TX5 3).1 (TX5 3).2.1 (TX5 3).2.2.1 ∈ wsX5_like := by decide +kernel
  have cw60 : CallW ({ frames := 2, cells := 0, slots := 0, locals := 43 }) s _ RX5 RX2 60 yX2_hasBox cX2_hasBox 2 (some .boolean) wsX2_hasBox ({ frames := 1, cells := 0, slots := 0, locals := 21 }) 0 0 1 := cwV 1 hc.2.2.2.2 gX5_like_X2_hasBox rfl rfl rfl (by decide +kernel) ⟨Nat.le_of_ble_eq_true rfl, Nat.le_of_ble_eq_true rfl⟩
  have cw68 : CallW ({ frames := 2, cells := 0, slots := 0, locals := 43 }) s _ RX5 RX5 68 yX5_noted cX5_noted 2 (some .int) wsX5_noted ({ frames := 0, cells := 0, slots := 0, locals := 0 }) 0 0 1 := cwV 1 hc.2.2.2.2 gX5_like_X5_noted rfl rfl rfl (by decide +kernel) ⟨Nat.le_of_ble_eq_true rfl, Nat.le_of_ble_eq_true rfl⟩
  have cw136 : CallW ({ frames := 2, cells := 0, slots := 0, locals := 43 }) s _ RX5 RX2 136 yX2_leastAlike cX2_leastAlike 3 (some .int) wsX2_leastAlike ({ frames := 1, cells := 0, slots := 0, locals := 21 }) 0 0 1 := cwV 1 hc.2.2.2.2 gX5_like_X2_leastAlike rfl rfl rfl (by decide +kernel) ⟨Nat.le_of_ble_eq_true rfl, Nat.le_of_ble_eq_true rfl⟩
  refine wp_aload_n hc 0 dX5_like_0 rfl ?_
  refine wp_get hc hx hin5 (j := 0) (by decide) (by decide) (ce_4 rfl) rfl 3 (by decide) hf26 rfl dX5_like_1 ?_
  refine wp_iload_n hc 1 dX5_like_4 rfl ?_
  refine wp_callVf (As := [.int i1]) (rest := []) (j := (16 + 12 * (M.2.1 0))) (v := (fX2_hasBox M (M.2.1 0) i1)) hc hx (kX2_hasBox l D cy z hz M (M.2.1 0) i1 (hR.1 0 (by decide))) cw60 (Nat.zero_le _) (by have := (hR.1 0 (by decide)); omega) (ce_1 (kd_st (hR.1 0 (by decide)))) rfl rfl rfl rfl (Nat.le_of_ble_eq_true rfl) dX5_like_5 ?_
  refine wp_if_ne (tgt := 18) hc dX5_like_8 (by decide) (fun c8 => ?_) (fun c8 => ?_)
  · refine wp_aload_n hc 0 dX5_like_18 rfl ?_
    refine wp_get hc hx hin5 (j := 0) (by decide) (by decide) (ce_4 rfl) rfl 3 (by decide) hf26 rfl dX5_like_19 ?_
    refine wp_iload_n hc 1 dX5_like_22 rfl ?_
    refine wp_callVf (As := [.int i1]) (rest := []) (j := (16 + 12 * (M.2.1 0))) (v := (fX2_leastAlike M (M.2.1 0) i1)) hc hx (kX2_leastAlike l D cy z hz M (M.2.1 0) i1 (hR.1 0 (by decide)) ⟨(hasBox_8 c8).1, (hasBox_8 c8).2.1⟩) cw136 (Nat.zero_le _) (by have := (hR.1 0 (by decide)); omega) (ce_1 (kd_st (hR.1 0 (by decide)))) rfl rfl rfl rfl (Nat.le_of_ble_eq_true rfl) dX5_like_23 ?_
    refine wp_iret hc hr hk ?_ dX5_like_26
    show ((fX2_leastAlike M (M.2.1 0) i1), M) = sX5_like M i1
    rw [sX5_like, if_neg c8]
  refine wp_aload_n hc 0 dX5_like_11 rfl ?_
  refine wp_bipush (v := (-2)) hc dX5_like_12 (by decide) ?_
  refine wp_callVw (As := [.int (-2)]) (rest := []) (j := 0) (w := sX5_noted M (-2)) hc hx (kX5_noted l D cy z hz M (-2)) cw68 (by decide) (by decide) (ce_4 rfl) rfl rfl rfl rfl (Nat.le_of_ble_eq_true rfl) dX5_like_14 (fun x1 hx1 => ?_)
  refine wp_iret hc hr hk ?_ dX5_like_17
  show (x1.1, x1.2) = sX5_like M i1
  rw [sX5_like, if_pos c8, tk_eq hx1]
def sX5_type (M : Mem) (i1 : Int32) : Int32 × Mem :=
  tk (sX3_takeByte M i1) fun x1 =>
  tk (sX5_noted x1.2 x1.1) fun x2 =>
  (x2.1, x2.2)
set_option maxHeartbeats 4000000 in
set_option maxRecDepth 100000 in
theorem kX5_type (l : Launch) (D : va_G) (cy : Nat → ClassId) (z : Nat → Nat) (hz : zI z) (M : Mem) (i1 : Int32) : KI l yX5_type wsX5_type { frames := 2, cells := 0, slots := 0, locals := 42 } D cy z 0 100 [.ref (z 0), .int i1] M (fun r u => (r, u) = sX5_type M i1) := by
  refine met_wp (lv := [(0, .ref (z 0)), (1, .int i1)]) hz (by decide) (by decide) rfl rfl (Nat.le_of_ble_eq_true rfl) rfl ?_
  intro p e s m below meth c hc hx hr hk
  have hNW := hx.2.1
  have hin5 : ∀ w ∈ wsX50, w ∈ wsX5_type := by decide +kernel
  have hf19 : Cond.fieldLink RX5 19 (TX5 1).1 (TX5 1).2.1 (TX5 1).2.2.1 ∈ wsX5_type := by decide +kernel
  have cw68 : CallW ({ frames := 2, cells := 0, slots := 0, locals := 42 }) s _ RX5 RX5 68 yX5_noted cX5_noted 2 (some .int) wsX5_noted ({ frames := 0, cells := 0, slots := 0, locals := 0 }) 0 0 1 := cwV 1 hc.2.2.2.2 gX5_type_X5_noted rfl rfl rfl (by decide +kernel) ⟨Nat.le_of_ble_eq_true rfl, Nat.le_of_ble_eq_true rfl⟩
  have cw139 : CallW ({ frames := 2, cells := 0, slots := 0, locals := 42 }) s _ RX5 RX3 139 yX3_takeByte cX3_takeByte 2 (some .int) wsX3_takeByte ({ frames := 1, cells := 0, slots := 0, locals := 21 }) 0 0 1 := cwV 1 hc.2.2.2.2 gX5_type_X3_takeByte rfl rfl rfl (by decide +kernel) ⟨Nat.le_of_ble_eq_true rfl, Nat.le_of_ble_eq_true rfl⟩
  refine wp_aload_n hc 0 dX5_type_0 rfl ?_
  refine wp_aload_n hc 0 dX5_type_1 rfl ?_
  refine wp_get hc hx hin5 (j := 0) (by decide) (by decide) (ce_4 rfl) rfl 1 (by decide) hf19 rfl dX5_type_2 ?_
  refine wp_iload_n hc 1 dX5_type_5 rfl ?_
  refine wp_callVw (As := [.int i1]) (rest := [.ref (z 0)]) (j := 10) (w := sX3_takeByte M i1) hc hx (kX3_takeByte l D cy z hz M i1) cw139 (by decide) (by decide) (ce_2 rfl) rfl rfl rfl rfl (Nat.le_of_ble_eq_true rfl) dX5_type_6 (fun x1 hx1 => ?_)
  refine wp_callVw (As := [.int x1.1]) (rest := []) (j := 0) (w := sX5_noted x1.2 x1.1) hc hx (kX5_noted l D cy z hz x1.2 x1.1) cw68 (by decide) (by decide) (ce_4 rfl) rfl rfl rfl rfl (Nat.le_of_ble_eq_true rfl) dX5_type_9 (fun x2 hx2 => ?_)
  refine wp_iret hc hr hk ?_ dX5_type_12
  show (x2.1, x2.2) = sX5_type M i1
  rw [sX5_type, tk_eq hx1, tk_eq hx2]
def sX5_clear (M : Mem)  : Int32 × Mem :=
  tk (sX3_empty M) fun x1 =>
  (x1.1, x1.2)
set_option maxHeartbeats 4000000 in
set_option maxRecDepth 100000 in
theorem kX5_clear (l : Launch) (D : va_G) (cy : Nat → ClassId) (z : Nat → Nat) (hz : zI z) (M : Mem)  : KI l yX5_clear wsX5_clear { frames := 1, cells := 0, slots := 0, locals := 21 } D cy z 0 100 [.ref (z 0)] M (fun r u => (r, u) = sX5_clear M) := by
  refine met_wp (lv := [(0, .ref (z 0))]) hz (by decide) (by decide) rfl rfl (Nat.le_of_ble_eq_true rfl) rfl ?_
  intro p e s m below meth c hc hx hr hk
  have hNW := hx.2.1
  have hin5 : ∀ w ∈ wsX50, w ∈ wsX5_clear := by decide +kernel
  have hf19 : Cond.fieldLink RX5 19 (TX5 1).1 (TX5 1).2.1 (TX5 1).2.2.1 ∈ wsX5_clear := by decide +kernel
  have cw142 : CallW ({ frames := 1, cells := 0, slots := 0, locals := 21 }) s _ RX5 RX3 142 yX3_empty cX3_empty 2 (some .int) wsX3_empty ({ frames := 0, cells := 0, slots := 0, locals := 0 }) 0 0 0 := cwV 0 hc.2.2.2.2 gX5_clear_X3_empty rfl rfl rfl (by decide +kernel) ⟨Nat.le_of_ble_eq_true rfl, Nat.le_of_ble_eq_true rfl⟩
  refine wp_aload_n hc 0 dX5_clear_0 rfl ?_
  refine wp_get hc hx hin5 (j := 0) (by decide) (by decide) (ce_4 rfl) rfl 1 (by decide) hf19 rfl dX5_clear_1 ?_
  refine wp_callVw (As := []) (rest := []) (j := 10) (w := sX3_empty M) hc hx (kX3_empty l D cy z hz M) cw142 (by decide) (by decide) (ce_2 rfl) rfl rfl rfl rfl (Nat.le_of_ble_eq_true rfl) dX5_clear_4 (fun x1 hx1 => ?_)
  refine wp_iret hc hr hk ?_ dX5_clear_7
  show (x1.1, x1.2) = sX5_clear M
  rw [sX5_clear, tk_eq hx1]
def sX5_count (M : Mem) (i1 : Int32) : Int32 × Mem :=
  if i1 = 0 then
  ((M.1 (16 + 12 * (M.2.1 0)) 3), M)
  else
  if i1 = 1 then
  if (M.1 (16 + 12 * (M.2.1 0)) 4) = 0 then
  (0, M)
  else
  (1, M)
  else
  if i1 = 2 then
  ((M.1 0 6), M)
  else
  if i1 = 3 then
  ((M.1 0 7), M)
  else
  if i1 = 4 then
  ((M.1 0 8), M)
  else
  if i1 = 5 then
  ((M.1 10 4), M)
  else
  if i1 = 6 then
  ((M.1 0 5), M)
  else
  tk (sX5_noted M (-2)) fun x1 =>
  (x1.1, x1.2)
set_option maxHeartbeats 4000000 in
set_option maxRecDepth 100000 in
theorem kX5_count (l : Launch) (D : va_G) (cy : Nat → ClassId) (z : Nat → Nat) (hz : zI z) (M : Mem) (i1 : Int32) (hR : RK M) : KI l yX5_count wsX5_count { frames := 1, cells := 0, slots := 0, locals := 21 } D cy z 0 100 [.ref (z 0), .int i1] M (fun r u => (r, u) = sX5_count M i1) := by
  refine met_wp (lv := [(0, .ref (z 0)), (1, .int i1)]) hz (by decide) (by decide) rfl rfl (Nat.le_of_ble_eq_true rfl) rfl ?_
  intro p e s m below meth c hc hx hr hk
  have hNW := hx.2.1
  have hin2 : ∀ w ∈ wsX20, w ∈ wsX5_count := by decide +kernel
  have hin3 : ∀ w ∈ wsX30, w ∈ wsX5_count := by decide +kernel
  have hin5 : ∀ w ∈ wsX50, w ∈ wsX5_count := by decide +kernel
  have hf19 : Cond.fieldLink RX5 19 (TX5 1).1 (TX5 1).2.1 (TX5 1).2.2.1 ∈ wsX5_count := by decide +kernel
  have hf26 : Cond.fieldLink RX5 26 (TX5 3).1 (TX5 3).2.1 (TX5 3).2.2.1 ∈ wsX5_count := by decide +kernel
  have hf91 : Cond.fieldLink RX5 91 (TX2 4).1 (TX2 4).2.1 (TX2 4).2.2.1 ∈ wsX5_count := by decide +kernel
  have hf158 : Cond.fieldLink RX5 158 (TX5 5).1 (TX5 5).2.1 (TX5 5).2.2.1 ∈ wsX5_count := by decide +kernel
  have hf161 : Cond.fieldLink RX5 161 (TX2 3).1 (TX2 3).2.1 (TX2 3).2.2.1 ∈ wsX5_count := by decide +kernel
  have hf164 : Cond.fieldLink RX5 164 (TX5 6).1 (TX5 6).2.1 (TX5 6).2.2.1 ∈ wsX5_count := by decide +kernel
  have hf167 : Cond.fieldLink RX5 167 (TX5 7).1 (TX5 7).2.1 (TX5 7).2.2.1 ∈ wsX5_count := by decide +kernel
  have hf170 : Cond.fieldLink RX5 170 (TX5 8).1 (TX5 8).2.1 (TX5 8).2.2.1 ∈ wsX5_count := by decide +kernel
  have hf173 : Cond.fieldLink RX5 173 (TX3 4).1 (TX3 4).2.1 (TX3 4).2.2.1 ∈ wsX5_count := by decide +kernel
  have cw68 : CallW ({ frames := 1, cells := 0, slots := 0, locals := 21 }) s _ RX5 RX5 68 yX5_noted cX5_noted 2 (some .int) wsX5_noted ({ frames := 0, cells := 0, slots := 0, locals := 0 }) 0 0 1 := cwV 1 hc.2.2.2.2 gX5_count_X5_noted rfl rfl rfl (by decide +kernel) ⟨Nat.le_of_ble_eq_true rfl, Nat.le_of_ble_eq_true rfl⟩
  refine wp_iload_n hc 1 dX5_count_0 rfl ?_
  by_cases c1_0 : i1 = 0
  · refine wp_cvt c1_0 ?_
    refine wp_tableIn (tgt := 44) (off := 43) hc dX5_count_1 (by decide) (by decide) rfl (by decide) ?_
    refine wp_aload_n hc 0 dX5_count_44 rfl ?_
    refine wp_get hc hx hin5 (j := 0) (by decide) (by decide) (ce_4 rfl) rfl 3 (by decide) hf26 rfl dX5_count_45 ?_
    refine wp_get hc hx hin2 (j := (16 + 12 * (M.2.1 0))) (Nat.zero_le _) (by have := (hR.1 0 (by decide)); omega) (ce_1 (kd_st (hR.1 0 (by decide)))) rfl 3 (by decide) hf161 rfl dX5_count_48 ?_
    refine wp_iret hc hr hk ?_ dX5_count_51
    show ((M.1 (16 + 12 * (M.2.1 0)) 3), M) = sX5_count M i1
    rw [sX5_count, if_pos c1_0]
  by_cases c1_1 : i1 = 1
  · refine wp_cvt c1_1 ?_
    refine wp_tableIn (tgt := 52) (off := 51) hc dX5_count_1 (by decide) (by decide) rfl (by decide) ?_
    refine wp_aload_n hc 0 dX5_count_52 rfl ?_
    refine wp_get hc hx hin5 (j := 0) (by decide) (by decide) (ce_4 rfl) rfl 3 (by decide) hf26 rfl dX5_count_53 ?_
    refine wp_get hc hx hin2 (j := (16 + 12 * (M.2.1 0))) (Nat.zero_le _) (by have := (hR.1 0 (by decide)); omega) (ce_1 (kd_st (hR.1 0 (by decide)))) rfl 4 (by decide) hf91 rfl dX5_count_56 ?_
    refine wp_if_eq (tgt := 66) hc dX5_count_59 (by decide) (fun c59 => ?_) (fun c59 => ?_)
    · refine wp_iconst (v := 0) hc dX5_count_66 (by decide) ?_
      refine wp_iret hc hr hk ?_ dX5_count_67
      show (0, M) = sX5_count M i1
      rw [sX5_count, if_neg c1_0, if_pos c1_1, if_pos c59]
    refine wp_iconst (v := 1) hc dX5_count_62 (by decide) ?_
    refine wp_goto (tgt := 67) hc dX5_count_63 (by decide) ?_
    refine wp_iret hc hr hk ?_ dX5_count_67
    show (1, M) = sX5_count M i1
    rw [sX5_count, if_neg c1_0, if_pos c1_1, if_neg c59]
  by_cases c1_2 : i1 = 2
  · refine wp_cvt c1_2 ?_
    refine wp_tableIn (tgt := 68) (off := 67) hc dX5_count_1 (by decide) (by decide) rfl (by decide) ?_
    refine wp_aload_n hc 0 dX5_count_68 rfl ?_
    refine wp_get hc hx hin5 (j := 0) (by decide) (by decide) (ce_4 rfl) rfl 6 (by decide) hf164 rfl dX5_count_69 ?_
    refine wp_iret hc hr hk ?_ dX5_count_72
    show ((M.1 0 6), M) = sX5_count M i1
    rw [sX5_count, if_neg c1_0, if_neg c1_1, if_pos c1_2]
  by_cases c1_3 : i1 = 3
  · refine wp_cvt c1_3 ?_
    refine wp_tableIn (tgt := 73) (off := 72) hc dX5_count_1 (by decide) (by decide) rfl (by decide) ?_
    refine wp_aload_n hc 0 dX5_count_73 rfl ?_
    refine wp_get hc hx hin5 (j := 0) (by decide) (by decide) (ce_4 rfl) rfl 7 (by decide) hf167 rfl dX5_count_74 ?_
    refine wp_iret hc hr hk ?_ dX5_count_77
    show ((M.1 0 7), M) = sX5_count M i1
    rw [sX5_count, if_neg c1_0, if_neg c1_1, if_neg c1_2, if_pos c1_3]
  by_cases c1_4 : i1 = 4
  · refine wp_cvt c1_4 ?_
    refine wp_tableIn (tgt := 78) (off := 77) hc dX5_count_1 (by decide) (by decide) rfl (by decide) ?_
    refine wp_aload_n hc 0 dX5_count_78 rfl ?_
    refine wp_get hc hx hin5 (j := 0) (by decide) (by decide) (ce_4 rfl) rfl 8 (by decide) hf170 rfl dX5_count_79 ?_
    refine wp_iret hc hr hk ?_ dX5_count_82
    show ((M.1 0 8), M) = sX5_count M i1
    rw [sX5_count, if_neg c1_0, if_neg c1_1, if_neg c1_2, if_neg c1_3, if_pos c1_4]
  by_cases c1_5 : i1 = 5
  · refine wp_cvt c1_5 ?_
    refine wp_tableIn (tgt := 83) (off := 82) hc dX5_count_1 (by decide) (by decide) rfl (by decide) ?_
    refine wp_aload_n hc 0 dX5_count_83 rfl ?_
    refine wp_get hc hx hin5 (j := 0) (by decide) (by decide) (ce_4 rfl) rfl 1 (by decide) hf19 rfl dX5_count_84 ?_
    refine wp_get hc hx hin3 (j := 10) (by decide) (by decide) (ce_2 rfl) rfl 4 (by decide) hf173 rfl dX5_count_87 ?_
    refine wp_iret hc hr hk ?_ dX5_count_90
    show ((M.1 10 4), M) = sX5_count M i1
    rw [sX5_count, if_neg c1_0, if_neg c1_1, if_neg c1_2, if_neg c1_3, if_neg c1_4, if_pos c1_5]
  by_cases c1_6 : i1 = 6
  · refine wp_cvt c1_6 ?_
    refine wp_tableIn (tgt := 91) (off := 90) hc dX5_count_1 (by decide) (by decide) rfl (by decide) ?_
    refine wp_aload_n hc 0 dX5_count_91 rfl ?_
    refine wp_get hc hx hin5 (j := 0) (by decide) (by decide) (ce_4 rfl) rfl 5 (by decide) hf158 rfl dX5_count_92 ?_
    refine wp_iret hc hr hk ?_ dX5_count_95
    show ((M.1 0 5), M) = sX5_count M i1
    rw [sX5_count, if_neg c1_0, if_neg c1_1, if_neg c1_2, if_neg c1_3, if_neg c1_4, if_neg c1_5, if_pos c1_6]
  refine wp_tableOut (tgt := 96) hc dX5_count_1 (by have q0 := lv_neT (a := 0) c1_0 (by decide); have q1 := lv_neT (a := 1) c1_1 (by decide); have q2 := lv_neT (a := 2) c1_2 (by decide); have q3 := lv_neT (a := 3) c1_3 (by decide); have q4 := lv_neT (a := 4) c1_4 (by decide); have q5 := lv_neT (a := 5) c1_5 (by decide); have q6 := lv_neT (a := 6) c1_6 (by decide); omega) (by decide) ?_
  refine wp_aload_n hc 0 dX5_count_96 rfl ?_
  refine wp_bipush (v := (-2)) hc dX5_count_97 (by decide) ?_
  refine wp_callVw (As := [.int (-2)]) (rest := []) (j := 0) (w := sX5_noted M (-2)) hc hx (kX5_noted l D cy z hz M (-2)) cw68 (by decide) (by decide) (ce_4 rfl) rfl rfl rfl rfl (Nat.le_of_ble_eq_true rfl) dX5_count_99 (fun x1 hx1 => ?_)
  refine wp_iret hc hr hk ?_ dX5_count_102
  show (x1.1, x1.2) = sX5_count M i1
  rw [sX5_count, if_neg c1_0, if_neg c1_1, if_neg c1_2, if_neg c1_3, if_neg c1_4, if_neg c1_5, if_neg c1_6, tk_eq hx1]
