def sX2_removeBox (M : Mem) (a : Nat) (i1 : Int32) : Int32 × Mem :=
  if (fX2_hasBox M a i1) = 0 then
  ((-2), M)
  else
  tk (rmB M a i1.toNatClampNeg (8 - (i1.toNatClampNeg + 1))) fun M1 =>
  tk (st M1 (16 + 12 * a) 3 ((M1.1 (16 + 12 * a) 3) - 1)) fun M2 =>
  ((M2.1 (16 + 12 * a) 3), M2)
set_option maxHeartbeats 4000000 in
set_option maxRecDepth 100000 in
theorem kX2_removeBox (l : Launch) (D : va_G) (cy : Nat → ClassId) (z : Nat → Nat) (hz : zI z) (M : Mem) (a : Nat) (i1 : Int32) (ha : a < 7) : KI l yX2_removeBox wsX2_removeBox { frames := 2, cells := 0, slots := 0, locals := 45 } D cy z 0 100 [.ref (z (16 + 12 * a)), .int i1] M (fun r u => (r, u) = sX2_removeBox M a i1) := by
  refine met_wp (lv := [(0, .ref (z (16 + 12 * a))), (1, .int i1)]) hz (by decide) (by decide) rfl rfl (Nat.le_of_ble_eq_true rfl) rfl ?_
  intro p e s m below meth c hc hx hr hk
  have hNW := hx.2.1
  have hin2 : ∀ w ∈ wsX20, w ∈ wsX2_removeBox := by decide +kernel
  have hf11 : Cond.fieldLink RX2 11 (TX2 0).1 (TX2 0).2.1 (TX2 0).2.2.1 ∈ wsX2_removeBox := by decide +kernel
  have hf35 : Cond.fieldLink RX2 35 (TX2 3).1 (TX2 3).2.1 (TX2 3).2.2.1 ∈ wsX2_removeBox := by decide +kernel
  have cw25 : CallW ({ frames := 2, cells := 0, slots := 0, locals := 45 }) s _ RX2 RX0 25 yX0_copyFrom cX0_copyFrom 2 none wsX0_copyFrom ({ frames := 1, cells := 0, slots := 0, locals := 24 }) 0 0 1 := cwV 1 hc.2.2.2.2 gX2_removeBox_X0_copyFrom rfl rfl rfl (by decide +kernel) ⟨Nat.le_of_ble_eq_true rfl, Nat.le_of_ble_eq_true rfl⟩
  have cw47 : CallW ({ frames := 2, cells := 0, slots := 0, locals := 45 }) s _ RX2 RX2 47 yX2_hasBox cX2_hasBox 2 (some .boolean) wsX2_hasBox ({ frames := 1, cells := 0, slots := 0, locals := 21 }) 0 0 1 := cwV 1 hc.2.2.2.2 gX2_removeBox_X2_hasBox rfl rfl rfl (by decide +kernel) ⟨Nat.le_of_ble_eq_true rfl, Nat.le_of_ble_eq_true rfl⟩
  refine wp_aload_n hc 0 dX2_removeBox_0 rfl ?_
  refine wp_iload_n hc 1 dX2_removeBox_1 rfl ?_
  refine wp_callVf (As := [.int i1]) (rest := []) (j := (16 + 12 * a)) (v := (fX2_hasBox M a i1)) hc hx (kX2_hasBox l D cy z hz M a i1 ha) cw47 (Nat.zero_le _) (by have := ha; omega) (ce_1 (kd_st ha)) rfl rfl rfl rfl (Nat.le_of_ble_eq_true rfl) dX2_removeBox_2 ?_
  refine wp_if_ne (tgt := 11) hc dX2_removeBox_5 (by decide) (fun c5 => ?_) (fun c5 => ?_)
  · refine wp_iload_n hc 1 dX2_removeBox_11 rfl ?_
    refine wp_iconst (v := 1) hc dX2_removeBox_12 (by decide) ?_
    refine wp_iadd hc dX2_removeBox_13 ?_
    refine wp_istore_n (lv' := [(2, .int (i1 + 1)), (0, .ref (z (16 + 12 * a))), (1, .int i1)]) hc dX2_removeBox_14 (by decide) rfl ?_
    have hb := hasBox_8 c5
    have hb8 := cl8 (n := 8) ⟨hb.1, hb.2.1⟩
    refine wp_eqM (M' := rmB M a i1.toNatClampNeg ((i1.toNatClampNeg + 1) - (i1.toNatClampNeg + 1))) (by rw [Nat.sub_self]; rfl) ?_
    refine wp_lv (lv' := [(0, .ref (z (16 + 12 * a))), (1, .int i1), (2, .int (nI ((i1.toNatClampNeg + 1))))]) [1, 2, 0] (by rw [show nI (i1.toNatClampNeg + 1) = i1 + 1 from by rw [nI_succ, ← nI_cl hb.1]]; rfl) ?_
    refine wp_loopL (8) (fun i => rmB M a i1.toNatClampNeg (i - (i1.toNatClampNeg + 1))) (fun i => [(0, .ref (z (16 + 12 * a))), (1, .int i1), (2, .int (nI (i)))]) ?_ ?_ (i1.toNatClampNeg + 1) (by omega)
    · show WP _ _ _ _ _ _ _ _ _ _ _ _ _ (rmB M a i1.toNatClampNeg (8 - (i1.toNatClampNeg + 1))) [(0, .ref (z (16 + 12 * a))), (1, .int i1), (2, .int (nI (8)))] _ _
      refine wp_nm (fun M1 hM1 => ?_)
      refine wp_iload_n hc 2 dX2_removeBox_15 rfl ?_
      refine wp_bipush (v := 8) hc dX2_removeBox_16 (by decide) ?_
      refine wp_icmp_ge (tgt := 44) hc dX2_removeBox_18 (by decide) (fun _ => ?_) (fun c => absurd c (by decide))
      refine wp_aload_n hc 0 dX2_removeBox_44 rfl ?_
      refine wp_dup hc dX2_removeBox_45 rfl ?_
      refine wp_get hc hx hin2 (j := (16 + 12 * a)) (Nat.zero_le _) (by have := ha; omega) (ce_1 (kd_st ha)) rfl 3 (by decide) hf35 rfl dX2_removeBox_46 ?_
      refine wp_iconst (v := 1) hc dX2_removeBox_49 (by decide) ?_
      refine wp_isub hc dX2_removeBox_50 ?_
      refine wp_put (M' := st M1 (16 + 12 * a) 3 ((M1.1 (16 + 12 * a) 3) - 1)) hc hx hin2 tyX2 tyX2_ok nmX2 (j := (16 + 12 * a)) (Nat.zero_le _) (by have := ha; omega) (ce_1 (kd_st ha)) rfl 3 (by decide) hf35 rfl rfl rfl (Nat.le_of_ble_eq_true rfl) (by rw [ce_1 (kd_st ha)]; exact ce_stS3 _ _ _) (fun i hi => ce_row (va_up_ne _ _ hi) rfl) dX2_removeBox_51 ?_
      refine wp_nm (fun M2 hM2 => ?_)
      refine wp_aload_n hc 0 dX2_removeBox_54 rfl ?_
      refine wp_get hc hx hin2 (j := (16 + 12 * a)) (Nat.zero_le _) (by have := ha; omega) (ce_1 (kd_st ha)) rfl 3 (by decide) hf35 rfl dX2_removeBox_55 ?_
      refine wp_iret hc hr hk ?_ dX2_removeBox_58
      show ((M2.1 (16 + 12 * a) 3), M2) = sX2_removeBox M a i1
      rw [sX2_removeBox, if_neg c5, tk_eq hM1, tk_eq hM2]
    · intro i hl hi ih
      show WP _ _ _ _ _ _ _ _ _ _ _ _ _ (rmB M a i1.toNatClampNeg (i - (i1.toNatClampNeg + 1))) [(0, .ref (z (16 + 12 * a))), (1, .int i1), (2, .int (nI (i)))] _ _
      refine wp_nm (fun M3 hM3 => ?_)
      refine wp_iload_n hc 2 dX2_removeBox_15 rfl ?_
      refine wp_bipush (v := 8) hc dX2_removeBox_16 (by decide) ?_
      refine wp_icmp_ge (tgt := 44) hc dX2_removeBox_18 (by decide) (fun c => absurd c (nIlt hi (by decide))) (fun _ => ?_)
      refine wp_aload_n hc 0 dX2_removeBox_21 rfl ?_
      refine wp_get hc hx hin2 (j := (16 + 12 * a)) (Nat.zero_le _) (by have := ha; omega) (ce_1 (kd_st ha)) rfl 0 (by decide) hf11 rfl dX2_removeBox_22 ?_
      refine wp_iload_n hc 2 dX2_removeBox_25 rfl ?_
      refine wp_iconst (v := 1) hc dX2_removeBox_26 (by decide) ?_
      refine wp_isub hc dX2_removeBox_27 ?_
      refine wp_aald8 hc hx (j := (16 + 12 * a + 1)) (Nat.zero_le _) (by have := ha; omega) (kd_bx ha) (i - 1) (by rw [show nI (i) - 1 = nI (i - 1) from pk_sub (a := i) (b := 1) (by omega)]; exact nI_clamp (by omega)) (by rw [show nI (i) - 1 = nI (i - 1) from pk_sub (a := i) (b := 1) (by omega)]; exact vp_in_nI (by omega) (by decide)) dX2_removeBox_28 ?_
      refine wp_aload_n hc 0 dX2_removeBox_29 rfl ?_
      refine wp_get hc hx hin2 (j := (16 + 12 * a)) (Nat.zero_le _) (by have := ha; omega) (ce_1 (kd_st ha)) rfl 0 (by decide) hf11 rfl dX2_removeBox_30 ?_
      refine wp_iload_n hc 2 dX2_removeBox_33 rfl ?_
      refine wp_aald8 hc hx (j := (16 + 12 * a + 1)) (Nat.zero_le _) (by have := ha; omega) (kd_bx ha) i (nI_clamp (by omega)) (vp_in_nI (by omega) (by decide)) dX2_removeBox_34 ?_
      refine wp_callVvw (As := [.ref (z (16 + 12 * a + 1 + 3 + i))]) (rest := []) (j := (16 + 12 * a + 1 + 3 + (i - 1))) (w := sX0_copyFrom M3 (16 + 12 * a + 1 + 3 + (i - 1)) (16 + 12 * a + 1 + 3 + i)) hc hx (kX0_copyFrom l D cy z hz M3 (16 + 12 * a + 1 + 3 + (i - 1)) (16 + 12 * a + 1 + 3 + i) (by have := ha; have : (i - 1) < 8 := (show i - 1 < 8 by omega); omega) (kd_fo ha (show i - 1 < 8 by omega)) (by have := ha; have : i < 8 := (show i < 8 by omega); omega) (kd_fo ha (show i < 8 by omega))) cw25 (Nat.zero_le _) (by have := ha; have : (i - 1) < 8 := (show i - 1 < 8 by omega); omega) (ce_0 (kd_fo ha (show i - 1 < 8 by omega))) rfl rfl rfl rfl (Nat.le_of_ble_eq_true rfl) dX2_removeBox_35 (fun M4 hM4 => ?_)
      refine wp_iinc (v := ((nI (i)) + 1)) (lv' := [(2, .int ((nI (i)) + 1)), (0, .ref (z (16 + 12 * a))), (1, .int i1)]) hc 2 dX2_removeBox_38 rfl rfl (by decide) rfl ?_
      refine wp_goto (tgt := 15) hc dX2_removeBox_41 (by decide) ?_
      rw [nI_1]
      have hEq : rmB M a i1.toNatClampNeg ((i + 1) - (i1.toNatClampNeg + 1)) = M4 := by
        rw [hM4, hM3, show (i + 1) - (i1.toNatClampNeg + 1) = (i - (i1.toNatClampNeg + 1)) + 1 by omega, rmB, show i1.toNatClampNeg + (i - (i1.toNatClampNeg + 1)) = i - 1 by omega, show i - 1 + 1 = i by omega]
      exact wp_eqM hEq (wp_lv [1, 2, 0] rfl ih)
  refine wp_bipush (v := (-2)) hc dX2_removeBox_8 (by decide) ?_
  refine wp_iret hc hr hk ?_ dX2_removeBox_10
  show ((-2), M) = sX2_removeBox M a i1
  rw [sX2_removeBox, if_pos c5]
def sX2_putNumber (M : Mem) (a : Nat) (i1 : Int32) (i2 : Int32) (i3 : Int32) (i4 : Int32) : Int32 × Mem :=
  if (fX2_hasBox M a i1) = 0 then
  ((-2), M)
  else
  if (fX5_isBelow i2 4) = 0 then
  ((-2), M)
  else
  if (fX1_isGiven i3 i4) = 0 then
  ((-2), M)
  else
  tk (sX0_put M (16 + 12 * a + 1 + 3 + i1.toNatClampNeg) i2 (fX1_made i3 i4)) fun M1 =>
  ((fX0_at M (16 + 12 * a + 1 + 3 + i1.toNatClampNeg) i2), M1)
set_option maxHeartbeats 4000000 in
set_option maxRecDepth 100000 in
theorem kX2_putNumber (l : Launch) (D : va_G) (cy : Nat → ClassId) (z : Nat → Nat) (hz : zI z) (M : Mem) (a : Nat) (i1 : Int32) (i2 : Int32) (i3 : Int32) (i4 : Int32) (ha : a < 7) : KI l yX2_putNumber wsX2_putNumber { frames := 2, cells := 0, slots := 0, locals := 42 } D cy z 0 100 [.ref (z (16 + 12 * a)), .int i1, .int i2, .int i3, .int i4] M (fun r u => (r, u) = sX2_putNumber M a i1 i2 i3 i4) := by
  refine met_wp (lv := [(0, .ref (z (16 + 12 * a))), (1, .int i1), (2, .int i2), (3, .int i3), (4, .int i4)]) hz (by decide) (by decide) rfl rfl (Nat.le_of_ble_eq_true rfl) rfl ?_
  intro p e s m below meth c hc hx hr hk
  have hNW := hx.2.1
  have hin2 : ∀ w ∈ wsX20, w ∈ wsX2_putNumber := by decide +kernel
  have hf11 : Cond.fieldLink RX2 11 (TX2 0).1 (TX2 0).2.1 (TX2 0).2.2.1 ∈ wsX2_putNumber := by decide +kernel
  have cw43 : va_CN ({ frames := 2, cells := 0, slots := 0, locals := 42 }) s _ RX2 43 yX5_isBelow RX5 cX5_isBelow 2 (some .boolean) wsX5_isBelow ({ frames := 0, cells := 0, slots := 0, locals := 0 }) 0 0 2 ∧ (Cond.static yX5_isBelow).before _ s = true ∧ True := ⟨va_cnB 2 hc.2.2.2.2 gX2_putNumber_X5_isBelow_n43 rfl rfl rfl hNW.1 (hc.2.2.2.2 _ (by decide +kernel)) (by decide +kernel) ⟨Nat.le_of_ble_eq_true rfl, Nat.le_of_ble_eq_true rfl⟩, hc.2.2.2.2 _ (by decide +kernel), trivial⟩
  have cw47 : CallW ({ frames := 2, cells := 0, slots := 0, locals := 42 }) s _ RX2 RX2 47 yX2_hasBox cX2_hasBox 2 (some .boolean) wsX2_hasBox ({ frames := 1, cells := 0, slots := 0, locals := 21 }) 0 0 1 := cwV 1 hc.2.2.2.2 gX2_putNumber_X2_hasBox rfl rfl rfl (by decide +kernel) ⟨Nat.le_of_ble_eq_true rfl, Nat.le_of_ble_eq_true rfl⟩
  have cw51 : CallB ({ frames := 2, cells := 0, slots := 0, locals := 42 }) s _ RX2 51 yX1_isGiven cX1_isGiven 2 (some .boolean) wsX1_isGiven ({ frames := 1, cells := 0, slots := 0, locals := 21 }) 0 0 2 ∧ (Cond.static yX1_isGiven).before _ s = true := va_cwS 2 hc.2.2.2.2 gX2_putNumber_X1_isGiven rfl rfl rfl (by decide +kernel) ⟨Nat.le_of_ble_eq_true rfl, Nat.le_of_ble_eq_true rfl⟩
  have cw56 : CallW ({ frames := 2, cells := 0, slots := 0, locals := 42 }) s _ RX2 RX0 56 yX0_at cX0_at 2 (some .int) wsX0_at ({ frames := 0, cells := 0, slots := 0, locals := 0 }) 0 0 1 := cwV 1 hc.2.2.2.2 gX2_putNumber_X0_at rfl rfl rfl (by decide +kernel) ⟨Nat.le_of_ble_eq_true rfl, Nat.le_of_ble_eq_true rfl⟩
  have cw60 : CallB ({ frames := 2, cells := 0, slots := 0, locals := 42 }) s _ RX2 60 yX1_made cX1_made 4 (some .int) wsX1_made ({ frames := 0, cells := 0, slots := 0, locals := 0 }) 0 0 2 ∧ (Cond.static yX1_made).before _ s = true := va_cwS 2 hc.2.2.2.2 gX2_putNumber_X1_made rfl rfl rfl (by decide +kernel) ⟨Nat.le_of_ble_eq_true rfl, Nat.le_of_ble_eq_true rfl⟩
  have cw64 : CallW ({ frames := 2, cells := 0, slots := 0, locals := 42 }) s _ RX2 RX0 64 yX0_put cX0_put 3 none wsX0_put ({ frames := 0, cells := 0, slots := 0, locals := 0 }) 0 0 2 := cwV 2 hc.2.2.2.2 gX2_putNumber_X0_put rfl rfl rfl (by decide +kernel) ⟨Nat.le_of_ble_eq_true rfl, Nat.le_of_ble_eq_true rfl⟩
  refine wp_aload_n hc 0 dX2_putNumber_0 rfl ?_
  refine wp_iload_n hc 1 dX2_putNumber_1 rfl ?_
  refine wp_callVf (As := [.int i1]) (rest := []) (j := (16 + 12 * a)) (v := (fX2_hasBox M a i1)) hc hx (kX2_hasBox l D cy z hz M a i1 ha) cw47 (Nat.zero_le _) (by have := ha; omega) (ce_1 (kd_st ha)) rfl rfl rfl rfl (Nat.le_of_ble_eq_true rfl) dX2_putNumber_2 ?_
  refine wp_if_eq (tgt := 25) hc dX2_putNumber_5 (by decide) (fun c5 => ?_) (fun c5 => ?_)
  · refine wp_bipush (v := (-2)) hc dX2_putNumber_25 (by decide) ?_
    refine wp_iret hc hr hk ?_ dX2_putNumber_27
    show ((-2), M) = sX2_putNumber M a i1 i2 i3 i4
    rw [sX2_putNumber, if_pos c5]
  refine wp_iload_n hc 2 dX2_putNumber_8 rfl ?_
  refine wp_iconst (v := 4) hc dX2_putNumber_9 (by decide) ?_
  refine wp_callNg (As := [.int i2, .int 4]) (rest := []) (v := (fX5_isBelow i2 4)) hc hNW (kX5_isBelow l i2 4) cw43 rfl rfl (Nat.le_of_ble_eq_true rfl) dX2_putNumber_10 ?_
  refine wp_if_eq (tgt := 25) hc dX2_putNumber_13 (by decide) (fun c13 => ?_) (fun c13 => ?_)
  · refine wp_bipush (v := (-2)) hc dX2_putNumber_25 (by decide) ?_
    refine wp_iret hc hr hk ?_ dX2_putNumber_27
    show ((-2), M) = sX2_putNumber M a i1 i2 i3 i4
    rw [sX2_putNumber, if_neg c5, if_pos c13]
  refine wp_iload_n hc 3 dX2_putNumber_16 rfl ?_
  refine wp_iload hc 4 dX2_putNumber_17 rfl ?_
  refine wp_callSg (As := [.int i3, .int i4]) (rest := []) (v := (fX1_isGiven i3 i4)) hc hNW (kX1_isGiven l i3 i4) cw51 rfl rfl (Nat.le_of_ble_eq_true rfl) dX2_putNumber_19 ?_
  refine wp_if_ne (tgt := 28) hc dX2_putNumber_22 (by decide) (fun c22 => ?_) (fun c22 => ?_)
  · refine wp_aload_n hc 0 dX2_putNumber_28 rfl ?_
    refine wp_get hc hx hin2 (j := (16 + 12 * a)) (Nat.zero_le _) (by have := ha; omega) (ce_1 (kd_st ha)) rfl 0 (by decide) hf11 rfl dX2_putNumber_29 ?_
    refine wp_iload_n hc 1 dX2_putNumber_32 rfl ?_
    refine wp_aald8 hc hx (j := (16 + 12 * a + 1)) (Nat.zero_le _) (by have := ha; omega) (kd_bx ha) i1.toNatClampNeg rfl (vin8 (show 0 ≤ i1.toInt ∧ i1.toInt < (8 : Nat) from ⟨(hasBox_8 c5).1, (hasBox_8 c5).2.1⟩)) dX2_putNumber_33 ?_
    refine wp_iload_n hc 2 dX2_putNumber_34 rfl ?_
    refine wp_callVf (As := [.int i2]) (rest := []) (j := (16 + 12 * a + 1 + 3 + i1.toNatClampNeg)) (v := (fX0_at M (16 + 12 * a + 1 + 3 + i1.toNatClampNeg) i2)) hc hx (kX0_at l D cy z hz M (16 + 12 * a + 1 + 3 + i1.toNatClampNeg) i2 (by have := ha; have : i1.toNatClampNeg < 8 := (cl8 (show 0 ≤ i1.toInt ∧ i1.toInt < (8 : Nat) from ⟨(hasBox_8 c5).1, (hasBox_8 c5).2.1⟩)); omega) (kd_fo ha (cl8 (show 0 ≤ i1.toInt ∧ i1.toInt < (8 : Nat) from ⟨(hasBox_8 c5).1, (hasBox_8 c5).2.1⟩)))) cw56 (Nat.zero_le _) (by have := ha; have : i1.toNatClampNeg < 8 := (cl8 (show 0 ≤ i1.toInt ∧ i1.toInt < (8 : Nat) from ⟨(hasBox_8 c5).1, (hasBox_8 c5).2.1⟩)); omega) (ce_0 (kd_fo ha (cl8 (show 0 ≤ i1.toInt ∧ i1.toInt < (8 : Nat) from ⟨(hasBox_8 c5).1, (hasBox_8 c5).2.1⟩)))) rfl rfl rfl rfl (Nat.le_of_ble_eq_true rfl) dX2_putNumber_35 ?_
    refine wp_istore (lv' := [(5, .int (fX0_at M (16 + 12 * a + 1 + 3 + i1.toNatClampNeg) i2)), (0, .ref (z (16 + 12 * a))), (1, .int i1), (2, .int i2), (3, .int i3), (4, .int i4)]) hc dX2_putNumber_38 (by decide) rfl ?_
    refine wp_aload_n hc 1 dX2_putNumber_40 rfl ?_
    refine wp_get hc hx hin2 (j := (16 + 12 * a)) (Nat.zero_le _) (by have := ha; omega) (ce_1 (kd_st ha)) rfl 0 (by decide) hf11 rfl dX2_putNumber_41 ?_
    refine wp_iload_n hc 2 dX2_putNumber_44 rfl ?_
    refine wp_aald8 hc hx (j := (16 + 12 * a + 1)) (Nat.zero_le _) (by have := ha; omega) (kd_bx ha) i1.toNatClampNeg rfl (vin8 (show 0 ≤ i1.toInt ∧ i1.toInt < (8 : Nat) from ⟨(hasBox_8 c5).1, (hasBox_8 c5).2.1⟩)) dX2_putNumber_45 ?_
    refine wp_iload_n hc 3 dX2_putNumber_46 rfl ?_
    refine wp_iload_n hc 4 dX2_putNumber_47 rfl ?_
    refine wp_iload hc 5 dX2_putNumber_48 rfl ?_
    refine wp_callSg (As := [.int i3, .int i4]) (rest := [.int i2, .ref (z (16 + 12 * a + 1 + 3 + i1.toNatClampNeg))]) (v := (fX1_made i3 i4)) hc hNW (kX1_made l i3 i4) cw60 rfl rfl (Nat.le_of_ble_eq_true rfl) dX2_putNumber_50 ?_
    refine wp_callVvw (As := [.int i2, .int (fX1_made i3 i4)]) (rest := []) (j := (16 + 12 * a + 1 + 3 + i1.toNatClampNeg)) (w := sX0_put M (16 + 12 * a + 1 + 3 + i1.toNatClampNeg) i2 (fX1_made i3 i4)) hc hx (kX0_put l D cy z hz M (16 + 12 * a + 1 + 3 + i1.toNatClampNeg) i2 (fX1_made i3 i4) (by have := ha; have : i1.toNatClampNeg < 8 := (cl8 (show 0 ≤ i1.toInt ∧ i1.toInt < (8 : Nat) from ⟨(hasBox_8 c5).1, (hasBox_8 c5).2.1⟩)); omega) (kd_fo ha (cl8 (show 0 ≤ i1.toInt ∧ i1.toInt < (8 : Nat) from ⟨(hasBox_8 c5).1, (hasBox_8 c5).2.1⟩)))) cw64 (Nat.zero_le _) (by have := ha; have : i1.toNatClampNeg < 8 := (cl8 (show 0 ≤ i1.toInt ∧ i1.toInt < (8 : Nat) from ⟨(hasBox_8 c5).1, (hasBox_8 c5).2.1⟩)); omega) (ce_0 (kd_fo ha (cl8 (show 0 ≤ i1.toInt ∧ i1.toInt < (8 : Nat) from ⟨(hasBox_8 c5).1, (hasBox_8 c5).2.1⟩)))) rfl rfl rfl rfl (Nat.le_of_ble_eq_true rfl) dX2_putNumber_53 (fun M1 hM1 => ?_)
    refine wp_iload hc 0 dX2_putNumber_56 rfl ?_
    refine wp_iret hc hr hk ?_ dX2_putNumber_58
    show ((fX0_at M (16 + 12 * a + 1 + 3 + i1.toNatClampNeg) i2), M1) = sX2_putNumber M a i1 i2 i3 i4
    rw [sX2_putNumber, if_neg c5, if_neg c13, if_neg c22, tk_eq hM1]
  refine wp_bipush (v := (-2)) hc dX2_putNumber_25 (by decide) ?_
  refine wp_iret hc hr hk ?_ dX2_putNumber_27
  show ((-2), M) = sX2_putNumber M a i1 i2 i3 i4
  rw [sX2_putNumber, if_neg c5, if_neg c13, if_pos c22]
set_option maxRecDepth 10000 in
theorem kfX2_putNumber (M : Mem) (a : Nat) (i1 : Int32) (i2 : Int32) (i3 : Int32) (i4 : Int32) : KF2 (fun x => 16 + 12 * a ≤ x ∧ x < 28 + 12 * a) M (sX2_putNumber M a i1 i2 i3 i4) := by
  unfold sX2_putNumber
  refine ite_ind (P := KF2 (fun x => 16 + 12 * a ≤ x ∧ x < 28 + 12 * a) M) (fun c1 => ?_) (fun c1 => ?_)
  · exact (show KF (fun x => 16 + 12 * a ≤ x ∧ x < 28 + 12 * a) M M from KF.rf)
  · refine ite_ind (P := KF2 (fun x => 16 + 12 * a ≤ x ∧ x < 28 + 12 * a) M) (fun c2 => ?_) (fun c2 => ?_)
    · exact (show KF (fun x => 16 + 12 * a ≤ x ∧ x < 28 + 12 * a) M M from KF.rf)
    · refine ite_ind (P := KF2 (fun x => 16 + 12 * a ≤ x ∧ x < 28 + 12 * a) M) (fun c3 => ?_) (fun c3 => ?_)
      · exact (show KF (fun x => 16 + 12 * a ≤ x ∧ x < 28 + 12 * a) M M from KF.rf)
      · refine tk_ind (P := KF2 (fun x => 16 + 12 * a ≤ x ∧ x < 28 + 12 * a) M) _ _ (fun M1 hM1 => ?_)
        have k4 : KF (fun x => 16 + 12 * a ≤ x ∧ x < 28 + 12 * a) M M1 := by rw [hM1]; exact KF.mono (kfX0_put _ _ _ _) (fun x h => by first | exact h | ((try dsimp only at h ⊢); (have hq := hasBox_8 c1; have hq2 := cl8 (n := 8) (b := i1) ⟨hq.1, hq.2.1⟩; omega)))
        exact (show KF (fun x => 16 + 12 * a ≤ x ∧ x < 28 + 12 * a) M M1 from k4)
def sX2_putError (M : Mem) (a : Nat) (i1 : Int32) (i2 : Int32) (i3 : Int32) : Int32 × Mem :=
  if (fX5_isBelow i1 12) = 0 then
  ((-2), M)
  else
  if (fX1_isGiven i2 i3) = 0 then
  ((-2), M)
  else
  tk (st M (16 + 12 * a + 2) i1.toNatClampNeg (fX1_made i2 i3)) fun M1 =>
  ((M.1 (16 + 12 * a + 2) i1.toNatClampNeg), M1)
set_option maxHeartbeats 4000000 in
set_option maxRecDepth 100000 in
theorem kX2_putError (l : Launch) (D : va_G) (cy : Nat → ClassId) (z : Nat → Nat) (hz : zI z) (M : Mem) (a : Nat) (i1 : Int32) (i2 : Int32) (i3 : Int32) (ha : a < 7) : KI l yX2_putError wsX2_putError { frames := 2, cells := 0, slots := 0, locals := 42 } D cy z 0 100 [.ref (z (16 + 12 * a)), .int i1, .int i2, .int i3] M (fun r u => (r, u) = sX2_putError M a i1 i2 i3) := by
  refine met_wp (lv := [(0, .ref (z (16 + 12 * a))), (1, .int i1), (2, .int i2), (3, .int i3)]) hz (by decide) (by decide) rfl rfl (Nat.le_of_ble_eq_true rfl) rfl ?_
  intro p e s m below meth c hc hx hr hk
  have hNW := hx.2.1
  have hin2 : ∀ w ∈ wsX20, w ∈ wsX2_putError := by decide +kernel
  have hf18 : Cond.fieldLink RX2 18 (TX2 1).1 (TX2 1).2.1 (TX2 1).2.2.1 ∈ wsX2_putError := by decide +kernel
  have cw43 : va_CN ({ frames := 2, cells := 0, slots := 0, locals := 42 }) s _ RX2 43 yX5_isBelow RX5 cX5_isBelow 2 (some .boolean) wsX5_isBelow ({ frames := 0, cells := 0, slots := 0, locals := 0 }) 0 0 2 ∧ (Cond.static yX5_isBelow).before _ s = true ∧ True := ⟨va_cnB 2 hc.2.2.2.2 gX2_putError_X5_isBelow_n43 rfl rfl rfl hNW.1 (hc.2.2.2.2 _ (by decide +kernel)) (by decide +kernel) ⟨Nat.le_of_ble_eq_true rfl, Nat.le_of_ble_eq_true rfl⟩, hc.2.2.2.2 _ (by decide +kernel), trivial⟩
  have cw51 : CallB ({ frames := 2, cells := 0, slots := 0, locals := 42 }) s _ RX2 51 yX1_isGiven cX1_isGiven 2 (some .boolean) wsX1_isGiven ({ frames := 1, cells := 0, slots := 0, locals := 21 }) 0 0 2 ∧ (Cond.static yX1_isGiven).before _ s = true := va_cwS 2 hc.2.2.2.2 gX2_putError_X1_isGiven rfl rfl rfl (by decide +kernel) ⟨Nat.le_of_ble_eq_true rfl, Nat.le_of_ble_eq_true rfl⟩
  have cw60 : CallB ({ frames := 2, cells := 0, slots := 0, locals := 42 }) s _ RX2 60 yX1_made cX1_made 4 (some .int) wsX1_made ({ frames := 0, cells := 0, slots := 0, locals := 0 }) 0 0 2 ∧ (Cond.static yX1_made).before _ s = true := va_cwS 2 hc.2.2.2.2 gX2_putError_X1_made rfl rfl rfl (by decide +kernel) ⟨Nat.le_of_ble_eq_true rfl, Nat.le_of_ble_eq_true rfl⟩
  refine wp_iload_n hc 1 dX2_putError_0 rfl ?_
  refine wp_bipush (v := 12) hc dX2_putError_1 (by decide) ?_
  refine wp_callNg (As := [.int i1, .int 12]) (rest := []) (v := (fX5_isBelow i1 12)) hc hNW (kX5_isBelow l i1 12) cw43 rfl rfl (Nat.le_of_ble_eq_true rfl) dX2_putError_3 ?_
  refine wp_if_eq (tgt := 17) hc dX2_putError_6 (by decide) (fun c6 => ?_) (fun c6 => ?_)
  · refine wp_bipush (v := (-2)) hc dX2_putError_17 (by decide) ?_
    refine wp_iret hc hr hk ?_ dX2_putError_19
    show ((-2), M) = sX2_putError M a i1 i2 i3
    rw [sX2_putError, if_pos c6]
  refine wp_iload_n hc 2 dX2_putError_9 rfl ?_
  refine wp_iload_n hc 3 dX2_putError_10 rfl ?_
  refine wp_callSg (As := [.int i2, .int i3]) (rest := []) (v := (fX1_isGiven i2 i3)) hc hNW (kX1_isGiven l i2 i3) cw51 rfl rfl (Nat.le_of_ble_eq_true rfl) dX2_putError_11 ?_
  refine wp_if_ne (tgt := 20) hc dX2_putError_14 (by decide) (fun c14 => ?_) (fun c14 => ?_)
  · refine wp_aload_n hc 0 dX2_putError_20 rfl ?_
    refine wp_get hc hx hin2 (j := (16 + 12 * a)) (Nat.zero_le _) (by have := ha; omega) (ce_1 (kd_st ha)) rfl 1 (by decide) hf18 rfl dX2_putError_21 ?_
    refine wp_iload_n hc 1 dX2_putError_24 rfl ?_
    refine wp_iald hc hx (j := (16 + 12 * a + 2)) (Nat.zero_le _) (by have := ha; omega) (kd_er ha) i1.toNatClampNeg rfl (by rw [ln_er ha]; exact vin8 (below_in c6)) dX2_putError_25 ?_
    refine wp_istore (lv' := [(4, .int (M.1 (16 + 12 * a + 2) i1.toNatClampNeg)), (0, .ref (z (16 + 12 * a))), (1, .int i1), (2, .int i2), (3, .int i3)]) hc dX2_putError_26 (by decide) rfl ?_
    refine wp_aload_n hc 1 dX2_putError_28 rfl ?_
    refine wp_get hc hx hin2 (j := (16 + 12 * a)) (Nat.zero_le _) (by have := ha; omega) (ce_1 (kd_st ha)) rfl 1 (by decide) hf18 rfl dX2_putError_29 ?_
    refine wp_iload_n hc 2 dX2_putError_32 rfl ?_
    refine wp_iload_n hc 3 dX2_putError_33 rfl ?_
    refine wp_iload_n hc 4 dX2_putError_34 rfl ?_
    refine wp_callSg (As := [.int i2, .int i3]) (rest := [.int i1, .ref (z (16 + 12 * a + 2))]) (v := (fX1_made i2 i3)) hc hNW (kX1_made l i2 i3) cw60 rfl rfl (Nat.le_of_ble_eq_true rfl) dX2_putError_35 ?_
    refine wp_iast hc hx (j := (16 + 12 * a + 2)) (Nat.zero_le _) (by have := ha; omega) (kd_er ha) i1.toNatClampNeg rfl (by rw [ln_er ha]; exact vin8 (below_in c6)) dX2_putError_38 ?_
    refine wp_nm (fun M1 hM1 => ?_)
    refine wp_iload hc 0 dX2_putError_39 rfl ?_
    refine wp_iret hc hr hk ?_ dX2_putError_41
    show ((M.1 (16 + 12 * a + 2) i1.toNatClampNeg), M1) = sX2_putError M a i1 i2 i3
    rw [sX2_putError, if_neg c6, if_neg c14, tk_eq hM1]
  refine wp_bipush (v := (-2)) hc dX2_putError_17 (by decide) ?_
  refine wp_iret hc hr hk ?_ dX2_putError_19
  show ((-2), M) = sX2_putError M a i1 i2 i3
  rw [sX2_putError, if_neg c6, if_pos c14]
set_option maxRecDepth 10000 in
theorem kfX2_putError (M : Mem) (a : Nat) (i1 : Int32) (i2 : Int32) (i3 : Int32) : KF2 (fun x => 16 + 12 * a ≤ x ∧ x < 28 + 12 * a) M (sX2_putError M a i1 i2 i3) := by
  unfold sX2_putError
  refine ite_ind (P := KF2 (fun x => 16 + 12 * a ≤ x ∧ x < 28 + 12 * a) M) (fun c1 => ?_) (fun c1 => ?_)
  · exact (show KF (fun x => 16 + 12 * a ≤ x ∧ x < 28 + 12 * a) M M from KF.rf)
  · refine ite_ind (P := KF2 (fun x => 16 + 12 * a ≤ x ∧ x < 28 + 12 * a) M) (fun c2 => ?_) (fun c2 => ?_)
    · exact (show KF (fun x => 16 + 12 * a ≤ x ∧ x < 28 + 12 * a) M M from KF.rf)
    · refine tk_ind (P := KF2 (fun x => 16 + 12 * a ≤ x ∧ x < 28 + 12 * a) M) _ _ (fun M1 hM1 => ?_)
      have k3 : KF (fun x => 16 + 12 * a ≤ x ∧ x < 28 + 12 * a) M M1 := by rw [hM1]; first | exact kf_st (by show _; omega) | exact kf_sr (by show _; omega)
      exact (show KF (fun x => 16 + 12 * a ≤ x ∧ x < 28 + 12 * a) M M1 from k3)
def fX2_leastAlike (M : Mem) (a : Nat) (i1 : Int32) : Int32 := laS M a i1.toNatClampNeg i1.toNatClampNeg 0
set_option maxHeartbeats 4000000 in
set_option maxRecDepth 100000 in
theorem kX2_leastAlike (l : Launch) (D : va_G) (cy : Nat → ClassId) (z : Nat → Nat) (hz : zI z) (M : Mem) (a : Nat) (i1 : Int32) (ha : a < 7) (hb : 0 ≤ i1.toInt ∧ i1.toInt < 8) : KI l yX2_leastAlike wsX2_leastAlike { frames := 1, cells := 0, slots := 0, locals := 21 } D cy z 0 100 [.ref (z (16 + 12 * a)), .int i1] M (fun r u => r = fX2_leastAlike M a i1 ∧ u = M) := by
  refine met_wp (lv := [(0, .ref (z (16 + 12 * a))), (1, .int i1)]) hz (by decide) (by decide) rfl rfl (Nat.le_of_ble_eq_true rfl) rfl ?_
  intro p e s m below meth c hc hx hr hk
  have hNW := hx.2.1
  have hin2 : ∀ w ∈ wsX20, w ∈ wsX2_leastAlike := by decide +kernel
  have hf11 : Cond.fieldLink RX2 11 (TX2 0).1 (TX2 0).2.1 (TX2 0).2.2.1 ∈ wsX2_leastAlike := by decide +kernel
  have cw68 : CallW ({ frames := 1, cells := 0, slots := 0, locals := 21 }) s _ RX2 RX0 68 yX0_isAs cX0_isAs 2 (some .boolean) wsX0_isAs ({ frames := 0, cells := 0, slots := 0, locals := 0 }) 0 0 1 := cwV 1 hc.2.2.2.2 gX2_leastAlike_X0_isAs rfl rfl rfl (by decide +kernel) ⟨Nat.le_of_ble_eq_true rfl, Nat.le_of_ble_eq_true rfl⟩
  refine wp_iconst (v := 0) hc dX2_leastAlike_0 (by decide) ?_
  refine wp_istore_n (lv' := [(2, .int 0), (0, .ref (z (16 + 12 * a))), (1, .int i1)]) hc dX2_leastAlike_1 (by decide) rfl ?_
  have hb8 := cl8 (n := 8) hb
  have hbN := nI_cl hb.1
  refine wp_lv (lv' := [(0, .ref (z (16 + 12 * a))), (1, .int i1), (2, .int (nI (0)))]) [1, 2, 0] rfl ?_
  refine wp_loopI (fun i => laS M a i1.toNatClampNeg i1.toNatClampNeg 0 = laS M a i1.toNatClampNeg (i1.toNatClampNeg - (i)) (i)) (i1.toNatClampNeg) (fun i => M) (fun i => [(0, .ref (z (16 + 12 * a))), (1, .int i1), (2, .int (nI (i)))]) ?_ ?_ 0 (by omega) (rfl)
  · intro hI
    have hI : laS M a i1.toNatClampNeg i1.toNatClampNeg 0 = laS M a i1.toNatClampNeg (i1.toNatClampNeg - (i1.toNatClampNeg)) (i1.toNatClampNeg) := hI
    show WP _ _ _ _ _ _ _ _ _ _ _ _ _ (M) [(0, .ref (z (16 + 12 * a))), (1, .int i1), (2, .int (nI (i1.toNatClampNeg)))] _ _
    refine wp_iload_n hc 2 dX2_leastAlike_2 rfl ?_
    refine wp_iload_n hc 1 dX2_leastAlike_3 rfl ?_
    refine wp_icmp_ge (tgt := 33) hc dX2_leastAlike_4 (by decide) (fun _ => ?_) (fun c => absurd c (fun q => q (by rw [← hbN]; exact Int32.le_refl _)))
    refine wp_iload_n hc 1 dX2_leastAlike_33 rfl ?_
    refine wp_iret hc hr hk ?_ dX2_leastAlike_34
    exact ⟨by rw [fX2_leastAlike, hI, Nat.sub_self, laS]; exact nI_cl hb.1, rfl⟩
  · intro i hl hi hI ih
    have hI : laS M a i1.toNatClampNeg i1.toNatClampNeg 0 = laS M a i1.toNatClampNeg (i1.toNatClampNeg - (i)) (i) := hI
    show WP _ _ _ _ _ _ _ _ _ _ _ _ _ (M) [(0, .ref (z (16 + 12 * a))), (1, .int i1), (2, .int (nI (i)))] _ _
    refine wp_iload_n hc 2 dX2_leastAlike_2 rfl ?_
    refine wp_iload_n hc 1 dX2_leastAlike_3 rfl ?_
    refine wp_icmp_ge (tgt := 33) hc dX2_leastAlike_4 (by decide) (fun c => absurd c (by have h := nI_ge hi (show i1.toNatClampNeg < 2 ^ 31 by omega); rw [← hbN] at h; exact h)) (fun _ => ?_)
    refine wp_aload_n hc 0 dX2_leastAlike_7 rfl ?_
    refine wp_get hc hx hin2 (j := (16 + 12 * a)) (Nat.zero_le _) (by have := ha; omega) (ce_1 (kd_st ha)) rfl 0 (by decide) hf11 rfl dX2_leastAlike_8 ?_
    refine wp_iload_n hc 2 dX2_leastAlike_11 rfl ?_
    refine wp_aald8 hc hx (j := (16 + 12 * a + 1)) (Nat.zero_le _) (by have := ha; omega) (kd_bx ha) i (nI_clamp (by omega)) (vp_in_nI (by omega) (by decide)) dX2_leastAlike_12 ?_
    refine wp_aload_n hc 0 dX2_leastAlike_13 rfl ?_
    refine wp_get hc hx hin2 (j := (16 + 12 * a)) (Nat.zero_le _) (by have := ha; omega) (ce_1 (kd_st ha)) rfl 0 (by decide) hf11 rfl dX2_leastAlike_14 ?_
    refine wp_iload_n hc 1 dX2_leastAlike_17 rfl ?_
    refine wp_aald8 hc hx (j := (16 + 12 * a + 1)) (Nat.zero_le _) (by have := ha; omega) (kd_bx ha) i1.toNatClampNeg rfl (vin8 hb) dX2_leastAlike_18 ?_
    refine wp_callVf (As := [.ref (z (16 + 12 * a + 1 + 3 + i1.toNatClampNeg))]) (rest := []) (j := (16 + 12 * a + 1 + 3 + i)) (v := (fX0_isAs M (16 + 12 * a + 1 + 3 + i) (16 + 12 * a + 1 + 3 + i1.toNatClampNeg))) hc hx (kX0_isAs l D cy z hz M (16 + 12 * a + 1 + 3 + i) (16 + 12 * a + 1 + 3 + i1.toNatClampNeg) (by have := ha; have : i < 8 := (show i < 8 by omega); omega) (kd_fo ha (show i < 8 by omega)) (by have := ha; have : i1.toNatClampNeg < 8 := (cl8 (n := 8) hb); omega) (kd_fo ha (cl8 (n := 8) hb))) cw68 (Nat.zero_le _) (by have := ha; have : i < 8 := (show i < 8 by omega); omega) (ce_0 (kd_fo ha (show i < 8 by omega))) rfl rfl rfl rfl (Nat.le_of_ble_eq_true rfl) dX2_leastAlike_19 ?_
    refine wp_if_eq (tgt := 27) hc dX2_leastAlike_22 (by decide) (fun c22 => ?_) (fun c22 => ?_)
    · refine wp_iinc (v := ((nI (i)) + 1)) (lv' := [(2, .int ((nI (i)) + 1)), (0, .ref (z (16 + 12 * a))), (1, .int i1)]) hc 2 dX2_leastAlike_27 rfl rfl (by decide) rfl ?_
      refine wp_goto (tgt := 2) hc dX2_leastAlike_30 (by decide) ?_
      rw [nI_1]
      exact wp_lv [1, 2, 0] rfl (ih (by rw [hI, show i1.toNatClampNeg - i = (i1.toNatClampNeg - (i + 1)) + 1 by omega, laS, if_pos c22]))
    refine wp_iload_n hc 2 dX2_leastAlike_25 rfl ?_
    refine wp_iret hc hr hk ?_ dX2_leastAlike_26
    exact ⟨by rw [fX2_leastAlike, hI, show i1.toNatClampNeg - i = (i1.toNatClampNeg - (i + 1)) + 1 by omega, laS, if_neg c22], rfl⟩
def sX2_copyFrom (M : Mem) (a : Nat) (q1 : Nat) : Mem :=
  tk (sX0_copyFrom M (16 + 12 * a + 1 + 3 + 0) (16 + 12 * q1 + 1 + 3 + 0)) fun M1 =>
  tk (sX0_copyFrom M1 (16 + 12 * a + 1 + 3 + 1) (16 + 12 * q1 + 1 + 3 + 1)) fun M2 =>
  tk (sX0_copyFrom M2 (16 + 12 * a + 1 + 3 + 2) (16 + 12 * q1 + 1 + 3 + 2)) fun M3 =>
  tk (sX0_copyFrom M3 (16 + 12 * a + 1 + 3 + 3) (16 + 12 * q1 + 1 + 3 + 3)) fun M4 =>
  tk (sX0_copyFrom M4 (16 + 12 * a + 1 + 3 + 4) (16 + 12 * q1 + 1 + 3 + 4)) fun M5 =>
  tk (sX0_copyFrom M5 (16 + 12 * a + 1 + 3 + 5) (16 + 12 * q1 + 1 + 3 + 5)) fun M6 =>
  tk (sX0_copyFrom M6 (16 + 12 * a + 1 + 3 + 6) (16 + 12 * q1 + 1 + 3 + 6)) fun M7 =>
  tk (sX0_copyFrom M7 (16 + 12 * a + 1 + 3 + 7) (16 + 12 * q1 + 1 + 3 + 7)) fun M8 =>
  tk (sr M8 (16 + 12 * a + 2) (va_cpy (M8.1 (16 + 12 * q1 + 2)) (M8.1 (16 + 12 * a + 2)) 0 0 12)) fun M9 =>
  tk (sr M9 (16 + 12 * a + 3) (va_cpy (M9.1 (16 + 12 * q1 + 3)) (M9.1 (16 + 12 * a + 3)) 0 0 12)) fun M10 =>
  tk (st M10 (16 + 12 * a) 3 (M10.1 (16 + 12 * q1) 3)) fun M11 =>
  tk (st M11 (16 + 12 * a) 4 (M11.1 (16 + 12 * q1) 4)) fun M12 =>
  M12
set_option maxHeartbeats 4000000 in
set_option maxRecDepth 100000 in
theorem kX2_copyFrom (l : Launch) (D : va_G) (cy : Nat → ClassId) (z : Nat → Nat) (hz : zI z) (M : Mem) (a : Nat) (q1 : Nat) (ha : a < 7) (haq1 : q1 < 7) (hne : a ≠ q1) (hk4 : M.1 (16 + 12 * q1) 4 = 0 ∨ M.1 (16 + 12 * q1) 4 = 1) : KV l yX2_copyFrom wsX2_copyFrom { frames := 2, cells := 0, slots := 0, locals := 64 } D cy z 0 100 [.ref (z (16 + 12 * a)), .ref (z (16 + 12 * q1))] M (fun u => u = sX2_copyFrom M a q1) := by
  refine met_wp (lv := [(0, .ref (z (16 + 12 * a))), (1, .ref (z (16 + 12 * q1)))]) hz (by decide) (by decide) rfl rfl (Nat.le_of_ble_eq_true rfl) rfl ?_
  intro p e s m below meth c hc hx hr hk
  have hNW := hx.2.1
  have hin2 : ∀ w ∈ wsX20, w ∈ wsX2_copyFrom := by decide +kernel
  have hf11 : Cond.fieldLink RX2 11 (TX2 0).1 (TX2 0).2.1 (TX2 0).2.2.1 ∈ wsX2_copyFrom := by decide +kernel
  have hf18 : Cond.fieldLink RX2 18 (TX2 1).1 (TX2 1).2.1 (TX2 1).2.2.1 ∈ wsX2_copyFrom := by decide +kernel
  have hf22 : Cond.fieldLink RX2 22 (TX2 2).1 (TX2 2).2.1 (TX2 2).2.2.1 ∈ wsX2_copyFrom := by decide +kernel
  have hf35 : Cond.fieldLink RX2 35 (TX2 3).1 (TX2 3).2.1 (TX2 3).2.2.1 ∈ wsX2_copyFrom := by decide +kernel
  have hf39 : Cond.fieldLink RX2 39 (TX2 4).1 (TX2 4).2.1 (TX2 4).2.2.1 ∈ wsX2_copyFrom := by decide +kernel
  have cw25 : CallW ({ frames := 2, cells := 0, slots := 0, locals := 64 }) s _ RX2 RX0 25 yX0_copyFrom cX0_copyFrom 2 none wsX0_copyFrom ({ frames := 1, cells := 0, slots := 0, locals := 24 }) 0 0 1 := cwV 1 hc.2.2.2.2 gX2_copyFrom_X0_copyFrom rfl rfl rfl (by decide +kernel) ⟨Nat.le_of_ble_eq_true rfl, Nat.le_of_ble_eq_true rfl⟩
  refine wp_iconst (v := 0) hc dX2_copyFrom_0 (by decide) ?_
  refine wp_istore_n (lv' := [(2, .int 0), (0, .ref (z (16 + 12 * a))), (1, .ref (z (16 + 12 * q1)))]) hc dX2_copyFrom_1 (by decide) rfl ?_
  refine wp_iload_n hc 0 dX2_copyFrom_2 rfl ?_
  refine wp_bipush (v := 8) hc dX2_copyFrom_3 (by decide) ?_
  refine wp_icmp_ge (tgt := 29) hc dX2_copyFrom_5 (by decide) (fun c => absurd c (by decide)) (fun _ => ?_)
  refine wp_aload_n hc 1 dX2_copyFrom_8 rfl ?_
  refine wp_get hc hx hin2 (j := (16 + 12 * a)) (Nat.zero_le _) (by have := ha; omega) (ce_1 (kd_st ha)) rfl 0 (by decide) hf11 rfl dX2_copyFrom_9 ?_
  refine wp_iload_n hc 0 dX2_copyFrom_12 rfl ?_
  refine wp_aald8 hc hx (j := (16 + 12 * a + 1)) (Nat.zero_le _) (by have := ha; omega) (kd_bx ha) 0 rfl (vin (by decide)) dX2_copyFrom_13 ?_
  refine wp_aload_n hc 2 dX2_copyFrom_14 rfl ?_
  refine wp_get hc hx hin2 (j := (16 + 12 * q1)) (Nat.zero_le _) (by have := haq1; omega) (ce_1 (kd_st haq1)) rfl 0 (by decide) hf11 rfl dX2_copyFrom_15 ?_
  refine wp_iload_n hc 0 dX2_copyFrom_18 rfl ?_
  refine wp_aald8 hc hx (j := (16 + 12 * q1 + 1)) (Nat.zero_le _) (by have := haq1; omega) (kd_bx haq1) 0 rfl (vin (by decide)) dX2_copyFrom_19 ?_
  refine wp_callVvw (As := [.ref (z (16 + 12 * q1 + 1 + 3 + 0))]) (rest := []) (j := (16 + 12 * a + 1 + 3 + 0)) (w := sX0_copyFrom M (16 + 12 * a + 1 + 3 + 0) (16 + 12 * q1 + 1 + 3 + 0)) hc hx (kX0_copyFrom l D cy z hz M (16 + 12 * a + 1 + 3 + 0) (16 + 12 * q1 + 1 + 3 + 0) (by have := ha; have : 0 < 8 := (by decide); omega) (kd_fo ha (by decide)) (by have := haq1; have : 0 < 8 := (by decide); omega) (kd_fo haq1 (by decide))) cw25 (Nat.zero_le _) (by have := ha; have : 0 < 8 := (by decide); omega) (ce_0 (kd_fo ha (by decide))) rfl rfl rfl rfl (Nat.le_of_ble_eq_true rfl) dX2_copyFrom_20 (fun M1 hM1 => ?_)
  have kM1 : KF (fun x => 16 + 12 * a ≤ x ∧ x < 28 + 12 * a) M M1 := KF.trans KF.rf (show KF (fun x => 16 + 12 * a ≤ x ∧ x < 28 + 12 * a) M M1 from by rw [hM1]; exact KF.mono (kfX0_copyFrom _ _ _) (fun x h => by first | exact h | ((try dsimp only at h ⊢); omega)))
  refine wp_iinc (v := 1) (lv' := [(2, .int 1), (0, .ref (z (16 + 12 * a))), (1, .ref (z (16 + 12 * q1)))]) hc 0 dX2_copyFrom_23 rfl (by decide) (by decide) rfl ?_
  refine wp_goto (tgt := 2) hc dX2_copyFrom_26 (by decide) ?_
  refine wp_iload_n hc 0 dX2_copyFrom_2 rfl ?_
  refine wp_bipush (v := 8) hc dX2_copyFrom_3 (by decide) ?_
  refine wp_icmp_ge (tgt := 29) hc dX2_copyFrom_5 (by decide) (fun c => absurd c (by decide)) (fun _ => ?_)
  refine wp_aload_n hc 1 dX2_copyFrom_8 rfl ?_
  refine wp_get hc hx hin2 (j := (16 + 12 * a)) (Nat.zero_le _) (by have := ha; omega) (ce_1 (kd_st ha)) rfl 0 (by decide) hf11 rfl dX2_copyFrom_9 ?_
  refine wp_iload_n hc 0 dX2_copyFrom_12 rfl ?_
  refine wp_aald8 hc hx (j := (16 + 12 * a + 1)) (Nat.zero_le _) (by have := ha; omega) (kd_bx ha) 1 rfl (vin (by decide)) dX2_copyFrom_13 ?_
  refine wp_aload_n hc 2 dX2_copyFrom_14 rfl ?_
  refine wp_get hc hx hin2 (j := (16 + 12 * q1)) (Nat.zero_le _) (by have := haq1; omega) (ce_1 (kd_st haq1)) rfl 0 (by decide) hf11 rfl dX2_copyFrom_15 ?_
  refine wp_iload_n hc 0 dX2_copyFrom_18 rfl ?_
  refine wp_aald8 hc hx (j := (16 + 12 * q1 + 1)) (Nat.zero_le _) (by have := haq1; omega) (kd_bx haq1) 1 rfl (vin (by decide)) dX2_copyFrom_19 ?_
  refine wp_callVvw (As := [.ref (z (16 + 12 * q1 + 1 + 3 + 1))]) (rest := []) (j := (16 + 12 * a + 1 + 3 + 1)) (w := sX0_copyFrom M1 (16 + 12 * a + 1 + 3 + 1) (16 + 12 * q1 + 1 + 3 + 1)) hc hx (kX0_copyFrom l D cy z hz M1 (16 + 12 * a + 1 + 3 + 1) (16 + 12 * q1 + 1 + 3 + 1) (by have := ha; have : 1 < 8 := (by decide); omega) (kd_fo ha (by decide)) (by have := haq1; have : 1 < 8 := (by decide); omega) (kd_fo haq1 (by decide))) cw25 (Nat.zero_le _) (by have := ha; have : 1 < 8 := (by decide); omega) (ce_0 (kd_fo ha (by decide))) rfl rfl rfl rfl (Nat.le_of_ble_eq_true rfl) dX2_copyFrom_20 (fun M2 hM2 => ?_)
  have kM2 : KF (fun x => 16 + 12 * a ≤ x ∧ x < 28 + 12 * a) M M2 := KF.trans kM1 (show KF (fun x => 16 + 12 * a ≤ x ∧ x < 28 + 12 * a) M1 M2 from by rw [hM2]; exact KF.mono (kfX0_copyFrom _ _ _) (fun x h => by first | exact h | ((try dsimp only at h ⊢); omega)))
  refine wp_iinc (v := 2) (lv' := [(2, .int 2), (0, .ref (z (16 + 12 * a))), (1, .ref (z (16 + 12 * q1)))]) hc 0 dX2_copyFrom_23 rfl (by decide) (by decide) rfl ?_
  refine wp_goto (tgt := 2) hc dX2_copyFrom_26 (by decide) ?_
  refine wp_iload_n hc 0 dX2_copyFrom_2 rfl ?_
  refine wp_bipush (v := 8) hc dX2_copyFrom_3 (by decide) ?_
  refine wp_icmp_ge (tgt := 29) hc dX2_copyFrom_5 (by decide) (fun c => absurd c (by decide)) (fun _ => ?_)
  refine wp_aload_n hc 1 dX2_copyFrom_8 rfl ?_
  refine wp_get hc hx hin2 (j := (16 + 12 * a)) (Nat.zero_le _) (by have := ha; omega) (ce_1 (kd_st ha)) rfl 0 (by decide) hf11 rfl dX2_copyFrom_9 ?_
  refine wp_iload_n hc 0 dX2_copyFrom_12 rfl ?_
  refine wp_aald8 hc hx (j := (16 + 12 * a + 1)) (Nat.zero_le _) (by have := ha; omega) (kd_bx ha) 2 rfl (vin (by decide)) dX2_copyFrom_13 ?_
  refine wp_aload_n hc 2 dX2_copyFrom_14 rfl ?_
  refine wp_get hc hx hin2 (j := (16 + 12 * q1)) (Nat.zero_le _) (by have := haq1; omega) (ce_1 (kd_st haq1)) rfl 0 (by decide) hf11 rfl dX2_copyFrom_15 ?_
  refine wp_iload_n hc 0 dX2_copyFrom_18 rfl ?_
  refine wp_aald8 hc hx (j := (16 + 12 * q1 + 1)) (Nat.zero_le _) (by have := haq1; omega) (kd_bx haq1) 2 rfl (vin (by decide)) dX2_copyFrom_19 ?_
  refine wp_callVvw (As := [.ref (z (16 + 12 * q1 + 1 + 3 + 2))]) (rest := []) (j := (16 + 12 * a + 1 + 3 + 2)) (w := sX0_copyFrom M2 (16 + 12 * a + 1 + 3 + 2) (16 + 12 * q1 + 1 + 3 + 2)) hc hx (kX0_copyFrom l D cy z hz M2 (16 + 12 * a + 1 + 3 + 2) (16 + 12 * q1 + 1 + 3 + 2) (by have := ha; have : 2 < 8 := (by decide); omega) (kd_fo ha (by decide)) (by have := haq1; have : 2 < 8 := (by decide); omega) (kd_fo haq1 (by decide))) cw25 (Nat.zero_le _) (by have := ha; have : 2 < 8 := (by decide); omega) (ce_0 (kd_fo ha (by decide))) rfl rfl rfl rfl (Nat.le_of_ble_eq_true rfl) dX2_copyFrom_20 (fun M3 hM3 => ?_)
  have kM3 : KF (fun x => 16 + 12 * a ≤ x ∧ x < 28 + 12 * a) M M3 := KF.trans kM2 (show KF (fun x => 16 + 12 * a ≤ x ∧ x < 28 + 12 * a) M2 M3 from by rw [hM3]; exact KF.mono (kfX0_copyFrom _ _ _) (fun x h => by first | exact h | ((try dsimp only at h ⊢); omega)))
  refine wp_iinc (v := 3) (lv' := [(2, .int 3), (0, .ref (z (16 + 12 * a))), (1, .ref (z (16 + 12 * q1)))]) hc 0 dX2_copyFrom_23 rfl (by decide) (by decide) rfl ?_
  refine wp_goto (tgt := 2) hc dX2_copyFrom_26 (by decide) ?_
  refine wp_iload_n hc 0 dX2_copyFrom_2 rfl ?_
  refine wp_bipush (v := 8) hc dX2_copyFrom_3 (by decide) ?_
  refine wp_icmp_ge (tgt := 29) hc dX2_copyFrom_5 (by decide) (fun c => absurd c (by decide)) (fun _ => ?_)
  refine wp_aload_n hc 1 dX2_copyFrom_8 rfl ?_
  refine wp_get hc hx hin2 (j := (16 + 12 * a)) (Nat.zero_le _) (by have := ha; omega) (ce_1 (kd_st ha)) rfl 0 (by decide) hf11 rfl dX2_copyFrom_9 ?_
  refine wp_iload_n hc 0 dX2_copyFrom_12 rfl ?_
  refine wp_aald8 hc hx (j := (16 + 12 * a + 1)) (Nat.zero_le _) (by have := ha; omega) (kd_bx ha) 3 rfl (vin (by decide)) dX2_copyFrom_13 ?_
  refine wp_aload_n hc 2 dX2_copyFrom_14 rfl ?_
  refine wp_get hc hx hin2 (j := (16 + 12 * q1)) (Nat.zero_le _) (by have := haq1; omega) (ce_1 (kd_st haq1)) rfl 0 (by decide) hf11 rfl dX2_copyFrom_15 ?_
  refine wp_iload_n hc 0 dX2_copyFrom_18 rfl ?_
  refine wp_aald8 hc hx (j := (16 + 12 * q1 + 1)) (Nat.zero_le _) (by have := haq1; omega) (kd_bx haq1) 3 rfl (vin (by decide)) dX2_copyFrom_19 ?_
  refine wp_callVvw (As := [.ref (z (16 + 12 * q1 + 1 + 3 + 3))]) (rest := []) (j := (16 + 12 * a + 1 + 3 + 3)) (w := sX0_copyFrom M3 (16 + 12 * a + 1 + 3 + 3) (16 + 12 * q1 + 1 + 3 + 3)) hc hx (kX0_copyFrom l D cy z hz M3 (16 + 12 * a + 1 + 3 + 3) (16 + 12 * q1 + 1 + 3 + 3) (by have := ha; have : 3 < 8 := (by decide); omega) (kd_fo ha (by decide)) (by have := haq1; have : 3 < 8 := (by decide); omega) (kd_fo haq1 (by decide))) cw25 (Nat.zero_le _) (by have := ha; have : 3 < 8 := (by decide); omega) (ce_0 (kd_fo ha (by decide))) rfl rfl rfl rfl (Nat.le_of_ble_eq_true rfl) dX2_copyFrom_20 (fun M4 hM4 => ?_)
  have kM4 : KF (fun x => 16 + 12 * a ≤ x ∧ x < 28 + 12 * a) M M4 := KF.trans kM3 (show KF (fun x => 16 + 12 * a ≤ x ∧ x < 28 + 12 * a) M3 M4 from by rw [hM4]; exact KF.mono (kfX0_copyFrom _ _ _) (fun x h => by first | exact h | ((try dsimp only at h ⊢); omega)))
  refine wp_iinc (v := 4) (lv' := [(2, .int 4), (0, .ref (z (16 + 12 * a))), (1, .ref (z (16 + 12 * q1)))]) hc 0 dX2_copyFrom_23 rfl (by decide) (by decide) rfl ?_
  refine wp_goto (tgt := 2) hc dX2_copyFrom_26 (by decide) ?_
  refine wp_iload_n hc 0 dX2_copyFrom_2 rfl ?_
  refine wp_bipush (v := 8) hc dX2_copyFrom_3 (by decide) ?_
  refine wp_icmp_ge (tgt := 29) hc dX2_copyFrom_5 (by decide) (fun c => absurd c (by decide)) (fun _ => ?_)
  refine wp_aload_n hc 1 dX2_copyFrom_8 rfl ?_
  refine wp_get hc hx hin2 (j := (16 + 12 * a)) (Nat.zero_le _) (by have := ha; omega) (ce_1 (kd_st ha)) rfl 0 (by decide) hf11 rfl dX2_copyFrom_9 ?_
  refine wp_iload_n hc 0 dX2_copyFrom_12 rfl ?_
  refine wp_aald8 hc hx (j := (16 + 12 * a + 1)) (Nat.zero_le _) (by have := ha; omega) (kd_bx ha) 4 rfl (vin (by decide)) dX2_copyFrom_13 ?_
  refine wp_aload_n hc 2 dX2_copyFrom_14 rfl ?_
  refine wp_get hc hx hin2 (j := (16 + 12 * q1)) (Nat.zero_le _) (by have := haq1; omega) (ce_1 (kd_st haq1)) rfl 0 (by decide) hf11 rfl dX2_copyFrom_15 ?_
  refine wp_iload_n hc 0 dX2_copyFrom_18 rfl ?_
  refine wp_aald8 hc hx (j := (16 + 12 * q1 + 1)) (Nat.zero_le _) (by have := haq1; omega) (kd_bx haq1) 4 rfl (vin (by decide)) dX2_copyFrom_19 ?_
  refine wp_callVvw (As := [.ref (z (16 + 12 * q1 + 1 + 3 + 4))]) (rest := []) (j := (16 + 12 * a + 1 + 3 + 4)) (w := sX0_copyFrom M4 (16 + 12 * a + 1 + 3 + 4) (16 + 12 * q1 + 1 + 3 + 4)) hc hx (kX0_copyFrom l D cy z hz M4 (16 + 12 * a + 1 + 3 + 4) (16 + 12 * q1 + 1 + 3 + 4) (by have := ha; have : 4 < 8 := (by decide); omega) (kd_fo ha (by decide)) (by have := haq1; have : 4 < 8 := (by decide); omega) (kd_fo haq1 (by decide))) cw25 (Nat.zero_le _) (by have := ha; have : 4 < 8 := (by decide); omega) (ce_0 (kd_fo ha (by decide))) rfl rfl rfl rfl (Nat.le_of_ble_eq_true rfl) dX2_copyFrom_20 (fun M5 hM5 => ?_)
  have kM5 : KF (fun x => 16 + 12 * a ≤ x ∧ x < 28 + 12 * a) M M5 := KF.trans kM4 (show KF (fun x => 16 + 12 * a ≤ x ∧ x < 28 + 12 * a) M4 M5 from by rw [hM5]; exact KF.mono (kfX0_copyFrom _ _ _) (fun x h => by first | exact h | ((try dsimp only at h ⊢); omega)))
  refine wp_iinc (v := 5) (lv' := [(2, .int 5), (0, .ref (z (16 + 12 * a))), (1, .ref (z (16 + 12 * q1)))]) hc 0 dX2_copyFrom_23 rfl (by decide) (by decide) rfl ?_
  refine wp_goto (tgt := 2) hc dX2_copyFrom_26 (by decide) ?_
  refine wp_iload_n hc 0 dX2_copyFrom_2 rfl ?_
  refine wp_bipush (v := 8) hc dX2_copyFrom_3 (by decide) ?_
  refine wp_icmp_ge (tgt := 29) hc dX2_copyFrom_5 (by decide) (fun c => absurd c (by decide)) (fun _ => ?_)
  refine wp_aload_n hc 1 dX2_copyFrom_8 rfl ?_
  refine wp_get hc hx hin2 (j := (16 + 12 * a)) (Nat.zero_le _) (by have := ha; omega) (ce_1 (kd_st ha)) rfl 0 (by decide) hf11 rfl dX2_copyFrom_9 ?_
  refine wp_iload_n hc 0 dX2_copyFrom_12 rfl ?_
  refine wp_aald8 hc hx (j := (16 + 12 * a + 1)) (Nat.zero_le _) (by have := ha; omega) (kd_bx ha) 5 rfl (vin (by decide)) dX2_copyFrom_13 ?_
  refine wp_aload_n hc 2 dX2_copyFrom_14 rfl ?_
  refine wp_get hc hx hin2 (j := (16 + 12 * q1)) (Nat.zero_le _) (by have := haq1; omega) (ce_1 (kd_st haq1)) rfl 0 (by decide) hf11 rfl dX2_copyFrom_15 ?_
  refine wp_iload_n hc 0 dX2_copyFrom_18 rfl ?_
  refine wp_aald8 hc hx (j := (16 + 12 * q1 + 1)) (Nat.zero_le _) (by have := haq1; omega) (kd_bx haq1) 5 rfl (vin (by decide)) dX2_copyFrom_19 ?_
  refine wp_callVvw (As := [.ref (z (16 + 12 * q1 + 1 + 3 + 5))]) (rest := []) (j := (16 + 12 * a + 1 + 3 + 5)) (w := sX0_copyFrom M5 (16 + 12 * a + 1 + 3 + 5) (16 + 12 * q1 + 1 + 3 + 5)) hc hx (kX0_copyFrom l D cy z hz M5 (16 + 12 * a + 1 + 3 + 5) (16 + 12 * q1 + 1 + 3 + 5) (by have := ha; have : 5 < 8 := (by decide); omega) (kd_fo ha (by decide)) (by have := haq1; have : 5 < 8 := (by decide); omega) (kd_fo haq1 (by decide))) cw25 (Nat.zero_le _) (by have := ha; have : 5 < 8 := (by decide); omega) (ce_0 (kd_fo ha (by decide))) rfl rfl rfl rfl (Nat.le_of_ble_eq_true rfl) dX2_copyFrom_20 (fun M6 hM6 => ?_)
  have kM6 : KF (fun x => 16 + 12 * a ≤ x ∧ x < 28 + 12 * a) M M6 := KF.trans kM5 (show KF (fun x => 16 + 12 * a ≤ x ∧ x < 28 + 12 * a) M5 M6 from by rw [hM6]; exact KF.mono (kfX0_copyFrom _ _ _) (fun x h => by first | exact h | ((try dsimp only at h ⊢); omega)))
  refine wp_iinc (v := 6) (lv' := [(2, .int 6), (0, .ref (z (16 + 12 * a))), (1, .ref (z (16 + 12 * q1)))]) hc 0 dX2_copyFrom_23 rfl (by decide) (by decide) rfl ?_
  refine wp_goto (tgt := 2) hc dX2_copyFrom_26 (by decide) ?_
  refine wp_iload_n hc 0 dX2_copyFrom_2 rfl ?_
  refine wp_bipush (v := 8) hc dX2_copyFrom_3 (by decide) ?_
  refine wp_icmp_ge (tgt := 29) hc dX2_copyFrom_5 (by decide) (fun c => absurd c (by decide)) (fun _ => ?_)
  refine wp_aload_n hc 1 dX2_copyFrom_8 rfl ?_
  refine wp_get hc hx hin2 (j := (16 + 12 * a)) (Nat.zero_le _) (by have := ha; omega) (ce_1 (kd_st ha)) rfl 0 (by decide) hf11 rfl dX2_copyFrom_9 ?_
  refine wp_iload_n hc 0 dX2_copyFrom_12 rfl ?_
  refine wp_aald8 hc hx (j := (16 + 12 * a + 1)) (Nat.zero_le _) (by have := ha; omega) (kd_bx ha) 6 rfl (vin (by decide)) dX2_copyFrom_13 ?_
  refine wp_aload_n hc 2 dX2_copyFrom_14 rfl ?_
  refine wp_get hc hx hin2 (j := (16 + 12 * q1)) (Nat.zero_le _) (by have := haq1; omega) (ce_1 (kd_st haq1)) rfl 0 (by decide) hf11 rfl dX2_copyFrom_15 ?_
  refine wp_iload_n hc 0 dX2_copyFrom_18 rfl ?_
  refine wp_aald8 hc hx (j := (16 + 12 * q1 + 1)) (Nat.zero_le _) (by have := haq1; omega) (kd_bx haq1) 6 rfl (vin (by decide)) dX2_copyFrom_19 ?_
  refine wp_callVvw (As := [.ref (z (16 + 12 * q1 + 1 + 3 + 6))]) (rest := []) (j := (16 + 12 * a + 1 + 3 + 6)) (w := sX0_copyFrom M6 (16 + 12 * a + 1 + 3 + 6) (16 + 12 * q1 + 1 + 3 + 6)) hc hx (kX0_copyFrom l D cy z hz M6 (16 + 12 * a + 1 + 3 + 6) (16 + 12 * q1 + 1 + 3 + 6) (by have := ha; have : 6 < 8 := (by decide); omega) (kd_fo ha (by decide)) (by have := haq1; have : 6 < 8 := (by decide); omega) (kd_fo haq1 (by decide))) cw25 (Nat.zero_le _) (by have := ha; have : 6 < 8 := (by decide); omega) (ce_0 (kd_fo ha (by decide))) rfl rfl rfl rfl (Nat.le_of_ble_eq_true rfl) dX2_copyFrom_20 (fun M7 hM7 => ?_)
  have kM7 : KF (fun x => 16 + 12 * a ≤ x ∧ x < 28 + 12 * a) M M7 := KF.trans kM6 (show KF (fun x => 16 + 12 * a ≤ x ∧ x < 28 + 12 * a) M6 M7 from by rw [hM7]; exact KF.mono (kfX0_copyFrom _ _ _) (fun x h => by first | exact h | ((try dsimp only at h ⊢); omega)))
  refine wp_iinc (v := 7) (lv' := [(2, .int 7), (0, .ref (z (16 + 12 * a))), (1, .ref (z (16 + 12 * q1)))]) hc 0 dX2_copyFrom_23 rfl (by decide) (by decide) rfl ?_
  refine wp_goto (tgt := 2) hc dX2_copyFrom_26 (by decide) ?_
  refine wp_iload_n hc 0 dX2_copyFrom_2 rfl ?_
  refine wp_bipush (v := 8) hc dX2_copyFrom_3 (by decide) ?_
  refine wp_icmp_ge (tgt := 29) hc dX2_copyFrom_5 (by decide) (fun c => absurd c (by decide)) (fun _ => ?_)
  refine wp_aload_n hc 1 dX2_copyFrom_8 rfl ?_
  refine wp_get hc hx hin2 (j := (16 + 12 * a)) (Nat.zero_le _) (by have := ha; omega) (ce_1 (kd_st ha)) rfl 0 (by decide) hf11 rfl dX2_copyFrom_9 ?_
  refine wp_iload_n hc 0 dX2_copyFrom_12 rfl ?_
  refine wp_aald8 hc hx (j := (16 + 12 * a + 1)) (Nat.zero_le _) (by have := ha; omega) (kd_bx ha) 7 rfl (vin (by decide)) dX2_copyFrom_13 ?_
  refine wp_aload_n hc 2 dX2_copyFrom_14 rfl ?_
  refine wp_get hc hx hin2 (j := (16 + 12 * q1)) (Nat.zero_le _) (by have := haq1; omega) (ce_1 (kd_st haq1)) rfl 0 (by decide) hf11 rfl dX2_copyFrom_15 ?_
  refine wp_iload_n hc 0 dX2_copyFrom_18 rfl ?_
  refine wp_aald8 hc hx (j := (16 + 12 * q1 + 1)) (Nat.zero_le _) (by have := haq1; omega) (kd_bx haq1) 7 rfl (vin (by decide)) dX2_copyFrom_19 ?_
  refine wp_callVvw (As := [.ref (z (16 + 12 * q1 + 1 + 3 + 7))]) (rest := []) (j := (16 + 12 * a + 1 + 3 + 7)) (w := sX0_copyFrom M7 (16 + 12 * a + 1 + 3 + 7) (16 + 12 * q1 + 1 + 3 + 7)) hc hx (kX0_copyFrom l D cy z hz M7 (16 + 12 * a + 1 + 3 + 7) (16 + 12 * q1 + 1 + 3 + 7) (by have := ha; have : 7 < 8 := (by decide); omega) (kd_fo ha (by decide)) (by have := haq1; have : 7 < 8 := (by decide); omega) (kd_fo haq1 (by decide))) cw25 (Nat.zero_le _) (by have := ha; have : 7 < 8 := (by decide); omega) (ce_0 (kd_fo ha (by decide))) rfl rfl rfl rfl (Nat.le_of_ble_eq_true rfl) dX2_copyFrom_20 (fun M8 hM8 => ?_)
  have kM8 : KF (fun x => 16 + 12 * a ≤ x ∧ x < 28 + 12 * a) M M8 := KF.trans kM7 (show KF (fun x => 16 + 12 * a ≤ x ∧ x < 28 + 12 * a) M7 M8 from by rw [hM8]; exact KF.mono (kfX0_copyFrom _ _ _) (fun x h => by first | exact h | ((try dsimp only at h ⊢); omega)))
  refine wp_iinc (v := 8) (lv' := [(2, .int 8), (0, .ref (z (16 + 12 * a))), (1, .ref (z (16 + 12 * q1)))]) hc 0 dX2_copyFrom_23 rfl (by decide) (by decide) rfl ?_
  refine wp_goto (tgt := 2) hc dX2_copyFrom_26 (by decide) ?_
  refine wp_iload_n hc 0 dX2_copyFrom_2 rfl ?_
  refine wp_bipush (v := 8) hc dX2_copyFrom_3 (by decide) ?_
  refine wp_icmp_ge (tgt := 29) hc dX2_copyFrom_5 (by decide) (fun _ => ?_) (fun c => absurd c (by decide))
  refine wp_aload_n hc 2 dX2_copyFrom_29 rfl ?_
  refine wp_get hc hx hin2 (j := (16 + 12 * q1)) (Nat.zero_le _) (by have := haq1; omega) (ce_1 (kd_st haq1)) rfl 1 (by decide) hf18 rfl dX2_copyFrom_30 ?_
  refine wp_iconst (v := 0) hc dX2_copyFrom_33 (by decide) ?_
  refine wp_aload_n hc 1 dX2_copyFrom_34 rfl ?_
  refine wp_get hc hx hin2 (j := (16 + 12 * a)) (Nat.zero_le _) (by have := ha; omega) (ce_1 (kd_st ha)) rfl 1 (by decide) hf18 rfl dX2_copyFrom_35 ?_
  refine wp_iconst (v := 0) hc dX2_copyFrom_38 (by decide) ?_
  refine wp_bipush (v := 12) hc dX2_copyFrom_39 (by decide) ?_
  refine wp_copyi hc hx (Nat.zero_le _) (by have := ha; omega) (Nat.zero_le _) (by have := haq1; omega) (kd_er ha) (kd_er haq1) (ln_er ha) (ln_er haq1) (by decide +kernel) (by decide +kernel) (by decide +kernel) (by decide +kernel) (by decide) (by decide) dX2_copyFrom_41 ?_
  refine wp_nm (fun M9 hM9 => ?_)
  have kM9 : KF (fun x => 16 + 12 * a ≤ x ∧ x < 28 + 12 * a) M M9 := KF.trans kM8 (by rw [hM9]; exact kf_sr (by show _; omega))
  refine wp_aload_n hc 2 dX2_copyFrom_44 rfl ?_
  refine wp_get hc hx hin2 (j := (16 + 12 * q1)) (Nat.zero_le _) (by have := haq1; omega) (ce_1 (kd_st haq1)) rfl 2 (by decide) hf22 rfl dX2_copyFrom_45 ?_
  refine wp_iconst (v := 0) hc dX2_copyFrom_48 (by decide) ?_
  refine wp_aload_n hc 1 dX2_copyFrom_49 rfl ?_
  refine wp_get hc hx hin2 (j := (16 + 12 * a)) (Nat.zero_le _) (by have := ha; omega) (ce_1 (kd_st ha)) rfl 2 (by decide) hf22 rfl dX2_copyFrom_50 ?_
  refine wp_iconst (v := 0) hc dX2_copyFrom_53 (by decide) ?_
  refine wp_bipush (v := 12) hc dX2_copyFrom_54 (by decide) ?_
  refine wp_copyi hc hx (Nat.zero_le _) (by have := ha; omega) (Nat.zero_le _) (by have := haq1; omega) (kd_kn ha) (kd_kn haq1) (ln_kn ha) (ln_kn haq1) (by decide +kernel) (by decide +kernel) (by decide +kernel) (by decide +kernel) (by decide) (by decide) dX2_copyFrom_56 ?_
  refine wp_nm (fun M10 hM10 => ?_)
  have kM10 : KF (fun x => 16 + 12 * a ≤ x ∧ x < 28 + 12 * a) M M10 := KF.trans kM9 (by rw [hM10]; exact kf_sr (by show _; omega))
  refine wp_aload_n hc 1 dX2_copyFrom_59 rfl ?_
  refine wp_aload_n hc 2 dX2_copyFrom_60 rfl ?_
  refine wp_get hc hx hin2 (j := (16 + 12 * q1)) (Nat.zero_le _) (by have := haq1; omega) (ce_1 (kd_st haq1)) rfl 3 (by decide) hf35 rfl dX2_copyFrom_61 ?_
  refine wp_put (M' := st M10 (16 + 12 * a) 3 (M10.1 (16 + 12 * q1) 3)) hc hx hin2 tyX2 tyX2_ok nmX2 (j := (16 + 12 * a)) (Nat.zero_le _) (by have := ha; omega) (ce_1 (kd_st ha)) rfl 3 (by decide) hf35 rfl rfl rfl (Nat.le_of_ble_eq_true rfl) (by rw [ce_1 (kd_st ha)]; exact ce_stS3 _ _ _) (fun i hi => ce_row (va_up_ne _ _ hi) rfl) dX2_copyFrom_64 ?_
  refine wp_nm (fun M11 hM11 => ?_)
  have kM11 : KF (fun x => 16 + 12 * a ≤ x ∧ x < 28 + 12 * a) M M11 := KF.trans kM10 (by rw [hM11]; first | exact kf_st (by show _; omega) | exact kf_sr (by show _; omega))
  refine wp_aload_n hc 1 dX2_copyFrom_67 rfl ?_
  refine wp_aload_n hc 2 dX2_copyFrom_68 rfl ?_
  refine wp_get hc hx hin2 (j := (16 + 12 * q1)) (Nat.zero_le _) (by have := haq1; omega) (ce_1 (kd_st haq1)) rfl 4 (by decide) hf39 rfl dX2_copyFrom_69 ?_
  refine wp_put (M' := st M11 (16 + 12 * a) 4 (M11.1 (16 + 12 * q1) 4)) hc hx hin2 tyX2 tyX2_ok nmX2 (j := (16 + 12 * a)) (Nat.zero_le _) (by have := ha; omega) (ce_1 (kd_st ha)) rfl 4 (by decide) hf39 rfl (nz (by rw [kM11.1 (16 + 12 * q1) (by show ¬ _; omega)]; exact hk4)) (fz (by rw [kM11.1 (16 + 12 * q1) (by show ¬ _; omega)]; exact hk4)) (Nat.le_of_ble_eq_true rfl) (by rw [ce_1 (kd_st ha)]; exact ce_stS4 _ _ _) (fun i hi => ce_row (va_up_ne _ _ hi) rfl) dX2_copyFrom_72 ?_
  refine wp_nm (fun M12 hM12 => ?_)
  have kM12 : KF (fun x => 16 + 12 * a ≤ x ∧ x < 28 + 12 * a) M M12 := KF.trans kM11 (by rw [hM12]; first | exact kf_st (by show _; omega) | exact kf_sr (by show _; omega))
  refine wp_vret hc hr hk ?_ dX2_copyFrom_75
  show M12 = sX2_copyFrom M a q1
  rw [sX2_copyFrom, tk_eq hM1, tk_eq hM2, tk_eq hM3, tk_eq hM4, tk_eq hM5, tk_eq hM6, tk_eq hM7, tk_eq hM8, tk_eq hM9, tk_eq hM10, tk_eq hM11, tk_eq hM12]
set_option maxRecDepth 10000 in
theorem kfX2_copyFrom (M : Mem) (a : Nat) (q1 : Nat) : KF (fun x => 16 + 12 * a ≤ x ∧ x < 28 + 12 * a) M (sX2_copyFrom M a q1) := by
  unfold sX2_copyFrom
  refine tk_ind (P := KF (fun x => 16 + 12 * a ≤ x ∧ x < 28 + 12 * a) M) _ _ (fun M1 hM1 => ?_)
  have k1 : KF (fun x => 16 + 12 * a ≤ x ∧ x < 28 + 12 * a) M M1 := by rw [hM1]; exact KF.mono (kfX0_copyFrom _ _ _) (fun x h => by first | exact h | ((try dsimp only at h ⊢); omega))
  refine tk_ind (P := KF (fun x => 16 + 12 * a ≤ x ∧ x < 28 + 12 * a) M) _ _ (fun M2 hM2 => ?_)
  have k2 : KF (fun x => 16 + 12 * a ≤ x ∧ x < 28 + 12 * a) M1 M2 := by rw [hM2]; exact KF.mono (kfX0_copyFrom _ _ _) (fun x h => by first | exact h | ((try dsimp only at h ⊢); omega))
  refine tk_ind (P := KF (fun x => 16 + 12 * a ≤ x ∧ x < 28 + 12 * a) M) _ _ (fun M3 hM3 => ?_)
  have k3 : KF (fun x => 16 + 12 * a ≤ x ∧ x < 28 + 12 * a) M2 M3 := by rw [hM3]; exact KF.mono (kfX0_copyFrom _ _ _) (fun x h => by first | exact h | ((try dsimp only at h ⊢); omega))
  refine tk_ind (P := KF (fun x => 16 + 12 * a ≤ x ∧ x < 28 + 12 * a) M) _ _ (fun M4 hM4 => ?_)
  have k4 : KF (fun x => 16 + 12 * a ≤ x ∧ x < 28 + 12 * a) M3 M4 := by rw [hM4]; exact KF.mono (kfX0_copyFrom _ _ _) (fun x h => by first | exact h | ((try dsimp only at h ⊢); omega))
  refine tk_ind (P := KF (fun x => 16 + 12 * a ≤ x ∧ x < 28 + 12 * a) M) _ _ (fun M5 hM5 => ?_)
  have k5 : KF (fun x => 16 + 12 * a ≤ x ∧ x < 28 + 12 * a) M4 M5 := by rw [hM5]; exact KF.mono (kfX0_copyFrom _ _ _) (fun x h => by first | exact h | ((try dsimp only at h ⊢); omega))
  refine tk_ind (P := KF (fun x => 16 + 12 * a ≤ x ∧ x < 28 + 12 * a) M) _ _ (fun M6 hM6 => ?_)
  have k6 : KF (fun x => 16 + 12 * a ≤ x ∧ x < 28 + 12 * a) M5 M6 := by rw [hM6]; exact KF.mono (kfX0_copyFrom _ _ _) (fun x h => by first | exact h | ((try dsimp only at h ⊢); omega))
  refine tk_ind (P := KF (fun x => 16 + 12 * a ≤ x ∧ x < 28 + 12 * a) M) _ _ (fun M7 hM7 => ?_)
  have k7 : KF (fun x => 16 + 12 * a ≤ x ∧ x < 28 + 12 * a) M6 M7 := by rw [hM7]; exact KF.mono (kfX0_copyFrom _ _ _) (fun x h => by first | exact h | ((try dsimp only at h ⊢); omega))
  refine tk_ind (P := KF (fun x => 16 + 12 * a ≤ x ∧ x < 28 + 12 * a) M) _ _ (fun M8 hM8 => ?_)
  have k8 : KF (fun x => 16 + 12 * a ≤ x ∧ x < 28 + 12 * a) M7 M8 := by rw [hM8]; exact KF.mono (kfX0_copyFrom _ _ _) (fun x h => by first | exact h | ((try dsimp only at h ⊢); omega))
  refine tk_ind (P := KF (fun x => 16 + 12 * a ≤ x ∧ x < 28 + 12 * a) M) _ _ (fun M9 hM9 => ?_)
  have k9 : KF (fun x => 16 + 12 * a ≤ x ∧ x < 28 + 12 * a) M8 M9 := by rw [hM9]; first | exact kf_st (by show _; omega) | exact kf_sr (by show _; omega)
  refine tk_ind (P := KF (fun x => 16 + 12 * a ≤ x ∧ x < 28 + 12 * a) M) _ _ (fun M10 hM10 => ?_)
  have k10 : KF (fun x => 16 + 12 * a ≤ x ∧ x < 28 + 12 * a) M9 M10 := by rw [hM10]; first | exact kf_st (by show _; omega) | exact kf_sr (by show _; omega)
  refine tk_ind (P := KF (fun x => 16 + 12 * a ≤ x ∧ x < 28 + 12 * a) M) _ _ (fun M11 hM11 => ?_)
  have k11 : KF (fun x => 16 + 12 * a ≤ x ∧ x < 28 + 12 * a) M10 M11 := by rw [hM11]; first | exact kf_st (by show _; omega) | exact kf_sr (by show _; omega)
  refine tk_ind (P := KF (fun x => 16 + 12 * a ≤ x ∧ x < 28 + 12 * a) M) _ _ (fun M12 hM12 => ?_)
  have k12 : KF (fun x => 16 + 12 * a ≤ x ∧ x < 28 + 12 * a) M11 M12 := by rw [hM12]; first | exact kf_st (by show _; omega) | exact kf_sr (by show _; omega)
  exact (show KF (fun x => 16 + 12 * a ≤ x ∧ x < 28 + 12 * a) M M12 from KF.trans k1 (KF.trans k2 (KF.trans k3 (KF.trans k4 (KF.trans k5 (KF.trans k6 (KF.trans k7 (KF.trans k8 (KF.trans k9 (KF.trans k10 (KF.trans k11 (k12))))))))))))
