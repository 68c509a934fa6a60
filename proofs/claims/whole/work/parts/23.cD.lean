def sX3_takeByte (M : Mem) (i1 : Int32) : Int32 × Mem :=
  if (fX5_isBelow i1 128) = 0 then
  ((-2), M)
  else
  if (fX5_isBelow (M.1 10 4) 120) = 0 then
  ((-4), M)
  else
  tk (st M 11 (M.1 10 4).toNatClampNeg (vp_nar .byte i1.toInt8.toInt32)) fun M1 =>
  tk (st M1 10 4 ((M1.1 10 4) + 1)) fun M2 =>
  ((M2.1 10 4), M2)
set_option maxHeartbeats 4000000 in
set_option maxRecDepth 100000 in
theorem kX3_takeByte (l : Launch) (D : va_G) (cy : Nat → ClassId) (z : Nat → Nat) (hz : zI z) (M : Mem) (i1 : Int32) : KI l yX3_takeByte wsX3_takeByte { frames := 1, cells := 0, slots := 0, locals := 21 } D cy z 0 100 [.ref (z 10), .int i1] M (fun r u => (r, u) = sX3_takeByte M i1) := by
  refine met_wp (lv := [(0, .ref (z 10)), (1, .int i1)]) hz (by decide) (by decide) rfl rfl (Nat.le_of_ble_eq_true rfl) rfl ?_
  intro p e s m below meth c hc hx hr hk
  have hNW := hx.2.1
  have hin3 : ∀ w ∈ wsX30, w ∈ wsX3_takeByte := by decide +kernel
  have hf9 : Cond.fieldLink RX3 9 (TX3 0).1 (TX3 0).2.1 (TX3 0).2.2.1 ∈ wsX3_takeByte := by decide +kernel
  have hf29 : Cond.fieldLink RX3 29 (TX3 4).1 (TX3 4).2.1 (TX3 4).2.2.1 ∈ wsX3_takeByte := by decide +kernel
  have cw25 : va_CN ({ frames := 1, cells := 0, slots := 0, locals := 21 }) s _ RX3 25 yX5_isBelow RX5 cX5_isBelow 2 (some .boolean) wsX5_isBelow ({ frames := 0, cells := 0, slots := 0, locals := 0 }) 0 0 2 ∧ (Cond.static yX5_isBelow).before _ s = true ∧ True := ⟨va_cnB 2 hc.2.2.2.2 gX3_takeByte_X5_isBelow_n25 rfl rfl rfl hNW.2.2.2.1 (hc.2.2.2.2 _ (by decide +kernel)) (by decide +kernel) ⟨Nat.le_of_ble_eq_true rfl, Nat.le_of_ble_eq_true rfl⟩, hc.2.2.2.2 _ (by decide +kernel), trivial⟩
  refine wp_iload_n hc 1 dX3_takeByte_0 rfl ?_
  refine wp_sipush (v := 128) hc dX3_takeByte_1 (by decide) ?_
  refine wp_callNg (As := [.int i1, .int 128]) (rest := []) (v := (fX5_isBelow i1 128)) hc hNW (kX5_isBelow l i1 128) cw25 rfl rfl (Nat.le_of_ble_eq_true rfl) dX3_takeByte_4 ?_
  refine wp_if_ne (tgt := 13) hc dX3_takeByte_7 (by decide) (fun c7 => ?_) (fun c7 => ?_)
  · refine wp_aload_n hc 0 dX3_takeByte_13 rfl ?_
    refine wp_get hc hx hin3 (j := 10) (by decide) (by decide) (ce_2 rfl) rfl 4 (by decide) hf29 rfl dX3_takeByte_14 ?_
    refine wp_bipush (v := 120) hc dX3_takeByte_17 (by decide) ?_
    refine wp_callNg (As := [.int (M.1 10 4), .int 120]) (rest := []) (v := (fX5_isBelow (M.1 10 4) 120)) hc hNW (kX5_isBelow l (M.1 10 4) 120) cw25 rfl rfl (Nat.le_of_ble_eq_true rfl) dX3_takeByte_19 ?_
    refine wp_if_ne (tgt := 28) hc dX3_takeByte_22 (by decide) (fun c22 => ?_) (fun c22 => ?_)
    · refine wp_aload_n hc 0 dX3_takeByte_28 rfl ?_
      refine wp_get hc hx hin3 (j := 10) (by decide) (by decide) (ce_2 rfl) rfl 0 (by decide) hf9 rfl dX3_takeByte_29 ?_
      refine wp_aload_n hc 0 dX3_takeByte_32 rfl ?_
      refine wp_get hc hx hin3 (j := 10) (by decide) (by decide) (ce_2 rfl) rfl 4 (by decide) hf29 rfl dX3_takeByte_33 ?_
      refine wp_iload_n hc 1 dX3_takeByte_36 rfl ?_
      refine wp_i2b hc dX3_takeByte_37 ?_
      refine wp_bast hc hx (j := 11) (by decide) (by decide) rfl (M.1 10 4).toNatClampNeg rfl (show vp_in _ 120 from vin8 (below_in c22)) dX3_takeByte_38 ?_
      refine wp_nm (fun M1 hM1 => ?_)
      refine wp_aload_n hc 0 dX3_takeByte_39 rfl ?_
      refine wp_dup hc dX3_takeByte_40 rfl ?_
      refine wp_get hc hx hin3 (j := 10) (by decide) (by decide) (ce_2 rfl) rfl 4 (by decide) hf29 rfl dX3_takeByte_41 ?_
      refine wp_iconst (v := 1) hc dX3_takeByte_44 (by decide) ?_
      refine wp_iadd hc dX3_takeByte_45 ?_
      refine wp_put (M' := st M1 10 4 ((M1.1 10 4) + 1)) hc hx hin3 tyX3 tyX3_ok nmX3 (j := 10) (by decide) (by decide) (ce_2 rfl) rfl 4 (by decide) hf29 rfl rfl rfl (Nat.le_of_ble_eq_true rfl) (by rw [ce_2 rfl]; exact ce_stT4 _ _ _) (fun i hi => ce_row (va_up_ne _ _ hi) rfl) dX3_takeByte_46 ?_
      refine wp_nm (fun M2 hM2 => ?_)
      refine wp_aload_n hc 0 dX3_takeByte_49 rfl ?_
      refine wp_get hc hx hin3 (j := 10) (by decide) (by decide) (ce_2 rfl) rfl 4 (by decide) hf29 rfl dX3_takeByte_50 ?_
      refine wp_iret hc hr hk ?_ dX3_takeByte_53
      show ((M2.1 10 4), M2) = sX3_takeByte M i1
      rw [sX3_takeByte, if_neg c7, if_neg c22, tk_eq hM1, tk_eq hM2]
    refine wp_bipush (v := (-4)) hc dX3_takeByte_25 (by decide) ?_
    refine wp_iret hc hr hk ?_ dX3_takeByte_27
    show ((-4), M) = sX3_takeByte M i1
    rw [sX3_takeByte, if_neg c7, if_pos c22]
  refine wp_bipush (v := (-2)) hc dX3_takeByte_10 (by decide) ?_
  refine wp_iret hc hr hk ?_ dX3_takeByte_12
  show ((-2), M) = sX3_takeByte M i1
  rw [sX3_takeByte, if_pos c7]
set_option maxRecDepth 10000 in
theorem kfX3_takeByte (M : Mem) (i1 : Int32) : KF2 (fun x => 10 ≤ x ∧ x ≤ 14) M (sX3_takeByte M i1) := by
  unfold sX3_takeByte
  refine ite_ind (P := KF2 (fun x => 10 ≤ x ∧ x ≤ 14) M) (fun c1 => ?_) (fun c1 => ?_)
  · exact (show KF (fun x => 10 ≤ x ∧ x ≤ 14) M M from KF.rf)
  · refine ite_ind (P := KF2 (fun x => 10 ≤ x ∧ x ≤ 14) M) (fun c2 => ?_) (fun c2 => ?_)
    · exact (show KF (fun x => 10 ≤ x ∧ x ≤ 14) M M from KF.rf)
    · refine tk_ind (P := KF2 (fun x => 10 ≤ x ∧ x ≤ 14) M) _ _ (fun M1 hM1 => ?_)
      have k3 : KF (fun x => 10 ≤ x ∧ x ≤ 14) M M1 := by rw [hM1]; first | exact kf_st (by show _; omega) | exact kf_sr (by show _; omega)
      refine tk_ind (P := KF2 (fun x => 10 ≤ x ∧ x ≤ 14) M) _ _ (fun M2 hM2 => ?_)
      have k4 : KF (fun x => 10 ≤ x ∧ x ≤ 14) M1 M2 := by rw [hM2]; first | exact kf_st (by show _; omega) | exact kf_sr (by show _; omega)
      exact (show KF (fun x => 10 ≤ x ∧ x ≤ 14) M M2 from KF.trans k3 (k4))
def sX3_empty (M : Mem)  : Int32 × Mem :=
  tk (st M 10 4 0) fun M1 =>
  ((M.1 10 4), M1)
set_option maxHeartbeats 4000000 in
set_option maxRecDepth 100000 in
theorem kX3_empty (l : Launch) (D : va_G) (cy : Nat → ClassId) (z : Nat → Nat) (hz : zI z) (M : Mem)  : KI l yX3_empty wsX3_empty { frames := 0, cells := 0, slots := 0, locals := 0 } D cy z 0 100 [.ref (z 10)] M (fun r u => (r, u) = sX3_empty M) := by
  refine met_wp (lv := [(0, .ref (z 10))]) hz (by decide) (by decide) rfl rfl (Nat.le_of_ble_eq_true rfl) rfl ?_
  intro p e s m below meth c hc hx hr hk
  have hNW := hx.2.1
  have hin3 : ∀ w ∈ wsX30, w ∈ wsX3_empty := by decide +kernel
  have hf29 : Cond.fieldLink RX3 29 (TX3 4).1 (TX3 4).2.1 (TX3 4).2.2.1 ∈ wsX3_empty := by decide +kernel
  refine wp_aload_n hc 0 dX3_empty_0 rfl ?_
  refine wp_get hc hx hin3 (j := 10) (by decide) (by decide) (ce_2 rfl) rfl 4 (by decide) hf29 rfl dX3_empty_1 ?_
  refine wp_istore_n (lv' := [(1, .int (M.1 10 4)), (0, .ref (z 10))]) hc dX3_empty_4 (by decide) rfl ?_
  refine wp_aload_n hc 1 dX3_empty_5 rfl ?_
  refine wp_iconst (v := 0) hc dX3_empty_6 (by decide) ?_
  refine wp_put (M' := st M 10 4 0) hc hx hin3 tyX3 tyX3_ok nmX3 (j := 10) (by decide) (by decide) (ce_2 rfl) rfl 4 (by decide) hf29 rfl rfl rfl (Nat.le_of_ble_eq_true rfl) (by rw [ce_2 rfl]; exact ce_stT4 _ _ _) (fun i hi => ce_row (va_up_ne _ _ hi) rfl) dX3_empty_7 ?_
  refine wp_nm (fun M1 hM1 => ?_)
  refine wp_iload_n hc 0 dX3_empty_10 rfl ?_
  refine wp_iret hc hr hk ?_ dX3_empty_11
  show ((M.1 10 4), M1) = sX3_empty M
  rw [sX3_empty, tk_eq hM1]
set_option maxRecDepth 10000 in
theorem kfX3_empty (M : Mem)  : KF2 (fun x => 10 ≤ x ∧ x ≤ 14) M (sX3_empty M) := by
  unfold sX3_empty
  refine tk_ind (P := KF2 (fun x => 10 ≤ x ∧ x ≤ 14) M) _ _ (fun M1 hM1 => ?_)
  have k1 : KF (fun x => 10 ≤ x ∧ x ≤ 14) M M1 := by rw [hM1]; first | exact kf_st (by show _; omega) | exact kf_sr (by show _; omega)
  exact (show KF (fun x => 10 ≤ x ∧ x ≤ 14) M M1 from k1)
def fX3_letterOf (M : Mem) (i1 : Int32) : Int32 :=
  if (fX5_isBelow i1 60) = 0 then
  (-1)
  else
  (M.1 12 i1.toNatClampNeg)
set_option maxHeartbeats 4000000 in
set_option maxRecDepth 100000 in
theorem kX3_letterOf (l : Launch) (D : va_G) (cy : Nat → ClassId) (z : Nat → Nat) (hz : zI z) (M : Mem) (i1 : Int32) : KI l yX3_letterOf wsX3_letterOf { frames := 1, cells := 0, slots := 0, locals := 21 } D cy z 0 100 [.ref (z 10), .int i1] M (fun r u => r = fX3_letterOf M i1 ∧ u = M) := by
  refine met_wp (lv := [(0, .ref (z 10)), (1, .int i1)]) hz (by decide) (by decide) rfl rfl (Nat.le_of_ble_eq_true rfl) rfl ?_
  intro p e s m below meth c hc hx hr hk
  have hNW := hx.2.1
  have hin3 : ∀ w ∈ wsX30, w ∈ wsX3_letterOf := by decide +kernel
  have hf15 : Cond.fieldLink RX3 15 (TX3 1).1 (TX3 1).2.1 (TX3 1).2.2.1 ∈ wsX3_letterOf := by decide +kernel
  have cw25 : va_CN ({ frames := 1, cells := 0, slots := 0, locals := 21 }) s _ RX3 25 yX5_isBelow RX5 cX5_isBelow 2 (some .boolean) wsX5_isBelow ({ frames := 0, cells := 0, slots := 0, locals := 0 }) 0 0 2 ∧ (Cond.static yX5_isBelow).before _ s = true ∧ True := ⟨va_cnB 2 hc.2.2.2.2 gX3_letterOf_X5_isBelow_n25 rfl rfl rfl hNW.2.2.2.1 (hc.2.2.2.2 _ (by decide +kernel)) (by decide +kernel) ⟨Nat.le_of_ble_eq_true rfl, Nat.le_of_ble_eq_true rfl⟩, hc.2.2.2.2 _ (by decide +kernel), trivial⟩
  refine wp_iload_n hc 1 dX3_letterOf_0 rfl ?_
  refine wp_bipush (v := 60) hc dX3_letterOf_1 (by decide) ?_
  refine wp_callNg (As := [.int i1, .int 60]) (rest := []) (v := (fX5_isBelow i1 60)) hc hNW (kX5_isBelow l i1 60) cw25 rfl rfl (Nat.le_of_ble_eq_true rfl) dX3_letterOf_3 ?_
  refine wp_if_eq (tgt := 18) hc dX3_letterOf_6 (by decide) (fun c6 => ?_) (fun c6 => ?_)
  · refine wp_iconst (v := (-1)) hc dX3_letterOf_18 (by decide) ?_
    refine wp_iret hc hr hk ?_ dX3_letterOf_19
    show (-1) = fX3_letterOf M i1 ∧ M = M
    exact ⟨by rw [fX3_letterOf, if_pos c6], rfl⟩
  refine wp_aload_n hc 0 dX3_letterOf_9 rfl ?_
  refine wp_get hc hx hin3 (j := 10) (by decide) (by decide) (ce_2 rfl) rfl 1 (by decide) hf15 rfl dX3_letterOf_10 ?_
  refine wp_iload_n hc 1 dX3_letterOf_13 rfl ?_
  refine wp_bald hc hx (j := 12) (by decide) (by decide) rfl i1.toNatClampNeg rfl (show vp_in _ 60 from vin8 (below_in c6)) dX3_letterOf_14 ?_
  refine wp_goto (tgt := 19) hc dX3_letterOf_15 (by decide) ?_
  refine wp_iret hc hr hk ?_ dX3_letterOf_19
  show (M.1 12 i1.toNatClampNeg) = fX3_letterOf M i1 ∧ M = M
  exact ⟨by rw [fX3_letterOf, if_neg c6], rfl⟩
def fX3_numberOf (M : Mem) (i1 : Int32) (i2 : Int32) : Int32 :=
  if (fX5_isBelow i1 60) = 0 then
  (-1)
  else
  if (fX5_isBelow i2 120) = 0 then
  (-1)
  else
  if (fX5_isBelow ((M.1 13 i1.toNatClampNeg) + i2) 120) = 0 then
  (-1)
  else
  (M.1 14 ((M.1 13 i1.toNatClampNeg) + i2).toNatClampNeg)
set_option maxHeartbeats 4000000 in
set_option maxRecDepth 100000 in
theorem kX3_numberOf (l : Launch) (D : va_G) (cy : Nat → ClassId) (z : Nat → Nat) (hz : zI z) (M : Mem) (i1 : Int32) (i2 : Int32) : KI l yX3_numberOf wsX3_numberOf { frames := 1, cells := 0, slots := 0, locals := 21 } D cy z 0 100 [.ref (z 10), .int i1, .int i2] M (fun r u => r = fX3_numberOf M i1 i2 ∧ u = M) := by
  refine met_wp (lv := [(0, .ref (z 10)), (1, .int i1), (2, .int i2)]) hz (by decide) (by decide) rfl rfl (Nat.le_of_ble_eq_true rfl) rfl ?_
  intro p e s m below meth c hc hx hr hk
  have hNW := hx.2.1
  have hin3 : ∀ w ∈ wsX30, w ∈ wsX3_numberOf := by decide +kernel
  have hf18 : Cond.fieldLink RX3 18 (TX3 2).1 (TX3 2).2.1 (TX3 2).2.2.1 ∈ wsX3_numberOf := by decide +kernel
  have hf22 : Cond.fieldLink RX3 22 (TX3 3).1 (TX3 3).2.1 (TX3 3).2.2.1 ∈ wsX3_numberOf := by decide +kernel
  have cw25 : va_CN ({ frames := 1, cells := 0, slots := 0, locals := 21 }) s _ RX3 25 yX5_isBelow RX5 cX5_isBelow 2 (some .boolean) wsX5_isBelow ({ frames := 0, cells := 0, slots := 0, locals := 0 }) 0 0 2 ∧ (Cond.static yX5_isBelow).before _ s = true ∧ True := ⟨va_cnB 2 hc.2.2.2.2 gX3_numberOf_X5_isBelow_n25 rfl rfl rfl hNW.2.2.2.1 (hc.2.2.2.2 _ (by decide +kernel)) (by decide +kernel) ⟨Nat.le_of_ble_eq_true rfl, Nat.le_of_ble_eq_true rfl⟩, hc.2.2.2.2 _ (by decide +kernel), trivial⟩
  refine wp_iload_n hc 1 dX3_numberOf_0 rfl ?_
  refine wp_bipush (v := 60) hc dX3_numberOf_1 (by decide) ?_
  refine wp_callNg (As := [.int i1, .int 60]) (rest := []) (v := (fX5_isBelow i1 60)) hc hNW (kX5_isBelow l i1 60) cw25 rfl rfl (Nat.le_of_ble_eq_true rfl) dX3_numberOf_3 ?_
  refine wp_if_eq (tgt := 18) hc dX3_numberOf_6 (by decide) (fun c6 => ?_) (fun c6 => ?_)
  · refine wp_iconst (v := (-1)) hc dX3_numberOf_18 (by decide) ?_
    refine wp_iret hc hr hk ?_ dX3_numberOf_19
    show (-1) = fX3_numberOf M i1 i2 ∧ M = M
    exact ⟨by rw [fX3_numberOf, if_pos c6], rfl⟩
  refine wp_iload_n hc 2 dX3_numberOf_9 rfl ?_
  refine wp_bipush (v := 120) hc dX3_numberOf_10 (by decide) ?_
  refine wp_callNg (As := [.int i2, .int 120]) (rest := []) (v := (fX5_isBelow i2 120)) hc hNW (kX5_isBelow l i2 120) cw25 rfl rfl (Nat.le_of_ble_eq_true rfl) dX3_numberOf_12 ?_
  refine wp_if_ne (tgt := 20) hc dX3_numberOf_15 (by decide) (fun c15 => ?_) (fun c15 => ?_)
  · refine wp_aload_n hc 0 dX3_numberOf_20 rfl ?_
    refine wp_get hc hx hin3 (j := 10) (by decide) (by decide) (ce_2 rfl) rfl 2 (by decide) hf18 rfl dX3_numberOf_21 ?_
    refine wp_iload_n hc 1 dX3_numberOf_24 rfl ?_
    refine wp_iald hc hx (j := 13) (by decide) (by decide) rfl i1.toNatClampNeg rfl (show vp_in _ 60 from vin8 (below_in c6)) dX3_numberOf_25 ?_
    refine wp_iload_n hc 2 dX3_numberOf_26 rfl ?_
    refine wp_iadd hc dX3_numberOf_27 ?_
    refine wp_istore_n (lv' := [(3, .int ((M.1 13 i1.toNatClampNeg) + i2)), (0, .ref (z 10)), (1, .int i1), (2, .int i2)]) hc dX3_numberOf_28 (by decide) rfl ?_
    refine wp_iload_n hc 0 dX3_numberOf_29 rfl ?_
    refine wp_bipush (v := 120) hc dX3_numberOf_30 (by decide) ?_
    refine wp_callNg (As := [.int ((M.1 13 i1.toNatClampNeg) + i2), .int 120]) (rest := []) (v := (fX5_isBelow ((M.1 13 i1.toNatClampNeg) + i2) 120)) hc hNW (kX5_isBelow l ((M.1 13 i1.toNatClampNeg) + i2) 120) cw25 rfl rfl (Nat.le_of_ble_eq_true rfl) dX3_numberOf_32 ?_
    refine wp_if_eq (tgt := 47) hc dX3_numberOf_35 (by decide) (fun c35 => ?_) (fun c35 => ?_)
    · refine wp_iconst (v := (-1)) hc dX3_numberOf_47 (by decide) ?_
      refine wp_iret hc hr hk ?_ dX3_numberOf_48
      show (-1) = fX3_numberOf M i1 i2 ∧ M = M
      exact ⟨by rw [fX3_numberOf, if_neg c6, if_neg c15, if_pos c35], rfl⟩
    refine wp_aload_n hc 1 dX3_numberOf_38 rfl ?_
    refine wp_get hc hx hin3 (j := 10) (by decide) (by decide) (ce_2 rfl) rfl 3 (by decide) hf22 rfl dX3_numberOf_39 ?_
    refine wp_iload_n hc 0 dX3_numberOf_42 rfl ?_
    refine wp_iald hc hx (j := 14) (by decide) (by decide) rfl ((M.1 13 i1.toNatClampNeg) + i2).toNatClampNeg rfl (show vp_in _ 120 from vin8 (below_in c35)) dX3_numberOf_43 ?_
    refine wp_goto (tgt := 48) hc dX3_numberOf_44 (by decide) ?_
    refine wp_iret hc hr hk ?_ dX3_numberOf_48
    show (M.1 14 ((M.1 13 i1.toNatClampNeg) + i2).toNatClampNeg) = fX3_numberOf M i1 i2 ∧ M = M
    exact ⟨by rw [fX3_numberOf, if_neg c6, if_neg c15, if_neg c35], rfl⟩
  refine wp_iconst (v := (-1)) hc dX3_numberOf_18 (by decide) ?_
  refine wp_iret hc hr hk ?_ dX3_numberOf_19
  show (-1) = fX3_numberOf M i1 i2 ∧ M = M
  exact ⟨by rw [fX3_numberOf, if_neg c6, if_pos c15], rfl⟩
def fX3_here (M : Mem)  : Int32 :=
  if (M.1 10 4) ≤ (M.1 10 7) then
  (-1)
  else
  if (fX5_isBelow (M.1 10 7) 120) = 0 then
  (-1)
  else
  (M.1 11 (M.1 10 7).toNatClampNeg)
set_option maxHeartbeats 4000000 in
set_option maxRecDepth 100000 in
theorem kX3_here (l : Launch) (D : va_G) (cy : Nat → ClassId) (z : Nat → Nat) (hz : zI z) (M : Mem)  : KI l yX3_here wsX3_here { frames := 1, cells := 0, slots := 0, locals := 21 } D cy z 0 100 [.ref (z 10)] M (fun r u => r = fX3_here M ∧ u = M) := by
  refine met_wp (lv := [(0, .ref (z 10))]) hz (by decide) (by decide) rfl rfl (Nat.le_of_ble_eq_true rfl) rfl ?_
  intro p e s m below meth c hc hx hr hk
  have hNW := hx.2.1
  have hin3 : ∀ w ∈ wsX30, w ∈ wsX3_here := by decide +kernel
  have hf9 : Cond.fieldLink RX3 9 (TX3 0).1 (TX3 0).2.1 (TX3 0).2.2.1 ∈ wsX3_here := by decide +kernel
  have hf29 : Cond.fieldLink RX3 29 (TX3 4).1 (TX3 4).2.1 (TX3 4).2.2.1 ∈ wsX3_here := by decide +kernel
  have hf39 : Cond.fieldLink RX3 39 (TX3 7).1 (TX3 7).2.1 (TX3 7).2.2.1 ∈ wsX3_here := by decide +kernel
  have cw25 : va_CN ({ frames := 1, cells := 0, slots := 0, locals := 21 }) s _ RX3 25 yX5_isBelow RX5 cX5_isBelow 2 (some .boolean) wsX5_isBelow ({ frames := 0, cells := 0, slots := 0, locals := 0 }) 0 0 2 ∧ (Cond.static yX5_isBelow).before _ s = true ∧ True := ⟨va_cnB 2 hc.2.2.2.2 gX3_here_X5_isBelow_n25 rfl rfl rfl hNW.2.2.2.1 (hc.2.2.2.2 _ (by decide +kernel)) (by decide +kernel) ⟨Nat.le_of_ble_eq_true rfl, Nat.le_of_ble_eq_true rfl⟩, hc.2.2.2.2 _ (by decide +kernel), trivial⟩
  refine wp_aload_n hc 0 dX3_here_0 rfl ?_
  refine wp_get hc hx hin3 (j := 10) (by decide) (by decide) (ce_2 rfl) rfl 7 (by decide) hf39 rfl dX3_here_1 ?_
  refine wp_aload_n hc 0 dX3_here_4 rfl ?_
  refine wp_get hc hx hin3 (j := 10) (by decide) (by decide) (ce_2 rfl) rfl 4 (by decide) hf29 rfl dX3_here_5 ?_
  refine wp_icmp_ge (tgt := 35) hc dX3_here_8 (by decide) (fun c8 => ?_) (fun c8 => ?_)
  · refine wp_iconst (v := (-1)) hc dX3_here_35 (by decide) ?_
    refine wp_iret hc hr hk ?_ dX3_here_36
    show (-1) = fX3_here M ∧ M = M
    exact ⟨by rw [fX3_here, if_pos c8], rfl⟩
  refine wp_aload_n hc 0 dX3_here_11 rfl ?_
  refine wp_get hc hx hin3 (j := 10) (by decide) (by decide) (ce_2 rfl) rfl 7 (by decide) hf39 rfl dX3_here_12 ?_
  refine wp_bipush (v := 120) hc dX3_here_15 (by decide) ?_
  refine wp_callNg (As := [.int (M.1 10 7), .int 120]) (rest := []) (v := (fX5_isBelow (M.1 10 7) 120)) hc hNW (kX5_isBelow l (M.1 10 7) 120) cw25 rfl rfl (Nat.le_of_ble_eq_true rfl) dX3_here_17 ?_
  refine wp_if_eq (tgt := 35) hc dX3_here_20 (by decide) (fun c20 => ?_) (fun c20 => ?_)
  · refine wp_iconst (v := (-1)) hc dX3_here_35 (by decide) ?_
    refine wp_iret hc hr hk ?_ dX3_here_36
    show (-1) = fX3_here M ∧ M = M
    exact ⟨by rw [fX3_here, if_neg c8, if_pos c20], rfl⟩
  refine wp_aload_n hc 0 dX3_here_23 rfl ?_
  refine wp_get hc hx hin3 (j := 10) (by decide) (by decide) (ce_2 rfl) rfl 0 (by decide) hf9 rfl dX3_here_24 ?_
  refine wp_aload_n hc 0 dX3_here_27 rfl ?_
  refine wp_get hc hx hin3 (j := 10) (by decide) (by decide) (ce_2 rfl) rfl 7 (by decide) hf39 rfl dX3_here_28 ?_
  refine wp_bald hc hx (j := 11) (by decide) (by decide) rfl (M.1 10 7).toNatClampNeg rfl (show vp_in _ 120 from vin8 (below_in c20)) dX3_here_31 ?_
  refine wp_goto (tgt := 36) hc dX3_here_32 (by decide) ?_
  refine wp_iret hc hr hk ?_ dX3_here_36
  show (M.1 11 (M.1 10 7).toNatClampNeg) = fX3_here M ∧ M = M
  exact ⟨by rw [fX3_here, if_neg c8, if_neg c20], rfl⟩
