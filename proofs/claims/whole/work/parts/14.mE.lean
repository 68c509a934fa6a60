def sX6_comes (M : Mem) (i1 : Int32) (i2 : Int32) (i3 : Int32) (i4 : Int32) : Int32 × Mem :=
  tk (st M 101 (fX6_boxAt M (M.1 101 0)).toNatClampNeg i1) fun M1 =>
  tk (st M1 101 ((fX6_boxAt M (M.1 101 0)) + 1).toNatClampNeg i2) fun M2 =>
  tk (st M2 101 ((fX6_boxAt M (M.1 101 0)) + 2).toNatClampNeg i3) fun M3 =>
  tk (st M3 101 ((fX6_boxAt M (M.1 101 0)) + 3).toNatClampNeg i4) fun M4 =>
  tk (st M4 101 0 ((M4.1 101 0) + 1)) fun M5 =>
  (((M5.1 101 0) - 1), M5)
set_option maxHeartbeats 4000000 in
set_option maxRecDepth 100000 in
theorem kX6_comes (l : Launch) (D : va_G) (cy : Nat → ClassId) (z : Nat → Nat) (hz : zI z) (M : Mem) (i1 : Int32) (i2 : Int32) (i3 : Int32) (i4 : Int32) (hm : 0 ≤ (M.1 101 0).toInt ∧ (M.1 101 0).toInt < 8) : KI l yX6_comes wsX6_comes { frames := 1, cells := 0, slots := 0, locals := 21 } D cy z 100 15 [.ref (z 100), .int i1, .int i2, .int i3, .int i4] M (fun r u => (r, u) = sX6_comes M i1 i2 i3 i4) := by
  refine met_wp (lv := [(0, .ref (z 100)), (1, .int i1), (2, .int i2), (3, .int i3), (4, .int i4)]) hz (by decide) (by decide) rfl rfl (Nat.le_of_ble_eq_true rfl) rfl ?_
  intro p e s m below meth c hc hx hr hk
  have hNW := hx.2.1
  have hin6 : ∀ w ∈ wsX60, w ∈ wsX6_comes := by decide +kernel
  have hf7 : Cond.fieldLink RX6 7 (TX6 0).1 (TX6 0).2.1 (TX6 0).2.2.1 ∈ wsX6_comes := by decide +kernel
  have cw85 : CallW ({ frames := 1, cells := 0, slots := 0, locals := 21 }) s _ RX6 RX6 85 yX6_boxAt cX6_boxAt 2 (some .int) wsX6_boxAt ({ frames := 0, cells := 0, slots := 0, locals := 0 }) 0 0 1 := cwV 1 hc.2.2.2.2 gX6_comes_X6_boxAt rfl rfl rfl (by decide +kernel) ⟨Nat.le_of_ble_eq_true rfl, Nat.le_of_ble_eq_true rfl⟩
  refine wp_aload_n hc 0 dX6_comes_0 rfl ?_
  refine wp_aload_n hc 0 dX6_comes_1 rfl ?_
  refine wp_get hc hx hin6 (j := 100) (by decide) (by decide) (ce_5 rfl) rfl 0 (by decide) hf7 rfl dX6_comes_2 ?_
  refine wp_iconst (v := 0) hc dX6_comes_5 (by decide) ?_
  refine wp_iald hc hx (j := 101) (by decide) (by decide) rfl 0 rfl (vin (by decide)) dX6_comes_6 ?_
  refine wp_callVf (As := [.int (M.1 101 0)]) (rest := []) (j := 100) (v := (fX6_boxAt M (M.1 101 0))) hc hx (kX6_boxAt l D cy z hz M (M.1 101 0)) cw85 (by decide) (by decide) (ce_5 rfl) rfl rfl rfl rfl (Nat.le_of_ble_eq_true rfl) dX6_comes_7 ?_
  refine wp_istore (lv' := [(5, .int (fX6_boxAt M (M.1 101 0))), (0, .ref (z 100)), (1, .int i1), (2, .int i2), (3, .int i3), (4, .int i4)]) hc dX6_comes_10 (by decide) rfl ?_
  refine wp_aload_n hc 1 dX6_comes_12 rfl ?_
  refine wp_get hc hx hin6 (j := 100) (by decide) (by decide) (ce_5 rfl) rfl 0 (by decide) hf7 rfl dX6_comes_13 ?_
  refine wp_iload hc 0 dX6_comes_16 rfl ?_
  refine wp_iload_n hc 2 dX6_comes_18 rfl ?_
  refine wp_iast hc hx (j := 101) (by decide) (by decide) rfl (fX6_boxAt M (M.1 101 0)).toNatClampNeg rfl (ixb hm) dX6_comes_19 ?_
  refine wp_nm (fun M1 hM1 => ?_)
  refine wp_aload_n hc 1 dX6_comes_20 rfl ?_
  refine wp_get hc hx hin6 (j := 100) (by decide) (by decide) (ce_5 rfl) rfl 0 (by decide) hf7 rfl dX6_comes_21 ?_
  refine wp_iload hc 0 dX6_comes_24 rfl ?_
  refine wp_iconst (v := 1) hc dX6_comes_26 (by decide) ?_
  refine wp_iadd hc dX6_comes_27 ?_
  refine wp_iload_n hc 3 dX6_comes_28 rfl ?_
  refine wp_iast hc hx (j := 101) (by decide) (by decide) rfl ((fX6_boxAt M (M.1 101 0)) + 1).toNatClampNeg rfl (ixbk hm (by decide)) dX6_comes_29 ?_
  refine wp_nm (fun M2 hM2 => ?_)
  refine wp_aload_n hc 1 dX6_comes_30 rfl ?_
  refine wp_get hc hx hin6 (j := 100) (by decide) (by decide) (ce_5 rfl) rfl 0 (by decide) hf7 rfl dX6_comes_31 ?_
  refine wp_iload hc 0 dX6_comes_34 rfl ?_
  refine wp_iconst (v := 2) hc dX6_comes_36 (by decide) ?_
  refine wp_iadd hc dX6_comes_37 ?_
  refine wp_iload_n hc 4 dX6_comes_38 rfl ?_
  refine wp_iast hc hx (j := 101) (by decide) (by decide) rfl ((fX6_boxAt M (M.1 101 0)) + 2).toNatClampNeg rfl (ixbk hm (by decide)) dX6_comes_39 ?_
  refine wp_nm (fun M3 hM3 => ?_)
  refine wp_aload_n hc 1 dX6_comes_40 rfl ?_
  refine wp_get hc hx hin6 (j := 100) (by decide) (by decide) (ce_5 rfl) rfl 0 (by decide) hf7 rfl dX6_comes_41 ?_
  refine wp_iload hc 0 dX6_comes_44 rfl ?_
  refine wp_iconst (v := 3) hc dX6_comes_46 (by decide) ?_
  refine wp_iadd hc dX6_comes_47 ?_
  refine wp_iload hc 5 dX6_comes_48 rfl ?_
  refine wp_iast hc hx (j := 101) (by decide) (by decide) rfl ((fX6_boxAt M (M.1 101 0)) + 3).toNatClampNeg rfl (ixbk hm (by decide)) dX6_comes_50 ?_
  refine wp_nm (fun M4 hM4 => ?_)
  refine wp_aload_n hc 1 dX6_comes_51 rfl ?_
  refine wp_get hc hx hin6 (j := 100) (by decide) (by decide) (ce_5 rfl) rfl 0 (by decide) hf7 rfl dX6_comes_52 ?_
  refine wp_iconst (v := 0) hc dX6_comes_55 (by decide) ?_
  refine wp_dup2 hc dX6_comes_56 rfl rfl ?_
  refine wp_iald hc hx (j := 101) (by decide) (by decide) rfl 0 rfl (vin (by decide)) dX6_comes_57 ?_
  refine wp_iconst (v := 1) hc dX6_comes_58 (by decide) ?_
  refine wp_iadd hc dX6_comes_59 ?_
  refine wp_iast hc hx (j := 101) (by decide) (by decide) rfl 0 rfl (vin (by decide)) dX6_comes_60 ?_
  refine wp_nm (fun M5 hM5 => ?_)
  refine wp_aload_n hc 1 dX6_comes_61 rfl ?_
  refine wp_get hc hx hin6 (j := 100) (by decide) (by decide) (ce_5 rfl) rfl 0 (by decide) hf7 rfl dX6_comes_62 ?_
  refine wp_iconst (v := 0) hc dX6_comes_65 (by decide) ?_
  refine wp_iald hc hx (j := 101) (by decide) (by decide) rfl 0 rfl (vin (by decide)) dX6_comes_66 ?_
  refine wp_iconst (v := 1) hc dX6_comes_67 (by decide) ?_
  refine wp_isub hc dX6_comes_68 ?_
  refine wp_iret hc hr hk ?_ dX6_comes_69
  show (((M5.1 101 0) - 1), M5) = sX6_comes M i1 i2 i3 i4
  rw [sX6_comes, tk_eq hM1, tk_eq hM2, tk_eq hM3, tk_eq hM4, tk_eq hM5]
def sX6_exchanges (M : Mem) (i1 : Int32) (i2 : Int32) : Int32 × Mem :=
  tk (st M 101 i1.toNatClampNeg i2) fun M1 =>
  ((M.1 101 i1.toNatClampNeg), M1)
set_option maxHeartbeats 4000000 in
set_option maxRecDepth 100000 in
theorem kX6_exchanges (l : Launch) (D : va_G) (cy : Nat → ClassId) (z : Nat → Nat) (hz : zI z) (M : Mem) (i1 : Int32) (i2 : Int32) (h1 : vp_in i1 (ln 101)) : KI l yX6_exchanges wsX6_exchanges { frames := 0, cells := 0, slots := 0, locals := 0 } D cy z 100 15 [.ref (z 100), .int i1, .int i2] M (fun r u => (r, u) = sX6_exchanges M i1 i2) := by
  refine met_wp (lv := [(0, .ref (z 100)), (1, .int i1), (2, .int i2)]) hz (by decide) (by decide) rfl rfl (Nat.le_of_ble_eq_true rfl) rfl ?_
  intro p e s m below meth c hc hx hr hk
  have hNW := hx.2.1
  have hin6 : ∀ w ∈ wsX60, w ∈ wsX6_exchanges := by decide +kernel
  have hf7 : Cond.fieldLink RX6 7 (TX6 0).1 (TX6 0).2.1 (TX6 0).2.2.1 ∈ wsX6_exchanges := by decide +kernel
  refine wp_aload_n hc 0 dX6_exchanges_0 rfl ?_
  refine wp_get hc hx hin6 (j := 100) (by decide) (by decide) (ce_5 rfl) rfl 0 (by decide) hf7 rfl dX6_exchanges_1 ?_
  refine wp_iload_n hc 1 dX6_exchanges_4 rfl ?_
  refine wp_iald hc hx (j := 101) (by decide) (by decide) rfl i1.toNatClampNeg rfl h1 dX6_exchanges_5 ?_
  refine wp_istore_n (lv' := [(3, .int (M.1 101 i1.toNatClampNeg)), (0, .ref (z 100)), (1, .int i1), (2, .int i2)]) hc dX6_exchanges_6 (by decide) rfl ?_
  refine wp_aload_n hc 1 dX6_exchanges_7 rfl ?_
  refine wp_get hc hx hin6 (j := 100) (by decide) (by decide) (ce_5 rfl) rfl 0 (by decide) hf7 rfl dX6_exchanges_8 ?_
  refine wp_iload_n hc 2 dX6_exchanges_11 rfl ?_
  refine wp_iload_n hc 3 dX6_exchanges_12 rfl ?_
  refine wp_iast hc hx (j := 101) (by decide) (by decide) rfl i1.toNatClampNeg rfl h1 dX6_exchanges_13 ?_
  refine wp_nm (fun M1 hM1 => ?_)
  refine wp_iload_n hc 0 dX6_exchanges_14 rfl ?_
  refine wp_iret hc hr hk ?_ dX6_exchanges_15
  show ((M.1 101 i1.toNatClampNeg), M1) = sX6_exchanges M i1 i2
  rw [sX6_exchanges, tk_eq hM1]
def sX6_box (M : Mem)  : Int32 × Mem :=
  if (M.1 101 0) = 8 then
  tk (sX6_full M) fun x3 =>
  (x3.1, x3.2)
  else
  tk (sX6_remembers M) fun M1 =>
  tk (sX6_comes M1 0 10007 10007 0) fun x2 =>
  (x2.1, x2.2)
set_option maxHeartbeats 4000000 in
set_option maxRecDepth 100000 in
theorem kX6_box (l : Launch) (D : va_G) (cy : Nat → ClassId) (z : Nat → Nat) (hz : zI z) (M : Mem)  (hn : 0 ≤ (M.1 101 0).toInt ∧ (M.1 101 0).toInt ≤ 8) (hs : 0 ≤ (M.1 100 3).toInt ∧ (M.1 100 3).toInt ≤ 5) : KI l yX6_box wsX6_box { frames := 2, cells := 0, slots := 0, locals := 46 } D cy z 100 15 [.ref (z 100)] M (fun r u => (r, u) = sX6_box M) := by
  refine met_wp (lv := [(0, .ref (z 100))]) hz (by decide) (by decide) rfl rfl (Nat.le_of_ble_eq_true rfl) rfl ?_
  intro p e s m below meth c hc hx hr hk
  have hNW := hx.2.1
  have hin6 : ∀ w ∈ wsX60, w ∈ wsX6_box := by decide +kernel
  have hf7 : Cond.fieldLink RX6 7 (TX6 0).1 (TX6 0).2.1 (TX6 0).2.2.1 ∈ wsX6_box := by decide +kernel
  have cw88 : CallW ({ frames := 2, cells := 0, slots := 0, locals := 46 }) s _ RX6 RX6 88 yX6_full cX6_full 1 (some .int) wsX6_full ({ frames := 0, cells := 0, slots := 0, locals := 0 }) 0 0 0 := cwV 0 hc.2.2.2.2 gX6_box_X6_full rfl rfl rfl (by decide +kernel) ⟨Nat.le_of_ble_eq_true rfl, Nat.le_of_ble_eq_true rfl⟩
  have cw91 : CallW ({ frames := 2, cells := 0, slots := 0, locals := 46 }) s _ RX6 RX6 91 yX6_remembers cX6_remembers 2 none wsX6_remembers ({ frames := 0, cells := 0, slots := 0, locals := 0 }) 0 0 0 := cwV 0 hc.2.2.2.2 gX6_box_X6_remembers rfl rfl rfl (by decide +kernel) ⟨Nat.le_of_ble_eq_true rfl, Nat.le_of_ble_eq_true rfl⟩
  have cw94 : CallW ({ frames := 2, cells := 0, slots := 0, locals := 46 }) s _ RX6 RX6 94 yX6_comes cX6_comes 6 (some .int) wsX6_comes ({ frames := 1, cells := 0, slots := 0, locals := 21 }) 0 0 4 := cwV 4 hc.2.2.2.2 gX6_box_X6_comes rfl rfl rfl (by decide +kernel) ⟨Nat.le_of_ble_eq_true rfl, Nat.le_of_ble_eq_true rfl⟩
  refine wp_aload_n hc 0 dX6_box_0 rfl ?_
  refine wp_get hc hx hin6 (j := 100) (by decide) (by decide) (ce_5 rfl) rfl 0 (by decide) hf7 rfl dX6_box_1 ?_
  refine wp_iconst (v := 0) hc dX6_box_4 (by decide) ?_
  refine wp_iald hc hx (j := 101) (by decide) (by decide) rfl 0 rfl (vin (by decide)) dX6_box_5 ?_
  refine wp_bipush (v := 8) hc dX6_box_6 (by decide) ?_
  refine wp_icmp_ne (tgt := 16) hc dX6_box_8 (by decide) (fun c8 => ?_) (fun c8 => ?_)
  · refine wp_aload_n hc 0 dX6_box_16 rfl ?_
    refine wp_callVvw (As := []) (rest := []) (j := 100) (w := sX6_remembers M) hc hx (kX6_remembers l D cy z hz M hs) cw91 (by decide) (by decide) (ce_5 rfl) rfl rfl rfl rfl (Nat.le_of_ble_eq_true rfl) dX6_box_17 (fun M1 hM1 => ?_)
    refine wp_aload_n hc 0 dX6_box_20 rfl ?_
    refine wp_iconst (v := 0) hc dX6_box_21 (by decide) ?_
    refine wp_sipush (v := 10007) hc dX6_box_22 (by decide) ?_
    refine wp_sipush (v := 10007) hc dX6_box_25 (by decide) ?_
    refine wp_iconst (v := 0) hc dX6_box_28 (by decide) ?_
    refine wp_callVw (As := [.int 0, .int 10007, .int 10007, .int 0]) (rest := []) (j := 100) (w := sX6_comes M1 0 10007 10007 0) hc hx (kX6_comes l D cy z hz M1 0 10007 10007 0 (by rw [hM1, fr_rem]; exact lt8 hn c8)) cw94 (by decide) (by decide) (ce_5 rfl) rfl rfl rfl rfl (Nat.le_of_ble_eq_true rfl) dX6_box_29 (fun x2 hx2 => ?_)
    refine wp_iret hc hr hk ?_ dX6_box_32
    show (x2.1, x2.2) = sX6_box M
    rw [sX6_box, if_neg c8, tk_eq hM1, tk_eq hx2]
  refine wp_aload_n hc 0 dX6_box_11 rfl ?_
  refine wp_callVw (As := []) (rest := []) (j := 100) (w := sX6_full M) hc hx (kX6_full l D cy z hz M) cw88 (by decide) (by decide) (ce_5 rfl) rfl rfl rfl rfl (Nat.le_of_ble_eq_true rfl) dX6_box_12 (fun x3 hx3 => ?_)
  refine wp_iret hc hr hk ?_ dX6_box_15
  show (x3.1, x3.2) = sX6_box M
  rw [sX6_box, if_pos c8, tk_eq hx3]
def sX6_sets (M : Mem) (i1 : Int32) (i2 : Int32) (i3 : Int32) (i4 : Int32) : Int32 × Mem :=
  if (fX6_isBox M i1) = 0 then
  tk (sX6_bad M) fun x1 =>
  (x1.1, x1.2)
  else
  if (fX6_in i2 0 3) = 0 then
  tk (sX6_bad M) fun x2 =>
  (x2.1, x2.2)
  else
  if (fX6_isPart i3) = 0 then
  tk (sX6_bad M) fun x3 =>
  (x3.1, x3.2)
  else
  if (fX6_isPart i4) = 0 then
  tk (sX6_bad M) fun x6 =>
  (x6.1, x6.2)
  else
  tk (sX6_remembers M) fun M4 =>
  tk (sX6_exchanges M4 ((fX6_boxAt M4 i1) + i2) (fX6_number i3 i4)) fun x5 =>
  (x5.1, x5.2)
set_option maxHeartbeats 4000000 in
set_option maxRecDepth 100000 in
theorem kX6_sets (l : Launch) (D : va_G) (cy : Nat → ClassId) (z : Nat → Nat) (hz : zI z) (M : Mem) (i1 : Int32) (i2 : Int32) (i3 : Int32) (i4 : Int32) (hn : 0 ≤ (M.1 101 0).toInt ∧ (M.1 101 0).toInt ≤ 8) (hs : 0 ≤ (M.1 100 3).toInt ∧ (M.1 100 3).toInt ≤ 5) : KI l yX6_sets wsX6_sets { frames := 2, cells := 0, slots := 0, locals := 43 } D cy z 100 15 [.ref (z 100), .int i1, .int i2, .int i3, .int i4] M (fun r u => (r, u) = sX6_sets M i1 i2 i3 i4) := by
  refine met_wp (lv := [(0, .ref (z 100)), (1, .int i1), (2, .int i2), (3, .int i3), (4, .int i4)]) hz (by decide) (by decide) rfl rfl (Nat.le_of_ble_eq_true rfl) rfl ?_
  intro p e s m below meth c hc hx hr hk
  have hNW := hx.2.1
  have cw64 : CallB ({ frames := 2, cells := 0, slots := 0, locals := 43 }) s _ RX6 64 yX6_number cX6_number 2 (some .int) wsX6_number ({ frames := 1, cells := 0, slots := 0, locals := 21 }) 0 0 2 ∧ (Cond.static yX6_number).before _ s = true := va_cwS 2 hc.2.2.2.2 gX6_sets_X6_number rfl rfl rfl (by decide +kernel) ⟨Nat.le_of_ble_eq_true rfl, Nat.le_of_ble_eq_true rfl⟩
  have cw81 : CallB ({ frames := 2, cells := 0, slots := 0, locals := 43 }) s _ RX6 81 yX6_in cX6_in 3 (some .boolean) wsX6_in ({ frames := 0, cells := 0, slots := 0, locals := 0 }) 0 0 3 ∧ (Cond.static yX6_in).before _ s = true := va_cwS 3 hc.2.2.2.2 gX6_sets_X6_in rfl rfl rfl (by decide +kernel) ⟨Nat.le_of_ble_eq_true rfl, Nat.le_of_ble_eq_true rfl⟩
  have cw85 : CallW ({ frames := 2, cells := 0, slots := 0, locals := 43 }) s _ RX6 RX6 85 yX6_boxAt cX6_boxAt 2 (some .int) wsX6_boxAt ({ frames := 0, cells := 0, slots := 0, locals := 0 }) 0 0 1 := cwV 1 hc.2.2.2.2 gX6_sets_X6_boxAt rfl rfl rfl (by decide +kernel) ⟨Nat.le_of_ble_eq_true rfl, Nat.le_of_ble_eq_true rfl⟩
  have cw91 : CallW ({ frames := 2, cells := 0, slots := 0, locals := 43 }) s _ RX6 RX6 91 yX6_remembers cX6_remembers 2 none wsX6_remembers ({ frames := 0, cells := 0, slots := 0, locals := 0 }) 0 0 0 := cwV 0 hc.2.2.2.2 gX6_sets_X6_remembers rfl rfl rfl (by decide +kernel) ⟨Nat.le_of_ble_eq_true rfl, Nat.le_of_ble_eq_true rfl⟩
  have cw98 : CallW ({ frames := 2, cells := 0, slots := 0, locals := 43 }) s _ RX6 RX6 98 yX6_isBox cX6_isBox 2 (some .boolean) wsX6_isBox ({ frames := 1, cells := 0, slots := 0, locals := 22 }) 0 0 1 := cwV 1 hc.2.2.2.2 gX6_sets_X6_isBox rfl rfl rfl (by decide +kernel) ⟨Nat.le_of_ble_eq_true rfl, Nat.le_of_ble_eq_true rfl⟩
  have cw102 : CallB ({ frames := 2, cells := 0, slots := 0, locals := 43 }) s _ RX6 102 yX6_isPart cX6_isPart 1 (some .boolean) wsX6_isPart ({ frames := 1, cells := 0, slots := 0, locals := 22 }) 0 0 1 ∧ (Cond.static yX6_isPart).before _ s = true := va_cwS 1 hc.2.2.2.2 gX6_sets_X6_isPart rfl rfl rfl (by decide +kernel) ⟨Nat.le_of_ble_eq_true rfl, Nat.le_of_ble_eq_true rfl⟩
  have cw105 : CallW ({ frames := 2, cells := 0, slots := 0, locals := 43 }) s _ RX6 RX6 105 yX6_bad cX6_bad 1 (some .int) wsX6_bad ({ frames := 0, cells := 0, slots := 0, locals := 0 }) 0 0 0 := cwV 0 hc.2.2.2.2 gX6_sets_X6_bad rfl rfl rfl (by decide +kernel) ⟨Nat.le_of_ble_eq_true rfl, Nat.le_of_ble_eq_true rfl⟩
  have cw108 : CallW ({ frames := 2, cells := 0, slots := 0, locals := 43 }) s _ RX6 RX6 108 yX6_exchanges cX6_exchanges 4 (some .int) wsX6_exchanges ({ frames := 0, cells := 0, slots := 0, locals := 0 }) 0 0 2 := cwV 2 hc.2.2.2.2 gX6_sets_X6_exchanges rfl rfl rfl (by decide +kernel) ⟨Nat.le_of_ble_eq_true rfl, Nat.le_of_ble_eq_true rfl⟩
  refine wp_aload_n hc 0 dX6_sets_0 rfl ?_
  refine wp_iload_n hc 1 dX6_sets_1 rfl ?_
  refine wp_callVf (As := [.int i1]) (rest := []) (j := 100) (v := (fX6_isBox M i1)) hc hx (kX6_isBox l D cy z hz M i1) cw98 (by decide) (by decide) (ce_5 rfl) rfl rfl rfl rfl (Nat.le_of_ble_eq_true rfl) dX6_sets_2 ?_
  refine wp_if_eq (tgt := 32) hc dX6_sets_5 (by decide) (fun c5 => ?_) (fun c5 => ?_)
  · refine wp_aload_n hc 0 dX6_sets_32 rfl ?_
    refine wp_callVw (As := []) (rest := []) (j := 100) (w := sX6_bad M) hc hx (kX6_bad l D cy z hz M) cw105 (by decide) (by decide) (ce_5 rfl) rfl rfl rfl rfl (Nat.le_of_ble_eq_true rfl) dX6_sets_33 (fun x1 hx1 => ?_)
    refine wp_iret hc hr hk ?_ dX6_sets_36
    show (x1.1, x1.2) = sX6_sets M i1 i2 i3 i4
    rw [sX6_sets, if_pos c5, tk_eq hx1]
  refine wp_iload_n hc 2 dX6_sets_8 rfl ?_
  refine wp_iconst (v := 0) hc dX6_sets_9 (by decide) ?_
  refine wp_iconst (v := 3) hc dX6_sets_10 (by decide) ?_
  refine wp_callSg (As := [.int i2, .int 0, .int 3]) (rest := []) (v := (fX6_in i2 0 3)) hc hNW (kX6_in l i2 0 3) cw81 rfl rfl (Nat.le_of_ble_eq_true rfl) dX6_sets_11 ?_
  refine wp_if_eq (tgt := 32) hc dX6_sets_14 (by decide) (fun c14 => ?_) (fun c14 => ?_)
  · refine wp_aload_n hc 0 dX6_sets_32 rfl ?_
    refine wp_callVw (As := []) (rest := []) (j := 100) (w := sX6_bad M) hc hx (kX6_bad l D cy z hz M) cw105 (by decide) (by decide) (ce_5 rfl) rfl rfl rfl rfl (Nat.le_of_ble_eq_true rfl) dX6_sets_33 (fun x2 hx2 => ?_)
    refine wp_iret hc hr hk ?_ dX6_sets_36
    show (x2.1, x2.2) = sX6_sets M i1 i2 i3 i4
    rw [sX6_sets, if_neg c5, if_pos c14, tk_eq hx2]
  refine wp_iload_n hc 3 dX6_sets_17 rfl ?_
  refine wp_callSg (As := [.int i3]) (rest := []) (v := (fX6_isPart i3)) hc hNW (kX6_isPart l i3) cw102 rfl rfl (Nat.le_of_ble_eq_true rfl) dX6_sets_18 ?_
  refine wp_if_eq (tgt := 32) hc dX6_sets_21 (by decide) (fun c21 => ?_) (fun c21 => ?_)
  · refine wp_aload_n hc 0 dX6_sets_32 rfl ?_
    refine wp_callVw (As := []) (rest := []) (j := 100) (w := sX6_bad M) hc hx (kX6_bad l D cy z hz M) cw105 (by decide) (by decide) (ce_5 rfl) rfl rfl rfl rfl (Nat.le_of_ble_eq_true rfl) dX6_sets_33 (fun x3 hx3 => ?_)
    refine wp_iret hc hr hk ?_ dX6_sets_36
    show (x3.1, x3.2) = sX6_sets M i1 i2 i3 i4
    rw [sX6_sets, if_neg c5, if_neg c14, if_pos c21, tk_eq hx3]
  refine wp_iload hc 4 dX6_sets_24 rfl ?_
  refine wp_callSg (As := [.int i4]) (rest := []) (v := (fX6_isPart i4)) hc hNW (kX6_isPart l i4) cw102 rfl rfl (Nat.le_of_ble_eq_true rfl) dX6_sets_26 ?_
  refine wp_if_ne (tgt := 37) hc dX6_sets_29 (by decide) (fun c29 => ?_) (fun c29 => ?_)
  · refine wp_aload_n hc 0 dX6_sets_37 rfl ?_
    refine wp_callVvw (As := []) (rest := []) (j := 100) (w := sX6_remembers M) hc hx (kX6_remembers l D cy z hz M hs) cw91 (by decide) (by decide) (ce_5 rfl) rfl rfl rfl rfl (Nat.le_of_ble_eq_true rfl) dX6_sets_38 (fun M4 hM4 => ?_)
    refine wp_aload_n hc 0 dX6_sets_41 rfl ?_
    refine wp_aload_n hc 0 dX6_sets_42 rfl ?_
    refine wp_iload_n hc 1 dX6_sets_43 rfl ?_
    refine wp_callVf (As := [.int i1]) (rest := [.ref (z 100)]) (j := 100) (v := (fX6_boxAt M4 i1)) hc hx (kX6_boxAt l D cy z hz M4 i1) cw85 (by decide) (by decide) (ce_5 rfl) rfl rfl rfl rfl (Nat.le_of_ble_eq_true rfl) dX6_sets_44 ?_
    refine wp_iload_n hc 2 dX6_sets_47 rfl ?_
    refine wp_iadd hc dX6_sets_48 ?_
    refine wp_iload_n hc 3 dX6_sets_49 rfl ?_
    refine wp_iload hc 4 dX6_sets_50 rfl ?_
    refine wp_callSg (As := [.int i3, .int i4]) (rest := [.int ((fX6_boxAt M4 i1) + i2), .ref (z 100)]) (v := (fX6_number i3 i4)) hc hNW (kX6_number l i3 i4) cw64 rfl rfl (Nat.le_of_ble_eq_true rfl) dX6_sets_52 ?_
    refine wp_callVw (As := [.int ((fX6_boxAt M4 i1) + i2), .int (fX6_number i3 i4)]) (rest := []) (j := 100) (w := sX6_exchanges M4 ((fX6_boxAt M4 i1) + i2) (fX6_number i3 i4)) hc hx (kX6_exchanges l D cy z hz M4 ((fX6_boxAt M4 i1) + i2) (fX6_number i3 i4) (ixbk (isBox_8 hn c5) (in03' c14))) cw108 (by decide) (by decide) (ce_5 rfl) rfl rfl rfl rfl (Nat.le_of_ble_eq_true rfl) dX6_sets_55 (fun x5 hx5 => ?_)
    refine wp_iret hc hr hk ?_ dX6_sets_58
    show (x5.1, x5.2) = sX6_sets M i1 i2 i3 i4
    rw [sX6_sets, if_neg c5, if_neg c14, if_neg c21, if_neg c29, tk_eq hM4, tk_eq hx5]
  refine wp_aload_n hc 0 dX6_sets_32 rfl ?_
  refine wp_callVw (As := []) (rest := []) (j := 100) (w := sX6_bad M) hc hx (kX6_bad l D cy z hz M) cw105 (by decide) (by decide) (ce_5 rfl) rfl rfl rfl rfl (Nat.le_of_ble_eq_true rfl) dX6_sets_33 (fun x6 hx6 => ?_)
  refine wp_iret hc hr hk ?_ dX6_sets_36
  show (x6.1, x6.2) = sX6_sets M i1 i2 i3 i4
  rw [sX6_sets, if_neg c5, if_neg c14, if_neg c21, if_pos c29, tk_eq hx6]
def sX6_errs (M : Mem) (i1 : Int32) (i2 : Int32) (i3 : Int32) : Int32 × Mem :=
  if (fX6_isError i1) = 0 then
  tk (sX6_bad M) fun x1 =>
  (x1.1, x1.2)
  else
  if (fX6_isPart i2) = 0 then
  tk (sX6_bad M) fun x2 =>
  (x2.1, x2.2)
  else
  if (fX6_isPart i3) = 0 then
  tk (sX6_bad M) fun x5 =>
  (x5.1, x5.2)
  else
  tk (sX6_remembers M) fun M3 =>
  tk (sX6_exchanges M3 (33 + i1) (fX6_number i2 i3)) fun x4 =>
  (x4.1, x4.2)
set_option maxHeartbeats 4000000 in
set_option maxRecDepth 100000 in
theorem kX6_errs (l : Launch) (D : va_G) (cy : Nat → ClassId) (z : Nat → Nat) (hz : zI z) (M : Mem) (i1 : Int32) (i2 : Int32) (i3 : Int32) (hn : 0 ≤ (M.1 101 0).toInt ∧ (M.1 101 0).toInt ≤ 8) (hs : 0 ≤ (M.1 100 3).toInt ∧ (M.1 100 3).toInt ≤ 5) : KI l yX6_errs wsX6_errs { frames := 2, cells := 0, slots := 0, locals := 42 } D cy z 100 15 [.ref (z 100), .int i1, .int i2, .int i3] M (fun r u => (r, u) = sX6_errs M i1 i2 i3) := by
  refine met_wp (lv := [(0, .ref (z 100)), (1, .int i1), (2, .int i2), (3, .int i3)]) hz (by decide) (by decide) rfl rfl (Nat.le_of_ble_eq_true rfl) rfl ?_
  intro p e s m below meth c hc hx hr hk
  have hNW := hx.2.1
  have cw64 : CallB ({ frames := 2, cells := 0, slots := 0, locals := 42 }) s _ RX6 64 yX6_number cX6_number 2 (some .int) wsX6_number ({ frames := 1, cells := 0, slots := 0, locals := 21 }) 0 0 2 ∧ (Cond.static yX6_number).before _ s = true := va_cwS 2 hc.2.2.2.2 gX6_errs_X6_number rfl rfl rfl (by decide +kernel) ⟨Nat.le_of_ble_eq_true rfl, Nat.le_of_ble_eq_true rfl⟩
  have cw91 : CallW ({ frames := 2, cells := 0, slots := 0, locals := 42 }) s _ RX6 RX6 91 yX6_remembers cX6_remembers 2 none wsX6_remembers ({ frames := 0, cells := 0, slots := 0, locals := 0 }) 0 0 0 := cwV 0 hc.2.2.2.2 gX6_errs_X6_remembers rfl rfl rfl (by decide +kernel) ⟨Nat.le_of_ble_eq_true rfl, Nat.le_of_ble_eq_true rfl⟩
  have cw102 : CallB ({ frames := 2, cells := 0, slots := 0, locals := 42 }) s _ RX6 102 yX6_isPart cX6_isPart 1 (some .boolean) wsX6_isPart ({ frames := 1, cells := 0, slots := 0, locals := 22 }) 0 0 1 ∧ (Cond.static yX6_isPart).before _ s = true := va_cwS 1 hc.2.2.2.2 gX6_errs_X6_isPart rfl rfl rfl (by decide +kernel) ⟨Nat.le_of_ble_eq_true rfl, Nat.le_of_ble_eq_true rfl⟩
  have cw105 : CallW ({ frames := 2, cells := 0, slots := 0, locals := 42 }) s _ RX6 RX6 105 yX6_bad cX6_bad 1 (some .int) wsX6_bad ({ frames := 0, cells := 0, slots := 0, locals := 0 }) 0 0 0 := cwV 0 hc.2.2.2.2 gX6_errs_X6_bad rfl rfl rfl (by decide +kernel) ⟨Nat.le_of_ble_eq_true rfl, Nat.le_of_ble_eq_true rfl⟩
  have cw108 : CallW ({ frames := 2, cells := 0, slots := 0, locals := 42 }) s _ RX6 RX6 108 yX6_exchanges cX6_exchanges 4 (some .int) wsX6_exchanges ({ frames := 0, cells := 0, slots := 0, locals := 0 }) 0 0 2 := cwV 2 hc.2.2.2.2 gX6_errs_X6_exchanges rfl rfl rfl (by decide +kernel) ⟨Nat.le_of_ble_eq_true rfl, Nat.le_of_ble_eq_true rfl⟩
  have cw111 : CallB ({ frames := 2, cells := 0, slots := 0, locals := 42 }) s _ RX6 111 yX6_isError cX6_isError 1 (some .boolean) wsX6_isError ({ frames := 1, cells := 0, slots := 0, locals := 22 }) 0 0 1 ∧ (Cond.static yX6_isError).before _ s = true := va_cwS 1 hc.2.2.2.2 gX6_errs_X6_isError rfl rfl rfl (by decide +kernel) ⟨Nat.le_of_ble_eq_true rfl, Nat.le_of_ble_eq_true rfl⟩
  refine wp_iload_n hc 1 dX6_errs_0 rfl ?_
  refine wp_callSg (As := [.int i1]) (rest := []) (v := (fX6_isError i1)) hc hNW (kX6_isError l i1) cw111 rfl rfl (Nat.le_of_ble_eq_true rfl) dX6_errs_1 ?_
  refine wp_if_eq (tgt := 21) hc dX6_errs_4 (by decide) (fun c4 => ?_) (fun c4 => ?_)
  · refine wp_aload_n hc 0 dX6_errs_21 rfl ?_
    refine wp_callVw (As := []) (rest := []) (j := 100) (w := sX6_bad M) hc hx (kX6_bad l D cy z hz M) cw105 (by decide) (by decide) (ce_5 rfl) rfl rfl rfl rfl (Nat.le_of_ble_eq_true rfl) dX6_errs_22 (fun x1 hx1 => ?_)
    refine wp_iret hc hr hk ?_ dX6_errs_25
    show (x1.1, x1.2) = sX6_errs M i1 i2 i3
    rw [sX6_errs, if_pos c4, tk_eq hx1]
  refine wp_iload_n hc 2 dX6_errs_7 rfl ?_
  refine wp_callSg (As := [.int i2]) (rest := []) (v := (fX6_isPart i2)) hc hNW (kX6_isPart l i2) cw102 rfl rfl (Nat.le_of_ble_eq_true rfl) dX6_errs_8 ?_
  refine wp_if_eq (tgt := 21) hc dX6_errs_11 (by decide) (fun c11 => ?_) (fun c11 => ?_)
  · refine wp_aload_n hc 0 dX6_errs_21 rfl ?_
    refine wp_callVw (As := []) (rest := []) (j := 100) (w := sX6_bad M) hc hx (kX6_bad l D cy z hz M) cw105 (by decide) (by decide) (ce_5 rfl) rfl rfl rfl rfl (Nat.le_of_ble_eq_true rfl) dX6_errs_22 (fun x2 hx2 => ?_)
    refine wp_iret hc hr hk ?_ dX6_errs_25
    show (x2.1, x2.2) = sX6_errs M i1 i2 i3
    rw [sX6_errs, if_neg c4, if_pos c11, tk_eq hx2]
  refine wp_iload_n hc 3 dX6_errs_14 rfl ?_
  refine wp_callSg (As := [.int i3]) (rest := []) (v := (fX6_isPart i3)) hc hNW (kX6_isPart l i3) cw102 rfl rfl (Nat.le_of_ble_eq_true rfl) dX6_errs_15 ?_
  refine wp_if_ne (tgt := 26) hc dX6_errs_18 (by decide) (fun c18 => ?_) (fun c18 => ?_)
  · refine wp_aload_n hc 0 dX6_errs_26 rfl ?_
    refine wp_callVvw (As := []) (rest := []) (j := 100) (w := sX6_remembers M) hc hx (kX6_remembers l D cy z hz M hs) cw91 (by decide) (by decide) (ce_5 rfl) rfl rfl rfl rfl (Nat.le_of_ble_eq_true rfl) dX6_errs_27 (fun M3 hM3 => ?_)
    refine wp_aload_n hc 0 dX6_errs_30 rfl ?_
    refine wp_bipush (v := 33) hc dX6_errs_31 (by decide) ?_
    refine wp_iload_n hc 1 dX6_errs_33 rfl ?_
    refine wp_iadd hc dX6_errs_34 ?_
    refine wp_iload_n hc 2 dX6_errs_35 rfl ?_
    refine wp_iload_n hc 3 dX6_errs_36 rfl ?_
    refine wp_callSg (As := [.int i2, .int i3]) (rest := [.int (33 + i1), .ref (z 100)]) (v := (fX6_number i2 i3)) hc hNW (kX6_number l i2 i3) cw64 rfl rfl (Nat.le_of_ble_eq_true rfl) dX6_errs_37 ?_
    refine wp_callVw (As := [.int (33 + i1), .int (fX6_number i2 i3)]) (rest := []) (j := 100) (w := sX6_exchanges M3 (33 + i1) (fX6_number i2 i3)) hc hx (kX6_exchanges l D cy z hz M3 (33 + i1) (fX6_number i2 i3) (vin (by rw [ixk (c := 33) (k := 33) rfl (by decide) (n := 12) (by decide) (inE c4), ln101]; have := inE c4; omega))) cw108 (by decide) (by decide) (ce_5 rfl) rfl rfl rfl rfl (Nat.le_of_ble_eq_true rfl) dX6_errs_40 (fun x4 hx4 => ?_)
    refine wp_iret hc hr hk ?_ dX6_errs_43
    show (x4.1, x4.2) = sX6_errs M i1 i2 i3
    rw [sX6_errs, if_neg c4, if_neg c11, if_neg c18, tk_eq hM3, tk_eq hx4]
  refine wp_aload_n hc 0 dX6_errs_21 rfl ?_
  refine wp_callVw (As := []) (rest := []) (j := 100) (w := sX6_bad M) hc hx (kX6_bad l D cy z hz M) cw105 (by decide) (by decide) (ce_5 rfl) rfl rfl rfl rfl (Nat.le_of_ble_eq_true rfl) dX6_errs_22 (fun x5 hx5 => ?_)
  refine wp_iret hc hr hk ?_ dX6_errs_25
  show (x5.1, x5.2) = sX6_errs M i1 i2 i3
  rw [sX6_errs, if_neg c4, if_neg c11, if_pos c18, tk_eq hx5]
def sX6_of (M : Mem) (i1 : Int32) (i2 : Int32) : Int32 × Mem :=
  if (fX6_isBox M i1) = 0 then
  tk (sX6_bad M) fun x1 =>
  (x1.1, x1.2)
  else
  if (fX6_in i2 0 3) = 0 then
  tk (sX6_bad M) fun x2 =>
  (x2.1, x2.2)
  else
  ((M.1 101 ((fX6_boxAt M i1) + i2).toNatClampNeg), M)
set_option maxHeartbeats 4000000 in
set_option maxRecDepth 100000 in
theorem kX6_of (l : Launch) (D : va_G) (cy : Nat → ClassId) (z : Nat → Nat) (hz : zI z) (M : Mem) (i1 : Int32) (i2 : Int32) (hn : 0 ≤ (M.1 101 0).toInt ∧ (M.1 101 0).toInt ≤ 8) : KI l yX6_of wsX6_of { frames := 2, cells := 0, slots := 0, locals := 43 } D cy z 100 15 [.ref (z 100), .int i1, .int i2] M (fun r u => (r, u) = sX6_of M i1 i2) := by
  refine met_wp (lv := [(0, .ref (z 100)), (1, .int i1), (2, .int i2)]) hz (by decide) (by decide) rfl rfl (Nat.le_of_ble_eq_true rfl) rfl ?_
  intro p e s m below meth c hc hx hr hk
  have hNW := hx.2.1
  have hin6 : ∀ w ∈ wsX60, w ∈ wsX6_of := by decide +kernel
  have hf7 : Cond.fieldLink RX6 7 (TX6 0).1 (TX6 0).2.1 (TX6 0).2.2.1 ∈ wsX6_of := by decide +kernel
  have cw81 : CallB ({ frames := 2, cells := 0, slots := 0, locals := 43 }) s _ RX6 81 yX6_in cX6_in 3 (some .boolean) wsX6_in ({ frames := 0, cells := 0, slots := 0, locals := 0 }) 0 0 3 ∧ (Cond.static yX6_in).before _ s = true := va_cwS 3 hc.2.2.2.2 gX6_of_X6_in rfl rfl rfl (by decide +kernel) ⟨Nat.le_of_ble_eq_true rfl, Nat.le_of_ble_eq_true rfl⟩
  have cw85 : CallW ({ frames := 2, cells := 0, slots := 0, locals := 43 }) s _ RX6 RX6 85 yX6_boxAt cX6_boxAt 2 (some .int) wsX6_boxAt ({ frames := 0, cells := 0, slots := 0, locals := 0 }) 0 0 1 := cwV 1 hc.2.2.2.2 gX6_of_X6_boxAt rfl rfl rfl (by decide +kernel) ⟨Nat.le_of_ble_eq_true rfl, Nat.le_of_ble_eq_true rfl⟩
  have cw98 : CallW ({ frames := 2, cells := 0, slots := 0, locals := 43 }) s _ RX6 RX6 98 yX6_isBox cX6_isBox 2 (some .boolean) wsX6_isBox ({ frames := 1, cells := 0, slots := 0, locals := 22 }) 0 0 1 := cwV 1 hc.2.2.2.2 gX6_of_X6_isBox rfl rfl rfl (by decide +kernel) ⟨Nat.le_of_ble_eq_true rfl, Nat.le_of_ble_eq_true rfl⟩
  have cw105 : CallW ({ frames := 2, cells := 0, slots := 0, locals := 43 }) s _ RX6 RX6 105 yX6_bad cX6_bad 1 (some .int) wsX6_bad ({ frames := 0, cells := 0, slots := 0, locals := 0 }) 0 0 0 := cwV 0 hc.2.2.2.2 gX6_of_X6_bad rfl rfl rfl (by decide +kernel) ⟨Nat.le_of_ble_eq_true rfl, Nat.le_of_ble_eq_true rfl⟩
  refine wp_aload_n hc 0 dX6_of_0 rfl ?_
  refine wp_iload_n hc 1 dX6_of_1 rfl ?_
  refine wp_callVf (As := [.int i1]) (rest := []) (j := 100) (v := (fX6_isBox M i1)) hc hx (kX6_isBox l D cy z hz M i1) cw98 (by decide) (by decide) (ce_5 rfl) rfl rfl rfl rfl (Nat.le_of_ble_eq_true rfl) dX6_of_2 ?_
  refine wp_if_eq (tgt := 32) hc dX6_of_5 (by decide) (fun c5 => ?_) (fun c5 => ?_)
  · refine wp_aload_n hc 0 dX6_of_32 rfl ?_
    refine wp_callVw (As := []) (rest := []) (j := 100) (w := sX6_bad M) hc hx (kX6_bad l D cy z hz M) cw105 (by decide) (by decide) (ce_5 rfl) rfl rfl rfl rfl (Nat.le_of_ble_eq_true rfl) dX6_of_33 (fun x1 hx1 => ?_)
    refine wp_iret hc hr hk ?_ dX6_of_36
    show (x1.1, x1.2) = sX6_of M i1 i2
    rw [sX6_of, if_pos c5, tk_eq hx1]
  refine wp_iload_n hc 2 dX6_of_8 rfl ?_
  refine wp_iconst (v := 0) hc dX6_of_9 (by decide) ?_
  refine wp_iconst (v := 3) hc dX6_of_10 (by decide) ?_
  refine wp_callSg (As := [.int i2, .int 0, .int 3]) (rest := []) (v := (fX6_in i2 0 3)) hc hNW (kX6_in l i2 0 3) cw81 rfl rfl (Nat.le_of_ble_eq_true rfl) dX6_of_11 ?_
  refine wp_if_eq (tgt := 32) hc dX6_of_14 (by decide) (fun c14 => ?_) (fun c14 => ?_)
  · refine wp_aload_n hc 0 dX6_of_32 rfl ?_
    refine wp_callVw (As := []) (rest := []) (j := 100) (w := sX6_bad M) hc hx (kX6_bad l D cy z hz M) cw105 (by decide) (by decide) (ce_5 rfl) rfl rfl rfl rfl (Nat.le_of_ble_eq_true rfl) dX6_of_33 (fun x2 hx2 => ?_)
    refine wp_iret hc hr hk ?_ dX6_of_36
    show (x2.1, x2.2) = sX6_of M i1 i2
    rw [sX6_of, if_neg c5, if_pos c14, tk_eq hx2]
  refine wp_aload_n hc 0 dX6_of_17 rfl ?_
  refine wp_get hc hx hin6 (j := 100) (by decide) (by decide) (ce_5 rfl) rfl 0 (by decide) hf7 rfl dX6_of_18 ?_
  refine wp_aload_n hc 0 dX6_of_21 rfl ?_
  refine wp_iload_n hc 1 dX6_of_22 rfl ?_
  refine wp_callVf (As := [.int i1]) (rest := [.ref (z 101)]) (j := 100) (v := (fX6_boxAt M i1)) hc hx (kX6_boxAt l D cy z hz M i1) cw85 (by decide) (by decide) (ce_5 rfl) rfl rfl rfl rfl (Nat.le_of_ble_eq_true rfl) dX6_of_23 ?_
  refine wp_iload_n hc 2 dX6_of_26 rfl ?_
  refine wp_iadd hc dX6_of_27 ?_
  refine wp_iald hc hx (j := 101) (by decide) (by decide) rfl ((fX6_boxAt M i1) + i2).toNatClampNeg rfl (ixbk (isBox_8 hn c5) (in03' c14)) dX6_of_28 ?_
  refine wp_goto (tgt := 36) hc dX6_of_29 (by decide) ?_
  refine wp_iret hc hr hk ?_ dX6_of_36
  show ((M.1 101 ((fX6_boxAt M i1) + i2).toNatClampNeg), M) = sX6_of M i1 i2
  rw [sX6_of, if_neg c5, if_neg c14]
def sX6_error (M : Mem) (i1 : Int32) : Int32 × Mem :=
  if (fX6_isError i1) = 0 then
  tk (sX6_bad M) fun x1 =>
  (x1.1, x1.2)
  else
  ((M.1 101 (33 + i1).toNatClampNeg), M)
set_option maxHeartbeats 4000000 in
set_option maxRecDepth 100000 in
theorem kX6_error (l : Launch) (D : va_G) (cy : Nat → ClassId) (z : Nat → Nat) (hz : zI z) (M : Mem) (i1 : Int32) : KI l yX6_error wsX6_error { frames := 2, cells := 0, slots := 0, locals := 42 } D cy z 100 15 [.ref (z 100), .int i1] M (fun r u => (r, u) = sX6_error M i1) := by
  refine met_wp (lv := [(0, .ref (z 100)), (1, .int i1)]) hz (by decide) (by decide) rfl rfl (Nat.le_of_ble_eq_true rfl) rfl ?_
  intro p e s m below meth c hc hx hr hk
  have hNW := hx.2.1
  have hin6 : ∀ w ∈ wsX60, w ∈ wsX6_error := by decide +kernel
  have hf7 : Cond.fieldLink RX6 7 (TX6 0).1 (TX6 0).2.1 (TX6 0).2.2.1 ∈ wsX6_error := by decide +kernel
  have cw105 : CallW ({ frames := 2, cells := 0, slots := 0, locals := 42 }) s _ RX6 RX6 105 yX6_bad cX6_bad 1 (some .int) wsX6_bad ({ frames := 0, cells := 0, slots := 0, locals := 0 }) 0 0 0 := cwV 0 hc.2.2.2.2 gX6_error_X6_bad rfl rfl rfl (by decide +kernel) ⟨Nat.le_of_ble_eq_true rfl, Nat.le_of_ble_eq_true rfl⟩
  have cw111 : CallB ({ frames := 2, cells := 0, slots := 0, locals := 42 }) s _ RX6 111 yX6_isError cX6_isError 1 (some .boolean) wsX6_isError ({ frames := 1, cells := 0, slots := 0, locals := 22 }) 0 0 1 ∧ (Cond.static yX6_isError).before _ s = true := va_cwS 1 hc.2.2.2.2 gX6_error_X6_isError rfl rfl rfl (by decide +kernel) ⟨Nat.le_of_ble_eq_true rfl, Nat.le_of_ble_eq_true rfl⟩
  refine wp_iload_n hc 1 dX6_error_0 rfl ?_
  refine wp_callSg (As := [.int i1]) (rest := []) (v := (fX6_isError i1)) hc hNW (kX6_isError l i1) cw111 rfl rfl (Nat.le_of_ble_eq_true rfl) dX6_error_1 ?_
  refine wp_if_eq (tgt := 19) hc dX6_error_4 (by decide) (fun c4 => ?_) (fun c4 => ?_)
  · refine wp_aload_n hc 0 dX6_error_19 rfl ?_
    refine wp_callVw (As := []) (rest := []) (j := 100) (w := sX6_bad M) hc hx (kX6_bad l D cy z hz M) cw105 (by decide) (by decide) (ce_5 rfl) rfl rfl rfl rfl (Nat.le_of_ble_eq_true rfl) dX6_error_20 (fun x1 hx1 => ?_)
    refine wp_iret hc hr hk ?_ dX6_error_23
    show (x1.1, x1.2) = sX6_error M i1
    rw [sX6_error, if_pos c4, tk_eq hx1]
  refine wp_aload_n hc 0 dX6_error_7 rfl ?_
  refine wp_get hc hx hin6 (j := 100) (by decide) (by decide) (ce_5 rfl) rfl 0 (by decide) hf7 rfl dX6_error_8 ?_
  refine wp_bipush (v := 33) hc dX6_error_11 (by decide) ?_
  refine wp_iload_n hc 1 dX6_error_13 rfl ?_
  refine wp_iadd hc dX6_error_14 ?_
  refine wp_iald hc hx (j := 101) (by decide) (by decide) rfl (33 + i1).toNatClampNeg rfl (vin (by rw [ixk (c := 33) (k := 33) rfl (by decide) (n := 12) (by decide) (inE c4), ln101]; have := inE c4; omega)) dX6_error_15 ?_
  refine wp_goto (tgt := 23) hc dX6_error_16 (by decide) ?_
  refine wp_iret hc hr hk ?_ dX6_error_23
  show ((M.1 101 (33 + i1).toNatClampNeg), M) = sX6_error M i1
  rw [sX6_error, if_neg c4]
def sX6_told (M : Mem) (i1 : Int32) (i2 : Int32) : Int32 × Mem :=
  if (fX6_isBox M i1) = 0 then
  tk (sX6_bad M) fun x1 =>
  (x1.1, x1.2)
  else
  if (fX6_in i2 0 3) = 0 then
  tk (sX6_bad M) fun x5 =>
  (x5.1, x5.2)
  else
  tk (st M 100 7 0) fun M2 =>
  tk (sX6_tellsBox M2 i1) fun M3 =>
  if (M3.1 100 7) = 0 then
  ((M3.1 106 i2.toNatClampNeg), M3)
  else
  tk (sX6_no M3) fun x4 =>
  (x4.1, x4.2)
set_option maxHeartbeats 4000000 in
set_option maxRecDepth 100000 in
theorem kX6_told (l : Launch) (D : va_G) (cy : Nat → ClassId) (z : Nat → Nat) (hz : zI z) (M : Mem) (i1 : Int32) (i2 : Int32) (hn : 0 ≤ (M.1 101 0).toInt ∧ (M.1 101 0).toInt ≤ 8) : KI l yX6_told wsX6_told { frames := 7, cells := 0, slots := 0, locals := 165 } D cy z 100 15 [.ref (z 100), .int i1, .int i2] M (fun r u => (r, u) = sX6_told M i1 i2) := by
  refine met_wp (lv := [(0, .ref (z 100)), (1, .int i1), (2, .int i2)]) hz (by decide) (by decide) rfl rfl (Nat.le_of_ble_eq_true rfl) rfl ?_
  intro p e s m below meth c hc hx hr hk
  have hNW := hx.2.1
  have hin6 : ∀ w ∈ wsX60, w ∈ wsX6_told := by decide +kernel
  have hf25 : Cond.fieldLink RX6 25 (TX6 8).1 (TX6 8).2.1 (TX6 8).2.2.1 ∈ wsX6_told := by decide +kernel
  have hf68 : Cond.fieldLink RX6 68 (TX6 7).1 (TX6 7).2.1 (TX6 7).2.2.1 ∈ wsX6_told := by decide +kernel
  have cw56 : CallW ({ frames := 7, cells := 0, slots := 0, locals := 165 }) s _ RX6 RX6 56 yX6_no cX6_no 1 (some .int) wsX6_no ({ frames := 0, cells := 0, slots := 0, locals := 0 }) 0 0 0 := cwV 0 hc.2.2.2.2 gX6_told_X6_no rfl rfl rfl (by decide +kernel) ⟨Nat.le_of_ble_eq_true rfl, Nat.le_of_ble_eq_true rfl⟩
  have cw81 : CallB ({ frames := 7, cells := 0, slots := 0, locals := 165 }) s _ RX6 81 yX6_in cX6_in 3 (some .boolean) wsX6_in ({ frames := 0, cells := 0, slots := 0, locals := 0 }) 0 0 3 ∧ (Cond.static yX6_in).before _ s = true := va_cwS 3 hc.2.2.2.2 gX6_told_X6_in rfl rfl rfl (by decide +kernel) ⟨Nat.le_of_ble_eq_true rfl, Nat.le_of_ble_eq_true rfl⟩
  have cw98 : CallW ({ frames := 7, cells := 0, slots := 0, locals := 165 }) s _ RX6 RX6 98 yX6_isBox cX6_isBox 2 (some .boolean) wsX6_isBox ({ frames := 1, cells := 0, slots := 0, locals := 22 }) 0 0 1 := cwV 1 hc.2.2.2.2 gX6_told_X6_isBox rfl rfl rfl (by decide +kernel) ⟨Nat.le_of_ble_eq_true rfl, Nat.le_of_ble_eq_true rfl⟩
  have cw105 : CallW ({ frames := 7, cells := 0, slots := 0, locals := 165 }) s _ RX6 RX6 105 yX6_bad cX6_bad 1 (some .int) wsX6_bad ({ frames := 0, cells := 0, slots := 0, locals := 0 }) 0 0 0 := cwV 0 hc.2.2.2.2 gX6_told_X6_bad rfl rfl rfl (by decide +kernel) ⟨Nat.le_of_ble_eq_true rfl, Nat.le_of_ble_eq_true rfl⟩
  have cw140 : CallW ({ frames := 7, cells := 0, slots := 0, locals := 165 }) s _ RX6 RX6 140 yX6_tellsBox cX6_tellsBox 3 none wsX6_tellsBox ({ frames := 6, cells := 0, slots := 0, locals := 143 }) 0 0 1 := cwV 1 hc.2.2.2.2 gX6_told_X6_tellsBox rfl rfl rfl (by decide +kernel) ⟨Nat.le_of_ble_eq_true rfl, Nat.le_of_ble_eq_true rfl⟩
  refine wp_aload_n hc 0 dX6_told_0 rfl ?_
  refine wp_iload_n hc 1 dX6_told_1 rfl ?_
  refine wp_callVf (As := [.int i1]) (rest := []) (j := 100) (v := (fX6_isBox M i1)) hc hx (kX6_isBox l D cy z hz M i1) cw98 (by decide) (by decide) (ce_5 rfl) rfl rfl rfl rfl (Nat.le_of_ble_eq_true rfl) dX6_told_2 ?_
  refine wp_if_eq (tgt := 17) hc dX6_told_5 (by decide) (fun c5 => ?_) (fun c5 => ?_)
  · refine wp_aload_n hc 0 dX6_told_17 rfl ?_
    refine wp_callVw (As := []) (rest := []) (j := 100) (w := sX6_bad M) hc hx (kX6_bad l D cy z hz M) cw105 (by decide) (by decide) (ce_5 rfl) rfl rfl rfl rfl (Nat.le_of_ble_eq_true rfl) dX6_told_18 (fun x1 hx1 => ?_)
    refine wp_iret hc hr hk ?_ dX6_told_21
    show (x1.1, x1.2) = sX6_told M i1 i2
    rw [sX6_told, if_pos c5, tk_eq hx1]
  refine wp_iload_n hc 2 dX6_told_8 rfl ?_
  refine wp_iconst (v := 0) hc dX6_told_9 (by decide) ?_
  refine wp_iconst (v := 3) hc dX6_told_10 (by decide) ?_
  refine wp_callSg (As := [.int i2, .int 0, .int 3]) (rest := []) (v := (fX6_in i2 0 3)) hc hNW (kX6_in l i2 0 3) cw81 rfl rfl (Nat.le_of_ble_eq_true rfl) dX6_told_11 ?_
  refine wp_if_ne (tgt := 22) hc dX6_told_14 (by decide) (fun c14 => ?_) (fun c14 => ?_)
  · refine wp_aload_n hc 0 dX6_told_22 rfl ?_
    refine wp_iconst (v := 0) hc dX6_told_23 (by decide) ?_
    refine wp_put (M' := st M 100 7 0) hc hx hin6 tyX6 tyX6_ok nmX6 (j := 100) (by decide) (by decide) (ce_5 rfl) rfl 7 (by decide) hf68 rfl rfl rfl (Nat.le_of_ble_eq_true rfl) (by rw [ce_5 rfl]; exact ce_stM7 _ _ _) (fun i hi => ce_row (va_up_ne _ _ hi) rfl) dX6_told_24 ?_
    refine wp_nm (fun M2 hM2 => ?_)
    refine wp_aload_n hc 0 dX6_told_27 rfl ?_
    refine wp_iload_n hc 1 dX6_told_28 rfl ?_
    refine wp_callVvw (As := [.int i1]) (rest := []) (j := 100) (w := sX6_tellsBox M2 i1) hc hx (kX6_tellsBox l D cy z hz M2 i1 (isBox_8 hn c5)) cw140 (by decide) (by decide) (ce_5 rfl) rfl rfl rfl rfl (Nat.le_of_ble_eq_true rfl) dX6_told_29 (fun M3 hM3 => ?_)
    refine wp_aload_n hc 0 dX6_told_32 rfl ?_
    refine wp_get hc hx hin6 (j := 100) (by decide) (by decide) (ce_5 rfl) rfl 7 (by decide) hf68 rfl dX6_told_33 ?_
    refine wp_if_eq (tgt := 46) hc dX6_told_36 (by decide) (fun c36 => ?_) (fun c36 => ?_)
    · refine wp_aload_n hc 0 dX6_told_46 rfl ?_
      refine wp_get hc hx hin6 (j := 100) (by decide) (by decide) (ce_5 rfl) rfl 8 (by decide) hf25 rfl dX6_told_47 ?_
      refine wp_iload_n hc 2 dX6_told_50 rfl ?_
      refine wp_iald hc hx (j := 106) (by decide) (by decide) rfl i2.toNatClampNeg rfl (vin (by have := in03 c14; show _ ∧ _ < ((4 : Nat) : Int); omega)) dX6_told_51 ?_
      refine wp_iret hc hr hk ?_ dX6_told_52
      show ((M3.1 106 i2.toNatClampNeg), M3) = sX6_told M i1 i2
      rw [sX6_told, if_neg c5, if_neg c14, tk_eq hM2, tk_eq hM3, if_pos c36]
    refine wp_aload_n hc 0 dX6_told_39 rfl ?_
    refine wp_callVw (As := []) (rest := []) (j := 100) (w := sX6_no M3) hc hx (kX6_no l D cy z hz M3) cw56 (by decide) (by decide) (ce_5 rfl) rfl rfl rfl rfl (Nat.le_of_ble_eq_true rfl) dX6_told_40 (fun x4 hx4 => ?_)
    refine wp_goto (tgt := 52) hc dX6_told_43 (by decide) ?_
    refine wp_iret hc hr hk ?_ dX6_told_52
    show (x4.1, x4.2) = sX6_told M i1 i2
    rw [sX6_told, if_neg c5, if_neg c14, tk_eq hM2, tk_eq hM3, if_neg c36, tk_eq hx4]
  refine wp_aload_n hc 0 dX6_told_17 rfl ?_
  refine wp_callVw (As := []) (rest := []) (j := 100) (w := sX6_bad M) hc hx (kX6_bad l D cy z hz M) cw105 (by decide) (by decide) (ce_5 rfl) rfl rfl rfl rfl (Nat.le_of_ble_eq_true rfl) dX6_told_18 (fun x5 hx5 => ?_)
  refine wp_iret hc hr hk ?_ dX6_told_21
  show (x5.1, x5.2) = sX6_told M i1 i2
  rw [sX6_told, if_neg c5, if_pos c14, tk_eq hx5]
def sX6_learnt (M : Mem) (i1 : Int32) : Int32 × Mem :=
  if (fX6_isError i1) = 0 then
  tk (sX6_bad M) fun x1 =>
  (x1.1, x1.2)
  else
  if (M.1 101 45) = 1 then
  ((M.1 101 (46 + i1).toNatClampNeg), M)
  else
  ((-1), M)
set_option maxHeartbeats 4000000 in
set_option maxRecDepth 100000 in
theorem kX6_learnt (l : Launch) (D : va_G) (cy : Nat → ClassId) (z : Nat → Nat) (hz : zI z) (M : Mem) (i1 : Int32) : KI l yX6_learnt wsX6_learnt { frames := 2, cells := 0, slots := 0, locals := 42 } D cy z 100 15 [.ref (z 100), .int i1] M (fun r u => (r, u) = sX6_learnt M i1) := by
  refine met_wp (lv := [(0, .ref (z 100)), (1, .int i1)]) hz (by decide) (by decide) rfl rfl (Nat.le_of_ble_eq_true rfl) rfl ?_
  intro p e s m below meth c hc hx hr hk
  have hNW := hx.2.1
  have hin6 : ∀ w ∈ wsX60, w ∈ wsX6_learnt := by decide +kernel
  have hf7 : Cond.fieldLink RX6 7 (TX6 0).1 (TX6 0).2.1 (TX6 0).2.2.1 ∈ wsX6_learnt := by decide +kernel
  have cw105 : CallW ({ frames := 2, cells := 0, slots := 0, locals := 42 }) s _ RX6 RX6 105 yX6_bad cX6_bad 1 (some .int) wsX6_bad ({ frames := 0, cells := 0, slots := 0, locals := 0 }) 0 0 0 := cwV 0 hc.2.2.2.2 gX6_learnt_X6_bad rfl rfl rfl (by decide +kernel) ⟨Nat.le_of_ble_eq_true rfl, Nat.le_of_ble_eq_true rfl⟩
  have cw111 : CallB ({ frames := 2, cells := 0, slots := 0, locals := 42 }) s _ RX6 111 yX6_isError cX6_isError 1 (some .boolean) wsX6_isError ({ frames := 1, cells := 0, slots := 0, locals := 22 }) 0 0 1 ∧ (Cond.static yX6_isError).before _ s = true := va_cwS 1 hc.2.2.2.2 gX6_learnt_X6_isError rfl rfl rfl (by decide +kernel) ⟨Nat.le_of_ble_eq_true rfl, Nat.le_of_ble_eq_true rfl⟩
  refine wp_iload_n hc 1 dX6_learnt_0 rfl ?_
  refine wp_callSg (As := [.int i1]) (rest := []) (v := (fX6_isError i1)) hc hNW (kX6_isError l i1) cw111 rfl rfl (Nat.le_of_ble_eq_true rfl) dX6_learnt_1 ?_
  refine wp_if_ne (tgt := 12) hc dX6_learnt_4 (by decide) (fun c4 => ?_) (fun c4 => ?_)
  · refine wp_aload_n hc 0 dX6_learnt_12 rfl ?_
    refine wp_get hc hx hin6 (j := 100) (by decide) (by decide) (ce_5 rfl) rfl 0 (by decide) hf7 rfl dX6_learnt_13 ?_
    refine wp_bipush (v := 45) hc dX6_learnt_16 (by decide) ?_
    refine wp_iald hc hx (j := 101) (by decide) (by decide) rfl 45 rfl (vin (by decide)) dX6_learnt_18 ?_
    refine wp_iconst (v := 1) hc dX6_learnt_19 (by decide) ?_
    refine wp_icmp_ne (tgt := 35) hc dX6_learnt_20 (by decide) (fun c20 => ?_) (fun c20 => ?_)
    · refine wp_iconst (v := (-1)) hc dX6_learnt_35 (by decide) ?_
      refine wp_iret hc hr hk ?_ dX6_learnt_36
      show ((-1), M) = sX6_learnt M i1
      rw [sX6_learnt, if_neg c4, if_neg c20]
    refine wp_aload_n hc 0 dX6_learnt_23 rfl ?_
    refine wp_get hc hx hin6 (j := 100) (by decide) (by decide) (ce_5 rfl) rfl 0 (by decide) hf7 rfl dX6_learnt_24 ?_
    refine wp_bipush (v := 46) hc dX6_learnt_27 (by decide) ?_
    refine wp_iload_n hc 1 dX6_learnt_29 rfl ?_
    refine wp_iadd hc dX6_learnt_30 ?_
    refine wp_iald hc hx (j := 101) (by decide) (by decide) rfl (46 + i1).toNatClampNeg rfl (vin (by rw [ixk (c := 46) (k := 46) rfl (by decide) (n := 12) (by decide) (inE c4), ln101]; have := inE c4; omega)) dX6_learnt_31 ?_
    refine wp_goto (tgt := 36) hc dX6_learnt_32 (by decide) ?_
    refine wp_iret hc hr hk ?_ dX6_learnt_36
    show ((M.1 101 (46 + i1).toNatClampNeg), M) = sX6_learnt M i1
    rw [sX6_learnt, if_neg c4, if_pos c20]
  refine wp_aload_n hc 0 dX6_learnt_7 rfl ?_
  refine wp_callVw (As := []) (rest := []) (j := 100) (w := sX6_bad M) hc hx (kX6_bad l D cy z hz M) cw105 (by decide) (by decide) (ce_5 rfl) rfl rfl rfl rfl (Nat.le_of_ble_eq_true rfl) dX6_learnt_8 (fun x1 hx1 => ?_)
  refine wp_iret hc hr hk ?_ dX6_learnt_11
  show (x1.1, x1.2) = sX6_learnt M i1
  rw [sX6_learnt, if_pos c4, tk_eq hx1]
def sX6_comesMade (M : Mem) (i1 : Int32) : Int32 × Mem :=
  if i1 = 0 then
  tk (sX6_no M) fun x4 =>
  (x4.1, x4.2)
  else
  if (M.1 101 0) = 8 then
  tk (sX6_full M) fun x3 =>
  (x3.1, x3.2)
  else
  tk (sX6_remembers M) fun M1 =>
  tk (sX6_comes M1 (M1.1 108 0) (M1.1 108 1) (M1.1 108 2) (M1.1 108 3)) fun x2 =>
  (x2.1, x2.2)
set_option maxHeartbeats 4000000 in
set_option maxRecDepth 100000 in
theorem kX6_comesMade (l : Launch) (D : va_G) (cy : Nat → ClassId) (z : Nat → Nat) (hz : zI z) (M : Mem) (i1 : Int32) (hn : 0 ≤ (M.1 101 0).toInt ∧ (M.1 101 0).toInt ≤ 8) (hs : 0 ≤ (M.1 100 3).toInt ∧ (M.1 100 3).toInt ≤ 5) : KI l yX6_comesMade wsX6_comesMade { frames := 2, cells := 0, slots := 0, locals := 46 } D cy z 100 15 [.ref (z 100), .int i1] M (fun r u => (r, u) = sX6_comesMade M i1) := by
  refine met_wp (lv := [(0, .ref (z 100)), (1, .int i1)]) hz (by decide) (by decide) rfl rfl (Nat.le_of_ble_eq_true rfl) rfl ?_
  intro p e s m below meth c hc hx hr hk
  have hNW := hx.2.1
  have hin6 : ∀ w ∈ wsX60, w ∈ wsX6_comesMade := by decide +kernel
  have hf7 : Cond.fieldLink RX6 7 (TX6 0).1 (TX6 0).2.1 (TX6 0).2.2.1 ∈ wsX6_comesMade := by decide +kernel
  have hf31 : Cond.fieldLink RX6 31 (TX6 10).1 (TX6 10).2.1 (TX6 10).2.2.1 ∈ wsX6_comesMade := by decide +kernel
  have cw56 : CallW ({ frames := 2, cells := 0, slots := 0, locals := 46 }) s _ RX6 RX6 56 yX6_no cX6_no 1 (some .int) wsX6_no ({ frames := 0, cells := 0, slots := 0, locals := 0 }) 0 0 0 := cwV 0 hc.2.2.2.2 gX6_comesMade_X6_no rfl rfl rfl (by decide +kernel) ⟨Nat.le_of_ble_eq_true rfl, Nat.le_of_ble_eq_true rfl⟩
  have cw88 : CallW ({ frames := 2, cells := 0, slots := 0, locals := 46 }) s _ RX6 RX6 88 yX6_full cX6_full 1 (some .int) wsX6_full ({ frames := 0, cells := 0, slots := 0, locals := 0 }) 0 0 0 := cwV 0 hc.2.2.2.2 gX6_comesMade_X6_full rfl rfl rfl (by decide +kernel) ⟨Nat.le_of_ble_eq_true rfl, Nat.le_of_ble_eq_true rfl⟩
  have cw91 : CallW ({ frames := 2, cells := 0, slots := 0, locals := 46 }) s _ RX6 RX6 91 yX6_remembers cX6_remembers 2 none wsX6_remembers ({ frames := 0, cells := 0, slots := 0, locals := 0 }) 0 0 0 := cwV 0 hc.2.2.2.2 gX6_comesMade_X6_remembers rfl rfl rfl (by decide +kernel) ⟨Nat.le_of_ble_eq_true rfl, Nat.le_of_ble_eq_true rfl⟩
  have cw94 : CallW ({ frames := 2, cells := 0, slots := 0, locals := 46 }) s _ RX6 RX6 94 yX6_comes cX6_comes 6 (some .int) wsX6_comes ({ frames := 1, cells := 0, slots := 0, locals := 21 }) 0 0 4 := cwV 4 hc.2.2.2.2 gX6_comesMade_X6_comes rfl rfl rfl (by decide +kernel) ⟨Nat.le_of_ble_eq_true rfl, Nat.le_of_ble_eq_true rfl⟩
  refine wp_iload_n hc 1 dX6_comesMade_0 rfl ?_
  refine wp_if_ne (tgt := 9) hc dX6_comesMade_1 (by decide) (fun c1 => ?_) (fun c1 => ?_)
  · refine wp_aload_n hc 0 dX6_comesMade_9 rfl ?_
    refine wp_get hc hx hin6 (j := 100) (by decide) (by decide) (ce_5 rfl) rfl 0 (by decide) hf7 rfl dX6_comesMade_10 ?_
    refine wp_iconst (v := 0) hc dX6_comesMade_13 (by decide) ?_
    refine wp_iald hc hx (j := 101) (by decide) (by decide) rfl 0 rfl (vin (by decide)) dX6_comesMade_14 ?_
    refine wp_bipush (v := 8) hc dX6_comesMade_15 (by decide) ?_
    refine wp_icmp_ne (tgt := 25) hc dX6_comesMade_17 (by decide) (fun c17 => ?_) (fun c17 => ?_)
    · refine wp_aload_n hc 0 dX6_comesMade_25 rfl ?_
      refine wp_callVvw (As := []) (rest := []) (j := 100) (w := sX6_remembers M) hc hx (kX6_remembers l D cy z hz M hs) cw91 (by decide) (by decide) (ce_5 rfl) rfl rfl rfl rfl (Nat.le_of_ble_eq_true rfl) dX6_comesMade_26 (fun M1 hM1 => ?_)
      refine wp_aload_n hc 0 dX6_comesMade_29 rfl ?_
      refine wp_aload_n hc 0 dX6_comesMade_30 rfl ?_
      refine wp_get hc hx hin6 (j := 100) (by decide) (by decide) (ce_5 rfl) rfl 10 (by decide) hf31 rfl dX6_comesMade_31 ?_
      refine wp_iconst (v := 0) hc dX6_comesMade_34 (by decide) ?_
      refine wp_iald hc hx (j := 108) (by decide) (by decide) rfl 0 rfl (vin (by decide)) dX6_comesMade_35 ?_
      refine wp_aload_n hc 0 dX6_comesMade_36 rfl ?_
      refine wp_get hc hx hin6 (j := 100) (by decide) (by decide) (ce_5 rfl) rfl 10 (by decide) hf31 rfl dX6_comesMade_37 ?_
      refine wp_iconst (v := 1) hc dX6_comesMade_40 (by decide) ?_
      refine wp_iald hc hx (j := 108) (by decide) (by decide) rfl 1 rfl (vin (by decide)) dX6_comesMade_41 ?_
      refine wp_aload_n hc 0 dX6_comesMade_42 rfl ?_
      refine wp_get hc hx hin6 (j := 100) (by decide) (by decide) (ce_5 rfl) rfl 10 (by decide) hf31 rfl dX6_comesMade_43 ?_
      refine wp_iconst (v := 2) hc dX6_comesMade_46 (by decide) ?_
      refine wp_iald hc hx (j := 108) (by decide) (by decide) rfl 2 rfl (vin (by decide)) dX6_comesMade_47 ?_
      refine wp_aload_n hc 0 dX6_comesMade_48 rfl ?_
      refine wp_get hc hx hin6 (j := 100) (by decide) (by decide) (ce_5 rfl) rfl 10 (by decide) hf31 rfl dX6_comesMade_49 ?_
      refine wp_iconst (v := 3) hc dX6_comesMade_52 (by decide) ?_
      refine wp_iald hc hx (j := 108) (by decide) (by decide) rfl 3 rfl (vin (by decide)) dX6_comesMade_53 ?_
      refine wp_callVw (As := [.int (M1.1 108 0), .int (M1.1 108 1), .int (M1.1 108 2), .int (M1.1 108 3)]) (rest := []) (j := 100) (w := sX6_comes M1 (M1.1 108 0) (M1.1 108 1) (M1.1 108 2) (M1.1 108 3)) hc hx (kX6_comes l D cy z hz M1 (M1.1 108 0) (M1.1 108 1) (M1.1 108 2) (M1.1 108 3) (by rw [hM1, fr_rem]; exact lt8 hn c17)) cw94 (by decide) (by decide) (ce_5 rfl) rfl rfl rfl rfl (Nat.le_of_ble_eq_true rfl) dX6_comesMade_54 (fun x2 hx2 => ?_)
      refine wp_iret hc hr hk ?_ dX6_comesMade_57
      show (x2.1, x2.2) = sX6_comesMade M i1
      rw [sX6_comesMade, if_neg c1, if_neg c17, tk_eq hM1, tk_eq hx2]
    refine wp_aload_n hc 0 dX6_comesMade_20 rfl ?_
    refine wp_callVw (As := []) (rest := []) (j := 100) (w := sX6_full M) hc hx (kX6_full l D cy z hz M) cw88 (by decide) (by decide) (ce_5 rfl) rfl rfl rfl rfl (Nat.le_of_ble_eq_true rfl) dX6_comesMade_21 (fun x3 hx3 => ?_)
    refine wp_iret hc hr hk ?_ dX6_comesMade_24
    show (x3.1, x3.2) = sX6_comesMade M i1
    rw [sX6_comesMade, if_neg c1, if_pos c17, tk_eq hx3]
  refine wp_aload_n hc 0 dX6_comesMade_4 rfl ?_
  refine wp_callVw (As := []) (rest := []) (j := 100) (w := sX6_no M) hc hx (kX6_no l D cy z hz M) cw56 (by decide) (by decide) (ce_5 rfl) rfl rfl rfl rfl (Nat.le_of_ble_eq_true rfl) dX6_comesMade_5 (fun x4 hx4 => ?_)
  refine wp_iret hc hr hk ?_ dX6_comesMade_8
  show (x4.1, x4.2) = sX6_comesMade M i1
  rw [sX6_comesMade, if_pos c1, tk_eq hx4]
def sX6_reads (M : Mem) (i1 : Int32) : Int32 × Mem :=
  if (fX6_isBox M i1) = 0 then
  tk (sX6_bad M) fun x1 =>
  (x1.1, x1.2)
  else
  tk (sX6_canRead M i1) fun x2 =>
  tk (sX6_comesMade x2.2 x2.1) fun x3 =>
  (x3.1, x3.2)
set_option maxHeartbeats 4000000 in
set_option maxRecDepth 100000 in
theorem kX6_reads (l : Launch) (D : va_G) (cy : Nat → ClassId) (z : Nat → Nat) (hz : zI z) (M : Mem) (i1 : Int32) (hn : 0 ≤ (M.1 101 0).toInt ∧ (M.1 101 0).toInt ≤ 8) (hs : 0 ≤ (M.1 100 3).toInt ∧ (M.1 100 3).toInt ≤ 5) : KI l yX6_reads wsX6_reads { frames := 9, cells := 0, slots := 0, locals := 216 } D cy z 100 15 [.ref (z 100), .int i1] M (fun r u => (r, u) = sX6_reads M i1) := by
  refine met_wp (lv := [(0, .ref (z 100)), (1, .int i1)]) hz (by decide) (by decide) rfl rfl (Nat.le_of_ble_eq_true rfl) rfl ?_
  intro p e s m below meth c hc hx hr hk
  have hNW := hx.2.1
  have cw98 : CallW ({ frames := 9, cells := 0, slots := 0, locals := 216 }) s _ RX6 RX6 98 yX6_isBox cX6_isBox 2 (some .boolean) wsX6_isBox ({ frames := 1, cells := 0, slots := 0, locals := 22 }) 0 0 1 := cwV 1 hc.2.2.2.2 gX6_reads_X6_isBox rfl rfl rfl (by decide +kernel) ⟨Nat.le_of_ble_eq_true rfl, Nat.le_of_ble_eq_true rfl⟩
  have cw105 : CallW ({ frames := 9, cells := 0, slots := 0, locals := 216 }) s _ RX6 RX6 105 yX6_bad cX6_bad 1 (some .int) wsX6_bad ({ frames := 0, cells := 0, slots := 0, locals := 0 }) 0 0 0 := cwV 0 hc.2.2.2.2 gX6_reads_X6_bad rfl rfl rfl (by decide +kernel) ⟨Nat.le_of_ble_eq_true rfl, Nat.le_of_ble_eq_true rfl⟩
  have cw168 : CallW ({ frames := 9, cells := 0, slots := 0, locals := 216 }) s _ RX6 RX6 168 yX6_canRead cX6_canRead 2 (some .boolean) wsX6_canRead ({ frames := 8, cells := 0, slots := 0, locals := 195 }) 0 0 1 := cwV 1 hc.2.2.2.2 gX6_reads_X6_canRead rfl rfl rfl (by decide +kernel) ⟨Nat.le_of_ble_eq_true rfl, Nat.le_of_ble_eq_true rfl⟩
  have cw171 : CallW ({ frames := 9, cells := 0, slots := 0, locals := 216 }) s _ RX6 RX6 171 yX6_comesMade cX6_comesMade 2 (some .int) wsX6_comesMade ({ frames := 2, cells := 0, slots := 0, locals := 46 }) 0 0 1 := cwV 1 hc.2.2.2.2 gX6_reads_X6_comesMade rfl rfl rfl (by decide +kernel) ⟨Nat.le_of_ble_eq_true rfl, Nat.le_of_ble_eq_true rfl⟩
  refine wp_aload_n hc 0 dX6_reads_0 rfl ?_
  refine wp_iload_n hc 1 dX6_reads_1 rfl ?_
  refine wp_callVf (As := [.int i1]) (rest := []) (j := 100) (v := (fX6_isBox M i1)) hc hx (kX6_isBox l D cy z hz M i1) cw98 (by decide) (by decide) (ce_5 rfl) rfl rfl rfl rfl (Nat.le_of_ble_eq_true rfl) dX6_reads_2 ?_
  refine wp_if_eq (tgt := 20) hc dX6_reads_5 (by decide) (fun c5 => ?_) (fun c5 => ?_)
  · refine wp_aload_n hc 0 dX6_reads_20 rfl ?_
    refine wp_callVw (As := []) (rest := []) (j := 100) (w := sX6_bad M) hc hx (kX6_bad l D cy z hz M) cw105 (by decide) (by decide) (ce_5 rfl) rfl rfl rfl rfl (Nat.le_of_ble_eq_true rfl) dX6_reads_21 (fun x1 hx1 => ?_)
    refine wp_iret hc hr hk ?_ dX6_reads_24
    show (x1.1, x1.2) = sX6_reads M i1
    rw [sX6_reads, if_pos c5, tk_eq hx1]
  refine wp_aload_n hc 0 dX6_reads_8 rfl ?_
  refine wp_aload_n hc 0 dX6_reads_9 rfl ?_
  refine wp_iload_n hc 1 dX6_reads_10 rfl ?_
  refine wp_callVw (As := [.int i1]) (rest := [.ref (z 100)]) (j := 100) (w := sX6_canRead M i1) hc hx (kX6_canRead l D cy z hz M i1 (isBox_8 hn c5)) cw168 (by decide) (by decide) (ce_5 rfl) rfl rfl rfl rfl (Nat.le_of_ble_eq_true rfl) dX6_reads_11 (fun x2 hx2 => ?_)
  refine wp_callVw (As := [.int x2.1]) (rest := []) (j := 100) (w := sX6_comesMade x2.2 x2.1) hc hx (kX6_comesMade l D cy z hz x2.2 x2.1 (KP.hn (show KP2 M x2 from by rw [hx2]; apply kpX6_canRead) hn) (KP.hs (show KP2 M x2 from by rw [hx2]; apply kpX6_canRead) hs)) cw171 (by decide) (by decide) (ce_5 rfl) rfl rfl rfl rfl (Nat.le_of_ble_eq_true rfl) dX6_reads_14 (fun x3 hx3 => ?_)
  refine wp_goto (tgt := 24) hc dX6_reads_17 (by decide) ?_
  refine wp_iret hc hr hk ?_ dX6_reads_24
  show (x3.1, x3.2) = sX6_reads M i1
  rw [sX6_reads, if_neg c5, tk_eq hx2, tk_eq hx3]
def sX6_chains (M : Mem) (i1 : Int32) (i2 : Int32) : Int32 × Mem :=
  if (fX6_isBox M i1) = 0 then
  tk (sX6_bad M) fun x1 =>
  (x1.1, x1.2)
  else
  if (fX6_isBox M i2) = 0 then
  tk (sX6_bad M) fun x2 =>
  (x2.1, x2.2)
  else
  tk (sX6_canChain M i1 i2) fun x3 =>
  tk (sX6_comesMade x3.2 x3.1) fun x4 =>
  (x4.1, x4.2)
set_option maxHeartbeats 4000000 in
set_option maxRecDepth 100000 in
theorem kX6_chains (l : Launch) (D : va_G) (cy : Nat → ClassId) (z : Nat → Nat) (hz : zI z) (M : Mem) (i1 : Int32) (i2 : Int32) (hn : 0 ≤ (M.1 101 0).toInt ∧ (M.1 101 0).toInt ≤ 8) (hs : 0 ≤ (M.1 100 3).toInt ∧ (M.1 100 3).toInt ≤ 5) : KI l yX6_chains wsX6_chains { frames := 7, cells := 0, slots := 0, locals := 158 } D cy z 100 15 [.ref (z 100), .int i1, .int i2] M (fun r u => (r, u) = sX6_chains M i1 i2) := by
  refine met_wp (lv := [(0, .ref (z 100)), (1, .int i1), (2, .int i2)]) hz (by decide) (by decide) rfl rfl (Nat.le_of_ble_eq_true rfl) rfl ?_
  intro p e s m below meth c hc hx hr hk
  have hNW := hx.2.1
  have cw98 : CallW ({ frames := 7, cells := 0, slots := 0, locals := 158 }) s _ RX6 RX6 98 yX6_isBox cX6_isBox 2 (some .boolean) wsX6_isBox ({ frames := 1, cells := 0, slots := 0, locals := 22 }) 0 0 1 := cwV 1 hc.2.2.2.2 gX6_chains_X6_isBox rfl rfl rfl (by decide +kernel) ⟨Nat.le_of_ble_eq_true rfl, Nat.le_of_ble_eq_true rfl⟩
  have cw105 : CallW ({ frames := 7, cells := 0, slots := 0, locals := 158 }) s _ RX6 RX6 105 yX6_bad cX6_bad 1 (some .int) wsX6_bad ({ frames := 0, cells := 0, slots := 0, locals := 0 }) 0 0 0 := cwV 0 hc.2.2.2.2 gX6_chains_X6_bad rfl rfl rfl (by decide +kernel) ⟨Nat.le_of_ble_eq_true rfl, Nat.le_of_ble_eq_true rfl⟩
  have cw171 : CallW ({ frames := 7, cells := 0, slots := 0, locals := 158 }) s _ RX6 RX6 171 yX6_comesMade cX6_comesMade 2 (some .int) wsX6_comesMade ({ frames := 2, cells := 0, slots := 0, locals := 46 }) 0 0 1 := cwV 1 hc.2.2.2.2 gX6_chains_X6_comesMade rfl rfl rfl (by decide +kernel) ⟨Nat.le_of_ble_eq_true rfl, Nat.le_of_ble_eq_true rfl⟩
  have cw188 : CallW ({ frames := 7, cells := 0, slots := 0, locals := 158 }) s _ RX6 RX6 188 yX6_canChain cX6_canChain 3 (some .boolean) wsX6_canChain ({ frames := 6, cells := 0, slots := 0, locals := 136 }) 0 0 2 := cwV 2 hc.2.2.2.2 gX6_chains_X6_canChain rfl rfl rfl (by decide +kernel) ⟨Nat.le_of_ble_eq_true rfl, Nat.le_of_ble_eq_true rfl⟩
  refine wp_aload_n hc 0 dX6_chains_0 rfl ?_
  refine wp_iload_n hc 1 dX6_chains_1 rfl ?_
  refine wp_callVf (As := [.int i1]) (rest := []) (j := 100) (v := (fX6_isBox M i1)) hc hx (kX6_isBox l D cy z hz M i1) cw98 (by decide) (by decide) (ce_5 rfl) rfl rfl rfl rfl (Nat.le_of_ble_eq_true rfl) dX6_chains_2 ?_
  refine wp_if_eq (tgt := 29) hc dX6_chains_5 (by decide) (fun c5 => ?_) (fun c5 => ?_)
  · refine wp_aload_n hc 0 dX6_chains_29 rfl ?_
    refine wp_callVw (As := []) (rest := []) (j := 100) (w := sX6_bad M) hc hx (kX6_bad l D cy z hz M) cw105 (by decide) (by decide) (ce_5 rfl) rfl rfl rfl rfl (Nat.le_of_ble_eq_true rfl) dX6_chains_30 (fun x1 hx1 => ?_)
    refine wp_iret hc hr hk ?_ dX6_chains_33
    show (x1.1, x1.2) = sX6_chains M i1 i2
    rw [sX6_chains, if_pos c5, tk_eq hx1]
  refine wp_aload_n hc 0 dX6_chains_8 rfl ?_
  refine wp_iload_n hc 2 dX6_chains_9 rfl ?_
  refine wp_callVf (As := [.int i2]) (rest := []) (j := 100) (v := (fX6_isBox M i2)) hc hx (kX6_isBox l D cy z hz M i2) cw98 (by decide) (by decide) (ce_5 rfl) rfl rfl rfl rfl (Nat.le_of_ble_eq_true rfl) dX6_chains_10 ?_
  refine wp_if_eq (tgt := 29) hc dX6_chains_13 (by decide) (fun c13 => ?_) (fun c13 => ?_)
  · refine wp_aload_n hc 0 dX6_chains_29 rfl ?_
    refine wp_callVw (As := []) (rest := []) (j := 100) (w := sX6_bad M) hc hx (kX6_bad l D cy z hz M) cw105 (by decide) (by decide) (ce_5 rfl) rfl rfl rfl rfl (Nat.le_of_ble_eq_true rfl) dX6_chains_30 (fun x2 hx2 => ?_)
    refine wp_iret hc hr hk ?_ dX6_chains_33
    show (x2.1, x2.2) = sX6_chains M i1 i2
    rw [sX6_chains, if_neg c5, if_pos c13, tk_eq hx2]
  refine wp_aload_n hc 0 dX6_chains_16 rfl ?_
  refine wp_aload_n hc 0 dX6_chains_17 rfl ?_
  refine wp_iload_n hc 1 dX6_chains_18 rfl ?_
  refine wp_iload_n hc 2 dX6_chains_19 rfl ?_
  refine wp_callVw (As := [.int i1, .int i2]) (rest := [.ref (z 100)]) (j := 100) (w := sX6_canChain M i1 i2) hc hx (kX6_canChain l D cy z hz M i1 i2 (isBox_8 hn c5) (isBox_8 hn c13)) cw188 (by decide) (by decide) (ce_5 rfl) rfl rfl rfl rfl (Nat.le_of_ble_eq_true rfl) dX6_chains_20 (fun x3 hx3 => ?_)
  refine wp_callVw (As := [.int x3.1]) (rest := []) (j := 100) (w := sX6_comesMade x3.2 x3.1) hc hx (kX6_comesMade l D cy z hz x3.2 x3.1 (KP.hn (show KP2 M x3 from by rw [hx3]; apply kpX6_canChain) hn) (KP.hs (show KP2 M x3 from by rw [hx3]; apply kpX6_canChain) hs)) cw171 (by decide) (by decide) (ce_5 rfl) rfl rfl rfl rfl (Nat.le_of_ble_eq_true rfl) dX6_chains_23 (fun x4 hx4 => ?_)
  refine wp_goto (tgt := 33) hc dX6_chains_26 (by decide) ?_
  refine wp_iret hc hr hk ?_ dX6_chains_33
  show (x4.1, x4.2) = sX6_chains M i1 i2
  rw [sX6_chains, if_neg c5, if_neg c13, tk_eq hx3, tk_eq hx4]
def sX6_peels (M : Mem) (i1 : Int32) (i2 : Int32) (i3 : Int32) : Int32 × Mem :=
  if (fX6_isBox M i1) = 0 then
  tk (sX6_bad M) fun x1 =>
  (x1.1, x1.2)
  else
  if (fX6_isBox M i2) = 0 then
  tk (sX6_bad M) fun x2 =>
  (x2.1, x2.2)
  else
  if (fX6_isBox M i3) = 0 then
  tk (sX6_bad M) fun x3 =>
  (x3.1, x3.2)
  else
  tk (sX6_canPeel M i1 i2 i3) fun x4 =>
  tk (sX6_comesMade x4.2 x4.1) fun x5 =>
  (x5.1, x5.2)
set_option maxHeartbeats 4000000 in
set_option maxRecDepth 100000 in
theorem kX6_peels (l : Launch) (D : va_G) (cy : Nat → ClassId) (z : Nat → Nat) (hz : zI z) (M : Mem) (i1 : Int32) (i2 : Int32) (i3 : Int32) (hn : 0 ≤ (M.1 101 0).toInt ∧ (M.1 101 0).toInt ≤ 8) (hs : 0 ≤ (M.1 100 3).toInt ∧ (M.1 100 3).toInt ≤ 5) : KI l yX6_peels wsX6_peels { frames := 7, cells := 0, slots := 0, locals := 159 } D cy z 100 15 [.ref (z 100), .int i1, .int i2, .int i3] M (fun r u => (r, u) = sX6_peels M i1 i2 i3) := by
  refine met_wp (lv := [(0, .ref (z 100)), (1, .int i1), (2, .int i2), (3, .int i3)]) hz (by decide) (by decide) rfl rfl (Nat.le_of_ble_eq_true rfl) rfl ?_
  intro p e s m below meth c hc hx hr hk
  have hNW := hx.2.1
  have cw98 : CallW ({ frames := 7, cells := 0, slots := 0, locals := 159 }) s _ RX6 RX6 98 yX6_isBox cX6_isBox 2 (some .boolean) wsX6_isBox ({ frames := 1, cells := 0, slots := 0, locals := 22 }) 0 0 1 := cwV 1 hc.2.2.2.2 gX6_peels_X6_isBox rfl rfl rfl (by decide +kernel) ⟨Nat.le_of_ble_eq_true rfl, Nat.le_of_ble_eq_true rfl⟩
  have cw105 : CallW ({ frames := 7, cells := 0, slots := 0, locals := 159 }) s _ RX6 RX6 105 yX6_bad cX6_bad 1 (some .int) wsX6_bad ({ frames := 0, cells := 0, slots := 0, locals := 0 }) 0 0 0 := cwV 0 hc.2.2.2.2 gX6_peels_X6_bad rfl rfl rfl (by decide +kernel) ⟨Nat.le_of_ble_eq_true rfl, Nat.le_of_ble_eq_true rfl⟩
  have cw171 : CallW ({ frames := 7, cells := 0, slots := 0, locals := 159 }) s _ RX6 RX6 171 yX6_comesMade cX6_comesMade 2 (some .int) wsX6_comesMade ({ frames := 2, cells := 0, slots := 0, locals := 46 }) 0 0 1 := cwV 1 hc.2.2.2.2 gX6_peels_X6_comesMade rfl rfl rfl (by decide +kernel) ⟨Nat.le_of_ble_eq_true rfl, Nat.le_of_ble_eq_true rfl⟩
  have cw200 : CallW ({ frames := 7, cells := 0, slots := 0, locals := 159 }) s _ RX6 RX6 200 yX6_canPeel cX6_canPeel 4 (some .boolean) wsX6_canPeel ({ frames := 6, cells := 0, slots := 0, locals := 136 }) 0 0 3 := cwV 3 hc.2.2.2.2 gX6_peels_X6_canPeel rfl rfl rfl (by decide +kernel) ⟨Nat.le_of_ble_eq_true rfl, Nat.le_of_ble_eq_true rfl⟩
  refine wp_aload_n hc 0 dX6_peels_0 rfl ?_
  refine wp_iload_n hc 1 dX6_peels_1 rfl ?_
  refine wp_callVf (As := [.int i1]) (rest := []) (j := 100) (v := (fX6_isBox M i1)) hc hx (kX6_isBox l D cy z hz M i1) cw98 (by decide) (by decide) (ce_5 rfl) rfl rfl rfl rfl (Nat.le_of_ble_eq_true rfl) dX6_peels_2 ?_
  refine wp_if_eq (tgt := 38) hc dX6_peels_5 (by decide) (fun c5 => ?_) (fun c5 => ?_)
  · refine wp_aload_n hc 0 dX6_peels_38 rfl ?_
    refine wp_callVw (As := []) (rest := []) (j := 100) (w := sX6_bad M) hc hx (kX6_bad l D cy z hz M) cw105 (by decide) (by decide) (ce_5 rfl) rfl rfl rfl rfl (Nat.le_of_ble_eq_true rfl) dX6_peels_39 (fun x1 hx1 => ?_)
    refine wp_iret hc hr hk ?_ dX6_peels_42
    show (x1.1, x1.2) = sX6_peels M i1 i2 i3
    rw [sX6_peels, if_pos c5, tk_eq hx1]
  refine wp_aload_n hc 0 dX6_peels_8 rfl ?_
  refine wp_iload_n hc 2 dX6_peels_9 rfl ?_
  refine wp_callVf (As := [.int i2]) (rest := []) (j := 100) (v := (fX6_isBox M i2)) hc hx (kX6_isBox l D cy z hz M i2) cw98 (by decide) (by decide) (ce_5 rfl) rfl rfl rfl rfl (Nat.le_of_ble_eq_true rfl) dX6_peels_10 ?_
  refine wp_if_eq (tgt := 38) hc dX6_peels_13 (by decide) (fun c13 => ?_) (fun c13 => ?_)
  · refine wp_aload_n hc 0 dX6_peels_38 rfl ?_
    refine wp_callVw (As := []) (rest := []) (j := 100) (w := sX6_bad M) hc hx (kX6_bad l D cy z hz M) cw105 (by decide) (by decide) (ce_5 rfl) rfl rfl rfl rfl (Nat.le_of_ble_eq_true rfl) dX6_peels_39 (fun x2 hx2 => ?_)
    refine wp_iret hc hr hk ?_ dX6_peels_42
    show (x2.1, x2.2) = sX6_peels M i1 i2 i3
    rw [sX6_peels, if_neg c5, if_pos c13, tk_eq hx2]
  refine wp_aload_n hc 0 dX6_peels_16 rfl ?_
  refine wp_iload_n hc 3 dX6_peels_17 rfl ?_
  refine wp_callVf (As := [.int i3]) (rest := []) (j := 100) (v := (fX6_isBox M i3)) hc hx (kX6_isBox l D cy z hz M i3) cw98 (by decide) (by decide) (ce_5 rfl) rfl rfl rfl rfl (Nat.le_of_ble_eq_true rfl) dX6_peels_18 ?_
  refine wp_if_eq (tgt := 38) hc dX6_peels_21 (by decide) (fun c21 => ?_) (fun c21 => ?_)
  · refine wp_aload_n hc 0 dX6_peels_38 rfl ?_
    refine wp_callVw (As := []) (rest := []) (j := 100) (w := sX6_bad M) hc hx (kX6_bad l D cy z hz M) cw105 (by decide) (by decide) (ce_5 rfl) rfl rfl rfl rfl (Nat.le_of_ble_eq_true rfl) dX6_peels_39 (fun x3 hx3 => ?_)
    refine wp_iret hc hr hk ?_ dX6_peels_42
    show (x3.1, x3.2) = sX6_peels M i1 i2 i3
    rw [sX6_peels, if_neg c5, if_neg c13, if_pos c21, tk_eq hx3]
  refine wp_aload_n hc 0 dX6_peels_24 rfl ?_
  refine wp_aload_n hc 0 dX6_peels_25 rfl ?_
  refine wp_iload_n hc 1 dX6_peels_26 rfl ?_
  refine wp_iload_n hc 2 dX6_peels_27 rfl ?_
  refine wp_iload_n hc 3 dX6_peels_28 rfl ?_
  refine wp_callVw (As := [.int i1, .int i2, .int i3]) (rest := [.ref (z 100)]) (j := 100) (w := sX6_canPeel M i1 i2 i3) hc hx (kX6_canPeel l D cy z hz M i1 i2 i3 (isBox_8 hn c5) (isBox_8 hn c13) (isBox_8 hn c21)) cw200 (by decide) (by decide) (ce_5 rfl) rfl rfl rfl rfl (Nat.le_of_ble_eq_true rfl) dX6_peels_29 (fun x4 hx4 => ?_)
  refine wp_callVw (As := [.int x4.1]) (rest := []) (j := 100) (w := sX6_comesMade x4.2 x4.1) hc hx (kX6_comesMade l D cy z hz x4.2 x4.1 (KP.hn (show KP2 M x4 from by rw [hx4]; apply kpX6_canPeel) hn) (KP.hs (show KP2 M x4 from by rw [hx4]; apply kpX6_canPeel) hs)) cw171 (by decide) (by decide) (ce_5 rfl) rfl rfl rfl rfl (Nat.le_of_ble_eq_true rfl) dX6_peels_32 (fun x5 hx5 => ?_)
  refine wp_goto (tgt := 42) hc dX6_peels_35 (by decide) ?_
  refine wp_iret hc hr hk ?_ dX6_peels_42
  show (x5.1, x5.2) = sX6_peels M i1 i2 i3
  rw [sX6_peels, if_neg c5, if_neg c13, if_neg c21, tk_eq hx4, tk_eq hx5]
def sX6_form (M : Mem) (i1 : Int32) (i2 : Int32) (i3 : Int32) : Int32 × Mem :=
  if (fX6_isBox M i1) = 0 then
  tk (sX6_bad M) fun x1 =>
  (x1.1, x1.2)
  else
  if (fX6_in i2 1 3) = 0 then
  tk (sX6_bad M) fun x2 =>
  (x2.1, x2.2)
  else
  if (fX6_in i3 0 3) = 0 then
  tk (sX6_bad M) fun x14 =>
  (x14.1, x14.2)
  else
  tk (st M 100 7 0) fun M3 =>
  if i2 = 1 then
  tk (sX6_formsTo_1 M3 i1) fun M9 =>
  if i2 = 3 then
  if (M9.1 100 7) = 0 then
  tk (sX6_inverts_1 M9) fun M12 =>
  if (M12.1 100 7) = 0 then
  ((M12.1 109 i3.toNatClampNeg), M12)
  else
  tk (sX6_no M12) fun x13 =>
  (x13.1, x13.2)
  else
  if (M9.1 100 7) = 0 then
  ((M9.1 109 i3.toNatClampNeg), M9)
  else
  tk (sX6_no M9) fun x11 =>
  (x11.1, x11.2)
  else
  if (M9.1 100 7) = 0 then
  ((M9.1 109 i3.toNatClampNeg), M9)
  else
  tk (sX6_no M9) fun x10 =>
  (x10.1, x10.2)
  else
  tk (sX6_formsSecond M3 i1) fun M4 =>
  if i2 = 3 then
  if (M4.1 100 7) = 0 then
  tk (sX6_inverts_1 M4) fun M7 =>
  if (M7.1 100 7) = 0 then
  ((M7.1 109 i3.toNatClampNeg), M7)
  else
  tk (sX6_no M7) fun x8 =>
  (x8.1, x8.2)
  else
  if (M4.1 100 7) = 0 then
  ((M4.1 109 i3.toNatClampNeg), M4)
  else
  tk (sX6_no M4) fun x6 =>
  (x6.1, x6.2)
  else
  if (M4.1 100 7) = 0 then
  ((M4.1 109 i3.toNatClampNeg), M4)
  else
  tk (sX6_no M4) fun x5 =>
  (x5.1, x5.2)
set_option maxHeartbeats 4000000 in
set_option maxRecDepth 100000 in
theorem kX6_form (l : Launch) (D : va_G) (cy : Nat → ClassId) (z : Nat → Nat) (hz : zI z) (M : Mem) (i1 : Int32) (i2 : Int32) (i3 : Int32) (hn : 0 ≤ (M.1 101 0).toInt ∧ (M.1 101 0).toInt ≤ 8) : KI l yX6_form wsX6_form { frames := 6, cells := 0, slots := 0, locals := 136 } D cy z 100 15 [.ref (z 100), .int i1, .int i2, .int i3] M (fun r u => (r, u) = sX6_form M i1 i2 i3) := by
  refine met_wp (lv := [(0, .ref (z 100)), (1, .int i1), (2, .int i2), (3, .int i3)]) hz (by decide) (by decide) rfl rfl (Nat.le_of_ble_eq_true rfl) rfl ?_
  intro p e s m below meth c hc hx hr hk
  have hNW := hx.2.1
  have hin6 : ∀ w ∈ wsX60, w ∈ wsX6_form := by decide +kernel
  have hf34 : Cond.fieldLink RX6 34 (TX6 11).1 (TX6 11).2.1 (TX6 11).2.2.1 ∈ wsX6_form := by decide +kernel
  have hf68 : Cond.fieldLink RX6 68 (TX6 7).1 (TX6 7).2.1 (TX6 7).2.2.1 ∈ wsX6_form := by decide +kernel
  have cw56 : CallW ({ frames := 6, cells := 0, slots := 0, locals := 136 }) s _ RX6 RX6 56 yX6_no cX6_no 1 (some .int) wsX6_no ({ frames := 0, cells := 0, slots := 0, locals := 0 }) 0 0 0 := cwV 0 hc.2.2.2.2 gX6_form_X6_no rfl rfl rfl (by decide +kernel) ⟨Nat.le_of_ble_eq_true rfl, Nat.le_of_ble_eq_true rfl⟩
  have cw81 : CallB ({ frames := 6, cells := 0, slots := 0, locals := 136 }) s _ RX6 81 yX6_in cX6_in 3 (some .boolean) wsX6_in ({ frames := 0, cells := 0, slots := 0, locals := 0 }) 0 0 3 ∧ (Cond.static yX6_in).before _ s = true := va_cwS 3 hc.2.2.2.2 gX6_form_X6_in rfl rfl rfl (by decide +kernel) ⟨Nat.le_of_ble_eq_true rfl, Nat.le_of_ble_eq_true rfl⟩
  have cw98 : CallW ({ frames := 6, cells := 0, slots := 0, locals := 136 }) s _ RX6 RX6 98 yX6_isBox cX6_isBox 2 (some .boolean) wsX6_isBox ({ frames := 1, cells := 0, slots := 0, locals := 22 }) 0 0 1 := cwV 1 hc.2.2.2.2 gX6_form_X6_isBox rfl rfl rfl (by decide +kernel) ⟨Nat.le_of_ble_eq_true rfl, Nat.le_of_ble_eq_true rfl⟩
  have cw105 : CallW ({ frames := 6, cells := 0, slots := 0, locals := 136 }) s _ RX6 RX6 105 yX6_bad cX6_bad 1 (some .int) wsX6_bad ({ frames := 0, cells := 0, slots := 0, locals := 0 }) 0 0 0 := cwV 0 hc.2.2.2.2 gX6_form_X6_bad rfl rfl rfl (by decide +kernel) ⟨Nat.le_of_ble_eq_true rfl, Nat.le_of_ble_eq_true rfl⟩
  have cw178 : CallW ({ frames := 6, cells := 0, slots := 0, locals := 136 }) s _ RX6 RX6 178 yX6_formsTo cX6_formsTo 5 none wsX6_formsTo ({ frames := 5, cells := 0, slots := 0, locals := 112 }) 0 0 2 := cwV 2 hc.2.2.2.2 gX6_form_X6_formsTo rfl rfl rfl (by decide +kernel) ⟨Nat.le_of_ble_eq_true rfl, Nat.le_of_ble_eq_true rfl⟩
  have cw192 : CallW ({ frames := 6, cells := 0, slots := 0, locals := 136 }) s _ RX6 RX6 192 yX6_inverts cX6_inverts 4 none wsX6_inverts ({ frames := 4, cells := 0, slots := 0, locals := 92 }) 0 0 1 := cwV 1 hc.2.2.2.2 gX6_form_X6_inverts rfl rfl rfl (by decide +kernel) ⟨Nat.le_of_ble_eq_true rfl, Nat.le_of_ble_eq_true rfl⟩
  have cw203 : CallW ({ frames := 6, cells := 0, slots := 0, locals := 136 }) s _ RX6 RX6 203 yX6_formsSecond cX6_formsSecond 7 none wsX6_formsSecond ({ frames := 4, cells := 0, slots := 0, locals := 92 }) 0 0 1 := cwV 1 hc.2.2.2.2 gX6_form_X6_formsSecond rfl rfl rfl (by decide +kernel) ⟨Nat.le_of_ble_eq_true rfl, Nat.le_of_ble_eq_true rfl⟩
  refine wp_aload_n hc 0 dX6_form_0 rfl ?_
  refine wp_iload_n hc 1 dX6_form_1 rfl ?_
  refine wp_callVf (As := [.int i1]) (rest := []) (j := 100) (v := (fX6_isBox M i1)) hc hx (kX6_isBox l D cy z hz M i1) cw98 (by decide) (by decide) (ce_5 rfl) rfl rfl rfl rfl (Nat.le_of_ble_eq_true rfl) dX6_form_2 ?_
  refine wp_if_eq (tgt := 26) hc dX6_form_5 (by decide) (fun c5 => ?_) (fun c5 => ?_)
  · refine wp_aload_n hc 0 dX6_form_26 rfl ?_
    refine wp_callVw (As := []) (rest := []) (j := 100) (w := sX6_bad M) hc hx (kX6_bad l D cy z hz M) cw105 (by decide) (by decide) (ce_5 rfl) rfl rfl rfl rfl (Nat.le_of_ble_eq_true rfl) dX6_form_27 (fun x1 hx1 => ?_)
    refine wp_iret hc hr hk ?_ dX6_form_30
    show (x1.1, x1.2) = sX6_form M i1 i2 i3
    rw [sX6_form, if_pos c5, tk_eq hx1]
  refine wp_iload_n hc 2 dX6_form_8 rfl ?_
  refine wp_iconst (v := 1) hc dX6_form_9 (by decide) ?_
  refine wp_iconst (v := 3) hc dX6_form_10 (by decide) ?_
  refine wp_callSg (As := [.int i2, .int 1, .int 3]) (rest := []) (v := (fX6_in i2 1 3)) hc hNW (kX6_in l i2 1 3) cw81 rfl rfl (Nat.le_of_ble_eq_true rfl) dX6_form_11 ?_
  refine wp_if_eq (tgt := 26) hc dX6_form_14 (by decide) (fun c14 => ?_) (fun c14 => ?_)
  · refine wp_aload_n hc 0 dX6_form_26 rfl ?_
    refine wp_callVw (As := []) (rest := []) (j := 100) (w := sX6_bad M) hc hx (kX6_bad l D cy z hz M) cw105 (by decide) (by decide) (ce_5 rfl) rfl rfl rfl rfl (Nat.le_of_ble_eq_true rfl) dX6_form_27 (fun x2 hx2 => ?_)
    refine wp_iret hc hr hk ?_ dX6_form_30
    show (x2.1, x2.2) = sX6_form M i1 i2 i3
    rw [sX6_form, if_neg c5, if_pos c14, tk_eq hx2]
  refine wp_iload_n hc 3 dX6_form_17 rfl ?_
  refine wp_iconst (v := 0) hc dX6_form_18 (by decide) ?_
  refine wp_iconst (v := 3) hc dX6_form_19 (by decide) ?_
  refine wp_callSg (As := [.int i3, .int 0, .int 3]) (rest := []) (v := (fX6_in i3 0 3)) hc hNW (kX6_in l i3 0 3) cw81 rfl rfl (Nat.le_of_ble_eq_true rfl) dX6_form_20 ?_
  refine wp_if_ne (tgt := 31) hc dX6_form_23 (by decide) (fun c23 => ?_) (fun c23 => ?_)
  · refine wp_aload_n hc 0 dX6_form_31 rfl ?_
    refine wp_iconst (v := 0) hc dX6_form_32 (by decide) ?_
    refine wp_put (M' := st M 100 7 0) hc hx hin6 tyX6 tyX6_ok nmX6 (j := 100) (by decide) (by decide) (ce_5 rfl) rfl 7 (by decide) hf68 rfl rfl rfl (Nat.le_of_ble_eq_true rfl) (by rw [ce_5 rfl]; exact ce_stM7 _ _ _) (fun i hi => ce_row (va_up_ne _ _ hi) rfl) dX6_form_33 ?_
    refine wp_nm (fun M3 hM3 => ?_)
    refine wp_iload_n hc 2 dX6_form_36 rfl ?_
    refine wp_iconst (v := 1) hc dX6_form_37 (by decide) ?_
    refine wp_icmp_ne (tgt := 53) hc dX6_form_38 (by decide) (fun c38 => ?_) (fun c38 => ?_)
    · refine wp_aload_n hc 0 dX6_form_53 rfl ?_
      refine wp_iload_n hc 1 dX6_form_54 rfl ?_
      refine wp_callVvw (As := [.int i1]) (rest := []) (j := 100) (w := sX6_formsSecond M3 i1) hc hx (kX6_formsSecond l D cy z hz M3 i1 (isBox_8 hn c5)) cw203 (by decide) (by decide) (ce_5 rfl) rfl rfl rfl rfl (Nat.le_of_ble_eq_true rfl) dX6_form_55 (fun M4 hM4 => ?_)
      refine wp_iload_n hc 2 dX6_form_58 rfl ?_
      refine wp_iconst (v := 3) hc dX6_form_59 (by decide) ?_
      refine wp_icmp_ne (tgt := 78) hc dX6_form_60 (by decide) (fun c60 => ?_) (fun c60 => ?_)
      · refine wp_aload_n hc 0 dX6_form_78 rfl ?_
        refine wp_get hc hx hin6 (j := 100) (by decide) (by decide) (ce_5 rfl) rfl 7 (by decide) hf68 rfl dX6_form_79 ?_
        refine wp_if_eq (tgt := 92) hc dX6_form_82 (by decide) (fun c82 => ?_) (fun c82 => ?_)
        · refine wp_aload_n hc 0 dX6_form_92 rfl ?_
          refine wp_get hc hx hin6 (j := 100) (by decide) (by decide) (ce_5 rfl) rfl 11 (by decide) hf34 rfl dX6_form_93 ?_
          refine wp_iload_n hc 3 dX6_form_96 rfl ?_
          refine wp_iald hc hx (j := 109) (by decide) (by decide) rfl i3.toNatClampNeg rfl (vin (by have := in03 c23; show _ ∧ _ < ((4 : Nat) : Int); omega)) dX6_form_97 ?_
          refine wp_iret hc hr hk ?_ dX6_form_98
          show ((M4.1 109 i3.toNatClampNeg), M4) = sX6_form M i1 i2 i3
          rw [sX6_form, if_neg c5, if_neg c14, if_neg c23, tk_eq hM3, if_neg c38, tk_eq hM4, if_neg c60, if_pos c82]
        refine wp_aload_n hc 0 dX6_form_85 rfl ?_
        refine wp_callVw (As := []) (rest := []) (j := 100) (w := sX6_no M4) hc hx (kX6_no l D cy z hz M4) cw56 (by decide) (by decide) (ce_5 rfl) rfl rfl rfl rfl (Nat.le_of_ble_eq_true rfl) dX6_form_86 (fun x5 hx5 => ?_)
        refine wp_goto (tgt := 98) hc dX6_form_89 (by decide) ?_
        refine wp_iret hc hr hk ?_ dX6_form_98
        show (x5.1, x5.2) = sX6_form M i1 i2 i3
        rw [sX6_form, if_neg c5, if_neg c14, if_neg c23, tk_eq hM3, if_neg c38, tk_eq hM4, if_neg c60, if_neg c82, tk_eq hx5]
      refine wp_aload_n hc 0 dX6_form_63 rfl ?_
      refine wp_get hc hx hin6 (j := 100) (by decide) (by decide) (ce_5 rfl) rfl 7 (by decide) hf68 rfl dX6_form_64 ?_
      refine wp_if_ne (tgt := 78) hc dX6_form_67 (by decide) (fun c67 => ?_) (fun c67 => ?_)
      · refine wp_aload_n hc 0 dX6_form_78 rfl ?_
        refine wp_get hc hx hin6 (j := 100) (by decide) (by decide) (ce_5 rfl) rfl 7 (by decide) hf68 rfl dX6_form_79 ?_
        refine wp_if_eq (tgt := 92) hc dX6_form_82 (by decide) (fun c82 => ?_) (fun c82 => ?_)
        · refine wp_aload_n hc 0 dX6_form_92 rfl ?_
          refine wp_get hc hx hin6 (j := 100) (by decide) (by decide) (ce_5 rfl) rfl 11 (by decide) hf34 rfl dX6_form_93 ?_
          refine wp_iload_n hc 3 dX6_form_96 rfl ?_
          refine wp_iald hc hx (j := 109) (by decide) (by decide) rfl i3.toNatClampNeg rfl (vin (by have := in03 c23; show _ ∧ _ < ((4 : Nat) : Int); omega)) dX6_form_97 ?_
          refine wp_iret hc hr hk ?_ dX6_form_98
          show ((M4.1 109 i3.toNatClampNeg), M4) = sX6_form M i1 i2 i3
          rw [sX6_form, if_neg c5, if_neg c14, if_neg c23, tk_eq hM3, if_neg c38, tk_eq hM4, if_pos c60, if_neg c67, if_pos c82]
        refine wp_aload_n hc 0 dX6_form_85 rfl ?_
        refine wp_callVw (As := []) (rest := []) (j := 100) (w := sX6_no M4) hc hx (kX6_no l D cy z hz M4) cw56 (by decide) (by decide) (ce_5 rfl) rfl rfl rfl rfl (Nat.le_of_ble_eq_true rfl) dX6_form_86 (fun x6 hx6 => ?_)
        refine wp_goto (tgt := 98) hc dX6_form_89 (by decide) ?_
        refine wp_iret hc hr hk ?_ dX6_form_98
        show (x6.1, x6.2) = sX6_form M i1 i2 i3
        rw [sX6_form, if_neg c5, if_neg c14, if_neg c23, tk_eq hM3, if_neg c38, tk_eq hM4, if_pos c60, if_neg c67, if_neg c82, tk_eq hx6]
      refine wp_aload_n hc 0 dX6_form_70 rfl ?_
      refine wp_aload_n hc 0 dX6_form_71 rfl ?_
      refine wp_get hc hx hin6 (j := 100) (by decide) (by decide) (ce_5 rfl) rfl 11 (by decide) hf34 rfl dX6_form_72 ?_
      refine wp_callVvw (As := [.ref (z 109)]) (rest := []) (j := 100) (w := sX6_inverts_1 M4) hc hx (kX6_inverts_1 l D cy z hz M4) cw192 (by decide) (by decide) (ce_5 rfl) rfl rfl rfl rfl (Nat.le_of_ble_eq_true rfl) dX6_form_75 (fun M7 hM7 => ?_)
      refine wp_aload_n hc 0 dX6_form_78 rfl ?_
      refine wp_get hc hx hin6 (j := 100) (by decide) (by decide) (ce_5 rfl) rfl 7 (by decide) hf68 rfl dX6_form_79 ?_
      refine wp_if_eq (tgt := 92) hc dX6_form_82 (by decide) (fun c82 => ?_) (fun c82 => ?_)
      · refine wp_aload_n hc 0 dX6_form_92 rfl ?_
        refine wp_get hc hx hin6 (j := 100) (by decide) (by decide) (ce_5 rfl) rfl 11 (by decide) hf34 rfl dX6_form_93 ?_
        refine wp_iload_n hc 3 dX6_form_96 rfl ?_
        refine wp_iald hc hx (j := 109) (by decide) (by decide) rfl i3.toNatClampNeg rfl (vin (by have := in03 c23; show _ ∧ _ < ((4 : Nat) : Int); omega)) dX6_form_97 ?_
        refine wp_iret hc hr hk ?_ dX6_form_98
        show ((M7.1 109 i3.toNatClampNeg), M7) = sX6_form M i1 i2 i3
        rw [sX6_form, if_neg c5, if_neg c14, if_neg c23, tk_eq hM3, if_neg c38, tk_eq hM4, if_pos c60, if_pos c67, tk_eq hM7, if_pos c82]
      refine wp_aload_n hc 0 dX6_form_85 rfl ?_
      refine wp_callVw (As := []) (rest := []) (j := 100) (w := sX6_no M7) hc hx (kX6_no l D cy z hz M7) cw56 (by decide) (by decide) (ce_5 rfl) rfl rfl rfl rfl (Nat.le_of_ble_eq_true rfl) dX6_form_86 (fun x8 hx8 => ?_)
      refine wp_goto (tgt := 98) hc dX6_form_89 (by decide) ?_
      refine wp_iret hc hr hk ?_ dX6_form_98
      show (x8.1, x8.2) = sX6_form M i1 i2 i3
      rw [sX6_form, if_neg c5, if_neg c14, if_neg c23, tk_eq hM3, if_neg c38, tk_eq hM4, if_pos c60, if_pos c67, tk_eq hM7, if_neg c82, tk_eq hx8]
    refine wp_aload_n hc 0 dX6_form_41 rfl ?_
    refine wp_iload_n hc 1 dX6_form_42 rfl ?_
    refine wp_aload_n hc 0 dX6_form_43 rfl ?_
    refine wp_get hc hx hin6 (j := 100) (by decide) (by decide) (ce_5 rfl) rfl 11 (by decide) hf34 rfl dX6_form_44 ?_
    refine wp_callVvw (As := [.int i1, .ref (z 109)]) (rest := []) (j := 100) (w := sX6_formsTo_1 M3 i1) hc hx (kX6_formsTo_1 l D cy z hz M3 i1 (isBox_8 hn c5)) cw178 (by decide) (by decide) (ce_5 rfl) rfl rfl rfl rfl (Nat.le_of_ble_eq_true rfl) dX6_form_47 (fun M9 hM9 => ?_)
    refine wp_goto (tgt := 58) hc dX6_form_50 (by decide) ?_
    refine wp_iload_n hc 2 dX6_form_58 rfl ?_
    refine wp_iconst (v := 3) hc dX6_form_59 (by decide) ?_
    refine wp_icmp_ne (tgt := 78) hc dX6_form_60 (by decide) (fun c60 => ?_) (fun c60 => ?_)
    · refine wp_aload_n hc 0 dX6_form_78 rfl ?_
      refine wp_get hc hx hin6 (j := 100) (by decide) (by decide) (ce_5 rfl) rfl 7 (by decide) hf68 rfl dX6_form_79 ?_
      refine wp_if_eq (tgt := 92) hc dX6_form_82 (by decide) (fun c82 => ?_) (fun c82 => ?_)
      · refine wp_aload_n hc 0 dX6_form_92 rfl ?_
        refine wp_get hc hx hin6 (j := 100) (by decide) (by decide) (ce_5 rfl) rfl 11 (by decide) hf34 rfl dX6_form_93 ?_
        refine wp_iload_n hc 3 dX6_form_96 rfl ?_
        refine wp_iald hc hx (j := 109) (by decide) (by decide) rfl i3.toNatClampNeg rfl (vin (by have := in03 c23; show _ ∧ _ < ((4 : Nat) : Int); omega)) dX6_form_97 ?_
        refine wp_iret hc hr hk ?_ dX6_form_98
        show ((M9.1 109 i3.toNatClampNeg), M9) = sX6_form M i1 i2 i3
        rw [sX6_form, if_neg c5, if_neg c14, if_neg c23, tk_eq hM3, if_pos c38, tk_eq hM9, if_neg c60, if_pos c82]
      refine wp_aload_n hc 0 dX6_form_85 rfl ?_
      refine wp_callVw (As := []) (rest := []) (j := 100) (w := sX6_no M9) hc hx (kX6_no l D cy z hz M9) cw56 (by decide) (by decide) (ce_5 rfl) rfl rfl rfl rfl (Nat.le_of_ble_eq_true rfl) dX6_form_86 (fun x10 hx10 => ?_)
      refine wp_goto (tgt := 98) hc dX6_form_89 (by decide) ?_
      refine wp_iret hc hr hk ?_ dX6_form_98
      show (x10.1, x10.2) = sX6_form M i1 i2 i3
      rw [sX6_form, if_neg c5, if_neg c14, if_neg c23, tk_eq hM3, if_pos c38, tk_eq hM9, if_neg c60, if_neg c82, tk_eq hx10]
    refine wp_aload_n hc 0 dX6_form_63 rfl ?_
    refine wp_get hc hx hin6 (j := 100) (by decide) (by decide) (ce_5 rfl) rfl 7 (by decide) hf68 rfl dX6_form_64 ?_
    refine wp_if_ne (tgt := 78) hc dX6_form_67 (by decide) (fun c67 => ?_) (fun c67 => ?_)
    · refine wp_aload_n hc 0 dX6_form_78 rfl ?_
      refine wp_get hc hx hin6 (j := 100) (by decide) (by decide) (ce_5 rfl) rfl 7 (by decide) hf68 rfl dX6_form_79 ?_
      refine wp_if_eq (tgt := 92) hc dX6_form_82 (by decide) (fun c82 => ?_) (fun c82 => ?_)
      · refine wp_aload_n hc 0 dX6_form_92 rfl ?_
        refine wp_get hc hx hin6 (j := 100) (by decide) (by decide) (ce_5 rfl) rfl 11 (by decide) hf34 rfl dX6_form_93 ?_
        refine wp_iload_n hc 3 dX6_form_96 rfl ?_
        refine wp_iald hc hx (j := 109) (by decide) (by decide) rfl i3.toNatClampNeg rfl (vin (by have := in03 c23; show _ ∧ _ < ((4 : Nat) : Int); omega)) dX6_form_97 ?_
        refine wp_iret hc hr hk ?_ dX6_form_98
        show ((M9.1 109 i3.toNatClampNeg), M9) = sX6_form M i1 i2 i3
        rw [sX6_form, if_neg c5, if_neg c14, if_neg c23, tk_eq hM3, if_pos c38, tk_eq hM9, if_pos c60, if_neg c67, if_pos c82]
      refine wp_aload_n hc 0 dX6_form_85 rfl ?_
      refine wp_callVw (As := []) (rest := []) (j := 100) (w := sX6_no M9) hc hx (kX6_no l D cy z hz M9) cw56 (by decide) (by decide) (ce_5 rfl) rfl rfl rfl rfl (Nat.le_of_ble_eq_true rfl) dX6_form_86 (fun x11 hx11 => ?_)
      refine wp_goto (tgt := 98) hc dX6_form_89 (by decide) ?_
      refine wp_iret hc hr hk ?_ dX6_form_98
      show (x11.1, x11.2) = sX6_form M i1 i2 i3
      rw [sX6_form, if_neg c5, if_neg c14, if_neg c23, tk_eq hM3, if_pos c38, tk_eq hM9, if_pos c60, if_neg c67, if_neg c82, tk_eq hx11]
    refine wp_aload_n hc 0 dX6_form_70 rfl ?_
    refine wp_aload_n hc 0 dX6_form_71 rfl ?_
    refine wp_get hc hx hin6 (j := 100) (by decide) (by decide) (ce_5 rfl) rfl 11 (by decide) hf34 rfl dX6_form_72 ?_
    refine wp_callVvw (As := [.ref (z 109)]) (rest := []) (j := 100) (w := sX6_inverts_1 M9) hc hx (kX6_inverts_1 l D cy z hz M9) cw192 (by decide) (by decide) (ce_5 rfl) rfl rfl rfl rfl (Nat.le_of_ble_eq_true rfl) dX6_form_75 (fun M12 hM12 => ?_)
    refine wp_aload_n hc 0 dX6_form_78 rfl ?_
    refine wp_get hc hx hin6 (j := 100) (by decide) (by decide) (ce_5 rfl) rfl 7 (by decide) hf68 rfl dX6_form_79 ?_
    refine wp_if_eq (tgt := 92) hc dX6_form_82 (by decide) (fun c82 => ?_) (fun c82 => ?_)
    · refine wp_aload_n hc 0 dX6_form_92 rfl ?_
      refine wp_get hc hx hin6 (j := 100) (by decide) (by decide) (ce_5 rfl) rfl 11 (by decide) hf34 rfl dX6_form_93 ?_
      refine wp_iload_n hc 3 dX6_form_96 rfl ?_
      refine wp_iald hc hx (j := 109) (by decide) (by decide) rfl i3.toNatClampNeg rfl (vin (by have := in03 c23; show _ ∧ _ < ((4 : Nat) : Int); omega)) dX6_form_97 ?_
      refine wp_iret hc hr hk ?_ dX6_form_98
      show ((M12.1 109 i3.toNatClampNeg), M12) = sX6_form M i1 i2 i3
      rw [sX6_form, if_neg c5, if_neg c14, if_neg c23, tk_eq hM3, if_pos c38, tk_eq hM9, if_pos c60, if_pos c67, tk_eq hM12, if_pos c82]
    refine wp_aload_n hc 0 dX6_form_85 rfl ?_
    refine wp_callVw (As := []) (rest := []) (j := 100) (w := sX6_no M12) hc hx (kX6_no l D cy z hz M12) cw56 (by decide) (by decide) (ce_5 rfl) rfl rfl rfl rfl (Nat.le_of_ble_eq_true rfl) dX6_form_86 (fun x13 hx13 => ?_)
    refine wp_goto (tgt := 98) hc dX6_form_89 (by decide) ?_
    refine wp_iret hc hr hk ?_ dX6_form_98
    show (x13.1, x13.2) = sX6_form M i1 i2 i3
    rw [sX6_form, if_neg c5, if_neg c14, if_neg c23, tk_eq hM3, if_pos c38, tk_eq hM9, if_pos c60, if_pos c67, tk_eq hM12, if_neg c82, tk_eq hx13]
  refine wp_aload_n hc 0 dX6_form_26 rfl ?_
  refine wp_callVw (As := []) (rest := []) (j := 100) (w := sX6_bad M) hc hx (kX6_bad l D cy z hz M) cw105 (by decide) (by decide) (ce_5 rfl) rfl rfl rfl rfl (Nat.le_of_ble_eq_true rfl) dX6_form_27 (fun x14 hx14 => ?_)
  refine wp_iret hc hr hk ?_ dX6_form_30
  show (x14.1, x14.2) = sX6_form M i1 i2 i3
  rw [sX6_form, if_neg c5, if_neg c14, if_pos c23, tk_eq hx14]
def sX6_det (M : Mem) (i1 : Int32) : Int32 × Mem :=
  if (fX6_isBox M i1) = 0 then
  tk (sX6_bad M) fun x1 =>
  (x1.1, x1.2)
  else
  ((fX6_detBox M i1), M)
set_option maxHeartbeats 4000000 in
set_option maxRecDepth 100000 in
theorem kX6_det (l : Launch) (D : va_G) (cy : Nat → ClassId) (z : Nat → Nat) (hz : zI z) (M : Mem) (i1 : Int32) (hn : 0 ≤ (M.1 101 0).toInt ∧ (M.1 101 0).toInt ≤ 8) : KI l yX6_det wsX6_det { frames := 5, cells := 0, slots := 0, locals := 112 } D cy z 100 15 [.ref (z 100), .int i1] M (fun r u => (r, u) = sX6_det M i1) := by
  refine met_wp (lv := [(0, .ref (z 100)), (1, .int i1)]) hz (by decide) (by decide) rfl rfl (Nat.le_of_ble_eq_true rfl) rfl ?_
  intro p e s m below meth c hc hx hr hk
  have hNW := hx.2.1
  have cw98 : CallW ({ frames := 5, cells := 0, slots := 0, locals := 112 }) s _ RX6 RX6 98 yX6_isBox cX6_isBox 2 (some .boolean) wsX6_isBox ({ frames := 1, cells := 0, slots := 0, locals := 22 }) 0 0 1 := cwV 1 hc.2.2.2.2 gX6_det_X6_isBox rfl rfl rfl (by decide +kernel) ⟨Nat.le_of_ble_eq_true rfl, Nat.le_of_ble_eq_true rfl⟩
  have cw105 : CallW ({ frames := 5, cells := 0, slots := 0, locals := 112 }) s _ RX6 RX6 105 yX6_bad cX6_bad 1 (some .int) wsX6_bad ({ frames := 0, cells := 0, slots := 0, locals := 0 }) 0 0 0 := cwV 0 hc.2.2.2.2 gX6_det_X6_bad rfl rfl rfl (by decide +kernel) ⟨Nat.le_of_ble_eq_true rfl, Nat.le_of_ble_eq_true rfl⟩
  have cw175 : CallW ({ frames := 5, cells := 0, slots := 0, locals := 112 }) s _ RX6 RX6 175 yX6_detBox cX6_detBox 3 (some .int) wsX6_detBox ({ frames := 4, cells := 0, slots := 0, locals := 90 }) 0 0 1 := cwV 1 hc.2.2.2.2 gX6_det_X6_detBox rfl rfl rfl (by decide +kernel) ⟨Nat.le_of_ble_eq_true rfl, Nat.le_of_ble_eq_true rfl⟩
  refine wp_aload_n hc 0 dX6_det_0 rfl ?_
  refine wp_iload_n hc 1 dX6_det_1 rfl ?_
  refine wp_callVf (As := [.int i1]) (rest := []) (j := 100) (v := (fX6_isBox M i1)) hc hx (kX6_isBox l D cy z hz M i1) cw98 (by decide) (by decide) (ce_5 rfl) rfl rfl rfl rfl (Nat.le_of_ble_eq_true rfl) dX6_det_2 ?_
  refine wp_if_eq (tgt := 16) hc dX6_det_5 (by decide) (fun c5 => ?_) (fun c5 => ?_)
  · refine wp_aload_n hc 0 dX6_det_16 rfl ?_
    refine wp_callVw (As := []) (rest := []) (j := 100) (w := sX6_bad M) hc hx (kX6_bad l D cy z hz M) cw105 (by decide) (by decide) (ce_5 rfl) rfl rfl rfl rfl (Nat.le_of_ble_eq_true rfl) dX6_det_17 (fun x1 hx1 => ?_)
    refine wp_iret hc hr hk ?_ dX6_det_20
    show (x1.1, x1.2) = sX6_det M i1
    rw [sX6_det, if_pos c5, tk_eq hx1]
  refine wp_aload_n hc 0 dX6_det_8 rfl ?_
  refine wp_iload_n hc 1 dX6_det_9 rfl ?_
  refine wp_callVf (As := [.int i1]) (rest := []) (j := 100) (v := (fX6_detBox M i1)) hc hx (kX6_detBox l D cy z hz M i1 (isBox_8 hn c5)) cw175 (by decide) (by decide) (ce_5 rfl) rfl rfl rfl rfl (Nat.le_of_ble_eq_true rfl) dX6_det_10 ?_
  refine wp_goto (tgt := 20) hc dX6_det_13 (by decide) ?_
  refine wp_iret hc hr hk ?_ dX6_det_20
  show ((fX6_detBox M i1), M) = sX6_det M i1
  rw [sX6_det, if_neg c5]
