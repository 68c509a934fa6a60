def sX6_learnsSide_1 (M : Mem) (i2 : Int32) (i3 : Int32) : Mem :=
  tk (sX6_over M (fX6_plus i2 i3) (fX6_less i2 i3)) fun x1 =>
  tk (st x1.2 107 1 x1.1) fun M2 =>
  tk (st M2 107 2 (fX6_by i2 (fX6_less 10007 (M2.1 107 1)))) fun M3 =>
  M3
set_option maxHeartbeats 4000000 in
set_option maxRecDepth 100000 in
theorem kX6_learnsSide_1 (l : Launch) (D : va_G) (cy : Nat → ClassId) (z : Nat → Nat) (hz : zI z) (M : Mem) (i2 : Int32) (i3 : Int32) : KV l yX6_learnsSide wsX6_learnsSide { frames := 4, cells := 0, slots := 0, locals := 92 } D cy z 100 15 [.ref (z 100), .int 1, .int i2, .int i3] M (fun u => u = sX6_learnsSide_1 M i2 i3) := by
  refine met_wp (lv := [(0, .ref (z 100)), (1, .int 1), (2, .int i2), (3, .int i3)]) hz (by decide) (by decide) rfl rfl (Nat.le_of_ble_eq_true rfl) rfl ?_
  intro p e s m below meth c hc hx hr hk
  have hNW := hx.2.1
  have hin6 : ∀ w ∈ wsX60, w ∈ wsX6_learnsSide := by decide +kernel
  have hf28 : Cond.fieldLink RX6 28 (TX6 9).1 (TX6 9).2.1 (TX6 9).2.2.1 ∈ wsX6_learnsSide := by decide +kernel
  have cw78 : CallB ({ frames := 4, cells := 0, slots := 0, locals := 92 }) s _ RX6 78 yX6_by cX6_by 6 (some .int) wsX6_by ({ frames := 2, cells := 0, slots := 0, locals := 42 }) 0 0 2 ∧ (Cond.static yX6_by).before _ s = true := va_cwS 2 hc.2.2.2.2 gX6_learnsSide_X6_by rfl rfl rfl (by decide +kernel) ⟨Nat.le_of_ble_eq_true rfl, Nat.le_of_ble_eq_true rfl⟩
  have cw114 : CallB ({ frames := 4, cells := 0, slots := 0, locals := 92 }) s _ RX6 114 yX6_less cX6_less 2 (some .int) wsX6_less ({ frames := 2, cells := 0, slots := 0, locals := 42 }) 0 0 2 ∧ (Cond.static yX6_less).before _ s = true := va_cwS 2 hc.2.2.2.2 gX6_learnsSide_X6_less rfl rfl rfl (by decide +kernel) ⟨Nat.le_of_ble_eq_true rfl, Nat.le_of_ble_eq_true rfl⟩
  have cw117 : CallB ({ frames := 4, cells := 0, slots := 0, locals := 92 }) s _ RX6 117 yX6_plus cX6_plus 2 (some .int) wsX6_plus ({ frames := 2, cells := 0, slots := 0, locals := 42 }) 0 0 2 ∧ (Cond.static yX6_plus).before _ s = true := va_cwS 2 hc.2.2.2.2 gX6_learnsSide_X6_plus rfl rfl rfl (by decide +kernel) ⟨Nat.le_of_ble_eq_true rfl, Nat.le_of_ble_eq_true rfl⟩
  have cw123 : CallW ({ frames := 4, cells := 0, slots := 0, locals := 92 }) s _ RX6 RX6 123 yX6_over cX6_over 6 (some .int) wsX6_over ({ frames := 3, cells := 0, slots := 0, locals := 67 }) 0 0 2 := cwV 2 hc.2.2.2.2 gX6_learnsSide_X6_over rfl rfl rfl (by decide +kernel) ⟨Nat.le_of_ble_eq_true rfl, Nat.le_of_ble_eq_true rfl⟩
  refine wp_aload_n hc 0 dX6_learnsSide_0 rfl ?_
  refine wp_get hc hx hin6 (j := 100) (by decide) (by decide) (ce_5 rfl) rfl 9 (by decide) hf28 rfl dX6_learnsSide_1 ?_
  refine wp_iload_n hc 1 dX6_learnsSide_4 rfl ?_
  refine wp_aload_n hc 0 dX6_learnsSide_5 rfl ?_
  refine wp_iload_n hc 2 dX6_learnsSide_6 rfl ?_
  refine wp_iload_n hc 3 dX6_learnsSide_7 rfl ?_
  refine wp_callSg (As := [.int i2, .int i3]) (rest := [.ref (z 100), .int 1, .ref (z 107)]) (v := (fX6_plus i2 i3)) hc hNW (kX6_plus l i2 i3) cw117 rfl rfl (Nat.le_of_ble_eq_true rfl) dX6_learnsSide_8 ?_
  refine wp_iload_n hc 2 dX6_learnsSide_11 rfl ?_
  refine wp_iload_n hc 3 dX6_learnsSide_12 rfl ?_
  refine wp_callSg (As := [.int i2, .int i3]) (rest := [.int (fX6_plus i2 i3), .ref (z 100), .int 1, .ref (z 107)]) (v := (fX6_less i2 i3)) hc hNW (kX6_less l i2 i3) cw114 rfl rfl (Nat.le_of_ble_eq_true rfl) dX6_learnsSide_13 ?_
  refine wp_callVw (As := [.int (fX6_plus i2 i3), .int (fX6_less i2 i3)]) (rest := [.int 1, .ref (z 107)]) (j := 100) (w := sX6_over M (fX6_plus i2 i3) (fX6_less i2 i3)) hc hx (kX6_over l D cy z hz M (fX6_plus i2 i3) (fX6_less i2 i3)) cw123 (by decide) (by decide) (ce_5 rfl) rfl rfl rfl rfl (Nat.le_of_ble_eq_true rfl) dX6_learnsSide_16 (fun x1 hx1 => ?_)
  refine wp_iast hc hx (j := 107) (by decide) (by decide) rfl 1 rfl (vin (by decide)) dX6_learnsSide_19 ?_
  refine wp_nm (fun M2 hM2 => ?_)
  refine wp_aload_n hc 0 dX6_learnsSide_20 rfl ?_
  refine wp_get hc hx hin6 (j := 100) (by decide) (by decide) (ce_5 rfl) rfl 9 (by decide) hf28 rfl dX6_learnsSide_21 ?_
  refine wp_iload_n hc 1 dX6_learnsSide_24 rfl ?_
  refine wp_iconst (v := 1) hc dX6_learnsSide_25 (by decide) ?_
  refine wp_iadd hc dX6_learnsSide_26 ?_
  refine wp_cvt (v := 2) (by decide) ?_
  refine wp_iload_n hc 2 dX6_learnsSide_27 rfl ?_
  refine wp_sipush (v := 10007) hc dX6_learnsSide_28 (by decide) ?_
  refine wp_aload_n hc 0 dX6_learnsSide_31 rfl ?_
  refine wp_get hc hx hin6 (j := 100) (by decide) (by decide) (ce_5 rfl) rfl 9 (by decide) hf28 rfl dX6_learnsSide_32 ?_
  refine wp_iload_n hc 1 dX6_learnsSide_35 rfl ?_
  refine wp_iald hc hx (j := 107) (by decide) (by decide) rfl 1 rfl (vin (by decide)) dX6_learnsSide_36 ?_
  refine wp_callSg (As := [.int 10007, .int (M2.1 107 1)]) (rest := [.int i2, .int 2, .ref (z 107)]) (v := (fX6_less 10007 (M2.1 107 1))) hc hNW (kX6_less l 10007 (M2.1 107 1)) cw114 rfl rfl (Nat.le_of_ble_eq_true rfl) dX6_learnsSide_37 ?_
  refine wp_callSg (As := [.int i2, .int (fX6_less 10007 (M2.1 107 1))]) (rest := [.int 2, .ref (z 107)]) (v := (fX6_by i2 (fX6_less 10007 (M2.1 107 1)))) hc hNW (kX6_by l i2 (fX6_less 10007 (M2.1 107 1))) cw78 rfl rfl (Nat.le_of_ble_eq_true rfl) dX6_learnsSide_40 ?_
  refine wp_iast hc hx (j := 107) (by decide) (by decide) rfl 2 rfl (vin (by decide)) dX6_learnsSide_43 ?_
  refine wp_nm (fun M3 hM3 => ?_)
  refine wp_vret hc hr hk ?_ dX6_learnsSide_44
  show M3 = sX6_learnsSide_1 M i2 i3
  rw [sX6_learnsSide_1, tk_eq hx1, tk_eq hM2, tk_eq hM3]
set_option maxRecDepth 10000 in
theorem kpX6_learnsSide_1 (M : Mem) (i2 : Int32) (i3 : Int32) : KP M (sX6_learnsSide_1 M i2 i3) := by
  unfold sX6_learnsSide_1
  refine tk_ind (P := KP M) _ _ (fun x1 hx1 => ?_)
  have k1 : KP2 M x1 := by rw [hx1]; apply kpX6_over
  refine tk_ind (P := KP M) _ _ (fun M2 hM2 => ?_)
  have k2 : KP x1.2 M2 := by rw [hM2]; exact kp_st (by decide)
  refine tk_ind (P := KP M) _ _ (fun M3 hM3 => ?_)
  have k3 : KP M2 M3 := by rw [hM3]; exact kp_st (by decide)
  exact (show KP M M3 from KP.trans k1 (KP.trans k2 (k3)))
def sX6_learnsThrough_1 (M : Mem) (i1 : Int32) (i3 : Int32) (i4 : Int32) : Mem :=
  tk (sX6_over M (fX6_less i1 (M.1 107 0)) (fX6_plus (M.1 107 2) (fX6_by (fX6_less i1 (M.1 107 0)) (M.1 107 1)))) fun x1 =>
  tk (st x1.2 107 4 x1.1) fun M2 =>
  tk (st M2 107 5 (fX6_by (fX6_less i3 i4) (fX6_less 10007 (fX6_by (M2.1 107 1) (M2.1 107 4))))) fun M3 =>
  M3
set_option maxHeartbeats 4000000 in
set_option maxRecDepth 100000 in
theorem kX6_learnsThrough_1 (l : Launch) (D : va_G) (cy : Nat → ClassId) (z : Nat → Nat) (hz : zI z) (M : Mem) (i1 : Int32) (i3 : Int32) (i4 : Int32) : KV l yX6_learnsThrough wsX6_learnsThrough { frames := 4, cells := 0, slots := 0, locals := 92 } D cy z 100 15 [.ref (z 100), .int i1, .int 1, .int i3, .int i4] M (fun u => u = sX6_learnsThrough_1 M i1 i3 i4) := by
  refine met_wp (lv := [(0, .ref (z 100)), (1, .int i1), (2, .int 1), (3, .int i3), (4, .int i4)]) hz (by decide) (by decide) rfl rfl (Nat.le_of_ble_eq_true rfl) rfl ?_
  intro p e s m below meth c hc hx hr hk
  have hNW := hx.2.1
  have hin6 : ∀ w ∈ wsX60, w ∈ wsX6_learnsThrough := by decide +kernel
  have hf28 : Cond.fieldLink RX6 28 (TX6 9).1 (TX6 9).2.1 (TX6 9).2.2.1 ∈ wsX6_learnsThrough := by decide +kernel
  have cw78 : CallB ({ frames := 4, cells := 0, slots := 0, locals := 92 }) s _ RX6 78 yX6_by cX6_by 6 (some .int) wsX6_by ({ frames := 2, cells := 0, slots := 0, locals := 42 }) 0 0 2 ∧ (Cond.static yX6_by).before _ s = true := va_cwS 2 hc.2.2.2.2 gX6_learnsThrough_X6_by rfl rfl rfl (by decide +kernel) ⟨Nat.le_of_ble_eq_true rfl, Nat.le_of_ble_eq_true rfl⟩
  have cw114 : CallB ({ frames := 4, cells := 0, slots := 0, locals := 92 }) s _ RX6 114 yX6_less cX6_less 2 (some .int) wsX6_less ({ frames := 2, cells := 0, slots := 0, locals := 42 }) 0 0 2 ∧ (Cond.static yX6_less).before _ s = true := va_cwS 2 hc.2.2.2.2 gX6_learnsThrough_X6_less rfl rfl rfl (by decide +kernel) ⟨Nat.le_of_ble_eq_true rfl, Nat.le_of_ble_eq_true rfl⟩
  have cw117 : CallB ({ frames := 4, cells := 0, slots := 0, locals := 92 }) s _ RX6 117 yX6_plus cX6_plus 2 (some .int) wsX6_plus ({ frames := 2, cells := 0, slots := 0, locals := 42 }) 0 0 2 ∧ (Cond.static yX6_plus).before _ s = true := va_cwS 2 hc.2.2.2.2 gX6_learnsThrough_X6_plus rfl rfl rfl (by decide +kernel) ⟨Nat.le_of_ble_eq_true rfl, Nat.le_of_ble_eq_true rfl⟩
  have cw123 : CallW ({ frames := 4, cells := 0, slots := 0, locals := 92 }) s _ RX6 RX6 123 yX6_over cX6_over 6 (some .int) wsX6_over ({ frames := 3, cells := 0, slots := 0, locals := 67 }) 0 0 2 := cwV 2 hc.2.2.2.2 gX6_learnsThrough_X6_over rfl rfl rfl (by decide +kernel) ⟨Nat.le_of_ble_eq_true rfl, Nat.le_of_ble_eq_true rfl⟩
  refine wp_iload_n hc 1 dX6_learnsThrough_0 rfl ?_
  refine wp_aload_n hc 0 dX6_learnsThrough_1 rfl ?_
  refine wp_get hc hx hin6 (j := 100) (by decide) (by decide) (ce_5 rfl) rfl 9 (by decide) hf28 rfl dX6_learnsThrough_2 ?_
  refine wp_iload_n hc 2 dX6_learnsThrough_5 rfl ?_
  refine wp_iconst (v := 1) hc dX6_learnsThrough_6 (by decide) ?_
  refine wp_isub hc dX6_learnsThrough_7 ?_
  refine wp_cvt (v := 0) (by decide) ?_
  refine wp_iald hc hx (j := 107) (by decide) (by decide) rfl 0 rfl (vin (by decide)) dX6_learnsThrough_8 ?_
  refine wp_callSg (As := [.int i1, .int (M.1 107 0)]) (rest := []) (v := (fX6_less i1 (M.1 107 0))) hc hNW (kX6_less l i1 (M.1 107 0)) cw114 rfl rfl (Nat.le_of_ble_eq_true rfl) dX6_learnsThrough_9 ?_
  refine wp_istore (lv' := [(5, .int (fX6_less i1 (M.1 107 0))), (0, .ref (z 100)), (1, .int i1), (2, .int 1), (3, .int i3), (4, .int i4)]) hc dX6_learnsThrough_12 (by decide) rfl ?_
  refine wp_iload_n hc 3 dX6_learnsThrough_14 rfl ?_
  refine wp_iconst (v := 1) hc dX6_learnsThrough_15 (by decide) ?_
  refine wp_icmp_ne (tgt := 23) hc dX6_learnsThrough_16 (by decide) (fun c => absurd c (by decide)) (fun _ => ?_)
  refine wp_iconst (v := 4) hc dX6_learnsThrough_19 (by decide) ?_
  refine wp_goto (tgt := 25) hc dX6_learnsThrough_20 (by decide) ?_
  refine wp_istore (lv' := [(6, .int 4), (5, .int (fX6_less i1 (M.1 107 0))), (0, .ref (z 100)), (1, .int i1), (2, .int 1), (3, .int i3), (4, .int i4)]) hc dX6_learnsThrough_25 (by decide) rfl ?_
  refine wp_aload_n hc 2 dX6_learnsThrough_27 rfl ?_
  refine wp_get hc hx hin6 (j := 100) (by decide) (by decide) (ce_5 rfl) rfl 9 (by decide) hf28 rfl dX6_learnsThrough_28 ?_
  refine wp_iload hc 0 dX6_learnsThrough_31 rfl ?_
  refine wp_aload_n hc 2 dX6_learnsThrough_33 rfl ?_
  refine wp_iload hc 1 dX6_learnsThrough_34 rfl ?_
  refine wp_aload_n hc 2 dX6_learnsThrough_36 rfl ?_
  refine wp_get hc hx hin6 (j := 100) (by decide) (by decide) (ce_5 rfl) rfl 9 (by decide) hf28 rfl dX6_learnsThrough_37 ?_
  refine wp_iload_n hc 4 dX6_learnsThrough_40 rfl ?_
  refine wp_iconst (v := 1) hc dX6_learnsThrough_41 (by decide) ?_
  refine wp_iadd hc dX6_learnsThrough_42 ?_
  refine wp_cvt (v := 2) (by decide) ?_
  refine wp_iald hc hx (j := 107) (by decide) (by decide) rfl 2 rfl (vin (by decide)) dX6_learnsThrough_43 ?_
  refine wp_iload hc 1 dX6_learnsThrough_44 rfl ?_
  refine wp_aload_n hc 2 dX6_learnsThrough_46 rfl ?_
  refine wp_get hc hx hin6 (j := 100) (by decide) (by decide) (ce_5 rfl) rfl 9 (by decide) hf28 rfl dX6_learnsThrough_47 ?_
  refine wp_iload_n hc 4 dX6_learnsThrough_50 rfl ?_
  refine wp_iald hc hx (j := 107) (by decide) (by decide) rfl 1 rfl (vin (by decide)) dX6_learnsThrough_51 ?_
  refine wp_callSg (As := [.int (fX6_less i1 (M.1 107 0)), .int (M.1 107 1)]) (rest := [.int (M.1 107 2), .int (fX6_less i1 (M.1 107 0)), .ref (z 100), .int 4, .ref (z 107)]) (v := (fX6_by (fX6_less i1 (M.1 107 0)) (M.1 107 1))) hc hNW (kX6_by l (fX6_less i1 (M.1 107 0)) (M.1 107 1)) cw78 rfl rfl (Nat.le_of_ble_eq_true rfl) dX6_learnsThrough_52 ?_
  refine wp_callSg (As := [.int (M.1 107 2), .int (fX6_by (fX6_less i1 (M.1 107 0)) (M.1 107 1))]) (rest := [.int (fX6_less i1 (M.1 107 0)), .ref (z 100), .int 4, .ref (z 107)]) (v := (fX6_plus (M.1 107 2) (fX6_by (fX6_less i1 (M.1 107 0)) (M.1 107 1)))) hc hNW (kX6_plus l (M.1 107 2) (fX6_by (fX6_less i1 (M.1 107 0)) (M.1 107 1))) cw117 rfl rfl (Nat.le_of_ble_eq_true rfl) dX6_learnsThrough_55 ?_
  refine wp_callVw (As := [.int (fX6_less i1 (M.1 107 0)), .int (fX6_plus (M.1 107 2) (fX6_by (fX6_less i1 (M.1 107 0)) (M.1 107 1)))]) (rest := [.int 4, .ref (z 107)]) (j := 100) (w := sX6_over M (fX6_less i1 (M.1 107 0)) (fX6_plus (M.1 107 2) (fX6_by (fX6_less i1 (M.1 107 0)) (M.1 107 1)))) hc hx (kX6_over l D cy z hz M (fX6_less i1 (M.1 107 0)) (fX6_plus (M.1 107 2) (fX6_by (fX6_less i1 (M.1 107 0)) (M.1 107 1)))) cw123 (by decide) (by decide) (ce_5 rfl) rfl rfl rfl rfl (Nat.le_of_ble_eq_true rfl) dX6_learnsThrough_58 (fun x1 hx1 => ?_)
  refine wp_iast hc hx (j := 107) (by decide) (by decide) rfl 4 rfl (vin (by decide)) dX6_learnsThrough_61 ?_
  refine wp_nm (fun M2 hM2 => ?_)
  refine wp_aload_n hc 2 dX6_learnsThrough_62 rfl ?_
  refine wp_get hc hx hin6 (j := 100) (by decide) (by decide) (ce_5 rfl) rfl 9 (by decide) hf28 rfl dX6_learnsThrough_63 ?_
  refine wp_iload hc 0 dX6_learnsThrough_66 rfl ?_
  refine wp_iconst (v := 1) hc dX6_learnsThrough_68 (by decide) ?_
  refine wp_iadd hc dX6_learnsThrough_69 ?_
  refine wp_cvt (v := 5) (by decide) ?_
  refine wp_iload_n hc 5 dX6_learnsThrough_70 rfl ?_
  refine wp_iload hc 6 dX6_learnsThrough_71 rfl ?_
  refine wp_callSg (As := [.int i3, .int i4]) (rest := [.int 5, .ref (z 107)]) (v := (fX6_less i3 i4)) hc hNW (kX6_less l i3 i4) cw114 rfl rfl (Nat.le_of_ble_eq_true rfl) dX6_learnsThrough_73 ?_
  refine wp_sipush (v := 10007) hc dX6_learnsThrough_76 (by decide) ?_
  refine wp_aload_n hc 2 dX6_learnsThrough_79 rfl ?_
  refine wp_get hc hx hin6 (j := 100) (by decide) (by decide) (ce_5 rfl) rfl 9 (by decide) hf28 rfl dX6_learnsThrough_80 ?_
  refine wp_iload_n hc 4 dX6_learnsThrough_83 rfl ?_
  refine wp_iald hc hx (j := 107) (by decide) (by decide) rfl 1 rfl (vin (by decide)) dX6_learnsThrough_84 ?_
  refine wp_aload_n hc 2 dX6_learnsThrough_85 rfl ?_
  refine wp_get hc hx hin6 (j := 100) (by decide) (by decide) (ce_5 rfl) rfl 9 (by decide) hf28 rfl dX6_learnsThrough_86 ?_
  refine wp_iload hc 0 dX6_learnsThrough_89 rfl ?_
  refine wp_iald hc hx (j := 107) (by decide) (by decide) rfl 4 rfl (vin (by decide)) dX6_learnsThrough_91 ?_
  refine wp_callSg (As := [.int (M2.1 107 1), .int (M2.1 107 4)]) (rest := [.int 10007, .int (fX6_less i3 i4), .int 5, .ref (z 107)]) (v := (fX6_by (M2.1 107 1) (M2.1 107 4))) hc hNW (kX6_by l (M2.1 107 1) (M2.1 107 4)) cw78 rfl rfl (Nat.le_of_ble_eq_true rfl) dX6_learnsThrough_92 ?_
  refine wp_callSg (As := [.int 10007, .int (fX6_by (M2.1 107 1) (M2.1 107 4))]) (rest := [.int (fX6_less i3 i4), .int 5, .ref (z 107)]) (v := (fX6_less 10007 (fX6_by (M2.1 107 1) (M2.1 107 4)))) hc hNW (kX6_less l 10007 (fX6_by (M2.1 107 1) (M2.1 107 4))) cw114 rfl rfl (Nat.le_of_ble_eq_true rfl) dX6_learnsThrough_95 ?_
  refine wp_callSg (As := [.int (fX6_less i3 i4), .int (fX6_less 10007 (fX6_by (M2.1 107 1) (M2.1 107 4)))]) (rest := [.int 5, .ref (z 107)]) (v := (fX6_by (fX6_less i3 i4) (fX6_less 10007 (fX6_by (M2.1 107 1) (M2.1 107 4))))) hc hNW (kX6_by l (fX6_less i3 i4) (fX6_less 10007 (fX6_by (M2.1 107 1) (M2.1 107 4)))) cw78 rfl rfl (Nat.le_of_ble_eq_true rfl) dX6_learnsThrough_98 ?_
  refine wp_iast hc hx (j := 107) (by decide) (by decide) rfl 5 rfl (vin (by decide)) dX6_learnsThrough_101 ?_
  refine wp_nm (fun M3 hM3 => ?_)
  refine wp_vret hc hr hk ?_ dX6_learnsThrough_102
  show M3 = sX6_learnsThrough_1 M i1 i3 i4
  rw [sX6_learnsThrough_1, tk_eq hx1, tk_eq hM2, tk_eq hM3]
set_option maxRecDepth 10000 in
theorem kpX6_learnsThrough_1 (M : Mem) (i1 : Int32) (i3 : Int32) (i4 : Int32) : KP M (sX6_learnsThrough_1 M i1 i3 i4) := by
  unfold sX6_learnsThrough_1
  refine tk_ind (P := KP M) _ _ (fun x1 hx1 => ?_)
  have k1 : KP2 M x1 := by rw [hx1]; apply kpX6_over
  refine tk_ind (P := KP M) _ _ (fun M2 hM2 => ?_)
  have k2 : KP x1.2 M2 := by rw [hM2]; exact kp_st (by decide)
  refine tk_ind (P := KP M) _ _ (fun M3 hM3 => ?_)
  have k3 : KP M2 M3 := by rw [hM3]; exact kp_st (by decide)
  exact (show KP M M3 from KP.trans k1 (KP.trans k2 (k3)))
def sX6_learnsSide_7 (M : Mem) (i2 : Int32) (i3 : Int32) : Mem :=
  tk (sX6_over M (fX6_plus i2 i3) (fX6_less i2 i3)) fun x1 =>
  tk (st x1.2 107 7 x1.1) fun M2 =>
  tk (st M2 107 8 (fX6_by i2 (fX6_less 10007 (M2.1 107 7)))) fun M3 =>
  M3
set_option maxHeartbeats 4000000 in
set_option maxRecDepth 100000 in
theorem kX6_learnsSide_7 (l : Launch) (D : va_G) (cy : Nat → ClassId) (z : Nat → Nat) (hz : zI z) (M : Mem) (i2 : Int32) (i3 : Int32) : KV l yX6_learnsSide wsX6_learnsSide { frames := 4, cells := 0, slots := 0, locals := 92 } D cy z 100 15 [.ref (z 100), .int 7, .int i2, .int i3] M (fun u => u = sX6_learnsSide_7 M i2 i3) := by
  refine met_wp (lv := [(0, .ref (z 100)), (1, .int 7), (2, .int i2), (3, .int i3)]) hz (by decide) (by decide) rfl rfl (Nat.le_of_ble_eq_true rfl) rfl ?_
  intro p e s m below meth c hc hx hr hk
  have hNW := hx.2.1
  have hin6 : ∀ w ∈ wsX60, w ∈ wsX6_learnsSide := by decide +kernel
  have hf28 : Cond.fieldLink RX6 28 (TX6 9).1 (TX6 9).2.1 (TX6 9).2.2.1 ∈ wsX6_learnsSide := by decide +kernel
  have cw78 : CallB ({ frames := 4, cells := 0, slots := 0, locals := 92 }) s _ RX6 78 yX6_by cX6_by 6 (some .int) wsX6_by ({ frames := 2, cells := 0, slots := 0, locals := 42 }) 0 0 2 ∧ (Cond.static yX6_by).before _ s = true := va_cwS 2 hc.2.2.2.2 gX6_learnsSide_X6_by rfl rfl rfl (by decide +kernel) ⟨Nat.le_of_ble_eq_true rfl, Nat.le_of_ble_eq_true rfl⟩
  have cw114 : CallB ({ frames := 4, cells := 0, slots := 0, locals := 92 }) s _ RX6 114 yX6_less cX6_less 2 (some .int) wsX6_less ({ frames := 2, cells := 0, slots := 0, locals := 42 }) 0 0 2 ∧ (Cond.static yX6_less).before _ s = true := va_cwS 2 hc.2.2.2.2 gX6_learnsSide_X6_less rfl rfl rfl (by decide +kernel) ⟨Nat.le_of_ble_eq_true rfl, Nat.le_of_ble_eq_true rfl⟩
  have cw117 : CallB ({ frames := 4, cells := 0, slots := 0, locals := 92 }) s _ RX6 117 yX6_plus cX6_plus 2 (some .int) wsX6_plus ({ frames := 2, cells := 0, slots := 0, locals := 42 }) 0 0 2 ∧ (Cond.static yX6_plus).before _ s = true := va_cwS 2 hc.2.2.2.2 gX6_learnsSide_X6_plus rfl rfl rfl (by decide +kernel) ⟨Nat.le_of_ble_eq_true rfl, Nat.le_of_ble_eq_true rfl⟩
  have cw123 : CallW ({ frames := 4, cells := 0, slots := 0, locals := 92 }) s _ RX6 RX6 123 yX6_over cX6_over 6 (some .int) wsX6_over ({ frames := 3, cells := 0, slots := 0, locals := 67 }) 0 0 2 := cwV 2 hc.2.2.2.2 gX6_learnsSide_X6_over rfl rfl rfl (by decide +kernel) ⟨Nat.le_of_ble_eq_true rfl, Nat.le_of_ble_eq_true rfl⟩
  refine wp_aload_n hc 0 dX6_learnsSide_0 rfl ?_
  refine wp_get hc hx hin6 (j := 100) (by decide) (by decide) (ce_5 rfl) rfl 9 (by decide) hf28 rfl dX6_learnsSide_1 ?_
  refine wp_iload_n hc 1 dX6_learnsSide_4 rfl ?_
  refine wp_aload_n hc 0 dX6_learnsSide_5 rfl ?_
  refine wp_iload_n hc 2 dX6_learnsSide_6 rfl ?_
  refine wp_iload_n hc 3 dX6_learnsSide_7 rfl ?_
  refine wp_callSg (As := [.int i2, .int i3]) (rest := [.ref (z 100), .int 7, .ref (z 107)]) (v := (fX6_plus i2 i3)) hc hNW (kX6_plus l i2 i3) cw117 rfl rfl (Nat.le_of_ble_eq_true rfl) dX6_learnsSide_8 ?_
  refine wp_iload_n hc 2 dX6_learnsSide_11 rfl ?_
  refine wp_iload_n hc 3 dX6_learnsSide_12 rfl ?_
  refine wp_callSg (As := [.int i2, .int i3]) (rest := [.int (fX6_plus i2 i3), .ref (z 100), .int 7, .ref (z 107)]) (v := (fX6_less i2 i3)) hc hNW (kX6_less l i2 i3) cw114 rfl rfl (Nat.le_of_ble_eq_true rfl) dX6_learnsSide_13 ?_
  refine wp_callVw (As := [.int (fX6_plus i2 i3), .int (fX6_less i2 i3)]) (rest := [.int 7, .ref (z 107)]) (j := 100) (w := sX6_over M (fX6_plus i2 i3) (fX6_less i2 i3)) hc hx (kX6_over l D cy z hz M (fX6_plus i2 i3) (fX6_less i2 i3)) cw123 (by decide) (by decide) (ce_5 rfl) rfl rfl rfl rfl (Nat.le_of_ble_eq_true rfl) dX6_learnsSide_16 (fun x1 hx1 => ?_)
  refine wp_iast hc hx (j := 107) (by decide) (by decide) rfl 7 rfl (vin (by decide)) dX6_learnsSide_19 ?_
  refine wp_nm (fun M2 hM2 => ?_)
  refine wp_aload_n hc 0 dX6_learnsSide_20 rfl ?_
  refine wp_get hc hx hin6 (j := 100) (by decide) (by decide) (ce_5 rfl) rfl 9 (by decide) hf28 rfl dX6_learnsSide_21 ?_
  refine wp_iload_n hc 1 dX6_learnsSide_24 rfl ?_
  refine wp_iconst (v := 1) hc dX6_learnsSide_25 (by decide) ?_
  refine wp_iadd hc dX6_learnsSide_26 ?_
  refine wp_cvt (v := 8) (by decide) ?_
  refine wp_iload_n hc 2 dX6_learnsSide_27 rfl ?_
  refine wp_sipush (v := 10007) hc dX6_learnsSide_28 (by decide) ?_
  refine wp_aload_n hc 0 dX6_learnsSide_31 rfl ?_
  refine wp_get hc hx hin6 (j := 100) (by decide) (by decide) (ce_5 rfl) rfl 9 (by decide) hf28 rfl dX6_learnsSide_32 ?_
  refine wp_iload_n hc 1 dX6_learnsSide_35 rfl ?_
  refine wp_iald hc hx (j := 107) (by decide) (by decide) rfl 7 rfl (vin (by decide)) dX6_learnsSide_36 ?_
  refine wp_callSg (As := [.int 10007, .int (M2.1 107 7)]) (rest := [.int i2, .int 8, .ref (z 107)]) (v := (fX6_less 10007 (M2.1 107 7))) hc hNW (kX6_less l 10007 (M2.1 107 7)) cw114 rfl rfl (Nat.le_of_ble_eq_true rfl) dX6_learnsSide_37 ?_
  refine wp_callSg (As := [.int i2, .int (fX6_less 10007 (M2.1 107 7))]) (rest := [.int 8, .ref (z 107)]) (v := (fX6_by i2 (fX6_less 10007 (M2.1 107 7)))) hc hNW (kX6_by l i2 (fX6_less 10007 (M2.1 107 7))) cw78 rfl rfl (Nat.le_of_ble_eq_true rfl) dX6_learnsSide_40 ?_
  refine wp_iast hc hx (j := 107) (by decide) (by decide) rfl 8 rfl (vin (by decide)) dX6_learnsSide_43 ?_
  refine wp_nm (fun M3 hM3 => ?_)
  refine wp_vret hc hr hk ?_ dX6_learnsSide_44
  show M3 = sX6_learnsSide_7 M i2 i3
  rw [sX6_learnsSide_7, tk_eq hx1, tk_eq hM2, tk_eq hM3]
set_option maxRecDepth 10000 in
theorem kpX6_learnsSide_7 (M : Mem) (i2 : Int32) (i3 : Int32) : KP M (sX6_learnsSide_7 M i2 i3) := by
  unfold sX6_learnsSide_7
  refine tk_ind (P := KP M) _ _ (fun x1 hx1 => ?_)
  have k1 : KP2 M x1 := by rw [hx1]; apply kpX6_over
  refine tk_ind (P := KP M) _ _ (fun M2 hM2 => ?_)
  have k2 : KP x1.2 M2 := by rw [hM2]; exact kp_st (by decide)
  refine tk_ind (P := KP M) _ _ (fun M3 hM3 => ?_)
  have k3 : KP M2 M3 := by rw [hM3]; exact kp_st (by decide)
  exact (show KP M M3 from KP.trans k1 (KP.trans k2 (k3)))
def sX6_learnsThrough_7 (M : Mem) (i1 : Int32) (i3 : Int32) (i4 : Int32) : Mem :=
  tk (sX6_over M (fX6_less i1 (M.1 107 6)) (fX6_plus (M.1 107 8) (fX6_by (fX6_less i1 (M.1 107 6)) (M.1 107 7)))) fun x1 =>
  tk (st x1.2 107 10 x1.1) fun M2 =>
  tk (st M2 107 11 (fX6_by (fX6_less i3 i4) (fX6_less 10007 (fX6_by (M2.1 107 7) (M2.1 107 10))))) fun M3 =>
  M3
set_option maxHeartbeats 4000000 in
set_option maxRecDepth 100000 in
theorem kX6_learnsThrough_7 (l : Launch) (D : va_G) (cy : Nat → ClassId) (z : Nat → Nat) (hz : zI z) (M : Mem) (i1 : Int32) (i3 : Int32) (i4 : Int32) : KV l yX6_learnsThrough wsX6_learnsThrough { frames := 4, cells := 0, slots := 0, locals := 92 } D cy z 100 15 [.ref (z 100), .int i1, .int 7, .int i3, .int i4] M (fun u => u = sX6_learnsThrough_7 M i1 i3 i4) := by
  refine met_wp (lv := [(0, .ref (z 100)), (1, .int i1), (2, .int 7), (3, .int i3), (4, .int i4)]) hz (by decide) (by decide) rfl rfl (Nat.le_of_ble_eq_true rfl) rfl ?_
  intro p e s m below meth c hc hx hr hk
  have hNW := hx.2.1
  have hin6 : ∀ w ∈ wsX60, w ∈ wsX6_learnsThrough := by decide +kernel
  have hf28 : Cond.fieldLink RX6 28 (TX6 9).1 (TX6 9).2.1 (TX6 9).2.2.1 ∈ wsX6_learnsThrough := by decide +kernel
  have cw78 : CallB ({ frames := 4, cells := 0, slots := 0, locals := 92 }) s _ RX6 78 yX6_by cX6_by 6 (some .int) wsX6_by ({ frames := 2, cells := 0, slots := 0, locals := 42 }) 0 0 2 ∧ (Cond.static yX6_by).before _ s = true := va_cwS 2 hc.2.2.2.2 gX6_learnsThrough_X6_by rfl rfl rfl (by decide +kernel) ⟨Nat.le_of_ble_eq_true rfl, Nat.le_of_ble_eq_true rfl⟩
  have cw114 : CallB ({ frames := 4, cells := 0, slots := 0, locals := 92 }) s _ RX6 114 yX6_less cX6_less 2 (some .int) wsX6_less ({ frames := 2, cells := 0, slots := 0, locals := 42 }) 0 0 2 ∧ (Cond.static yX6_less).before _ s = true := va_cwS 2 hc.2.2.2.2 gX6_learnsThrough_X6_less rfl rfl rfl (by decide +kernel) ⟨Nat.le_of_ble_eq_true rfl, Nat.le_of_ble_eq_true rfl⟩
  have cw117 : CallB ({ frames := 4, cells := 0, slots := 0, locals := 92 }) s _ RX6 117 yX6_plus cX6_plus 2 (some .int) wsX6_plus ({ frames := 2, cells := 0, slots := 0, locals := 42 }) 0 0 2 ∧ (Cond.static yX6_plus).before _ s = true := va_cwS 2 hc.2.2.2.2 gX6_learnsThrough_X6_plus rfl rfl rfl (by decide +kernel) ⟨Nat.le_of_ble_eq_true rfl, Nat.le_of_ble_eq_true rfl⟩
  have cw123 : CallW ({ frames := 4, cells := 0, slots := 0, locals := 92 }) s _ RX6 RX6 123 yX6_over cX6_over 6 (some .int) wsX6_over ({ frames := 3, cells := 0, slots := 0, locals := 67 }) 0 0 2 := cwV 2 hc.2.2.2.2 gX6_learnsThrough_X6_over rfl rfl rfl (by decide +kernel) ⟨Nat.le_of_ble_eq_true rfl, Nat.le_of_ble_eq_true rfl⟩
  refine wp_iload_n hc 1 dX6_learnsThrough_0 rfl ?_
  refine wp_aload_n hc 0 dX6_learnsThrough_1 rfl ?_
  refine wp_get hc hx hin6 (j := 100) (by decide) (by decide) (ce_5 rfl) rfl 9 (by decide) hf28 rfl dX6_learnsThrough_2 ?_
  refine wp_iload_n hc 2 dX6_learnsThrough_5 rfl ?_
  refine wp_iconst (v := 1) hc dX6_learnsThrough_6 (by decide) ?_
  refine wp_isub hc dX6_learnsThrough_7 ?_
  refine wp_cvt (v := 6) (by decide) ?_
  refine wp_iald hc hx (j := 107) (by decide) (by decide) rfl 6 rfl (vin (by decide)) dX6_learnsThrough_8 ?_
  refine wp_callSg (As := [.int i1, .int (M.1 107 6)]) (rest := []) (v := (fX6_less i1 (M.1 107 6))) hc hNW (kX6_less l i1 (M.1 107 6)) cw114 rfl rfl (Nat.le_of_ble_eq_true rfl) dX6_learnsThrough_9 ?_
  refine wp_istore (lv' := [(5, .int (fX6_less i1 (M.1 107 6))), (0, .ref (z 100)), (1, .int i1), (2, .int 7), (3, .int i3), (4, .int i4)]) hc dX6_learnsThrough_12 (by decide) rfl ?_
  refine wp_iload_n hc 3 dX6_learnsThrough_14 rfl ?_
  refine wp_iconst (v := 1) hc dX6_learnsThrough_15 (by decide) ?_
  refine wp_icmp_ne (tgt := 23) hc dX6_learnsThrough_16 (by decide) (fun _ => ?_) (fun c => absurd c (by decide))
  refine wp_bipush (v := 10) hc dX6_learnsThrough_23 (by decide) ?_
  refine wp_istore (lv' := [(6, .int 10), (5, .int (fX6_less i1 (M.1 107 6))), (0, .ref (z 100)), (1, .int i1), (2, .int 7), (3, .int i3), (4, .int i4)]) hc dX6_learnsThrough_25 (by decide) rfl ?_
  refine wp_aload_n hc 2 dX6_learnsThrough_27 rfl ?_
  refine wp_get hc hx hin6 (j := 100) (by decide) (by decide) (ce_5 rfl) rfl 9 (by decide) hf28 rfl dX6_learnsThrough_28 ?_
  refine wp_iload hc 0 dX6_learnsThrough_31 rfl ?_
  refine wp_aload_n hc 2 dX6_learnsThrough_33 rfl ?_
  refine wp_iload hc 1 dX6_learnsThrough_34 rfl ?_
  refine wp_aload_n hc 2 dX6_learnsThrough_36 rfl ?_
  refine wp_get hc hx hin6 (j := 100) (by decide) (by decide) (ce_5 rfl) rfl 9 (by decide) hf28 rfl dX6_learnsThrough_37 ?_
  refine wp_iload_n hc 4 dX6_learnsThrough_40 rfl ?_
  refine wp_iconst (v := 1) hc dX6_learnsThrough_41 (by decide) ?_
  refine wp_iadd hc dX6_learnsThrough_42 ?_
  refine wp_cvt (v := 8) (by decide) ?_
  refine wp_iald hc hx (j := 107) (by decide) (by decide) rfl 8 rfl (vin (by decide)) dX6_learnsThrough_43 ?_
  refine wp_iload hc 1 dX6_learnsThrough_44 rfl ?_
  refine wp_aload_n hc 2 dX6_learnsThrough_46 rfl ?_
  refine wp_get hc hx hin6 (j := 100) (by decide) (by decide) (ce_5 rfl) rfl 9 (by decide) hf28 rfl dX6_learnsThrough_47 ?_
  refine wp_iload_n hc 4 dX6_learnsThrough_50 rfl ?_
  refine wp_iald hc hx (j := 107) (by decide) (by decide) rfl 7 rfl (vin (by decide)) dX6_learnsThrough_51 ?_
  refine wp_callSg (As := [.int (fX6_less i1 (M.1 107 6)), .int (M.1 107 7)]) (rest := [.int (M.1 107 8), .int (fX6_less i1 (M.1 107 6)), .ref (z 100), .int 10, .ref (z 107)]) (v := (fX6_by (fX6_less i1 (M.1 107 6)) (M.1 107 7))) hc hNW (kX6_by l (fX6_less i1 (M.1 107 6)) (M.1 107 7)) cw78 rfl rfl (Nat.le_of_ble_eq_true rfl) dX6_learnsThrough_52 ?_
  refine wp_callSg (As := [.int (M.1 107 8), .int (fX6_by (fX6_less i1 (M.1 107 6)) (M.1 107 7))]) (rest := [.int (fX6_less i1 (M.1 107 6)), .ref (z 100), .int 10, .ref (z 107)]) (v := (fX6_plus (M.1 107 8) (fX6_by (fX6_less i1 (M.1 107 6)) (M.1 107 7)))) hc hNW (kX6_plus l (M.1 107 8) (fX6_by (fX6_less i1 (M.1 107 6)) (M.1 107 7))) cw117 rfl rfl (Nat.le_of_ble_eq_true rfl) dX6_learnsThrough_55 ?_
  refine wp_callVw (As := [.int (fX6_less i1 (M.1 107 6)), .int (fX6_plus (M.1 107 8) (fX6_by (fX6_less i1 (M.1 107 6)) (M.1 107 7)))]) (rest := [.int 10, .ref (z 107)]) (j := 100) (w := sX6_over M (fX6_less i1 (M.1 107 6)) (fX6_plus (M.1 107 8) (fX6_by (fX6_less i1 (M.1 107 6)) (M.1 107 7)))) hc hx (kX6_over l D cy z hz M (fX6_less i1 (M.1 107 6)) (fX6_plus (M.1 107 8) (fX6_by (fX6_less i1 (M.1 107 6)) (M.1 107 7)))) cw123 (by decide) (by decide) (ce_5 rfl) rfl rfl rfl rfl (Nat.le_of_ble_eq_true rfl) dX6_learnsThrough_58 (fun x1 hx1 => ?_)
  refine wp_iast hc hx (j := 107) (by decide) (by decide) rfl 10 rfl (vin (by decide)) dX6_learnsThrough_61 ?_
  refine wp_nm (fun M2 hM2 => ?_)
  refine wp_aload_n hc 2 dX6_learnsThrough_62 rfl ?_
  refine wp_get hc hx hin6 (j := 100) (by decide) (by decide) (ce_5 rfl) rfl 9 (by decide) hf28 rfl dX6_learnsThrough_63 ?_
  refine wp_iload hc 0 dX6_learnsThrough_66 rfl ?_
  refine wp_iconst (v := 1) hc dX6_learnsThrough_68 (by decide) ?_
  refine wp_iadd hc dX6_learnsThrough_69 ?_
  refine wp_cvt (v := 11) (by decide) ?_
  refine wp_iload_n hc 5 dX6_learnsThrough_70 rfl ?_
  refine wp_iload hc 6 dX6_learnsThrough_71 rfl ?_
  refine wp_callSg (As := [.int i3, .int i4]) (rest := [.int 11, .ref (z 107)]) (v := (fX6_less i3 i4)) hc hNW (kX6_less l i3 i4) cw114 rfl rfl (Nat.le_of_ble_eq_true rfl) dX6_learnsThrough_73 ?_
  refine wp_sipush (v := 10007) hc dX6_learnsThrough_76 (by decide) ?_
  refine wp_aload_n hc 2 dX6_learnsThrough_79 rfl ?_
  refine wp_get hc hx hin6 (j := 100) (by decide) (by decide) (ce_5 rfl) rfl 9 (by decide) hf28 rfl dX6_learnsThrough_80 ?_
  refine wp_iload_n hc 4 dX6_learnsThrough_83 rfl ?_
  refine wp_iald hc hx (j := 107) (by decide) (by decide) rfl 7 rfl (vin (by decide)) dX6_learnsThrough_84 ?_
  refine wp_aload_n hc 2 dX6_learnsThrough_85 rfl ?_
  refine wp_get hc hx hin6 (j := 100) (by decide) (by decide) (ce_5 rfl) rfl 9 (by decide) hf28 rfl dX6_learnsThrough_86 ?_
  refine wp_iload hc 0 dX6_learnsThrough_89 rfl ?_
  refine wp_iald hc hx (j := 107) (by decide) (by decide) rfl 10 rfl (vin (by decide)) dX6_learnsThrough_91 ?_
  refine wp_callSg (As := [.int (M2.1 107 7), .int (M2.1 107 10)]) (rest := [.int 10007, .int (fX6_less i3 i4), .int 11, .ref (z 107)]) (v := (fX6_by (M2.1 107 7) (M2.1 107 10))) hc hNW (kX6_by l (M2.1 107 7) (M2.1 107 10)) cw78 rfl rfl (Nat.le_of_ble_eq_true rfl) dX6_learnsThrough_92 ?_
  refine wp_callSg (As := [.int 10007, .int (fX6_by (M2.1 107 7) (M2.1 107 10))]) (rest := [.int (fX6_less i3 i4), .int 11, .ref (z 107)]) (v := (fX6_less 10007 (fX6_by (M2.1 107 7) (M2.1 107 10)))) hc hNW (kX6_less l 10007 (fX6_by (M2.1 107 7) (M2.1 107 10))) cw114 rfl rfl (Nat.le_of_ble_eq_true rfl) dX6_learnsThrough_95 ?_
  refine wp_callSg (As := [.int (fX6_less i3 i4), .int (fX6_less 10007 (fX6_by (M2.1 107 7) (M2.1 107 10)))]) (rest := [.int 11, .ref (z 107)]) (v := (fX6_by (fX6_less i3 i4) (fX6_less 10007 (fX6_by (M2.1 107 7) (M2.1 107 10))))) hc hNW (kX6_by l (fX6_less i3 i4) (fX6_less 10007 (fX6_by (M2.1 107 7) (M2.1 107 10)))) cw78 rfl rfl (Nat.le_of_ble_eq_true rfl) dX6_learnsThrough_98 ?_
  refine wp_iast hc hx (j := 107) (by decide) (by decide) rfl 11 rfl (vin (by decide)) dX6_learnsThrough_101 ?_
  refine wp_nm (fun M3 hM3 => ?_)
  refine wp_vret hc hr hk ?_ dX6_learnsThrough_102
  show M3 = sX6_learnsThrough_7 M i1 i3 i4
  rw [sX6_learnsThrough_7, tk_eq hx1, tk_eq hM2, tk_eq hM3]
set_option maxRecDepth 10000 in
theorem kpX6_learnsThrough_7 (M : Mem) (i1 : Int32) (i3 : Int32) (i4 : Int32) : KP M (sX6_learnsThrough_7 M i1 i3 i4) := by
  unfold sX6_learnsThrough_7
  refine tk_ind (P := KP M) _ _ (fun x1 hx1 => ?_)
  have k1 : KP2 M x1 := by rw [hx1]; apply kpX6_over
  refine tk_ind (P := KP M) _ _ (fun M2 hM2 => ?_)
  have k2 : KP x1.2 M2 := by rw [hM2]; exact kp_st (by decide)
  refine tk_ind (P := KP M) _ _ (fun M3 hM3 => ?_)
  have k3 : KP M2 M3 := by rw [hM3]; exact kp_st (by decide)
  exact (show KP M M3 from KP.trans k1 (KP.trans k2 (k3)))
def sX6_learnsAll (M : Mem)  : Mem :=
  tk (sX6_tellsOf M 0 0 0 0) fun M1 =>
  tk (st M1 107 0 (M1.1 106 0)) fun M2 =>
  tk (st M2 107 3 (M2.1 106 2)) fun M3 =>
  tk (st M3 107 6 (M3.1 106 3)) fun M4 =>
  tk (st M4 107 9 (M4.1 106 1)) fun M5 =>
  tk (sX6_tellsOf M5 10007 0 0 0) fun M6 =>
  tk (sX6_tellsOf M6 100130042 0 0 0) fun M7 =>
  tk (sX6_learnsSide_1 M7 (fX6_less (M6.1 106 0) (M6.1 107 0)) (fX6_less (M7.1 106 0) (M7.1 107 0))) fun M8 =>
  tk (sX6_tellsOf M8 0 0 0 10007) fun M9 =>
  tk (sX6_tellsOf M9 0 0 0 100130042) fun M10 =>
  tk (sX6_learnsSide_7 M10 (fX6_less (M9.1 106 3) (M9.1 107 6)) (fX6_less (M10.1 106 3) (M10.1 107 6))) fun M11 =>
  tk (sX6_tellsOf M11 0 10007 10007 0) fun M12 =>
  tk (sX6_learnsThrough_1 M12 (M12.1 106 0) (M12.1 106 2) (M12.1 107 3)) fun M13 =>
  tk (sX6_learnsThrough_7 M13 (M13.1 106 3) (M13.1 106 1) (M13.1 107 9)) fun M14 =>
  M14
set_option maxHeartbeats 4000000 in
set_option maxRecDepth 100000 in
theorem kX6_learnsAll (l : Launch) (D : va_G) (cy : Nat → ClassId) (z : Nat → Nat) (hz : zI z) (M : Mem)  : KV l yX6_learnsAll wsX6_learnsAll { frames := 6, cells := 0, slots := 0, locals := 143 } D cy z 100 15 [.ref (z 100)] M (fun u => u = sX6_learnsAll M) := by
  refine met_wp (lv := [(0, .ref (z 100))]) hz (by decide) (by decide) rfl rfl (Nat.le_of_ble_eq_true rfl) rfl ?_
  intro p e s m below meth c hc hx hr hk
  have hNW := hx.2.1
  have hin6 : ∀ w ∈ wsX60, w ∈ wsX6_learnsAll := by decide +kernel
  have hf25 : Cond.fieldLink RX6 25 (TX6 8).1 (TX6 8).2.1 (TX6 8).2.2.1 ∈ wsX6_learnsAll := by decide +kernel
  have hf28 : Cond.fieldLink RX6 28 (TX6 9).1 (TX6 9).2.1 (TX6 9).2.2.1 ∈ wsX6_learnsAll := by decide +kernel
  have cw114 : CallB ({ frames := 6, cells := 0, slots := 0, locals := 143 }) s _ RX6 114 yX6_less cX6_less 2 (some .int) wsX6_less ({ frames := 2, cells := 0, slots := 0, locals := 42 }) 0 0 2 ∧ (Cond.static yX6_less).before _ s = true := va_cwS 2 hc.2.2.2.2 gX6_learnsAll_X6_less rfl rfl rfl (by decide +kernel) ⟨Nat.le_of_ble_eq_true rfl, Nat.le_of_ble_eq_true rfl⟩
  have cw136 : CallW ({ frames := 6, cells := 0, slots := 0, locals := 143 }) s _ RX6 RX6 136 yX6_tellsOf cX6_tellsOf 8 none wsX6_tellsOf ({ frames := 5, cells := 0, slots := 0, locals := 116 }) 0 0 4 := cwV 4 hc.2.2.2.2 gX6_learnsAll_X6_tellsOf rfl rfl rfl (by decide +kernel) ⟨Nat.le_of_ble_eq_true rfl, Nat.le_of_ble_eq_true rfl⟩
  have cw145 : CallW ({ frames := 6, cells := 0, slots := 0, locals := 143 }) s _ RX6 RX6 145 yX6_learnsSide cX6_learnsSide 4 none wsX6_learnsSide ({ frames := 4, cells := 0, slots := 0, locals := 92 }) 0 0 3 := cwV 3 hc.2.2.2.2 gX6_learnsAll_X6_learnsSide rfl rfl rfl (by decide +kernel) ⟨Nat.le_of_ble_eq_true rfl, Nat.le_of_ble_eq_true rfl⟩
  have cw149 : CallW ({ frames := 6, cells := 0, slots := 0, locals := 143 }) s _ RX6 RX6 149 yX6_learnsThrough cX6_learnsThrough 7 none wsX6_learnsThrough ({ frames := 4, cells := 0, slots := 0, locals := 92 }) 0 0 4 := cwV 4 hc.2.2.2.2 gX6_learnsAll_X6_learnsThrough rfl rfl rfl (by decide +kernel) ⟨Nat.le_of_ble_eq_true rfl, Nat.le_of_ble_eq_true rfl⟩
  refine wp_aload_n hc 0 dX6_learnsAll_0 rfl ?_
  refine wp_iconst (v := 0) hc dX6_learnsAll_1 (by decide) ?_
  refine wp_iconst (v := 0) hc dX6_learnsAll_2 (by decide) ?_
  refine wp_iconst (v := 0) hc dX6_learnsAll_3 (by decide) ?_
  refine wp_iconst (v := 0) hc dX6_learnsAll_4 (by decide) ?_
  refine wp_callVvw (As := [.int 0, .int 0, .int 0, .int 0]) (rest := []) (j := 100) (w := sX6_tellsOf M 0 0 0 0) hc hx (kX6_tellsOf l D cy z hz M 0 0 0 0) cw136 (by decide) (by decide) (ce_5 rfl) rfl rfl rfl rfl (Nat.le_of_ble_eq_true rfl) dX6_learnsAll_5 (fun M1 hM1 => ?_)
  refine wp_aload_n hc 0 dX6_learnsAll_8 rfl ?_
  refine wp_get hc hx hin6 (j := 100) (by decide) (by decide) (ce_5 rfl) rfl 9 (by decide) hf28 rfl dX6_learnsAll_9 ?_
  refine wp_iconst (v := 0) hc dX6_learnsAll_12 (by decide) ?_
  refine wp_aload_n hc 0 dX6_learnsAll_13 rfl ?_
  refine wp_get hc hx hin6 (j := 100) (by decide) (by decide) (ce_5 rfl) rfl 8 (by decide) hf25 rfl dX6_learnsAll_14 ?_
  refine wp_iconst (v := 0) hc dX6_learnsAll_17 (by decide) ?_
  refine wp_iald hc hx (j := 106) (by decide) (by decide) rfl 0 rfl (vin (by decide)) dX6_learnsAll_18 ?_
  refine wp_iast hc hx (j := 107) (by decide) (by decide) rfl 0 rfl (vin (by decide)) dX6_learnsAll_19 ?_
  refine wp_nm (fun M2 hM2 => ?_)
  refine wp_aload_n hc 0 dX6_learnsAll_20 rfl ?_
  refine wp_get hc hx hin6 (j := 100) (by decide) (by decide) (ce_5 rfl) rfl 9 (by decide) hf28 rfl dX6_learnsAll_21 ?_
  refine wp_iconst (v := 3) hc dX6_learnsAll_24 (by decide) ?_
  refine wp_aload_n hc 0 dX6_learnsAll_25 rfl ?_
  refine wp_get hc hx hin6 (j := 100) (by decide) (by decide) (ce_5 rfl) rfl 8 (by decide) hf25 rfl dX6_learnsAll_26 ?_
  refine wp_iconst (v := 2) hc dX6_learnsAll_29 (by decide) ?_
  refine wp_iald hc hx (j := 106) (by decide) (by decide) rfl 2 rfl (vin (by decide)) dX6_learnsAll_30 ?_
  refine wp_iast hc hx (j := 107) (by decide) (by decide) rfl 3 rfl (vin (by decide)) dX6_learnsAll_31 ?_
  refine wp_nm (fun M3 hM3 => ?_)
  refine wp_aload_n hc 0 dX6_learnsAll_32 rfl ?_
  refine wp_get hc hx hin6 (j := 100) (by decide) (by decide) (ce_5 rfl) rfl 9 (by decide) hf28 rfl dX6_learnsAll_33 ?_
  refine wp_bipush (v := 6) hc dX6_learnsAll_36 (by decide) ?_
  refine wp_aload_n hc 0 dX6_learnsAll_38 rfl ?_
  refine wp_get hc hx hin6 (j := 100) (by decide) (by decide) (ce_5 rfl) rfl 8 (by decide) hf25 rfl dX6_learnsAll_39 ?_
  refine wp_iconst (v := 3) hc dX6_learnsAll_42 (by decide) ?_
  refine wp_iald hc hx (j := 106) (by decide) (by decide) rfl 3 rfl (vin (by decide)) dX6_learnsAll_43 ?_
  refine wp_iast hc hx (j := 107) (by decide) (by decide) rfl 6 rfl (vin (by decide)) dX6_learnsAll_44 ?_
  refine wp_nm (fun M4 hM4 => ?_)
  refine wp_aload_n hc 0 dX6_learnsAll_45 rfl ?_
  refine wp_get hc hx hin6 (j := 100) (by decide) (by decide) (ce_5 rfl) rfl 9 (by decide) hf28 rfl dX6_learnsAll_46 ?_
  refine wp_bipush (v := 9) hc dX6_learnsAll_49 (by decide) ?_
  refine wp_aload_n hc 0 dX6_learnsAll_51 rfl ?_
  refine wp_get hc hx hin6 (j := 100) (by decide) (by decide) (ce_5 rfl) rfl 8 (by decide) hf25 rfl dX6_learnsAll_52 ?_
  refine wp_iconst (v := 1) hc dX6_learnsAll_55 (by decide) ?_
  refine wp_iald hc hx (j := 106) (by decide) (by decide) rfl 1 rfl (vin (by decide)) dX6_learnsAll_56 ?_
  refine wp_iast hc hx (j := 107) (by decide) (by decide) rfl 9 rfl (vin (by decide)) dX6_learnsAll_57 ?_
  refine wp_nm (fun M5 hM5 => ?_)
  refine wp_aload_n hc 0 dX6_learnsAll_58 rfl ?_
  refine wp_sipush (v := 10007) hc dX6_learnsAll_59 (by decide) ?_
  refine wp_iconst (v := 0) hc dX6_learnsAll_62 (by decide) ?_
  refine wp_iconst (v := 0) hc dX6_learnsAll_63 (by decide) ?_
  refine wp_iconst (v := 0) hc dX6_learnsAll_64 (by decide) ?_
  refine wp_callVvw (As := [.int 10007, .int 0, .int 0, .int 0]) (rest := []) (j := 100) (w := sX6_tellsOf M5 10007 0 0 0) hc hx (kX6_tellsOf l D cy z hz M5 10007 0 0 0) cw136 (by decide) (by decide) (ce_5 rfl) rfl rfl rfl rfl (Nat.le_of_ble_eq_true rfl) dX6_learnsAll_65 (fun M6 hM6 => ?_)
  refine wp_aload_n hc 0 dX6_learnsAll_68 rfl ?_
  refine wp_get hc hx hin6 (j := 100) (by decide) (by decide) (ce_5 rfl) rfl 8 (by decide) hf25 rfl dX6_learnsAll_69 ?_
  refine wp_iconst (v := 0) hc dX6_learnsAll_72 (by decide) ?_
  refine wp_iald hc hx (j := 106) (by decide) (by decide) rfl 0 rfl (vin (by decide)) dX6_learnsAll_73 ?_
  refine wp_aload_n hc 0 dX6_learnsAll_74 rfl ?_
  refine wp_get hc hx hin6 (j := 100) (by decide) (by decide) (ce_5 rfl) rfl 9 (by decide) hf28 rfl dX6_learnsAll_75 ?_
  refine wp_iconst (v := 0) hc dX6_learnsAll_78 (by decide) ?_
  refine wp_iald hc hx (j := 107) (by decide) (by decide) rfl 0 rfl (vin (by decide)) dX6_learnsAll_79 ?_
  refine wp_callSg (As := [.int (M6.1 106 0), .int (M6.1 107 0)]) (rest := []) (v := (fX6_less (M6.1 106 0) (M6.1 107 0))) hc hNW (kX6_less l (M6.1 106 0) (M6.1 107 0)) cw114 rfl rfl (Nat.le_of_ble_eq_true rfl) dX6_learnsAll_80 ?_
  refine wp_istore_n (lv' := [(1, .int (fX6_less (M6.1 106 0) (M6.1 107 0))), (0, .ref (z 100))]) hc dX6_learnsAll_83 (by decide) rfl ?_
  refine wp_aload_n hc 1 dX6_learnsAll_84 rfl ?_
  refine wp_ldc (v := 100130042) hc (by decide +kernel) dX6_learnsAll_85 ?_
  refine wp_iconst (v := 0) hc dX6_learnsAll_87 (by decide) ?_
  refine wp_iconst (v := 0) hc dX6_learnsAll_88 (by decide) ?_
  refine wp_iconst (v := 0) hc dX6_learnsAll_89 (by decide) ?_
  refine wp_callVvw (As := [.int 100130042, .int 0, .int 0, .int 0]) (rest := []) (j := 100) (w := sX6_tellsOf M6 100130042 0 0 0) hc hx (kX6_tellsOf l D cy z hz M6 100130042 0 0 0) cw136 (by decide) (by decide) (ce_5 rfl) rfl rfl rfl rfl (Nat.le_of_ble_eq_true rfl) dX6_learnsAll_90 (fun M7 hM7 => ?_)
  refine wp_aload_n hc 1 dX6_learnsAll_93 rfl ?_
  refine wp_iconst (v := 1) hc dX6_learnsAll_94 (by decide) ?_
  refine wp_iload_n hc 0 dX6_learnsAll_95 rfl ?_
  refine wp_aload_n hc 1 dX6_learnsAll_96 rfl ?_
  refine wp_get hc hx hin6 (j := 100) (by decide) (by decide) (ce_5 rfl) rfl 8 (by decide) hf25 rfl dX6_learnsAll_97 ?_
  refine wp_iconst (v := 0) hc dX6_learnsAll_100 (by decide) ?_
  refine wp_iald hc hx (j := 106) (by decide) (by decide) rfl 0 rfl (vin (by decide)) dX6_learnsAll_101 ?_
  refine wp_aload_n hc 1 dX6_learnsAll_102 rfl ?_
  refine wp_get hc hx hin6 (j := 100) (by decide) (by decide) (ce_5 rfl) rfl 9 (by decide) hf28 rfl dX6_learnsAll_103 ?_
  refine wp_iconst (v := 0) hc dX6_learnsAll_106 (by decide) ?_
  refine wp_iald hc hx (j := 107) (by decide) (by decide) rfl 0 rfl (vin (by decide)) dX6_learnsAll_107 ?_
  refine wp_callSg (As := [.int (M7.1 106 0), .int (M7.1 107 0)]) (rest := [.int (fX6_less (M6.1 106 0) (M6.1 107 0)), .int 1, .ref (z 100)]) (v := (fX6_less (M7.1 106 0) (M7.1 107 0))) hc hNW (kX6_less l (M7.1 106 0) (M7.1 107 0)) cw114 rfl rfl (Nat.le_of_ble_eq_true rfl) dX6_learnsAll_108 ?_
  refine wp_callVvw (As := [.int 1, .int (fX6_less (M6.1 106 0) (M6.1 107 0)), .int (fX6_less (M7.1 106 0) (M7.1 107 0))]) (rest := []) (j := 100) (w := sX6_learnsSide_1 M7 (fX6_less (M6.1 106 0) (M6.1 107 0)) (fX6_less (M7.1 106 0) (M7.1 107 0))) hc hx (kX6_learnsSide_1 l D cy z hz M7 (fX6_less (M6.1 106 0) (M6.1 107 0)) (fX6_less (M7.1 106 0) (M7.1 107 0))) cw145 (by decide) (by decide) (ce_5 rfl) rfl rfl rfl rfl (Nat.le_of_ble_eq_true rfl) dX6_learnsAll_111 (fun M8 hM8 => ?_)
  refine wp_aload_n hc 1 dX6_learnsAll_114 rfl ?_
  refine wp_iconst (v := 0) hc dX6_learnsAll_115 (by decide) ?_
  refine wp_iconst (v := 0) hc dX6_learnsAll_116 (by decide) ?_
  refine wp_iconst (v := 0) hc dX6_learnsAll_117 (by decide) ?_
  refine wp_sipush (v := 10007) hc dX6_learnsAll_118 (by decide) ?_
  refine wp_callVvw (As := [.int 0, .int 0, .int 0, .int 10007]) (rest := []) (j := 100) (w := sX6_tellsOf M8 0 0 0 10007) hc hx (kX6_tellsOf l D cy z hz M8 0 0 0 10007) cw136 (by decide) (by decide) (ce_5 rfl) rfl rfl rfl rfl (Nat.le_of_ble_eq_true rfl) dX6_learnsAll_121 (fun M9 hM9 => ?_)
  refine wp_aload_n hc 1 dX6_learnsAll_124 rfl ?_
  refine wp_get hc hx hin6 (j := 100) (by decide) (by decide) (ce_5 rfl) rfl 8 (by decide) hf25 rfl dX6_learnsAll_125 ?_
  refine wp_iconst (v := 3) hc dX6_learnsAll_128 (by decide) ?_
  refine wp_iald hc hx (j := 106) (by decide) (by decide) rfl 3 rfl (vin (by decide)) dX6_learnsAll_129 ?_
  refine wp_aload_n hc 1 dX6_learnsAll_130 rfl ?_
  refine wp_get hc hx hin6 (j := 100) (by decide) (by decide) (ce_5 rfl) rfl 9 (by decide) hf28 rfl dX6_learnsAll_131 ?_
  refine wp_bipush (v := 6) hc dX6_learnsAll_134 (by decide) ?_
  refine wp_iald hc hx (j := 107) (by decide) (by decide) rfl 6 rfl (vin (by decide)) dX6_learnsAll_136 ?_
  refine wp_callSg (As := [.int (M9.1 106 3), .int (M9.1 107 6)]) (rest := []) (v := (fX6_less (M9.1 106 3) (M9.1 107 6))) hc hNW (kX6_less l (M9.1 106 3) (M9.1 107 6)) cw114 rfl rfl (Nat.le_of_ble_eq_true rfl) dX6_learnsAll_137 ?_
  refine wp_istore_n (lv' := [(1, .int (fX6_less (M9.1 106 3) (M9.1 107 6))), (0, .ref (z 100))]) hc dX6_learnsAll_140 (by decide) rfl ?_
  refine wp_aload_n hc 1 dX6_learnsAll_141 rfl ?_
  refine wp_iconst (v := 0) hc dX6_learnsAll_142 (by decide) ?_
  refine wp_iconst (v := 0) hc dX6_learnsAll_143 (by decide) ?_
  refine wp_iconst (v := 0) hc dX6_learnsAll_144 (by decide) ?_
  refine wp_ldc (v := 100130042) hc (by decide +kernel) dX6_learnsAll_145 ?_
  refine wp_callVvw (As := [.int 0, .int 0, .int 0, .int 100130042]) (rest := []) (j := 100) (w := sX6_tellsOf M9 0 0 0 100130042) hc hx (kX6_tellsOf l D cy z hz M9 0 0 0 100130042) cw136 (by decide) (by decide) (ce_5 rfl) rfl rfl rfl rfl (Nat.le_of_ble_eq_true rfl) dX6_learnsAll_147 (fun M10 hM10 => ?_)
  refine wp_aload_n hc 1 dX6_learnsAll_150 rfl ?_
  refine wp_bipush (v := 7) hc dX6_learnsAll_151 (by decide) ?_
  refine wp_iload_n hc 0 dX6_learnsAll_153 rfl ?_
  refine wp_aload_n hc 1 dX6_learnsAll_154 rfl ?_
  refine wp_get hc hx hin6 (j := 100) (by decide) (by decide) (ce_5 rfl) rfl 8 (by decide) hf25 rfl dX6_learnsAll_155 ?_
  refine wp_iconst (v := 3) hc dX6_learnsAll_158 (by decide) ?_
  refine wp_iald hc hx (j := 106) (by decide) (by decide) rfl 3 rfl (vin (by decide)) dX6_learnsAll_159 ?_
  refine wp_aload_n hc 1 dX6_learnsAll_160 rfl ?_
  refine wp_get hc hx hin6 (j := 100) (by decide) (by decide) (ce_5 rfl) rfl 9 (by decide) hf28 rfl dX6_learnsAll_161 ?_
  refine wp_bipush (v := 6) hc dX6_learnsAll_164 (by decide) ?_
  refine wp_iald hc hx (j := 107) (by decide) (by decide) rfl 6 rfl (vin (by decide)) dX6_learnsAll_166 ?_
  refine wp_callSg (As := [.int (M10.1 106 3), .int (M10.1 107 6)]) (rest := [.int (fX6_less (M9.1 106 3) (M9.1 107 6)), .int 7, .ref (z 100)]) (v := (fX6_less (M10.1 106 3) (M10.1 107 6))) hc hNW (kX6_less l (M10.1 106 3) (M10.1 107 6)) cw114 rfl rfl (Nat.le_of_ble_eq_true rfl) dX6_learnsAll_167 ?_
  refine wp_callVvw (As := [.int 7, .int (fX6_less (M9.1 106 3) (M9.1 107 6)), .int (fX6_less (M10.1 106 3) (M10.1 107 6))]) (rest := []) (j := 100) (w := sX6_learnsSide_7 M10 (fX6_less (M9.1 106 3) (M9.1 107 6)) (fX6_less (M10.1 106 3) (M10.1 107 6))) hc hx (kX6_learnsSide_7 l D cy z hz M10 (fX6_less (M9.1 106 3) (M9.1 107 6)) (fX6_less (M10.1 106 3) (M10.1 107 6))) cw145 (by decide) (by decide) (ce_5 rfl) rfl rfl rfl rfl (Nat.le_of_ble_eq_true rfl) dX6_learnsAll_170 (fun M11 hM11 => ?_)
  refine wp_aload_n hc 1 dX6_learnsAll_173 rfl ?_
  refine wp_iconst (v := 0) hc dX6_learnsAll_174 (by decide) ?_
  refine wp_sipush (v := 10007) hc dX6_learnsAll_175 (by decide) ?_
  refine wp_sipush (v := 10007) hc dX6_learnsAll_178 (by decide) ?_
  refine wp_iconst (v := 0) hc dX6_learnsAll_181 (by decide) ?_
  refine wp_callVvw (As := [.int 0, .int 10007, .int 10007, .int 0]) (rest := []) (j := 100) (w := sX6_tellsOf M11 0 10007 10007 0) hc hx (kX6_tellsOf l D cy z hz M11 0 10007 10007 0) cw136 (by decide) (by decide) (ce_5 rfl) rfl rfl rfl rfl (Nat.le_of_ble_eq_true rfl) dX6_learnsAll_182 (fun M12 hM12 => ?_)
  refine wp_aload_n hc 1 dX6_learnsAll_185 rfl ?_
  refine wp_aload_n hc 1 dX6_learnsAll_186 rfl ?_
  refine wp_get hc hx hin6 (j := 100) (by decide) (by decide) (ce_5 rfl) rfl 8 (by decide) hf25 rfl dX6_learnsAll_187 ?_
  refine wp_iconst (v := 0) hc dX6_learnsAll_190 (by decide) ?_
  refine wp_iald hc hx (j := 106) (by decide) (by decide) rfl 0 rfl (vin (by decide)) dX6_learnsAll_191 ?_
  refine wp_iconst (v := 1) hc dX6_learnsAll_192 (by decide) ?_
  refine wp_aload_n hc 1 dX6_learnsAll_193 rfl ?_
  refine wp_get hc hx hin6 (j := 100) (by decide) (by decide) (ce_5 rfl) rfl 8 (by decide) hf25 rfl dX6_learnsAll_194 ?_
  refine wp_iconst (v := 2) hc dX6_learnsAll_197 (by decide) ?_
  refine wp_iald hc hx (j := 106) (by decide) (by decide) rfl 2 rfl (vin (by decide)) dX6_learnsAll_198 ?_
  refine wp_aload_n hc 1 dX6_learnsAll_199 rfl ?_
  refine wp_get hc hx hin6 (j := 100) (by decide) (by decide) (ce_5 rfl) rfl 9 (by decide) hf28 rfl dX6_learnsAll_200 ?_
  refine wp_iconst (v := 3) hc dX6_learnsAll_203 (by decide) ?_
  refine wp_iald hc hx (j := 107) (by decide) (by decide) rfl 3 rfl (vin (by decide)) dX6_learnsAll_204 ?_
  refine wp_callVvw (As := [.int (M12.1 106 0), .int 1, .int (M12.1 106 2), .int (M12.1 107 3)]) (rest := []) (j := 100) (w := sX6_learnsThrough_1 M12 (M12.1 106 0) (M12.1 106 2) (M12.1 107 3)) hc hx (kX6_learnsThrough_1 l D cy z hz M12 (M12.1 106 0) (M12.1 106 2) (M12.1 107 3)) cw149 (by decide) (by decide) (ce_5 rfl) rfl rfl rfl rfl (Nat.le_of_ble_eq_true rfl) dX6_learnsAll_205 (fun M13 hM13 => ?_)
  refine wp_aload_n hc 1 dX6_learnsAll_208 rfl ?_
  refine wp_aload_n hc 1 dX6_learnsAll_209 rfl ?_
  refine wp_get hc hx hin6 (j := 100) (by decide) (by decide) (ce_5 rfl) rfl 8 (by decide) hf25 rfl dX6_learnsAll_210 ?_
  refine wp_iconst (v := 3) hc dX6_learnsAll_213 (by decide) ?_
  refine wp_iald hc hx (j := 106) (by decide) (by decide) rfl 3 rfl (vin (by decide)) dX6_learnsAll_214 ?_
  refine wp_bipush (v := 7) hc dX6_learnsAll_215 (by decide) ?_
  refine wp_aload_n hc 1 dX6_learnsAll_217 rfl ?_
  refine wp_get hc hx hin6 (j := 100) (by decide) (by decide) (ce_5 rfl) rfl 8 (by decide) hf25 rfl dX6_learnsAll_218 ?_
  refine wp_iconst (v := 1) hc dX6_learnsAll_221 (by decide) ?_
  refine wp_iald hc hx (j := 106) (by decide) (by decide) rfl 1 rfl (vin (by decide)) dX6_learnsAll_222 ?_
  refine wp_aload_n hc 1 dX6_learnsAll_223 rfl ?_
  refine wp_get hc hx hin6 (j := 100) (by decide) (by decide) (ce_5 rfl) rfl 9 (by decide) hf28 rfl dX6_learnsAll_224 ?_
  refine wp_bipush (v := 9) hc dX6_learnsAll_227 (by decide) ?_
  refine wp_iald hc hx (j := 107) (by decide) (by decide) rfl 9 rfl (vin (by decide)) dX6_learnsAll_229 ?_
  refine wp_callVvw (As := [.int (M13.1 106 3), .int 7, .int (M13.1 106 1), .int (M13.1 107 9)]) (rest := []) (j := 100) (w := sX6_learnsThrough_7 M13 (M13.1 106 3) (M13.1 106 1) (M13.1 107 9)) hc hx (kX6_learnsThrough_7 l D cy z hz M13 (M13.1 106 3) (M13.1 106 1) (M13.1 107 9)) cw149 (by decide) (by decide) (ce_5 rfl) rfl rfl rfl rfl (Nat.le_of_ble_eq_true rfl) dX6_learnsAll_230 (fun M14 hM14 => ?_)
  refine wp_vret hc hr hk ?_ dX6_learnsAll_233
  show M14 = sX6_learnsAll M
  rw [sX6_learnsAll, tk_eq hM1, tk_eq hM2, tk_eq hM3, tk_eq hM4, tk_eq hM5, tk_eq hM6, tk_eq hM7, tk_eq hM8, tk_eq hM9, tk_eq hM10, tk_eq hM11, tk_eq hM12, tk_eq hM13, tk_eq hM14]
set_option maxRecDepth 10000 in
theorem kpX6_learnsAll (M : Mem)  : KP M (sX6_learnsAll M) := by
  unfold sX6_learnsAll
  refine tk_ind (P := KP M) _ _ (fun M1 hM1 => ?_)
  have k1 : KP M M1 := by rw [hM1]; apply kpX6_tellsOf
  refine tk_ind (P := KP M) _ _ (fun M2 hM2 => ?_)
  have k2 : KP M1 M2 := by rw [hM2]; exact kp_st (by decide)
  refine tk_ind (P := KP M) _ _ (fun M3 hM3 => ?_)
  have k3 : KP M2 M3 := by rw [hM3]; exact kp_st (by decide)
  refine tk_ind (P := KP M) _ _ (fun M4 hM4 => ?_)
  have k4 : KP M3 M4 := by rw [hM4]; exact kp_st (by decide)
  refine tk_ind (P := KP M) _ _ (fun M5 hM5 => ?_)
  have k5 : KP M4 M5 := by rw [hM5]; exact kp_st (by decide)
  refine tk_ind (P := KP M) _ _ (fun M6 hM6 => ?_)
  have k6 : KP M5 M6 := by rw [hM6]; apply kpX6_tellsOf
  refine tk_ind (P := KP M) _ _ (fun M7 hM7 => ?_)
  have k7 : KP M6 M7 := by rw [hM7]; apply kpX6_tellsOf
  refine tk_ind (P := KP M) _ _ (fun M8 hM8 => ?_)
  have k8 : KP M7 M8 := by rw [hM8]; apply kpX6_learnsSide_1
  refine tk_ind (P := KP M) _ _ (fun M9 hM9 => ?_)
  have k9 : KP M8 M9 := by rw [hM9]; apply kpX6_tellsOf
  refine tk_ind (P := KP M) _ _ (fun M10 hM10 => ?_)
  have k10 : KP M9 M10 := by rw [hM10]; apply kpX6_tellsOf
  refine tk_ind (P := KP M) _ _ (fun M11 hM11 => ?_)
  have k11 : KP M10 M11 := by rw [hM11]; apply kpX6_learnsSide_7
  refine tk_ind (P := KP M) _ _ (fun M12 hM12 => ?_)
  have k12 : KP M11 M12 := by rw [hM12]; apply kpX6_tellsOf
  refine tk_ind (P := KP M) _ _ (fun M13 hM13 => ?_)
  have k13 : KP M12 M13 := by rw [hM13]; apply kpX6_learnsThrough_1
  refine tk_ind (P := KP M) _ _ (fun M14 hM14 => ?_)
  have k14 : KP M13 M14 := by rw [hM14]; apply kpX6_learnsThrough_7
  exact (show KP M M14 from KP.trans k1 (KP.trans k2 (KP.trans k3 (KP.trans k4 (KP.trans k5 (KP.trans k6 (KP.trans k7 (KP.trans k8 (KP.trans k9 (KP.trans k10 (KP.trans k11 (KP.trans k12 (KP.trans k13 (k14))))))))))))))
def sX6_canLearn (M : Mem)  : Int32 × Mem :=
  tk (st M 100 7 0) fun M1 =>
  tk (sX6_learnsAll M1) fun M2 =>
  if (M2.1 100 7) = 0 then
  (1, M2)
  else
  (0, M2)
set_option maxHeartbeats 4000000 in
set_option maxRecDepth 100000 in
theorem kX6_canLearn (l : Launch) (D : va_G) (cy : Nat → ClassId) (z : Nat → Nat) (hz : zI z) (M : Mem)  : KI l yX6_canLearn wsX6_canLearn { frames := 7, cells := 0, slots := 0, locals := 164 } D cy z 100 15 [.ref (z 100)] M (fun r u => (r, u) = sX6_canLearn M) := by
  refine met_wp (lv := [(0, .ref (z 100))]) hz (by decide) (by decide) rfl rfl (Nat.le_of_ble_eq_true rfl) rfl ?_
  intro p e s m below meth c hc hx hr hk
  have hNW := hx.2.1
  have hin6 : ∀ w ∈ wsX60, w ∈ wsX6_canLearn := by decide +kernel
  have hf68 : Cond.fieldLink RX6 68 (TX6 7).1 (TX6 7).2.1 (TX6 7).2.2.1 ∈ wsX6_canLearn := by decide +kernel
  have cw152 : CallW ({ frames := 7, cells := 0, slots := 0, locals := 164 }) s _ RX6 RX6 152 yX6_learnsAll cX6_learnsAll 2 none wsX6_learnsAll ({ frames := 6, cells := 0, slots := 0, locals := 143 }) 0 0 0 := cwV 0 hc.2.2.2.2 gX6_canLearn_X6_learnsAll rfl rfl rfl (by decide +kernel) ⟨Nat.le_of_ble_eq_true rfl, Nat.le_of_ble_eq_true rfl⟩
  refine wp_aload_n hc 0 dX6_canLearn_0 rfl ?_
  refine wp_iconst (v := 0) hc dX6_canLearn_1 (by decide) ?_
  refine wp_put (M' := st M 100 7 0) hc hx hin6 tyX6 tyX6_ok nmX6 (j := 100) (by decide) (by decide) (ce_5 rfl) rfl 7 (by decide) hf68 rfl rfl rfl (Nat.le_of_ble_eq_true rfl) (by rw [ce_5 rfl]; exact ce_stM7 _ _ _) (fun i hi => ce_row (va_up_ne _ _ hi) rfl) dX6_canLearn_2 ?_
  refine wp_nm (fun M1 hM1 => ?_)
  refine wp_aload_n hc 0 dX6_canLearn_5 rfl ?_
  refine wp_callVvw (As := []) (rest := []) (j := 100) (w := sX6_learnsAll M1) hc hx (kX6_learnsAll l D cy z hz M1) cw152 (by decide) (by decide) (ce_5 rfl) rfl rfl rfl rfl (Nat.le_of_ble_eq_true rfl) dX6_canLearn_6 (fun M2 hM2 => ?_)
  refine wp_aload_n hc 0 dX6_canLearn_9 rfl ?_
  refine wp_get hc hx hin6 (j := 100) (by decide) (by decide) (ce_5 rfl) rfl 7 (by decide) hf68 rfl dX6_canLearn_10 ?_
  refine wp_if_ne (tgt := 20) hc dX6_canLearn_13 (by decide) (fun c13 => ?_) (fun c13 => ?_)
  · refine wp_iconst (v := 0) hc dX6_canLearn_20 (by decide) ?_
    refine wp_zret hc hr hk rfl ?_ dX6_canLearn_21
    show (0, M2) = sX6_canLearn M
    rw [sX6_canLearn, tk_eq hM1, tk_eq hM2, if_neg c13]
  refine wp_iconst (v := 1) hc dX6_canLearn_16 (by decide) ?_
  refine wp_goto (tgt := 21) hc dX6_canLearn_17 (by decide) ?_
  refine wp_zret hc hr hk rfl ?_ dX6_canLearn_21
  show (1, M2) = sX6_canLearn M
  rw [sX6_canLearn, tk_eq hM1, tk_eq hM2, if_pos c13]
set_option maxRecDepth 10000 in
theorem kpX6_canLearn (M : Mem)  : KP2 M (sX6_canLearn M) := by
  unfold sX6_canLearn
  refine tk_ind (P := KP2 M) _ _ (fun M1 hM1 => ?_)
  have k1 : KP M M1 := by rw [hM1]; exact kp_st (by decide)
  refine tk_ind (P := KP2 M) _ _ (fun M2 hM2 => ?_)
  have k2 : KP M1 M2 := by rw [hM2]; apply kpX6_learnsAll
  refine ite_ind (P := KP2 M) (fun _ => ?_) (fun _ => ?_)
  · exact (show KP M M2 from KP.trans k1 (k2))
  · exact (show KP M M2 from KP.trans k1 (k2))
theorem bX6_canLearn (M : Mem)  : B01 (sX6_canLearn M) := by
  unfold sX6_canLearn
  refine tk_ind (P := B01) _ _ (fun M1 hM1 => ?_)
  refine tk_ind (P := B01) _ _ (fun M2 hM2 => ?_)
  refine ite_ind (P := B01) (fun _ => ?_) (fun _ => ?_)
  · exact (show _ ∨ _ from Or.inr rfl)
  · exact (show _ ∨ _ from Or.inl rfl)
def sX6_readsBox (M : Mem) (i1 : Int32) : Mem :=
  tk (sX6_tellsBox M i1) fun M1 =>
  tk (sX6_over M1 (fX6_less (M1.1 106 0) (fX6_lrn M1 0)) (fX6_lrn M1 2)) fun x2 =>
  tk (sX6_over x2.2 (fX6_less (x2.2.1 106 2) (fX6_lrn x2.2 3)) (fX6_lrn x2.2 5)) fun x3 =>
  tk (sX6_over x3.2 (fX6_less (x3.2.1 106 3) (fX6_lrn x3.2 6)) (fX6_lrn x3.2 8)) fun x4 =>
  tk (sX6_over x4.2 (fX6_less (x4.2.1 106 1) (fX6_lrn x4.2 9)) (fX6_lrn x4.2 11)) fun x5 =>
  tk ((fX6_less (fX6_by (fX6_plus 10007 (fX6_by x2.1 (fX6_lrn x5.2 1))) (fX6_plus 10007 (fX6_by x4.1 (fX6_lrn x5.2 7)))) (fX6_by (fX6_by x3.1 x5.1) (fX6_by (fX6_lrn x5.2 4) (fX6_lrn x5.2 10))))) fun x6 =>
  tk (sX6_over x5.2 (fX6_less (fX6_by x2.1 (fX6_plus 10007 (fX6_by x4.1 (fX6_lrn x5.2 7)))) (fX6_by (fX6_lrn x5.2 4) (fX6_by x3.1 x5.1))) x6) fun x7 =>
  tk (st x7.2 108 0 x7.1) fun M8 =>
  tk ((fX6_plus 10007 (fX6_by x4.1 (fX6_less (fX6_lrn M8 7) (fX6_lrn M8 4))))) fun x9 =>
  tk (sX6_over M8 (fX6_by x9 x3.1) x6) fun x10 =>
  tk (st x10.2 108 2 x10.1) fun M11 =>
  tk ((fX6_plus 10007 (fX6_by x2.1 (fX6_less (fX6_lrn M11 1) (fX6_lrn M11 10))))) fun x12 =>
  tk (sX6_over M11 (fX6_by x12 x5.1) x6) fun x13 =>
  tk (st x13.2 108 1 x13.1) fun M14 =>
  tk (sX6_over M14 (fX6_less (fX6_by x4.1 (fX6_plus 10007 (fX6_by x2.1 (fX6_lrn x5.2 1)))) (fX6_by (fX6_lrn M14 10) (fX6_by x3.1 x5.1))) x6) fun x15 =>
  tk (st x15.2 108 3 x15.1) fun M16 =>
  M16
set_option maxHeartbeats 4000000 in
set_option maxRecDepth 100000 in
theorem kX6_readsBox (l : Launch) (D : va_G) (cy : Nat → ClassId) (z : Nat → Nat) (hz : zI z) (M : Mem) (i1 : Int32) (hb : 0 ≤ i1.toInt ∧ i1.toInt < 8) : KV l yX6_readsBox wsX6_readsBox { frames := 7, cells := 0, slots := 0, locals := 165 } D cy z 100 15 [.ref (z 100), .int i1] M (fun u => u = sX6_readsBox M i1) := by
  refine met_wp (lv := [(0, .ref (z 100)), (1, .int i1)]) hz (by decide) (by decide) rfl rfl (Nat.le_of_ble_eq_true rfl) rfl ?_
  intro p e s m below meth c hc hx hr hk
  have hNW := hx.2.1
  have hin6 : ∀ w ∈ wsX60, w ∈ wsX6_readsBox := by decide +kernel
  have hf25 : Cond.fieldLink RX6 25 (TX6 8).1 (TX6 8).2.1 (TX6 8).2.2.1 ∈ wsX6_readsBox := by decide +kernel
  have hf31 : Cond.fieldLink RX6 31 (TX6 10).1 (TX6 10).2.1 (TX6 10).2.2.1 ∈ wsX6_readsBox := by decide +kernel
  have cw78 : CallB ({ frames := 7, cells := 0, slots := 0, locals := 165 }) s _ RX6 78 yX6_by cX6_by 6 (some .int) wsX6_by ({ frames := 2, cells := 0, slots := 0, locals := 42 }) 0 0 2 ∧ (Cond.static yX6_by).before _ s = true := va_cwS 2 hc.2.2.2.2 gX6_readsBox_X6_by rfl rfl rfl (by decide +kernel) ⟨Nat.le_of_ble_eq_true rfl, Nat.le_of_ble_eq_true rfl⟩
  have cw114 : CallB ({ frames := 7, cells := 0, slots := 0, locals := 165 }) s _ RX6 114 yX6_less cX6_less 2 (some .int) wsX6_less ({ frames := 2, cells := 0, slots := 0, locals := 42 }) 0 0 2 ∧ (Cond.static yX6_less).before _ s = true := va_cwS 2 hc.2.2.2.2 gX6_readsBox_X6_less rfl rfl rfl (by decide +kernel) ⟨Nat.le_of_ble_eq_true rfl, Nat.le_of_ble_eq_true rfl⟩
  have cw117 : CallB ({ frames := 7, cells := 0, slots := 0, locals := 165 }) s _ RX6 117 yX6_plus cX6_plus 2 (some .int) wsX6_plus ({ frames := 2, cells := 0, slots := 0, locals := 42 }) 0 0 2 ∧ (Cond.static yX6_plus).before _ s = true := va_cwS 2 hc.2.2.2.2 gX6_readsBox_X6_plus rfl rfl rfl (by decide +kernel) ⟨Nat.le_of_ble_eq_true rfl, Nat.le_of_ble_eq_true rfl⟩
  have cw123 : CallW ({ frames := 7, cells := 0, slots := 0, locals := 165 }) s _ RX6 RX6 123 yX6_over cX6_over 6 (some .int) wsX6_over ({ frames := 3, cells := 0, slots := 0, locals := 67 }) 0 0 2 := cwV 2 hc.2.2.2.2 gX6_readsBox_X6_over rfl rfl rfl (by decide +kernel) ⟨Nat.le_of_ble_eq_true rfl, Nat.le_of_ble_eq_true rfl⟩
  have cw140 : CallW ({ frames := 7, cells := 0, slots := 0, locals := 165 }) s _ RX6 RX6 140 yX6_tellsBox cX6_tellsBox 3 none wsX6_tellsBox ({ frames := 6, cells := 0, slots := 0, locals := 143 }) 0 0 1 := cwV 1 hc.2.2.2.2 gX6_readsBox_X6_tellsBox rfl rfl rfl (by decide +kernel) ⟨Nat.le_of_ble_eq_true rfl, Nat.le_of_ble_eq_true rfl⟩
  have cw162 : CallW ({ frames := 7, cells := 0, slots := 0, locals := 165 }) s _ RX6 RX6 162 yX6_lrn cX6_lrn 2 (some .int) wsX6_lrn ({ frames := 0, cells := 0, slots := 0, locals := 0 }) 0 0 1 := cwV 1 hc.2.2.2.2 gX6_readsBox_X6_lrn rfl rfl rfl (by decide +kernel) ⟨Nat.le_of_ble_eq_true rfl, Nat.le_of_ble_eq_true rfl⟩
  refine wp_aload_n hc 0 dX6_readsBox_0 rfl ?_
  refine wp_iload_n hc 1 dX6_readsBox_1 rfl ?_
  refine wp_callVvw (As := [.int i1]) (rest := []) (j := 100) (w := sX6_tellsBox M i1) hc hx (kX6_tellsBox l D cy z hz M i1 hb) cw140 (by decide) (by decide) (ce_5 rfl) rfl rfl rfl rfl (Nat.le_of_ble_eq_true rfl) dX6_readsBox_2 (fun M1 hM1 => ?_)
  refine wp_aload_n hc 0 dX6_readsBox_5 rfl ?_
  refine wp_aload_n hc 0 dX6_readsBox_6 rfl ?_
  refine wp_get hc hx hin6 (j := 100) (by decide) (by decide) (ce_5 rfl) rfl 8 (by decide) hf25 rfl dX6_readsBox_7 ?_
  refine wp_iconst (v := 0) hc dX6_readsBox_10 (by decide) ?_
  refine wp_iald hc hx (j := 106) (by decide) (by decide) rfl 0 rfl (vin (by decide)) dX6_readsBox_11 ?_
  refine wp_aload_n hc 0 dX6_readsBox_12 rfl ?_
  refine wp_iconst (v := 0) hc dX6_readsBox_13 (by decide) ?_
  refine wp_callVf (As := [.int 0]) (rest := [.int (M1.1 106 0), .ref (z 100)]) (j := 100) (v := (fX6_lrn M1 0)) hc hx (kX6_lrn l D cy z hz M1 0 (by decide)) cw162 (by decide) (by decide) (ce_5 rfl) rfl rfl rfl rfl (Nat.le_of_ble_eq_true rfl) dX6_readsBox_14 ?_
  refine wp_callSg (As := [.int (M1.1 106 0), .int (fX6_lrn M1 0)]) (rest := [.ref (z 100)]) (v := (fX6_less (M1.1 106 0) (fX6_lrn M1 0))) hc hNW (kX6_less l (M1.1 106 0) (fX6_lrn M1 0)) cw114 rfl rfl (Nat.le_of_ble_eq_true rfl) dX6_readsBox_17 ?_
  refine wp_aload_n hc 0 dX6_readsBox_20 rfl ?_
  refine wp_iconst (v := 2) hc dX6_readsBox_21 (by decide) ?_
  refine wp_callVf (As := [.int 2]) (rest := [.int (fX6_less (M1.1 106 0) (fX6_lrn M1 0)), .ref (z 100)]) (j := 100) (v := (fX6_lrn M1 2)) hc hx (kX6_lrn l D cy z hz M1 2 (by decide)) cw162 (by decide) (by decide) (ce_5 rfl) rfl rfl rfl rfl (Nat.le_of_ble_eq_true rfl) dX6_readsBox_22 ?_
  refine wp_callVw (As := [.int (fX6_less (M1.1 106 0) (fX6_lrn M1 0)), .int (fX6_lrn M1 2)]) (rest := []) (j := 100) (w := sX6_over M1 (fX6_less (M1.1 106 0) (fX6_lrn M1 0)) (fX6_lrn M1 2)) hc hx (kX6_over l D cy z hz M1 (fX6_less (M1.1 106 0) (fX6_lrn M1 0)) (fX6_lrn M1 2)) cw123 (by decide) (by decide) (ce_5 rfl) rfl rfl rfl rfl (Nat.le_of_ble_eq_true rfl) dX6_readsBox_25 (fun x2 hx2 => ?_)
  refine wp_istore_n (lv' := [(2, .int x2.1), (0, .ref (z 100)), (1, .int i1)]) hc dX6_readsBox_28 (by decide) rfl ?_
  refine wp_aload_n hc 1 dX6_readsBox_29 rfl ?_
  refine wp_aload_n hc 1 dX6_readsBox_30 rfl ?_
  refine wp_get hc hx hin6 (j := 100) (by decide) (by decide) (ce_5 rfl) rfl 8 (by decide) hf25 rfl dX6_readsBox_31 ?_
  refine wp_iconst (v := 2) hc dX6_readsBox_34 (by decide) ?_
  refine wp_iald hc hx (j := 106) (by decide) (by decide) rfl 2 rfl (vin (by decide)) dX6_readsBox_35 ?_
  refine wp_aload_n hc 1 dX6_readsBox_36 rfl ?_
  refine wp_iconst (v := 3) hc dX6_readsBox_37 (by decide) ?_
  refine wp_callVf (As := [.int 3]) (rest := [.int (x2.2.1 106 2), .ref (z 100)]) (j := 100) (v := (fX6_lrn x2.2 3)) hc hx (kX6_lrn l D cy z hz x2.2 3 (by decide)) cw162 (by decide) (by decide) (ce_5 rfl) rfl rfl rfl rfl (Nat.le_of_ble_eq_true rfl) dX6_readsBox_38 ?_
  refine wp_callSg (As := [.int (x2.2.1 106 2), .int (fX6_lrn x2.2 3)]) (rest := [.ref (z 100)]) (v := (fX6_less (x2.2.1 106 2) (fX6_lrn x2.2 3))) hc hNW (kX6_less l (x2.2.1 106 2) (fX6_lrn x2.2 3)) cw114 rfl rfl (Nat.le_of_ble_eq_true rfl) dX6_readsBox_41 ?_
  refine wp_aload_n hc 1 dX6_readsBox_44 rfl ?_
  refine wp_iconst (v := 5) hc dX6_readsBox_45 (by decide) ?_
  refine wp_callVf (As := [.int 5]) (rest := [.int (fX6_less (x2.2.1 106 2) (fX6_lrn x2.2 3)), .ref (z 100)]) (j := 100) (v := (fX6_lrn x2.2 5)) hc hx (kX6_lrn l D cy z hz x2.2 5 (by decide)) cw162 (by decide) (by decide) (ce_5 rfl) rfl rfl rfl rfl (Nat.le_of_ble_eq_true rfl) dX6_readsBox_46 ?_
  refine wp_callVw (As := [.int (fX6_less (x2.2.1 106 2) (fX6_lrn x2.2 3)), .int (fX6_lrn x2.2 5)]) (rest := []) (j := 100) (w := sX6_over x2.2 (fX6_less (x2.2.1 106 2) (fX6_lrn x2.2 3)) (fX6_lrn x2.2 5)) hc hx (kX6_over l D cy z hz x2.2 (fX6_less (x2.2.1 106 2) (fX6_lrn x2.2 3)) (fX6_lrn x2.2 5)) cw123 (by decide) (by decide) (ce_5 rfl) rfl rfl rfl rfl (Nat.le_of_ble_eq_true rfl) dX6_readsBox_49 (fun x3 hx3 => ?_)
  refine wp_istore_n (lv' := [(3, .int x3.1), (2, .int x2.1), (0, .ref (z 100)), (1, .int i1)]) hc dX6_readsBox_52 (by decide) rfl ?_
  refine wp_aload_n hc 2 dX6_readsBox_53 rfl ?_
  refine wp_aload_n hc 2 dX6_readsBox_54 rfl ?_
  refine wp_get hc hx hin6 (j := 100) (by decide) (by decide) (ce_5 rfl) rfl 8 (by decide) hf25 rfl dX6_readsBox_55 ?_
  refine wp_iconst (v := 3) hc dX6_readsBox_58 (by decide) ?_
  refine wp_iald hc hx (j := 106) (by decide) (by decide) rfl 3 rfl (vin (by decide)) dX6_readsBox_59 ?_
  refine wp_aload_n hc 2 dX6_readsBox_60 rfl ?_
  refine wp_bipush (v := 6) hc dX6_readsBox_61 (by decide) ?_
  refine wp_callVf (As := [.int 6]) (rest := [.int (x3.2.1 106 3), .ref (z 100)]) (j := 100) (v := (fX6_lrn x3.2 6)) hc hx (kX6_lrn l D cy z hz x3.2 6 (by decide)) cw162 (by decide) (by decide) (ce_5 rfl) rfl rfl rfl rfl (Nat.le_of_ble_eq_true rfl) dX6_readsBox_63 ?_
  refine wp_callSg (As := [.int (x3.2.1 106 3), .int (fX6_lrn x3.2 6)]) (rest := [.ref (z 100)]) (v := (fX6_less (x3.2.1 106 3) (fX6_lrn x3.2 6))) hc hNW (kX6_less l (x3.2.1 106 3) (fX6_lrn x3.2 6)) cw114 rfl rfl (Nat.le_of_ble_eq_true rfl) dX6_readsBox_66 ?_
  refine wp_aload_n hc 2 dX6_readsBox_69 rfl ?_
  refine wp_bipush (v := 8) hc dX6_readsBox_70 (by decide) ?_
  refine wp_callVf (As := [.int 8]) (rest := [.int (fX6_less (x3.2.1 106 3) (fX6_lrn x3.2 6)), .ref (z 100)]) (j := 100) (v := (fX6_lrn x3.2 8)) hc hx (kX6_lrn l D cy z hz x3.2 8 (by decide)) cw162 (by decide) (by decide) (ce_5 rfl) rfl rfl rfl rfl (Nat.le_of_ble_eq_true rfl) dX6_readsBox_72 ?_
  refine wp_callVw (As := [.int (fX6_less (x3.2.1 106 3) (fX6_lrn x3.2 6)), .int (fX6_lrn x3.2 8)]) (rest := []) (j := 100) (w := sX6_over x3.2 (fX6_less (x3.2.1 106 3) (fX6_lrn x3.2 6)) (fX6_lrn x3.2 8)) hc hx (kX6_over l D cy z hz x3.2 (fX6_less (x3.2.1 106 3) (fX6_lrn x3.2 6)) (fX6_lrn x3.2 8)) cw123 (by decide) (by decide) (ce_5 rfl) rfl rfl rfl rfl (Nat.le_of_ble_eq_true rfl) dX6_readsBox_75 (fun x4 hx4 => ?_)
  refine wp_istore (lv' := [(4, .int x4.1), (3, .int x3.1), (2, .int x2.1), (0, .ref (z 100)), (1, .int i1)]) hc dX6_readsBox_78 (by decide) rfl ?_
  refine wp_aload_n hc 3 dX6_readsBox_80 rfl ?_
  refine wp_aload_n hc 3 dX6_readsBox_81 rfl ?_
  refine wp_get hc hx hin6 (j := 100) (by decide) (by decide) (ce_5 rfl) rfl 8 (by decide) hf25 rfl dX6_readsBox_82 ?_
  refine wp_iconst (v := 1) hc dX6_readsBox_85 (by decide) ?_
  refine wp_iald hc hx (j := 106) (by decide) (by decide) rfl 1 rfl (vin (by decide)) dX6_readsBox_86 ?_
  refine wp_aload_n hc 3 dX6_readsBox_87 rfl ?_
  refine wp_bipush (v := 9) hc dX6_readsBox_88 (by decide) ?_
  refine wp_callVf (As := [.int 9]) (rest := [.int (x4.2.1 106 1), .ref (z 100)]) (j := 100) (v := (fX6_lrn x4.2 9)) hc hx (kX6_lrn l D cy z hz x4.2 9 (by decide)) cw162 (by decide) (by decide) (ce_5 rfl) rfl rfl rfl rfl (Nat.le_of_ble_eq_true rfl) dX6_readsBox_90 ?_
  refine wp_callSg (As := [.int (x4.2.1 106 1), .int (fX6_lrn x4.2 9)]) (rest := [.ref (z 100)]) (v := (fX6_less (x4.2.1 106 1) (fX6_lrn x4.2 9))) hc hNW (kX6_less l (x4.2.1 106 1) (fX6_lrn x4.2 9)) cw114 rfl rfl (Nat.le_of_ble_eq_true rfl) dX6_readsBox_93 ?_
  refine wp_aload_n hc 3 dX6_readsBox_96 rfl ?_
  refine wp_bipush (v := 11) hc dX6_readsBox_97 (by decide) ?_
  refine wp_callVf (As := [.int 11]) (rest := [.int (fX6_less (x4.2.1 106 1) (fX6_lrn x4.2 9)), .ref (z 100)]) (j := 100) (v := (fX6_lrn x4.2 11)) hc hx (kX6_lrn l D cy z hz x4.2 11 (by decide)) cw162 (by decide) (by decide) (ce_5 rfl) rfl rfl rfl rfl (Nat.le_of_ble_eq_true rfl) dX6_readsBox_99 ?_
  refine wp_callVw (As := [.int (fX6_less (x4.2.1 106 1) (fX6_lrn x4.2 9)), .int (fX6_lrn x4.2 11)]) (rest := []) (j := 100) (w := sX6_over x4.2 (fX6_less (x4.2.1 106 1) (fX6_lrn x4.2 9)) (fX6_lrn x4.2 11)) hc hx (kX6_over l D cy z hz x4.2 (fX6_less (x4.2.1 106 1) (fX6_lrn x4.2 9)) (fX6_lrn x4.2 11)) cw123 (by decide) (by decide) (ce_5 rfl) rfl rfl rfl rfl (Nat.le_of_ble_eq_true rfl) dX6_readsBox_102 (fun x5 hx5 => ?_)
  refine wp_istore (lv' := [(5, .int x5.1), (4, .int x4.1), (3, .int x3.1), (2, .int x2.1), (0, .ref (z 100)), (1, .int i1)]) hc dX6_readsBox_105 (by decide) rfl ?_
  refine wp_sipush (v := 10007) hc dX6_readsBox_107 (by decide) ?_
  refine wp_iload_n hc 3 dX6_readsBox_110 rfl ?_
  refine wp_aload_n hc 4 dX6_readsBox_111 rfl ?_
  refine wp_iconst (v := 1) hc dX6_readsBox_112 (by decide) ?_
  refine wp_callVf (As := [.int 1]) (rest := [.int x2.1, .int 10007]) (j := 100) (v := (fX6_lrn x5.2 1)) hc hx (kX6_lrn l D cy z hz x5.2 1 (by decide)) cw162 (by decide) (by decide) (ce_5 rfl) rfl rfl rfl rfl (Nat.le_of_ble_eq_true rfl) dX6_readsBox_113 ?_
  refine wp_callSg (As := [.int x2.1, .int (fX6_lrn x5.2 1)]) (rest := [.int 10007]) (v := (fX6_by x2.1 (fX6_lrn x5.2 1))) hc hNW (kX6_by l x2.1 (fX6_lrn x5.2 1)) cw78 rfl rfl (Nat.le_of_ble_eq_true rfl) dX6_readsBox_116 ?_
  refine wp_callSg (As := [.int 10007, .int (fX6_by x2.1 (fX6_lrn x5.2 1))]) (rest := []) (v := (fX6_plus 10007 (fX6_by x2.1 (fX6_lrn x5.2 1)))) hc hNW (kX6_plus l 10007 (fX6_by x2.1 (fX6_lrn x5.2 1))) cw117 rfl rfl (Nat.le_of_ble_eq_true rfl) dX6_readsBox_119 ?_
  refine wp_istore (lv' := [(6, .int (fX6_plus 10007 (fX6_by x2.1 (fX6_lrn x5.2 1)))), (5, .int x5.1), (4, .int x4.1), (3, .int x3.1), (2, .int x2.1), (0, .ref (z 100)), (1, .int i1)]) hc dX6_readsBox_122 (by decide) rfl ?_
  refine wp_sipush (v := 10007) hc dX6_readsBox_124 (by decide) ?_
  refine wp_iload hc 2 dX6_readsBox_127 rfl ?_
  refine wp_aload_n hc 5 dX6_readsBox_129 rfl ?_
  refine wp_bipush (v := 7) hc dX6_readsBox_130 (by decide) ?_
  refine wp_callVf (As := [.int 7]) (rest := [.int x4.1, .int 10007]) (j := 100) (v := (fX6_lrn x5.2 7)) hc hx (kX6_lrn l D cy z hz x5.2 7 (by decide)) cw162 (by decide) (by decide) (ce_5 rfl) rfl rfl rfl rfl (Nat.le_of_ble_eq_true rfl) dX6_readsBox_132 ?_
  refine wp_callSg (As := [.int x4.1, .int (fX6_lrn x5.2 7)]) (rest := [.int 10007]) (v := (fX6_by x4.1 (fX6_lrn x5.2 7))) hc hNW (kX6_by l x4.1 (fX6_lrn x5.2 7)) cw78 rfl rfl (Nat.le_of_ble_eq_true rfl) dX6_readsBox_135 ?_
  refine wp_callSg (As := [.int 10007, .int (fX6_by x4.1 (fX6_lrn x5.2 7))]) (rest := []) (v := (fX6_plus 10007 (fX6_by x4.1 (fX6_lrn x5.2 7)))) hc hNW (kX6_plus l 10007 (fX6_by x4.1 (fX6_lrn x5.2 7))) cw117 rfl rfl (Nat.le_of_ble_eq_true rfl) dX6_readsBox_138 ?_
  refine wp_istore (lv' := [(7, .int (fX6_plus 10007 (fX6_by x4.1 (fX6_lrn x5.2 7)))), (6, .int (fX6_plus 10007 (fX6_by x2.1 (fX6_lrn x5.2 1)))), (5, .int x5.1), (4, .int x4.1), (3, .int x3.1), (2, .int x2.1), (0, .ref (z 100)), (1, .int i1)]) hc dX6_readsBox_141 (by decide) rfl ?_
  refine wp_iload_n hc 4 dX6_readsBox_143 rfl ?_
  refine wp_iload hc 2 dX6_readsBox_144 rfl ?_
  refine wp_callSg (As := [.int x3.1, .int x5.1]) (rest := []) (v := (fX6_by x3.1 x5.1)) hc hNW (kX6_by l x3.1 x5.1) cw78 rfl rfl (Nat.le_of_ble_eq_true rfl) dX6_readsBox_146 ?_
  refine wp_istore (lv' := [(8, .int (fX6_by x3.1 x5.1)), (7, .int (fX6_plus 10007 (fX6_by x4.1 (fX6_lrn x5.2 7)))), (6, .int (fX6_plus 10007 (fX6_by x2.1 (fX6_lrn x5.2 1)))), (5, .int x5.1), (4, .int x4.1), (3, .int x3.1), (2, .int x2.1), (0, .ref (z 100)), (1, .int i1)]) hc dX6_readsBox_149 (by decide) rfl ?_
  refine wp_iload hc 2 dX6_readsBox_151 rfl ?_
  refine wp_iload hc 1 dX6_readsBox_153 rfl ?_
  refine wp_callSg (As := [.int (fX6_plus 10007 (fX6_by x2.1 (fX6_lrn x5.2 1))), .int (fX6_plus 10007 (fX6_by x4.1 (fX6_lrn x5.2 7)))]) (rest := []) (v := (fX6_by (fX6_plus 10007 (fX6_by x2.1 (fX6_lrn x5.2 1))) (fX6_plus 10007 (fX6_by x4.1 (fX6_lrn x5.2 7))))) hc hNW (kX6_by l (fX6_plus 10007 (fX6_by x2.1 (fX6_lrn x5.2 1))) (fX6_plus 10007 (fX6_by x4.1 (fX6_lrn x5.2 7)))) cw78 rfl rfl (Nat.le_of_ble_eq_true rfl) dX6_readsBox_155 ?_
  refine wp_iload hc 0 dX6_readsBox_158 rfl ?_
  refine wp_aload_n hc 7 dX6_readsBox_160 rfl ?_
  refine wp_iconst (v := 4) hc dX6_readsBox_161 (by decide) ?_
  refine wp_callVf (As := [.int 4]) (rest := [.int (fX6_by x3.1 x5.1), .int (fX6_by (fX6_plus 10007 (fX6_by x2.1 (fX6_lrn x5.2 1))) (fX6_plus 10007 (fX6_by x4.1 (fX6_lrn x5.2 7))))]) (j := 100) (v := (fX6_lrn x5.2 4)) hc hx (kX6_lrn l D cy z hz x5.2 4 (by decide)) cw162 (by decide) (by decide) (ce_5 rfl) rfl rfl rfl rfl (Nat.le_of_ble_eq_true rfl) dX6_readsBox_162 ?_
  refine wp_aload_n hc 7 dX6_readsBox_165 rfl ?_
  refine wp_bipush (v := 10) hc dX6_readsBox_166 (by decide) ?_
  refine wp_callVf (As := [.int 10]) (rest := [.int (fX6_lrn x5.2 4), .int (fX6_by x3.1 x5.1), .int (fX6_by (fX6_plus 10007 (fX6_by x2.1 (fX6_lrn x5.2 1))) (fX6_plus 10007 (fX6_by x4.1 (fX6_lrn x5.2 7))))]) (j := 100) (v := (fX6_lrn x5.2 10)) hc hx (kX6_lrn l D cy z hz x5.2 10 (by decide)) cw162 (by decide) (by decide) (ce_5 rfl) rfl rfl rfl rfl (Nat.le_of_ble_eq_true rfl) dX6_readsBox_168 ?_
  refine wp_callSg (As := [.int (fX6_lrn x5.2 4), .int (fX6_lrn x5.2 10)]) (rest := [.int (fX6_by x3.1 x5.1), .int (fX6_by (fX6_plus 10007 (fX6_by x2.1 (fX6_lrn x5.2 1))) (fX6_plus 10007 (fX6_by x4.1 (fX6_lrn x5.2 7))))]) (v := (fX6_by (fX6_lrn x5.2 4) (fX6_lrn x5.2 10))) hc hNW (kX6_by l (fX6_lrn x5.2 4) (fX6_lrn x5.2 10)) cw78 rfl rfl (Nat.le_of_ble_eq_true rfl) dX6_readsBox_171 ?_
  refine wp_callSg (As := [.int (fX6_by x3.1 x5.1), .int (fX6_by (fX6_lrn x5.2 4) (fX6_lrn x5.2 10))]) (rest := [.int (fX6_by (fX6_plus 10007 (fX6_by x2.1 (fX6_lrn x5.2 1))) (fX6_plus 10007 (fX6_by x4.1 (fX6_lrn x5.2 7))))]) (v := (fX6_by (fX6_by x3.1 x5.1) (fX6_by (fX6_lrn x5.2 4) (fX6_lrn x5.2 10)))) hc hNW (kX6_by l (fX6_by x3.1 x5.1) (fX6_by (fX6_lrn x5.2 4) (fX6_lrn x5.2 10))) cw78 rfl rfl (Nat.le_of_ble_eq_true rfl) dX6_readsBox_174 ?_
  refine wp_callSg (As := [.int (fX6_by (fX6_plus 10007 (fX6_by x2.1 (fX6_lrn x5.2 1))) (fX6_plus 10007 (fX6_by x4.1 (fX6_lrn x5.2 7)))), .int (fX6_by (fX6_by x3.1 x5.1) (fX6_by (fX6_lrn x5.2 4) (fX6_lrn x5.2 10)))]) (rest := []) (v := (fX6_less (fX6_by (fX6_plus 10007 (fX6_by x2.1 (fX6_lrn x5.2 1))) (fX6_plus 10007 (fX6_by x4.1 (fX6_lrn x5.2 7)))) (fX6_by (fX6_by x3.1 x5.1) (fX6_by (fX6_lrn x5.2 4) (fX6_lrn x5.2 10))))) hc hNW (kX6_less l (fX6_by (fX6_plus 10007 (fX6_by x2.1 (fX6_lrn x5.2 1))) (fX6_plus 10007 (fX6_by x4.1 (fX6_lrn x5.2 7)))) (fX6_by (fX6_by x3.1 x5.1) (fX6_by (fX6_lrn x5.2 4) (fX6_lrn x5.2 10)))) cw114 rfl rfl (Nat.le_of_ble_eq_true rfl) dX6_readsBox_177 ?_
  refine wp_topi (fun x6 hx6 => ?_)
  refine wp_istore (lv' := [(9, .int x6), (8, .int (fX6_by x3.1 x5.1)), (7, .int (fX6_plus 10007 (fX6_by x4.1 (fX6_lrn x5.2 7)))), (6, .int (fX6_plus 10007 (fX6_by x2.1 (fX6_lrn x5.2 1)))), (5, .int x5.1), (4, .int x4.1), (3, .int x3.1), (2, .int x2.1), (0, .ref (z 100)), (1, .int i1)]) hc dX6_readsBox_180 (by decide) rfl ?_
  refine wp_aload_n hc 8 dX6_readsBox_182 rfl ?_
  refine wp_get hc hx hin6 (j := 100) (by decide) (by decide) (ce_5 rfl) rfl 10 (by decide) hf31 rfl dX6_readsBox_183 ?_
  refine wp_iconst (v := 0) hc dX6_readsBox_186 (by decide) ?_
  refine wp_aload_n hc 8 dX6_readsBox_187 rfl ?_
  refine wp_iload_n hc 7 dX6_readsBox_188 rfl ?_
  refine wp_iload hc 2 dX6_readsBox_189 rfl ?_
  refine wp_callSg (As := [.int x2.1, .int (fX6_plus 10007 (fX6_by x4.1 (fX6_lrn x5.2 7)))]) (rest := [.ref (z 100), .int 0, .ref (z 108)]) (v := (fX6_by x2.1 (fX6_plus 10007 (fX6_by x4.1 (fX6_lrn x5.2 7))))) hc hNW (kX6_by l x2.1 (fX6_plus 10007 (fX6_by x4.1 (fX6_lrn x5.2 7)))) cw78 rfl rfl (Nat.le_of_ble_eq_true rfl) dX6_readsBox_191 ?_
  refine wp_aload_n hc 8 dX6_readsBox_194 rfl ?_
  refine wp_iconst (v := 4) hc dX6_readsBox_195 (by decide) ?_
  refine wp_callVf (As := [.int 4]) (rest := [.int (fX6_by x2.1 (fX6_plus 10007 (fX6_by x4.1 (fX6_lrn x5.2 7)))), .ref (z 100), .int 0, .ref (z 108)]) (j := 100) (v := (fX6_lrn x5.2 4)) hc hx (kX6_lrn l D cy z hz x5.2 4 (by decide)) cw162 (by decide) (by decide) (ce_5 rfl) rfl rfl rfl rfl (Nat.le_of_ble_eq_true rfl) dX6_readsBox_196 ?_
  refine wp_iload hc 1 dX6_readsBox_199 rfl ?_
  refine wp_callSg (As := [.int (fX6_lrn x5.2 4), .int (fX6_by x3.1 x5.1)]) (rest := [.int (fX6_by x2.1 (fX6_plus 10007 (fX6_by x4.1 (fX6_lrn x5.2 7)))), .ref (z 100), .int 0, .ref (z 108)]) (v := (fX6_by (fX6_lrn x5.2 4) (fX6_by x3.1 x5.1))) hc hNW (kX6_by l (fX6_lrn x5.2 4) (fX6_by x3.1 x5.1)) cw78 rfl rfl (Nat.le_of_ble_eq_true rfl) dX6_readsBox_201 ?_
  refine wp_callSg (As := [.int (fX6_by x2.1 (fX6_plus 10007 (fX6_by x4.1 (fX6_lrn x5.2 7)))), .int (fX6_by (fX6_lrn x5.2 4) (fX6_by x3.1 x5.1))]) (rest := [.ref (z 100), .int 0, .ref (z 108)]) (v := (fX6_less (fX6_by x2.1 (fX6_plus 10007 (fX6_by x4.1 (fX6_lrn x5.2 7)))) (fX6_by (fX6_lrn x5.2 4) (fX6_by x3.1 x5.1)))) hc hNW (kX6_less l (fX6_by x2.1 (fX6_plus 10007 (fX6_by x4.1 (fX6_lrn x5.2 7)))) (fX6_by (fX6_lrn x5.2 4) (fX6_by x3.1 x5.1))) cw114 rfl rfl (Nat.le_of_ble_eq_true rfl) dX6_readsBox_204 ?_
  refine wp_iload hc 0 dX6_readsBox_207 rfl ?_
  refine wp_callVw (As := [.int (fX6_less (fX6_by x2.1 (fX6_plus 10007 (fX6_by x4.1 (fX6_lrn x5.2 7)))) (fX6_by (fX6_lrn x5.2 4) (fX6_by x3.1 x5.1))), .int x6]) (rest := [.int 0, .ref (z 108)]) (j := 100) (w := sX6_over x5.2 (fX6_less (fX6_by x2.1 (fX6_plus 10007 (fX6_by x4.1 (fX6_lrn x5.2 7)))) (fX6_by (fX6_lrn x5.2 4) (fX6_by x3.1 x5.1))) x6) hc hx (kX6_over l D cy z hz x5.2 (fX6_less (fX6_by x2.1 (fX6_plus 10007 (fX6_by x4.1 (fX6_lrn x5.2 7)))) (fX6_by (fX6_lrn x5.2 4) (fX6_by x3.1 x5.1))) x6) cw123 (by decide) (by decide) (ce_5 rfl) rfl rfl rfl rfl (Nat.le_of_ble_eq_true rfl) dX6_readsBox_209 (fun x7 hx7 => ?_)
  refine wp_iast hc hx (j := 108) (by decide) (by decide) rfl 0 rfl (vin (by decide)) dX6_readsBox_212 ?_
  refine wp_nm (fun M8 hM8 => ?_)
  refine wp_sipush (v := 10007) hc dX6_readsBox_213 (by decide) ?_
  refine wp_iload hc 5 dX6_readsBox_216 rfl ?_
  refine wp_aload_n hc 8 dX6_readsBox_218 rfl ?_
  refine wp_bipush (v := 7) hc dX6_readsBox_219 (by decide) ?_
  refine wp_callVf (As := [.int 7]) (rest := [.int x4.1, .int 10007]) (j := 100) (v := (fX6_lrn M8 7)) hc hx (kX6_lrn l D cy z hz M8 7 (by decide)) cw162 (by decide) (by decide) (ce_5 rfl) rfl rfl rfl rfl (Nat.le_of_ble_eq_true rfl) dX6_readsBox_221 ?_
  refine wp_aload_n hc 8 dX6_readsBox_224 rfl ?_
  refine wp_iconst (v := 4) hc dX6_readsBox_225 (by decide) ?_
  refine wp_callVf (As := [.int 4]) (rest := [.int (fX6_lrn M8 7), .int x4.1, .int 10007]) (j := 100) (v := (fX6_lrn M8 4)) hc hx (kX6_lrn l D cy z hz M8 4 (by decide)) cw162 (by decide) (by decide) (ce_5 rfl) rfl rfl rfl rfl (Nat.le_of_ble_eq_true rfl) dX6_readsBox_226 ?_
  refine wp_callSg (As := [.int (fX6_lrn M8 7), .int (fX6_lrn M8 4)]) (rest := [.int x4.1, .int 10007]) (v := (fX6_less (fX6_lrn M8 7) (fX6_lrn M8 4))) hc hNW (kX6_less l (fX6_lrn M8 7) (fX6_lrn M8 4)) cw114 rfl rfl (Nat.le_of_ble_eq_true rfl) dX6_readsBox_229 ?_
  refine wp_callSg (As := [.int x4.1, .int (fX6_less (fX6_lrn M8 7) (fX6_lrn M8 4))]) (rest := [.int 10007]) (v := (fX6_by x4.1 (fX6_less (fX6_lrn M8 7) (fX6_lrn M8 4)))) hc hNW (kX6_by l x4.1 (fX6_less (fX6_lrn M8 7) (fX6_lrn M8 4))) cw78 rfl rfl (Nat.le_of_ble_eq_true rfl) dX6_readsBox_232 ?_
  refine wp_callSg (As := [.int 10007, .int (fX6_by x4.1 (fX6_less (fX6_lrn M8 7) (fX6_lrn M8 4)))]) (rest := []) (v := (fX6_plus 10007 (fX6_by x4.1 (fX6_less (fX6_lrn M8 7) (fX6_lrn M8 4))))) hc hNW (kX6_plus l 10007 (fX6_by x4.1 (fX6_less (fX6_lrn M8 7) (fX6_lrn M8 4)))) cw117 rfl rfl (Nat.le_of_ble_eq_true rfl) dX6_readsBox_235 ?_
  refine wp_topi (fun x9 hx9 => ?_)
  refine wp_istore (lv' := [(10, .int x9), (9, .int x6), (8, .int (fX6_by x3.1 x5.1)), (7, .int (fX6_plus 10007 (fX6_by x4.1 (fX6_lrn x5.2 7)))), (6, .int (fX6_plus 10007 (fX6_by x2.1 (fX6_lrn x5.2 1)))), (5, .int x5.1), (4, .int x4.1), (3, .int x3.1), (2, .int x2.1), (0, .ref (z 100)), (1, .int i1)]) hc dX6_readsBox_238 (by decide) rfl ?_
  refine wp_aload_n hc 9 dX6_readsBox_240 rfl ?_
  refine wp_get hc hx hin6 (j := 100) (by decide) (by decide) (ce_5 rfl) rfl 10 (by decide) hf31 rfl dX6_readsBox_241 ?_
  refine wp_iconst (v := 2) hc dX6_readsBox_244 (by decide) ?_
  refine wp_aload_n hc 9 dX6_readsBox_245 rfl ?_
  refine wp_iload hc 0 dX6_readsBox_246 rfl ?_
  refine wp_iload_n hc 7 dX6_readsBox_248 rfl ?_
  refine wp_callSg (As := [.int x9, .int x3.1]) (rest := [.ref (z 100), .int 2, .ref (z 108)]) (v := (fX6_by x9 x3.1)) hc hNW (kX6_by l x9 x3.1) cw78 rfl rfl (Nat.le_of_ble_eq_true rfl) dX6_readsBox_249 ?_
  refine wp_iload hc 1 dX6_readsBox_252 rfl ?_
  refine wp_callVw (As := [.int (fX6_by x9 x3.1), .int x6]) (rest := [.int 2, .ref (z 108)]) (j := 100) (w := sX6_over M8 (fX6_by x9 x3.1) x6) hc hx (kX6_over l D cy z hz M8 (fX6_by x9 x3.1) x6) cw123 (by decide) (by decide) (ce_5 rfl) rfl rfl rfl rfl (Nat.le_of_ble_eq_true rfl) dX6_readsBox_254 (fun x10 hx10 => ?_)
  refine wp_iast hc hx (j := 108) (by decide) (by decide) rfl 2 rfl (vin (by decide)) dX6_readsBox_257 ?_
  refine wp_nm (fun M11 hM11 => ?_)
  refine wp_sipush (v := 10007) hc dX6_readsBox_258 (by decide) ?_
  refine wp_iload_n hc 8 dX6_readsBox_261 rfl ?_
  refine wp_aload_n hc 9 dX6_readsBox_262 rfl ?_
  refine wp_iconst (v := 1) hc dX6_readsBox_263 (by decide) ?_
  refine wp_callVf (As := [.int 1]) (rest := [.int x2.1, .int 10007]) (j := 100) (v := (fX6_lrn M11 1)) hc hx (kX6_lrn l D cy z hz M11 1 (by decide)) cw162 (by decide) (by decide) (ce_5 rfl) rfl rfl rfl rfl (Nat.le_of_ble_eq_true rfl) dX6_readsBox_264 ?_
  refine wp_aload_n hc 9 dX6_readsBox_267 rfl ?_
  refine wp_bipush (v := 10) hc dX6_readsBox_268 (by decide) ?_
  refine wp_callVf (As := [.int 10]) (rest := [.int (fX6_lrn M11 1), .int x2.1, .int 10007]) (j := 100) (v := (fX6_lrn M11 10)) hc hx (kX6_lrn l D cy z hz M11 10 (by decide)) cw162 (by decide) (by decide) (ce_5 rfl) rfl rfl rfl rfl (Nat.le_of_ble_eq_true rfl) dX6_readsBox_270 ?_
  refine wp_callSg (As := [.int (fX6_lrn M11 1), .int (fX6_lrn M11 10)]) (rest := [.int x2.1, .int 10007]) (v := (fX6_less (fX6_lrn M11 1) (fX6_lrn M11 10))) hc hNW (kX6_less l (fX6_lrn M11 1) (fX6_lrn M11 10)) cw114 rfl rfl (Nat.le_of_ble_eq_true rfl) dX6_readsBox_273 ?_
  refine wp_callSg (As := [.int x2.1, .int (fX6_less (fX6_lrn M11 1) (fX6_lrn M11 10))]) (rest := [.int 10007]) (v := (fX6_by x2.1 (fX6_less (fX6_lrn M11 1) (fX6_lrn M11 10)))) hc hNW (kX6_by l x2.1 (fX6_less (fX6_lrn M11 1) (fX6_lrn M11 10))) cw78 rfl rfl (Nat.le_of_ble_eq_true rfl) dX6_readsBox_276 ?_
  refine wp_callSg (As := [.int 10007, .int (fX6_by x2.1 (fX6_less (fX6_lrn M11 1) (fX6_lrn M11 10)))]) (rest := []) (v := (fX6_plus 10007 (fX6_by x2.1 (fX6_less (fX6_lrn M11 1) (fX6_lrn M11 10))))) hc hNW (kX6_plus l 10007 (fX6_by x2.1 (fX6_less (fX6_lrn M11 1) (fX6_lrn M11 10)))) cw117 rfl rfl (Nat.le_of_ble_eq_true rfl) dX6_readsBox_279 ?_
  refine wp_topi (fun x12 hx12 => ?_)
  refine wp_istore (lv' := [(10, .int x12), (9, .int x6), (8, .int (fX6_by x3.1 x5.1)), (7, .int (fX6_plus 10007 (fX6_by x4.1 (fX6_lrn x5.2 7)))), (6, .int (fX6_plus 10007 (fX6_by x2.1 (fX6_lrn x5.2 1)))), (5, .int x5.1), (4, .int x4.1), (3, .int x3.1), (2, .int x2.1), (0, .ref (z 100)), (1, .int i1)]) hc dX6_readsBox_282 (by decide) rfl ?_
  refine wp_aload_n hc 9 dX6_readsBox_284 rfl ?_
  refine wp_get hc hx hin6 (j := 100) (by decide) (by decide) (ce_5 rfl) rfl 10 (by decide) hf31 rfl dX6_readsBox_285 ?_
  refine wp_iconst (v := 1) hc dX6_readsBox_288 (by decide) ?_
  refine wp_aload_n hc 9 dX6_readsBox_289 rfl ?_
  refine wp_iload hc 0 dX6_readsBox_290 rfl ?_
  refine wp_iload hc 5 dX6_readsBox_292 rfl ?_
  refine wp_callSg (As := [.int x12, .int x5.1]) (rest := [.ref (z 100), .int 1, .ref (z 108)]) (v := (fX6_by x12 x5.1)) hc hNW (kX6_by l x12 x5.1) cw78 rfl rfl (Nat.le_of_ble_eq_true rfl) dX6_readsBox_294 ?_
  refine wp_iload hc 1 dX6_readsBox_297 rfl ?_
  refine wp_callVw (As := [.int (fX6_by x12 x5.1), .int x6]) (rest := [.int 1, .ref (z 108)]) (j := 100) (w := sX6_over M11 (fX6_by x12 x5.1) x6) hc hx (kX6_over l D cy z hz M11 (fX6_by x12 x5.1) x6) cw123 (by decide) (by decide) (ce_5 rfl) rfl rfl rfl rfl (Nat.le_of_ble_eq_true rfl) dX6_readsBox_299 (fun x13 hx13 => ?_)
  refine wp_iast hc hx (j := 108) (by decide) (by decide) rfl 1 rfl (vin (by decide)) dX6_readsBox_302 ?_
  refine wp_nm (fun M14 hM14 => ?_)
  refine wp_aload_n hc 9 dX6_readsBox_303 rfl ?_
  refine wp_get hc hx hin6 (j := 100) (by decide) (by decide) (ce_5 rfl) rfl 10 (by decide) hf31 rfl dX6_readsBox_304 ?_
  refine wp_iconst (v := 3) hc dX6_readsBox_307 (by decide) ?_
  refine wp_aload_n hc 9 dX6_readsBox_308 rfl ?_
  refine wp_iload hc 6 dX6_readsBox_309 rfl ?_
  refine wp_iload hc 4 dX6_readsBox_311 rfl ?_
  refine wp_callSg (As := [.int x4.1, .int (fX6_plus 10007 (fX6_by x2.1 (fX6_lrn x5.2 1)))]) (rest := [.ref (z 100), .int 3, .ref (z 108)]) (v := (fX6_by x4.1 (fX6_plus 10007 (fX6_by x2.1 (fX6_lrn x5.2 1))))) hc hNW (kX6_by l x4.1 (fX6_plus 10007 (fX6_by x2.1 (fX6_lrn x5.2 1)))) cw78 rfl rfl (Nat.le_of_ble_eq_true rfl) dX6_readsBox_313 ?_
  refine wp_aload_n hc 9 dX6_readsBox_316 rfl ?_
  refine wp_bipush (v := 10) hc dX6_readsBox_317 (by decide) ?_
  refine wp_callVf (As := [.int 10]) (rest := [.int (fX6_by x4.1 (fX6_plus 10007 (fX6_by x2.1 (fX6_lrn x5.2 1)))), .ref (z 100), .int 3, .ref (z 108)]) (j := 100) (v := (fX6_lrn M14 10)) hc hx (kX6_lrn l D cy z hz M14 10 (by decide)) cw162 (by decide) (by decide) (ce_5 rfl) rfl rfl rfl rfl (Nat.le_of_ble_eq_true rfl) dX6_readsBox_319 ?_
  refine wp_iload hc 2 dX6_readsBox_322 rfl ?_
  refine wp_callSg (As := [.int (fX6_lrn M14 10), .int (fX6_by x3.1 x5.1)]) (rest := [.int (fX6_by x4.1 (fX6_plus 10007 (fX6_by x2.1 (fX6_lrn x5.2 1)))), .ref (z 100), .int 3, .ref (z 108)]) (v := (fX6_by (fX6_lrn M14 10) (fX6_by x3.1 x5.1))) hc hNW (kX6_by l (fX6_lrn M14 10) (fX6_by x3.1 x5.1)) cw78 rfl rfl (Nat.le_of_ble_eq_true rfl) dX6_readsBox_324 ?_
  refine wp_callSg (As := [.int (fX6_by x4.1 (fX6_plus 10007 (fX6_by x2.1 (fX6_lrn x5.2 1)))), .int (fX6_by (fX6_lrn M14 10) (fX6_by x3.1 x5.1))]) (rest := [.ref (z 100), .int 3, .ref (z 108)]) (v := (fX6_less (fX6_by x4.1 (fX6_plus 10007 (fX6_by x2.1 (fX6_lrn x5.2 1)))) (fX6_by (fX6_lrn M14 10) (fX6_by x3.1 x5.1)))) hc hNW (kX6_less l (fX6_by x4.1 (fX6_plus 10007 (fX6_by x2.1 (fX6_lrn x5.2 1)))) (fX6_by (fX6_lrn M14 10) (fX6_by x3.1 x5.1))) cw114 rfl rfl (Nat.le_of_ble_eq_true rfl) dX6_readsBox_327 ?_
  refine wp_iload hc 1 dX6_readsBox_330 rfl ?_
  refine wp_callVw (As := [.int (fX6_less (fX6_by x4.1 (fX6_plus 10007 (fX6_by x2.1 (fX6_lrn x5.2 1)))) (fX6_by (fX6_lrn M14 10) (fX6_by x3.1 x5.1))), .int x6]) (rest := [.int 3, .ref (z 108)]) (j := 100) (w := sX6_over M14 (fX6_less (fX6_by x4.1 (fX6_plus 10007 (fX6_by x2.1 (fX6_lrn x5.2 1)))) (fX6_by (fX6_lrn M14 10) (fX6_by x3.1 x5.1))) x6) hc hx (kX6_over l D cy z hz M14 (fX6_less (fX6_by x4.1 (fX6_plus 10007 (fX6_by x2.1 (fX6_lrn x5.2 1)))) (fX6_by (fX6_lrn M14 10) (fX6_by x3.1 x5.1))) x6) cw123 (by decide) (by decide) (ce_5 rfl) rfl rfl rfl rfl (Nat.le_of_ble_eq_true rfl) dX6_readsBox_332 (fun x15 hx15 => ?_)
  refine wp_iast hc hx (j := 108) (by decide) (by decide) rfl 3 rfl (vin (by decide)) dX6_readsBox_335 ?_
  refine wp_nm (fun M16 hM16 => ?_)
  refine wp_vret hc hr hk ?_ dX6_readsBox_336
  show M16 = sX6_readsBox M i1
  rw [sX6_readsBox, tk_eq hM1, tk_eq hx2, tk_eq hx3, tk_eq hx4, tk_eq hx5, tk_eq hx6, tk_eq hx7, tk_eq hM8, tk_eq hx9, tk_eq hx10, tk_eq hM11, tk_eq hx12, tk_eq hx13, tk_eq hM14, tk_eq hx15, tk_eq hM16]
set_option maxRecDepth 10000 in
theorem kpX6_readsBox (M : Mem) (i1 : Int32) : KP M (sX6_readsBox M i1) := by
  unfold sX6_readsBox
  refine tk_ind (P := KP M) _ _ (fun M1 hM1 => ?_)
  have k1 : KP M M1 := by rw [hM1]; apply kpX6_tellsBox
  refine tk_ind (P := KP M) _ _ (fun x2 hx2 => ?_)
  have k2 : KP2 M1 x2 := by rw [hx2]; apply kpX6_over
  refine tk_ind (P := KP M) _ _ (fun x3 hx3 => ?_)
  have k3 : KP2 x2.2 x3 := by rw [hx3]; apply kpX6_over
  refine tk_ind (P := KP M) _ _ (fun x4 hx4 => ?_)
  have k4 : KP2 x3.2 x4 := by rw [hx4]; apply kpX6_over
  refine tk_ind (P := KP M) _ _ (fun x5 hx5 => ?_)
  have k5 : KP2 x4.2 x5 := by rw [hx5]; apply kpX6_over
  refine tk_ind (P := KP M) _ _ (fun x6 hx6 => ?_)
  refine tk_ind (P := KP M) _ _ (fun x7 hx7 => ?_)
  have k6 : KP2 x5.2 x7 := by rw [hx7]; apply kpX6_over
  refine tk_ind (P := KP M) _ _ (fun M8 hM8 => ?_)
  have k7 : KP x7.2 M8 := by rw [hM8]; exact kp_st (by decide)
  refine tk_ind (P := KP M) _ _ (fun x9 hx9 => ?_)
  refine tk_ind (P := KP M) _ _ (fun x10 hx10 => ?_)
  have k8 : KP2 M8 x10 := by rw [hx10]; apply kpX6_over
  refine tk_ind (P := KP M) _ _ (fun M11 hM11 => ?_)
  have k9 : KP x10.2 M11 := by rw [hM11]; exact kp_st (by decide)
  refine tk_ind (P := KP M) _ _ (fun x12 hx12 => ?_)
  refine tk_ind (P := KP M) _ _ (fun x13 hx13 => ?_)
  have k10 : KP2 M11 x13 := by rw [hx13]; apply kpX6_over
  refine tk_ind (P := KP M) _ _ (fun M14 hM14 => ?_)
  have k11 : KP x13.2 M14 := by rw [hM14]; exact kp_st (by decide)
  refine tk_ind (P := KP M) _ _ (fun x15 hx15 => ?_)
  have k12 : KP2 M14 x15 := by rw [hx15]; apply kpX6_over
  refine tk_ind (P := KP M) _ _ (fun M16 hM16 => ?_)
  have k13 : KP x15.2 M16 := by rw [hM16]; exact kp_st (by decide)
  exact (show KP M M16 from KP.trans k1 (KP.trans k2 (KP.trans k3 (KP.trans k4 (KP.trans k5 (KP.trans k6 (KP.trans k7 (KP.trans k8 (KP.trans k9 (KP.trans k10 (KP.trans k11 (KP.trans k12 (k13)))))))))))))
def sX6_canRead (M : Mem) (i1 : Int32) : Int32 × Mem :=
  if (M.1 101 45) = 0 then
  tk (st M 100 7 1) fun M3 =>
  if (M3.1 100 7) = 0 then
  tk (sX6_readsBox M3 i1) fun M4 =>
  if (M4.1 100 7) = 0 then
  (1, M4)
  else
  (0, M4)
  else
  if (M3.1 100 7) = 0 then
  (1, M3)
  else
  (0, M3)
  else
  tk (st M 100 7 0) fun M1 =>
  if (M1.1 100 7) = 0 then
  tk (sX6_readsBox M1 i1) fun M2 =>
  if (M2.1 100 7) = 0 then
  (1, M2)
  else
  (0, M2)
  else
  if (M1.1 100 7) = 0 then
  (1, M1)
  else
  (0, M1)
set_option maxHeartbeats 4000000 in
set_option maxRecDepth 100000 in
theorem kX6_canRead (l : Launch) (D : va_G) (cy : Nat → ClassId) (z : Nat → Nat) (hz : zI z) (M : Mem) (i1 : Int32) (hb : 0 ≤ i1.toInt ∧ i1.toInt < 8) : KI l yX6_canRead wsX6_canRead { frames := 8, cells := 0, slots := 0, locals := 195 } D cy z 100 15 [.ref (z 100), .int i1] M (fun r u => (r, u) = sX6_canRead M i1) := by
  refine met_wp (lv := [(0, .ref (z 100)), (1, .int i1)]) hz (by decide) (by decide) rfl rfl (Nat.le_of_ble_eq_true rfl) rfl ?_
  intro p e s m below meth c hc hx hr hk
  have hNW := hx.2.1
  have hin6 : ∀ w ∈ wsX60, w ∈ wsX6_canRead := by decide +kernel
  have hf7 : Cond.fieldLink RX6 7 (TX6 0).1 (TX6 0).2.1 (TX6 0).2.2.1 ∈ wsX6_canRead := by decide +kernel
  have hf68 : Cond.fieldLink RX6 68 (TX6 7).1 (TX6 7).2.1 (TX6 7).2.2.1 ∈ wsX6_canRead := by decide +kernel
  have cw165 : CallW ({ frames := 8, cells := 0, slots := 0, locals := 195 }) s _ RX6 RX6 165 yX6_readsBox cX6_readsBox 11 none wsX6_readsBox ({ frames := 7, cells := 0, slots := 0, locals := 165 }) 0 0 1 := cwV 1 hc.2.2.2.2 gX6_canRead_X6_readsBox rfl rfl rfl (by decide +kernel) ⟨Nat.le_of_ble_eq_true rfl, Nat.le_of_ble_eq_true rfl⟩
  refine wp_aload_n hc 0 dX6_canRead_0 rfl ?_
  refine wp_aload_n hc 0 dX6_canRead_1 rfl ?_
  refine wp_get hc hx hin6 (j := 100) (by decide) (by decide) (ce_5 rfl) rfl 0 (by decide) hf7 rfl dX6_canRead_2 ?_
  refine wp_bipush (v := 45) hc dX6_canRead_5 (by decide) ?_
  refine wp_iald hc hx (j := 101) (by decide) (by decide) rfl 45 rfl (vin (by decide)) dX6_canRead_7 ?_
  refine wp_if_ne (tgt := 15) hc dX6_canRead_8 (by decide) (fun c8 => ?_) (fun c8 => ?_)
  · refine wp_iconst (v := 0) hc dX6_canRead_15 (by decide) ?_
    refine wp_put (M' := st M 100 7 0) hc hx hin6 tyX6 tyX6_ok nmX6 (j := 100) (by decide) (by decide) (ce_5 rfl) rfl 7 (by decide) hf68 rfl rfl rfl (Nat.le_of_ble_eq_true rfl) (by rw [ce_5 rfl]; exact ce_stM7 _ _ _) (fun i hi => ce_row (va_up_ne _ _ hi) rfl) dX6_canRead_16 ?_
    refine wp_nm (fun M1 hM1 => ?_)
    refine wp_aload_n hc 0 dX6_canRead_19 rfl ?_
    refine wp_get hc hx hin6 (j := 100) (by decide) (by decide) (ce_5 rfl) rfl 7 (by decide) hf68 rfl dX6_canRead_20 ?_
    refine wp_if_ne (tgt := 31) hc dX6_canRead_23 (by decide) (fun c23 => ?_) (fun c23 => ?_)
    · refine wp_aload_n hc 0 dX6_canRead_31 rfl ?_
      refine wp_get hc hx hin6 (j := 100) (by decide) (by decide) (ce_5 rfl) rfl 7 (by decide) hf68 rfl dX6_canRead_32 ?_
      refine wp_if_ne (tgt := 42) hc dX6_canRead_35 (by decide) (fun c35 => ?_) (fun c35 => ?_)
      · refine wp_iconst (v := 0) hc dX6_canRead_42 (by decide) ?_
        refine wp_zret hc hr hk rfl ?_ dX6_canRead_43
        show (0, M1) = sX6_canRead M i1
        rw [sX6_canRead, if_neg c8, tk_eq hM1, if_neg c23, if_neg c35]
      refine wp_iconst (v := 1) hc dX6_canRead_38 (by decide) ?_
      refine wp_goto (tgt := 43) hc dX6_canRead_39 (by decide) ?_
      refine wp_zret hc hr hk rfl ?_ dX6_canRead_43
      show (1, M1) = sX6_canRead M i1
      rw [sX6_canRead, if_neg c8, tk_eq hM1, if_neg c23, if_pos c35]
    refine wp_aload_n hc 0 dX6_canRead_26 rfl ?_
    refine wp_iload_n hc 1 dX6_canRead_27 rfl ?_
    refine wp_callVvw (As := [.int i1]) (rest := []) (j := 100) (w := sX6_readsBox M1 i1) hc hx (kX6_readsBox l D cy z hz M1 i1 hb) cw165 (by decide) (by decide) (ce_5 rfl) rfl rfl rfl rfl (Nat.le_of_ble_eq_true rfl) dX6_canRead_28 (fun M2 hM2 => ?_)
    refine wp_aload_n hc 0 dX6_canRead_31 rfl ?_
    refine wp_get hc hx hin6 (j := 100) (by decide) (by decide) (ce_5 rfl) rfl 7 (by decide) hf68 rfl dX6_canRead_32 ?_
    refine wp_if_ne (tgt := 42) hc dX6_canRead_35 (by decide) (fun c35 => ?_) (fun c35 => ?_)
    · refine wp_iconst (v := 0) hc dX6_canRead_42 (by decide) ?_
      refine wp_zret hc hr hk rfl ?_ dX6_canRead_43
      show (0, M2) = sX6_canRead M i1
      rw [sX6_canRead, if_neg c8, tk_eq hM1, if_pos c23, tk_eq hM2, if_neg c35]
    refine wp_iconst (v := 1) hc dX6_canRead_38 (by decide) ?_
    refine wp_goto (tgt := 43) hc dX6_canRead_39 (by decide) ?_
    refine wp_zret hc hr hk rfl ?_ dX6_canRead_43
    show (1, M2) = sX6_canRead M i1
    rw [sX6_canRead, if_neg c8, tk_eq hM1, if_pos c23, tk_eq hM2, if_pos c35]
  refine wp_iconst (v := 1) hc dX6_canRead_11 (by decide) ?_
  refine wp_goto (tgt := 16) hc dX6_canRead_12 (by decide) ?_
  refine wp_put (M' := st M 100 7 1) hc hx hin6 tyX6 tyX6_ok nmX6 (j := 100) (by decide) (by decide) (ce_5 rfl) rfl 7 (by decide) hf68 rfl rfl rfl (Nat.le_of_ble_eq_true rfl) (by rw [ce_5 rfl]; exact ce_stM7 _ _ _) (fun i hi => ce_row (va_up_ne _ _ hi) rfl) dX6_canRead_16 ?_
  refine wp_nm (fun M3 hM3 => ?_)
  refine wp_aload_n hc 0 dX6_canRead_19 rfl ?_
  refine wp_get hc hx hin6 (j := 100) (by decide) (by decide) (ce_5 rfl) rfl 7 (by decide) hf68 rfl dX6_canRead_20 ?_
  refine wp_if_ne (tgt := 31) hc dX6_canRead_23 (by decide) (fun c23 => ?_) (fun c23 => ?_)
  · refine wp_aload_n hc 0 dX6_canRead_31 rfl ?_
    refine wp_get hc hx hin6 (j := 100) (by decide) (by decide) (ce_5 rfl) rfl 7 (by decide) hf68 rfl dX6_canRead_32 ?_
    refine wp_if_ne (tgt := 42) hc dX6_canRead_35 (by decide) (fun c35 => ?_) (fun c35 => ?_)
    · refine wp_iconst (v := 0) hc dX6_canRead_42 (by decide) ?_
      refine wp_zret hc hr hk rfl ?_ dX6_canRead_43
      show (0, M3) = sX6_canRead M i1
      rw [sX6_canRead, if_pos c8, tk_eq hM3, if_neg c23, if_neg c35]
    refine wp_iconst (v := 1) hc dX6_canRead_38 (by decide) ?_
    refine wp_goto (tgt := 43) hc dX6_canRead_39 (by decide) ?_
    refine wp_zret hc hr hk rfl ?_ dX6_canRead_43
    show (1, M3) = sX6_canRead M i1
    rw [sX6_canRead, if_pos c8, tk_eq hM3, if_neg c23, if_pos c35]
  refine wp_aload_n hc 0 dX6_canRead_26 rfl ?_
  refine wp_iload_n hc 1 dX6_canRead_27 rfl ?_
  refine wp_callVvw (As := [.int i1]) (rest := []) (j := 100) (w := sX6_readsBox M3 i1) hc hx (kX6_readsBox l D cy z hz M3 i1 hb) cw165 (by decide) (by decide) (ce_5 rfl) rfl rfl rfl rfl (Nat.le_of_ble_eq_true rfl) dX6_canRead_28 (fun M4 hM4 => ?_)
  refine wp_aload_n hc 0 dX6_canRead_31 rfl ?_
  refine wp_get hc hx hin6 (j := 100) (by decide) (by decide) (ce_5 rfl) rfl 7 (by decide) hf68 rfl dX6_canRead_32 ?_
  refine wp_if_ne (tgt := 42) hc dX6_canRead_35 (by decide) (fun c35 => ?_) (fun c35 => ?_)
  · refine wp_iconst (v := 0) hc dX6_canRead_42 (by decide) ?_
    refine wp_zret hc hr hk rfl ?_ dX6_canRead_43
    show (0, M4) = sX6_canRead M i1
    rw [sX6_canRead, if_pos c8, tk_eq hM3, if_pos c23, tk_eq hM4, if_neg c35]
  refine wp_iconst (v := 1) hc dX6_canRead_38 (by decide) ?_
  refine wp_goto (tgt := 43) hc dX6_canRead_39 (by decide) ?_
  refine wp_zret hc hr hk rfl ?_ dX6_canRead_43
  show (1, M4) = sX6_canRead M i1
  rw [sX6_canRead, if_pos c8, tk_eq hM3, if_pos c23, tk_eq hM4, if_pos c35]
set_option maxRecDepth 10000 in
theorem kpX6_canRead (M : Mem) (i1 : Int32) : KP2 M (sX6_canRead M i1) := by
  unfold sX6_canRead
  refine ite_ind (P := KP2 M) (fun _ => ?_) (fun _ => ?_)
  · refine tk_ind (P := KP2 M) _ _ (fun M3 hM3 => ?_)
    have k1 : KP M M3 := by rw [hM3]; exact kp_st (by decide)
    refine ite_ind (P := KP2 M) (fun _ => ?_) (fun _ => ?_)
    · refine tk_ind (P := KP2 M) _ _ (fun M4 hM4 => ?_)
      have k2 : KP M3 M4 := by rw [hM4]; apply kpX6_readsBox
      refine ite_ind (P := KP2 M) (fun _ => ?_) (fun _ => ?_)
      · exact (show KP M M4 from KP.trans k1 (k2))
      · exact (show KP M M4 from KP.trans k1 (k2))
    · refine ite_ind (P := KP2 M) (fun _ => ?_) (fun _ => ?_)
      · exact (show KP M M3 from k1)
      · exact (show KP M M3 from k1)
  · refine tk_ind (P := KP2 M) _ _ (fun M1 hM1 => ?_)
    have k3 : KP M M1 := by rw [hM1]; exact kp_st (by decide)
    refine ite_ind (P := KP2 M) (fun _ => ?_) (fun _ => ?_)
    · refine tk_ind (P := KP2 M) _ _ (fun M2 hM2 => ?_)
      have k4 : KP M1 M2 := by rw [hM2]; apply kpX6_readsBox
      refine ite_ind (P := KP2 M) (fun _ => ?_) (fun _ => ?_)
      · exact (show KP M M2 from KP.trans k3 (k4))
      · exact (show KP M M2 from KP.trans k3 (k4))
    · refine ite_ind (P := KP2 M) (fun _ => ?_) (fun _ => ?_)
      · exact (show KP M M1 from k3)
      · exact (show KP M M1 from k3)
theorem bX6_canRead (M : Mem) (i1 : Int32) : B01 (sX6_canRead M i1) := by
  unfold sX6_canRead
  refine ite_ind (P := B01) (fun _ => ?_) (fun _ => ?_)
  · refine tk_ind (P := B01) _ _ (fun M3 hM3 => ?_)
    refine ite_ind (P := B01) (fun _ => ?_) (fun _ => ?_)
    · refine tk_ind (P := B01) _ _ (fun M4 hM4 => ?_)
      refine ite_ind (P := B01) (fun _ => ?_) (fun _ => ?_)
      · exact (show _ ∨ _ from Or.inr rfl)
      · exact (show _ ∨ _ from Or.inl rfl)
    · refine ite_ind (P := B01) (fun _ => ?_) (fun _ => ?_)
      · exact (show _ ∨ _ from Or.inr rfl)
      · exact (show _ ∨ _ from Or.inl rfl)
  · refine tk_ind (P := B01) _ _ (fun M1 hM1 => ?_)
    refine ite_ind (P := B01) (fun _ => ?_) (fun _ => ?_)
    · refine tk_ind (P := B01) _ _ (fun M2 hM2 => ?_)
      refine ite_ind (P := B01) (fun _ => ?_) (fun _ => ?_)
      · exact (show _ ∨ _ from Or.inr rfl)
      · exact (show _ ∨ _ from Or.inl rfl)
    · refine ite_ind (P := B01) (fun _ => ?_) (fun _ => ?_)
      · exact (show _ ∨ _ from Or.inr rfl)
      · exact (show _ ∨ _ from Or.inl rfl)
def fX6_detBox (M : Mem) (i1 : Int32) : Int32 :=
  (fX6_detOf (M.1 101 (fX6_boxAt M i1).toNatClampNeg) (M.1 101 ((fX6_boxAt M i1) + 1).toNatClampNeg) (M.1 101 ((fX6_boxAt M i1) + 2).toNatClampNeg) (M.1 101 ((fX6_boxAt M i1) + 3).toNatClampNeg))
set_option maxHeartbeats 4000000 in
set_option maxRecDepth 100000 in
theorem kX6_detBox (l : Launch) (D : va_G) (cy : Nat → ClassId) (z : Nat → Nat) (hz : zI z) (M : Mem) (i1 : Int32) (hb : 0 ≤ i1.toInt ∧ i1.toInt < 8) : KI l yX6_detBox wsX6_detBox { frames := 4, cells := 0, slots := 0, locals := 90 } D cy z 100 15 [.ref (z 100), .int i1] M (fun r u => r = fX6_detBox M i1 ∧ u = M) := by
  refine met_wp (lv := [(0, .ref (z 100)), (1, .int i1)]) hz (by decide) (by decide) rfl rfl (Nat.le_of_ble_eq_true rfl) rfl ?_
  intro p e s m below meth c hc hx hr hk
  have hNW := hx.2.1
  have hin6 : ∀ w ∈ wsX60, w ∈ wsX6_detBox := by decide +kernel
  have hf7 : Cond.fieldLink RX6 7 (TX6 0).1 (TX6 0).2.1 (TX6 0).2.2.1 ∈ wsX6_detBox := by decide +kernel
  have cw85 : CallW ({ frames := 4, cells := 0, slots := 0, locals := 90 }) s _ RX6 RX6 85 yX6_boxAt cX6_boxAt 2 (some .int) wsX6_boxAt ({ frames := 0, cells := 0, slots := 0, locals := 0 }) 0 0 1 := cwV 1 hc.2.2.2.2 gX6_detBox_X6_boxAt rfl rfl rfl (by decide +kernel) ⟨Nat.le_of_ble_eq_true rfl, Nat.le_of_ble_eq_true rfl⟩
  have cw126 : CallB ({ frames := 4, cells := 0, slots := 0, locals := 90 }) s _ RX6 126 yX6_detOf cX6_detOf 4 (some .int) wsX6_detOf ({ frames := 3, cells := 0, slots := 0, locals := 67 }) 0 0 4 ∧ (Cond.static yX6_detOf).before _ s = true := va_cwS 4 hc.2.2.2.2 gX6_detBox_X6_detOf rfl rfl rfl (by decide +kernel) ⟨Nat.le_of_ble_eq_true rfl, Nat.le_of_ble_eq_true rfl⟩
  refine wp_aload_n hc 0 dX6_detBox_0 rfl ?_
  refine wp_iload_n hc 1 dX6_detBox_1 rfl ?_
  refine wp_callVf (As := [.int i1]) (rest := []) (j := 100) (v := (fX6_boxAt M i1)) hc hx (kX6_boxAt l D cy z hz M i1) cw85 (by decide) (by decide) (ce_5 rfl) rfl rfl rfl rfl (Nat.le_of_ble_eq_true rfl) dX6_detBox_2 ?_
  refine wp_istore_n (lv' := [(2, .int (fX6_boxAt M i1)), (0, .ref (z 100)), (1, .int i1)]) hc dX6_detBox_5 (by decide) rfl ?_
  refine wp_aload_n hc 1 dX6_detBox_6 rfl ?_
  refine wp_get hc hx hin6 (j := 100) (by decide) (by decide) (ce_5 rfl) rfl 0 (by decide) hf7 rfl dX6_detBox_7 ?_
  refine wp_iload_n hc 0 dX6_detBox_10 rfl ?_
  refine wp_iald hc hx (j := 101) (by decide) (by decide) rfl (fX6_boxAt M i1).toNatClampNeg rfl (ixb hb) dX6_detBox_11 ?_
  refine wp_aload_n hc 1 dX6_detBox_12 rfl ?_
  refine wp_get hc hx hin6 (j := 100) (by decide) (by decide) (ce_5 rfl) rfl 0 (by decide) hf7 rfl dX6_detBox_13 ?_
  refine wp_iload_n hc 0 dX6_detBox_16 rfl ?_
  refine wp_iconst (v := 1) hc dX6_detBox_17 (by decide) ?_
  refine wp_iadd hc dX6_detBox_18 ?_
  refine wp_iald hc hx (j := 101) (by decide) (by decide) rfl ((fX6_boxAt M i1) + 1).toNatClampNeg rfl (ixbk hb (by decide)) dX6_detBox_19 ?_
  refine wp_aload_n hc 1 dX6_detBox_20 rfl ?_
  refine wp_get hc hx hin6 (j := 100) (by decide) (by decide) (ce_5 rfl) rfl 0 (by decide) hf7 rfl dX6_detBox_21 ?_
  refine wp_iload_n hc 0 dX6_detBox_24 rfl ?_
  refine wp_iconst (v := 2) hc dX6_detBox_25 (by decide) ?_
  refine wp_iadd hc dX6_detBox_26 ?_
  refine wp_iald hc hx (j := 101) (by decide) (by decide) rfl ((fX6_boxAt M i1) + 2).toNatClampNeg rfl (ixbk hb (by decide)) dX6_detBox_27 ?_
  refine wp_aload_n hc 1 dX6_detBox_28 rfl ?_
  refine wp_get hc hx hin6 (j := 100) (by decide) (by decide) (ce_5 rfl) rfl 0 (by decide) hf7 rfl dX6_detBox_29 ?_
  refine wp_iload_n hc 0 dX6_detBox_32 rfl ?_
  refine wp_iconst (v := 3) hc dX6_detBox_33 (by decide) ?_
  refine wp_iadd hc dX6_detBox_34 ?_
  refine wp_iald hc hx (j := 101) (by decide) (by decide) rfl ((fX6_boxAt M i1) + 3).toNatClampNeg rfl (ixbk hb (by decide)) dX6_detBox_35 ?_
  refine wp_callSg (As := [.int (M.1 101 (fX6_boxAt M i1).toNatClampNeg), .int (M.1 101 ((fX6_boxAt M i1) + 1).toNatClampNeg), .int (M.1 101 ((fX6_boxAt M i1) + 2).toNatClampNeg), .int (M.1 101 ((fX6_boxAt M i1) + 3).toNatClampNeg)]) (rest := []) (v := (fX6_detOf (M.1 101 (fX6_boxAt M i1).toNatClampNeg) (M.1 101 ((fX6_boxAt M i1) + 1).toNatClampNeg) (M.1 101 ((fX6_boxAt M i1) + 2).toNatClampNeg) (M.1 101 ((fX6_boxAt M i1) + 3).toNatClampNeg))) hc hNW (kX6_detOf l (M.1 101 (fX6_boxAt M i1).toNatClampNeg) (M.1 101 ((fX6_boxAt M i1) + 1).toNatClampNeg) (M.1 101 ((fX6_boxAt M i1) + 2).toNatClampNeg) (M.1 101 ((fX6_boxAt M i1) + 3).toNatClampNeg)) cw126 rfl rfl (Nat.le_of_ble_eq_true rfl) dX6_detBox_36 ?_
  refine wp_iret hc hr hk ?_ dX6_detBox_39
  show (fX6_detOf (M.1 101 (fX6_boxAt M i1).toNatClampNeg) (M.1 101 ((fX6_boxAt M i1) + 1).toNatClampNeg) (M.1 101 ((fX6_boxAt M i1) + 2).toNatClampNeg) (M.1 101 ((fX6_boxAt M i1) + 3).toNatClampNeg)) = fX6_detBox M i1 ∧ M = M
  exact ⟨by rw [fX6_detBox], rfl⟩
def sX6_copies (M : Mem)  : Mem :=
  tk (st M 109 0 (M.1 111 0)) fun M1 =>
  tk (st M1 109 1 (M1.1 111 1)) fun M2 =>
  tk (st M2 109 2 (M2.1 111 2)) fun M3 =>
  tk (st M3 109 3 (M3.1 111 3)) fun M4 =>
  M4
set_option maxHeartbeats 4000000 in
set_option maxRecDepth 100000 in
theorem kX6_copies (l : Launch) (D : va_G) (cy : Nat → ClassId) (z : Nat → Nat) (hz : zI z) (M : Mem)  : KV l yX6_copies wsX6_copies { frames := 0, cells := 0, slots := 0, locals := 0 } D cy z 100 15 [.ref (z 100), .ref (z 111), .ref (z 109)] M (fun u => u = sX6_copies M) := by
  refine met_wp (lv := [(0, .ref (z 100)), (1, .ref (z 111)), (2, .ref (z 109))]) hz (by decide) (by decide) rfl rfl (Nat.le_of_ble_eq_true rfl) rfl ?_
  intro p e s m below meth c hc hx hr hk
  have hNW := hx.2.1
  refine wp_iconst (v := 0) hc dX6_copies_0 (by decide) ?_
  refine wp_istore_n (lv' := [(3, .int 0), (0, .ref (z 100)), (1, .ref (z 111)), (2, .ref (z 109))]) hc dX6_copies_1 (by decide) rfl ?_
  refine wp_iload_n hc 0 dX6_copies_2 rfl ?_
  refine wp_iconst (v := 4) hc dX6_copies_3 (by decide) ?_
  refine wp_icmp_ge (tgt := 19) hc dX6_copies_4 (by decide) (fun c => absurd c (by decide)) (fun _ => ?_)
  refine wp_aload_n hc 3 dX6_copies_7 rfl ?_
  refine wp_iload_n hc 0 dX6_copies_8 rfl ?_
  refine wp_aload_n hc 2 dX6_copies_9 rfl ?_
  refine wp_iload_n hc 0 dX6_copies_10 rfl ?_
  refine wp_iald hc hx (j := 111) (by decide) (by decide) rfl 0 rfl (vin (by decide)) dX6_copies_11 ?_
  refine wp_iast hc hx (j := 109) (by decide) (by decide) rfl 0 rfl (vin (by decide)) dX6_copies_12 ?_
  refine wp_nm (fun M1 hM1 => ?_)
  refine wp_iinc (v := 1) (lv' := [(3, .int 1), (0, .ref (z 100)), (1, .ref (z 111)), (2, .ref (z 109))]) hc 0 dX6_copies_13 rfl (by decide) (by decide) rfl ?_
  refine wp_goto (tgt := 2) hc dX6_copies_16 (by decide) ?_
  refine wp_iload_n hc 0 dX6_copies_2 rfl ?_
  refine wp_iconst (v := 4) hc dX6_copies_3 (by decide) ?_
  refine wp_icmp_ge (tgt := 19) hc dX6_copies_4 (by decide) (fun c => absurd c (by decide)) (fun _ => ?_)
  refine wp_aload_n hc 3 dX6_copies_7 rfl ?_
  refine wp_iload_n hc 0 dX6_copies_8 rfl ?_
  refine wp_aload_n hc 2 dX6_copies_9 rfl ?_
  refine wp_iload_n hc 0 dX6_copies_10 rfl ?_
  refine wp_iald hc hx (j := 111) (by decide) (by decide) rfl 1 rfl (vin (by decide)) dX6_copies_11 ?_
  refine wp_iast hc hx (j := 109) (by decide) (by decide) rfl 1 rfl (vin (by decide)) dX6_copies_12 ?_
  refine wp_nm (fun M2 hM2 => ?_)
  refine wp_iinc (v := 2) (lv' := [(3, .int 2), (0, .ref (z 100)), (1, .ref (z 111)), (2, .ref (z 109))]) hc 0 dX6_copies_13 rfl (by decide) (by decide) rfl ?_
  refine wp_goto (tgt := 2) hc dX6_copies_16 (by decide) ?_
  refine wp_iload_n hc 0 dX6_copies_2 rfl ?_
  refine wp_iconst (v := 4) hc dX6_copies_3 (by decide) ?_
  refine wp_icmp_ge (tgt := 19) hc dX6_copies_4 (by decide) (fun c => absurd c (by decide)) (fun _ => ?_)
  refine wp_aload_n hc 3 dX6_copies_7 rfl ?_
  refine wp_iload_n hc 0 dX6_copies_8 rfl ?_
  refine wp_aload_n hc 2 dX6_copies_9 rfl ?_
  refine wp_iload_n hc 0 dX6_copies_10 rfl ?_
  refine wp_iald hc hx (j := 111) (by decide) (by decide) rfl 2 rfl (vin (by decide)) dX6_copies_11 ?_
  refine wp_iast hc hx (j := 109) (by decide) (by decide) rfl 2 rfl (vin (by decide)) dX6_copies_12 ?_
  refine wp_nm (fun M3 hM3 => ?_)
  refine wp_iinc (v := 3) (lv' := [(3, .int 3), (0, .ref (z 100)), (1, .ref (z 111)), (2, .ref (z 109))]) hc 0 dX6_copies_13 rfl (by decide) (by decide) rfl ?_
  refine wp_goto (tgt := 2) hc dX6_copies_16 (by decide) ?_
  refine wp_iload_n hc 0 dX6_copies_2 rfl ?_
  refine wp_iconst (v := 4) hc dX6_copies_3 (by decide) ?_
  refine wp_icmp_ge (tgt := 19) hc dX6_copies_4 (by decide) (fun c => absurd c (by decide)) (fun _ => ?_)
  refine wp_aload_n hc 3 dX6_copies_7 rfl ?_
  refine wp_iload_n hc 0 dX6_copies_8 rfl ?_
  refine wp_aload_n hc 2 dX6_copies_9 rfl ?_
  refine wp_iload_n hc 0 dX6_copies_10 rfl ?_
  refine wp_iald hc hx (j := 111) (by decide) (by decide) rfl 3 rfl (vin (by decide)) dX6_copies_11 ?_
  refine wp_iast hc hx (j := 109) (by decide) (by decide) rfl 3 rfl (vin (by decide)) dX6_copies_12 ?_
  refine wp_nm (fun M4 hM4 => ?_)
  refine wp_iinc (v := 4) (lv' := [(3, .int 4), (0, .ref (z 100)), (1, .ref (z 111)), (2, .ref (z 109))]) hc 0 dX6_copies_13 rfl (by decide) (by decide) rfl ?_
  refine wp_goto (tgt := 2) hc dX6_copies_16 (by decide) ?_
  refine wp_iload_n hc 0 dX6_copies_2 rfl ?_
  refine wp_iconst (v := 4) hc dX6_copies_3 (by decide) ?_
  refine wp_icmp_ge (tgt := 19) hc dX6_copies_4 (by decide) (fun _ => ?_) (fun c => absurd c (by decide))
  refine wp_vret hc hr hk ?_ dX6_copies_19
  show M4 = sX6_copies M
  rw [sX6_copies, tk_eq hM1, tk_eq hM2, tk_eq hM3, tk_eq hM4]
set_option maxRecDepth 10000 in
theorem kpX6_copies (M : Mem)  : KP M (sX6_copies M) := by
  unfold sX6_copies
  refine tk_ind (P := KP M) _ _ (fun M1 hM1 => ?_)
  have k1 : KP M M1 := by rw [hM1]; exact kp_st (by decide)
  refine tk_ind (P := KP M) _ _ (fun M2 hM2 => ?_)
  have k2 : KP M1 M2 := by rw [hM2]; exact kp_st (by decide)
  refine tk_ind (P := KP M) _ _ (fun M3 hM3 => ?_)
  have k3 : KP M2 M3 := by rw [hM3]; exact kp_st (by decide)
  refine tk_ind (P := KP M) _ _ (fun M4 hM4 => ?_)
  have k4 : KP M3 M4 := by rw [hM4]; exact kp_st (by decide)
  exact (show KP M M4 from KP.trans k1 (KP.trans k2 (KP.trans k3 (k4))))
def sX6_formsTo_1 (M : Mem) (i1 : Int32) : Mem :=
  tk (sX6_over M (fX6_less 0 (fX6_detBox M i1)) (M.1 101 ((fX6_boxAt M i1) + 2).toNatClampNeg)) fun x1 =>
  tk (st x1.2 109 0 x1.1) fun M2 =>
  tk (sX6_over M2 (M2.1 101 (fX6_boxAt M i1).toNatClampNeg) (M.1 101 ((fX6_boxAt M i1) + 2).toNatClampNeg)) fun x3 =>
  tk (st x3.2 109 1 x3.1) fun M4 =>
  tk (sX6_over M4 (fX6_less 0 (M4.1 101 ((fX6_boxAt M i1) + 3).toNatClampNeg)) (M.1 101 ((fX6_boxAt M i1) + 2).toNatClampNeg)) fun x5 =>
  tk (st x5.2 109 2 x5.1) fun M6 =>
  tk (sX6_over M6 10007 (M.1 101 ((fX6_boxAt M i1) + 2).toNatClampNeg)) fun x7 =>
  tk (st x7.2 109 3 x7.1) fun M8 =>
  M8
set_option maxHeartbeats 4000000 in
set_option maxRecDepth 100000 in
theorem kX6_formsTo_1 (l : Launch) (D : va_G) (cy : Nat → ClassId) (z : Nat → Nat) (hz : zI z) (M : Mem) (i1 : Int32) (hb : 0 ≤ i1.toInt ∧ i1.toInt < 8) : KV l yX6_formsTo wsX6_formsTo { frames := 5, cells := 0, slots := 0, locals := 112 } D cy z 100 15 [.ref (z 100), .int i1, .ref (z 109)] M (fun u => u = sX6_formsTo_1 M i1) := by
  refine met_wp (lv := [(0, .ref (z 100)), (1, .int i1), (2, .ref (z 109))]) hz (by decide) (by decide) rfl rfl (Nat.le_of_ble_eq_true rfl) rfl ?_
  intro p e s m below meth c hc hx hr hk
  have hNW := hx.2.1
  have hin6 : ∀ w ∈ wsX60, w ∈ wsX6_formsTo := by decide +kernel
  have hf7 : Cond.fieldLink RX6 7 (TX6 0).1 (TX6 0).2.1 (TX6 0).2.2.1 ∈ wsX6_formsTo := by decide +kernel
  have cw85 : CallW ({ frames := 5, cells := 0, slots := 0, locals := 112 }) s _ RX6 RX6 85 yX6_boxAt cX6_boxAt 2 (some .int) wsX6_boxAt ({ frames := 0, cells := 0, slots := 0, locals := 0 }) 0 0 1 := cwV 1 hc.2.2.2.2 gX6_formsTo_X6_boxAt rfl rfl rfl (by decide +kernel) ⟨Nat.le_of_ble_eq_true rfl, Nat.le_of_ble_eq_true rfl⟩
  have cw114 : CallB ({ frames := 5, cells := 0, slots := 0, locals := 112 }) s _ RX6 114 yX6_less cX6_less 2 (some .int) wsX6_less ({ frames := 2, cells := 0, slots := 0, locals := 42 }) 0 0 2 ∧ (Cond.static yX6_less).before _ s = true := va_cwS 2 hc.2.2.2.2 gX6_formsTo_X6_less rfl rfl rfl (by decide +kernel) ⟨Nat.le_of_ble_eq_true rfl, Nat.le_of_ble_eq_true rfl⟩
  have cw123 : CallW ({ frames := 5, cells := 0, slots := 0, locals := 112 }) s _ RX6 RX6 123 yX6_over cX6_over 6 (some .int) wsX6_over ({ frames := 3, cells := 0, slots := 0, locals := 67 }) 0 0 2 := cwV 2 hc.2.2.2.2 gX6_formsTo_X6_over rfl rfl rfl (by decide +kernel) ⟨Nat.le_of_ble_eq_true rfl, Nat.le_of_ble_eq_true rfl⟩
  have cw175 : CallW ({ frames := 5, cells := 0, slots := 0, locals := 112 }) s _ RX6 RX6 175 yX6_detBox cX6_detBox 3 (some .int) wsX6_detBox ({ frames := 4, cells := 0, slots := 0, locals := 90 }) 0 0 1 := cwV 1 hc.2.2.2.2 gX6_formsTo_X6_detBox rfl rfl rfl (by decide +kernel) ⟨Nat.le_of_ble_eq_true rfl, Nat.le_of_ble_eq_true rfl⟩
  refine wp_aload_n hc 0 dX6_formsTo_0 rfl ?_
  refine wp_iload_n hc 1 dX6_formsTo_1 rfl ?_
  refine wp_callVf (As := [.int i1]) (rest := []) (j := 100) (v := (fX6_boxAt M i1)) hc hx (kX6_boxAt l D cy z hz M i1) cw85 (by decide) (by decide) (ce_5 rfl) rfl rfl rfl rfl (Nat.le_of_ble_eq_true rfl) dX6_formsTo_2 ?_
  refine wp_istore_n (lv' := [(3, .int (fX6_boxAt M i1)), (0, .ref (z 100)), (1, .int i1), (2, .ref (z 109))]) hc dX6_formsTo_5 (by decide) rfl ?_
  refine wp_aload_n hc 1 dX6_formsTo_6 rfl ?_
  refine wp_get hc hx hin6 (j := 100) (by decide) (by decide) (ce_5 rfl) rfl 0 (by decide) hf7 rfl dX6_formsTo_7 ?_
  refine wp_iload_n hc 0 dX6_formsTo_10 rfl ?_
  refine wp_iconst (v := 2) hc dX6_formsTo_11 (by decide) ?_
  refine wp_iadd hc dX6_formsTo_12 ?_
  refine wp_iald hc hx (j := 101) (by decide) (by decide) rfl ((fX6_boxAt M i1) + 2).toNatClampNeg rfl (ixbk hb (by decide)) dX6_formsTo_13 ?_
  refine wp_istore (lv' := [(4, .int (M.1 101 ((fX6_boxAt M i1) + 2).toNatClampNeg)), (3, .int (fX6_boxAt M i1)), (0, .ref (z 100)), (1, .int i1), (2, .ref (z 109))]) hc dX6_formsTo_14 (by decide) rfl ?_
  refine wp_aload_n hc 4 dX6_formsTo_16 rfl ?_
  refine wp_iconst (v := 0) hc dX6_formsTo_17 (by decide) ?_
  refine wp_aload_n hc 2 dX6_formsTo_18 rfl ?_
  refine wp_iconst (v := 0) hc dX6_formsTo_19 (by decide) ?_
  refine wp_aload_n hc 2 dX6_formsTo_20 rfl ?_
  refine wp_iload_n hc 3 dX6_formsTo_21 rfl ?_
  refine wp_callVf (As := [.int i1]) (rest := [.int 0, .ref (z 100), .int 0, .ref (z 109)]) (j := 100) (v := (fX6_detBox M i1)) hc hx (kX6_detBox l D cy z hz M i1 hb) cw175 (by decide) (by decide) (ce_5 rfl) rfl rfl rfl rfl (Nat.le_of_ble_eq_true rfl) dX6_formsTo_22 ?_
  refine wp_callSg (As := [.int 0, .int (fX6_detBox M i1)]) (rest := [.ref (z 100), .int 0, .ref (z 109)]) (v := (fX6_less 0 (fX6_detBox M i1))) hc hNW (kX6_less l 0 (fX6_detBox M i1)) cw114 rfl rfl (Nat.le_of_ble_eq_true rfl) dX6_formsTo_25 ?_
  refine wp_iload hc 0 dX6_formsTo_28 rfl ?_
  refine wp_callVw (As := [.int (fX6_less 0 (fX6_detBox M i1)), .int (M.1 101 ((fX6_boxAt M i1) + 2).toNatClampNeg)]) (rest := [.int 0, .ref (z 109)]) (j := 100) (w := sX6_over M (fX6_less 0 (fX6_detBox M i1)) (M.1 101 ((fX6_boxAt M i1) + 2).toNatClampNeg)) hc hx (kX6_over l D cy z hz M (fX6_less 0 (fX6_detBox M i1)) (M.1 101 ((fX6_boxAt M i1) + 2).toNatClampNeg)) cw123 (by decide) (by decide) (ce_5 rfl) rfl rfl rfl rfl (Nat.le_of_ble_eq_true rfl) dX6_formsTo_30 (fun x1 hx1 => ?_)
  refine wp_iast hc hx (j := 109) (by decide) (by decide) rfl 0 rfl (vin (by decide)) dX6_formsTo_33 ?_
  refine wp_nm (fun M2 hM2 => ?_)
  refine wp_aload_n hc 4 dX6_formsTo_34 rfl ?_
  refine wp_iconst (v := 1) hc dX6_formsTo_35 (by decide) ?_
  refine wp_aload_n hc 2 dX6_formsTo_36 rfl ?_
  refine wp_aload_n hc 2 dX6_formsTo_37 rfl ?_
  refine wp_get hc hx hin6 (j := 100) (by decide) (by decide) (ce_5 rfl) rfl 0 (by decide) hf7 rfl dX6_formsTo_38 ?_
  refine wp_iload_n hc 1 dX6_formsTo_41 rfl ?_
  refine wp_iald hc hx (j := 101) (by decide) (by decide) rfl (fX6_boxAt M i1).toNatClampNeg rfl (ixb hb) dX6_formsTo_42 ?_
  refine wp_iload hc 0 dX6_formsTo_43 rfl ?_
  refine wp_callVw (As := [.int (M2.1 101 (fX6_boxAt M i1).toNatClampNeg), .int (M.1 101 ((fX6_boxAt M i1) + 2).toNatClampNeg)]) (rest := [.int 1, .ref (z 109)]) (j := 100) (w := sX6_over M2 (M2.1 101 (fX6_boxAt M i1).toNatClampNeg) (M.1 101 ((fX6_boxAt M i1) + 2).toNatClampNeg)) hc hx (kX6_over l D cy z hz M2 (M2.1 101 (fX6_boxAt M i1).toNatClampNeg) (M.1 101 ((fX6_boxAt M i1) + 2).toNatClampNeg)) cw123 (by decide) (by decide) (ce_5 rfl) rfl rfl rfl rfl (Nat.le_of_ble_eq_true rfl) dX6_formsTo_45 (fun x3 hx3 => ?_)
  refine wp_iast hc hx (j := 109) (by decide) (by decide) rfl 1 rfl (vin (by decide)) dX6_formsTo_48 ?_
  refine wp_nm (fun M4 hM4 => ?_)
  refine wp_aload_n hc 4 dX6_formsTo_49 rfl ?_
  refine wp_iconst (v := 2) hc dX6_formsTo_50 (by decide) ?_
  refine wp_aload_n hc 2 dX6_formsTo_51 rfl ?_
  refine wp_iconst (v := 0) hc dX6_formsTo_52 (by decide) ?_
  refine wp_aload_n hc 2 dX6_formsTo_53 rfl ?_
  refine wp_get hc hx hin6 (j := 100) (by decide) (by decide) (ce_5 rfl) rfl 0 (by decide) hf7 rfl dX6_formsTo_54 ?_
  refine wp_iload_n hc 1 dX6_formsTo_57 rfl ?_
  refine wp_iconst (v := 3) hc dX6_formsTo_58 (by decide) ?_
  refine wp_iadd hc dX6_formsTo_59 ?_
  refine wp_iald hc hx (j := 101) (by decide) (by decide) rfl ((fX6_boxAt M i1) + 3).toNatClampNeg rfl (ixbk hb (by decide)) dX6_formsTo_60 ?_
  refine wp_callSg (As := [.int 0, .int (M4.1 101 ((fX6_boxAt M i1) + 3).toNatClampNeg)]) (rest := [.ref (z 100), .int 2, .ref (z 109)]) (v := (fX6_less 0 (M4.1 101 ((fX6_boxAt M i1) + 3).toNatClampNeg))) hc hNW (kX6_less l 0 (M4.1 101 ((fX6_boxAt M i1) + 3).toNatClampNeg)) cw114 rfl rfl (Nat.le_of_ble_eq_true rfl) dX6_formsTo_61 ?_
  refine wp_iload hc 0 dX6_formsTo_64 rfl ?_
  refine wp_callVw (As := [.int (fX6_less 0 (M4.1 101 ((fX6_boxAt M i1) + 3).toNatClampNeg)), .int (M.1 101 ((fX6_boxAt M i1) + 2).toNatClampNeg)]) (rest := [.int 2, .ref (z 109)]) (j := 100) (w := sX6_over M4 (fX6_less 0 (M4.1 101 ((fX6_boxAt M i1) + 3).toNatClampNeg)) (M.1 101 ((fX6_boxAt M i1) + 2).toNatClampNeg)) hc hx (kX6_over l D cy z hz M4 (fX6_less 0 (M4.1 101 ((fX6_boxAt M i1) + 3).toNatClampNeg)) (M.1 101 ((fX6_boxAt M i1) + 2).toNatClampNeg)) cw123 (by decide) (by decide) (ce_5 rfl) rfl rfl rfl rfl (Nat.le_of_ble_eq_true rfl) dX6_formsTo_66 (fun x5 hx5 => ?_)
  refine wp_iast hc hx (j := 109) (by decide) (by decide) rfl 2 rfl (vin (by decide)) dX6_formsTo_69 ?_
  refine wp_nm (fun M6 hM6 => ?_)
  refine wp_aload_n hc 4 dX6_formsTo_70 rfl ?_
  refine wp_iconst (v := 3) hc dX6_formsTo_71 (by decide) ?_
  refine wp_aload_n hc 2 dX6_formsTo_72 rfl ?_
  refine wp_sipush (v := 10007) hc dX6_formsTo_73 (by decide) ?_
  refine wp_iload hc 0 dX6_formsTo_76 rfl ?_
  refine wp_callVw (As := [.int 10007, .int (M.1 101 ((fX6_boxAt M i1) + 2).toNatClampNeg)]) (rest := [.int 3, .ref (z 109)]) (j := 100) (w := sX6_over M6 10007 (M.1 101 ((fX6_boxAt M i1) + 2).toNatClampNeg)) hc hx (kX6_over l D cy z hz M6 10007 (M.1 101 ((fX6_boxAt M i1) + 2).toNatClampNeg)) cw123 (by decide) (by decide) (ce_5 rfl) rfl rfl rfl rfl (Nat.le_of_ble_eq_true rfl) dX6_formsTo_78 (fun x7 hx7 => ?_)
  refine wp_iast hc hx (j := 109) (by decide) (by decide) rfl 3 rfl (vin (by decide)) dX6_formsTo_81 ?_
  refine wp_nm (fun M8 hM8 => ?_)
  refine wp_vret hc hr hk ?_ dX6_formsTo_82
  show M8 = sX6_formsTo_1 M i1
  rw [sX6_formsTo_1, tk_eq hx1, tk_eq hM2, tk_eq hx3, tk_eq hM4, tk_eq hx5, tk_eq hM6, tk_eq hx7, tk_eq hM8]
set_option maxRecDepth 10000 in
theorem kpX6_formsTo_1 (M : Mem) (i1 : Int32) : KP M (sX6_formsTo_1 M i1) := by
  unfold sX6_formsTo_1
  refine tk_ind (P := KP M) _ _ (fun x1 hx1 => ?_)
  have k1 : KP2 M x1 := by rw [hx1]; apply kpX6_over
  refine tk_ind (P := KP M) _ _ (fun M2 hM2 => ?_)
  have k2 : KP x1.2 M2 := by rw [hM2]; exact kp_st (by decide)
  refine tk_ind (P := KP M) _ _ (fun x3 hx3 => ?_)
  have k3 : KP2 M2 x3 := by rw [hx3]; apply kpX6_over
  refine tk_ind (P := KP M) _ _ (fun M4 hM4 => ?_)
  have k4 : KP x3.2 M4 := by rw [hM4]; exact kp_st (by decide)
  refine tk_ind (P := KP M) _ _ (fun x5 hx5 => ?_)
  have k5 : KP2 M4 x5 := by rw [hx5]; apply kpX6_over
  refine tk_ind (P := KP M) _ _ (fun M6 hM6 => ?_)
  have k6 : KP x5.2 M6 := by rw [hM6]; exact kp_st (by decide)
  refine tk_ind (P := KP M) _ _ (fun x7 hx7 => ?_)
  have k7 : KP2 M6 x7 := by rw [hx7]; apply kpX6_over
  refine tk_ind (P := KP M) _ _ (fun M8 hM8 => ?_)
  have k8 : KP x7.2 M8 := by rw [hM8]; exact kp_st (by decide)
  exact (show KP M M8 from KP.trans k1 (KP.trans k2 (KP.trans k3 (KP.trans k4 (KP.trans k5 (KP.trans k6 (KP.trans k7 (k8))))))))
def sX6_inverts_1 (M : Mem)  : Mem :=
  tk ((fX6_less (fX6_by (M.1 109 0) (M.1 109 3)) (fX6_by (M.1 109 1) (M.1 109 2)))) fun x1 =>
  tk (sX6_over M (M.1 109 0) x1) fun x2 =>
  tk (sX6_over x2.2 (x2.2.1 109 3) x1) fun x3 =>
  tk (st x3.2 109 0 x3.1) fun M4 =>
  tk (sX6_over M4 (fX6_less 0 (M4.1 109 1)) x1) fun x5 =>
  tk (st x5.2 109 1 x5.1) fun M6 =>
  tk (sX6_over M6 (fX6_less 0 (M6.1 109 2)) x1) fun x7 =>
  tk (st x7.2 109 2 x7.1) fun M8 =>
  tk (st M8 109 3 x2.1) fun M9 =>
  M9
set_option maxHeartbeats 4000000 in
set_option maxRecDepth 100000 in
theorem kX6_inverts_1 (l : Launch) (D : va_G) (cy : Nat → ClassId) (z : Nat → Nat) (hz : zI z) (M : Mem)  : KV l yX6_inverts wsX6_inverts { frames := 4, cells := 0, slots := 0, locals := 92 } D cy z 100 15 [.ref (z 100), .ref (z 109)] M (fun u => u = sX6_inverts_1 M) := by
  refine met_wp (lv := [(0, .ref (z 100)), (1, .ref (z 109))]) hz (by decide) (by decide) rfl rfl (Nat.le_of_ble_eq_true rfl) rfl ?_
  intro p e s m below meth c hc hx hr hk
  have hNW := hx.2.1
  have cw78 : CallB ({ frames := 4, cells := 0, slots := 0, locals := 92 }) s _ RX6 78 yX6_by cX6_by 6 (some .int) wsX6_by ({ frames := 2, cells := 0, slots := 0, locals := 42 }) 0 0 2 ∧ (Cond.static yX6_by).before _ s = true := va_cwS 2 hc.2.2.2.2 gX6_inverts_X6_by rfl rfl rfl (by decide +kernel) ⟨Nat.le_of_ble_eq_true rfl, Nat.le_of_ble_eq_true rfl⟩
  have cw114 : CallB ({ frames := 4, cells := 0, slots := 0, locals := 92 }) s _ RX6 114 yX6_less cX6_less 2 (some .int) wsX6_less ({ frames := 2, cells := 0, slots := 0, locals := 42 }) 0 0 2 ∧ (Cond.static yX6_less).before _ s = true := va_cwS 2 hc.2.2.2.2 gX6_inverts_X6_less rfl rfl rfl (by decide +kernel) ⟨Nat.le_of_ble_eq_true rfl, Nat.le_of_ble_eq_true rfl⟩
  have cw123 : CallW ({ frames := 4, cells := 0, slots := 0, locals := 92 }) s _ RX6 RX6 123 yX6_over cX6_over 6 (some .int) wsX6_over ({ frames := 3, cells := 0, slots := 0, locals := 67 }) 0 0 2 := cwV 2 hc.2.2.2.2 gX6_inverts_X6_over rfl rfl rfl (by decide +kernel) ⟨Nat.le_of_ble_eq_true rfl, Nat.le_of_ble_eq_true rfl⟩
  refine wp_aload_n hc 1 dX6_inverts_0 rfl ?_
  refine wp_iconst (v := 0) hc dX6_inverts_1 (by decide) ?_
  refine wp_iald hc hx (j := 109) (by decide) (by decide) rfl 0 rfl (vin (by decide)) dX6_inverts_2 ?_
  refine wp_aload_n hc 1 dX6_inverts_3 rfl ?_
  refine wp_iconst (v := 3) hc dX6_inverts_4 (by decide) ?_
  refine wp_iald hc hx (j := 109) (by decide) (by decide) rfl 3 rfl (vin (by decide)) dX6_inverts_5 ?_
  refine wp_callSg (As := [.int (M.1 109 0), .int (M.1 109 3)]) (rest := []) (v := (fX6_by (M.1 109 0) (M.1 109 3))) hc hNW (kX6_by l (M.1 109 0) (M.1 109 3)) cw78 rfl rfl (Nat.le_of_ble_eq_true rfl) dX6_inverts_6 ?_
  refine wp_aload_n hc 1 dX6_inverts_9 rfl ?_
  refine wp_iconst (v := 1) hc dX6_inverts_10 (by decide) ?_
  refine wp_iald hc hx (j := 109) (by decide) (by decide) rfl 1 rfl (vin (by decide)) dX6_inverts_11 ?_
  refine wp_aload_n hc 1 dX6_inverts_12 rfl ?_
  refine wp_iconst (v := 2) hc dX6_inverts_13 (by decide) ?_
  refine wp_iald hc hx (j := 109) (by decide) (by decide) rfl 2 rfl (vin (by decide)) dX6_inverts_14 ?_
  refine wp_callSg (As := [.int (M.1 109 1), .int (M.1 109 2)]) (rest := [.int (fX6_by (M.1 109 0) (M.1 109 3))]) (v := (fX6_by (M.1 109 1) (M.1 109 2))) hc hNW (kX6_by l (M.1 109 1) (M.1 109 2)) cw78 rfl rfl (Nat.le_of_ble_eq_true rfl) dX6_inverts_15 ?_
  refine wp_callSg (As := [.int (fX6_by (M.1 109 0) (M.1 109 3)), .int (fX6_by (M.1 109 1) (M.1 109 2))]) (rest := []) (v := (fX6_less (fX6_by (M.1 109 0) (M.1 109 3)) (fX6_by (M.1 109 1) (M.1 109 2)))) hc hNW (kX6_less l (fX6_by (M.1 109 0) (M.1 109 3)) (fX6_by (M.1 109 1) (M.1 109 2))) cw114 rfl rfl (Nat.le_of_ble_eq_true rfl) dX6_inverts_18 ?_
  refine wp_topi (fun x1 hx1 => ?_)
  refine wp_istore_n (lv' := [(2, .int x1), (0, .ref (z 100)), (1, .ref (z 109))]) hc dX6_inverts_21 (by decide) rfl ?_
  refine wp_aload_n hc 1 dX6_inverts_22 rfl ?_
  refine wp_aload_n hc 2 dX6_inverts_23 rfl ?_
  refine wp_iconst (v := 0) hc dX6_inverts_24 (by decide) ?_
  refine wp_iald hc hx (j := 109) (by decide) (by decide) rfl 0 rfl (vin (by decide)) dX6_inverts_25 ?_
  refine wp_iload_n hc 0 dX6_inverts_26 rfl ?_
  refine wp_callVw (As := [.int (M.1 109 0), .int x1]) (rest := []) (j := 100) (w := sX6_over M (M.1 109 0) x1) hc hx (kX6_over l D cy z hz M (M.1 109 0) x1) cw123 (by decide) (by decide) (ce_5 rfl) rfl rfl rfl rfl (Nat.le_of_ble_eq_true rfl) dX6_inverts_27 (fun x2 hx2 => ?_)
  refine wp_istore_n (lv' := [(3, .int x2.1), (2, .int x1), (0, .ref (z 100)), (1, .ref (z 109))]) hc dX6_inverts_30 (by decide) rfl ?_
  refine wp_aload_n hc 3 dX6_inverts_31 rfl ?_
  refine wp_iconst (v := 0) hc dX6_inverts_32 (by decide) ?_
  refine wp_aload_n hc 2 dX6_inverts_33 rfl ?_
  refine wp_aload_n hc 3 dX6_inverts_34 rfl ?_
  refine wp_iconst (v := 3) hc dX6_inverts_35 (by decide) ?_
  refine wp_iald hc hx (j := 109) (by decide) (by decide) rfl 3 rfl (vin (by decide)) dX6_inverts_36 ?_
  refine wp_iload_n hc 1 dX6_inverts_37 rfl ?_
  refine wp_callVw (As := [.int (x2.2.1 109 3), .int x1]) (rest := [.int 0, .ref (z 109)]) (j := 100) (w := sX6_over x2.2 (x2.2.1 109 3) x1) hc hx (kX6_over l D cy z hz x2.2 (x2.2.1 109 3) x1) cw123 (by decide) (by decide) (ce_5 rfl) rfl rfl rfl rfl (Nat.le_of_ble_eq_true rfl) dX6_inverts_38 (fun x3 hx3 => ?_)
  refine wp_iast hc hx (j := 109) (by decide) (by decide) rfl 0 rfl (vin (by decide)) dX6_inverts_41 ?_
  refine wp_nm (fun M4 hM4 => ?_)
  refine wp_aload_n hc 3 dX6_inverts_42 rfl ?_
  refine wp_iconst (v := 1) hc dX6_inverts_43 (by decide) ?_
  refine wp_aload_n hc 2 dX6_inverts_44 rfl ?_
  refine wp_iconst (v := 0) hc dX6_inverts_45 (by decide) ?_
  refine wp_aload_n hc 3 dX6_inverts_46 rfl ?_
  refine wp_iconst (v := 1) hc dX6_inverts_47 (by decide) ?_
  refine wp_iald hc hx (j := 109) (by decide) (by decide) rfl 1 rfl (vin (by decide)) dX6_inverts_48 ?_
  refine wp_callSg (As := [.int 0, .int (M4.1 109 1)]) (rest := [.ref (z 100), .int 1, .ref (z 109)]) (v := (fX6_less 0 (M4.1 109 1))) hc hNW (kX6_less l 0 (M4.1 109 1)) cw114 rfl rfl (Nat.le_of_ble_eq_true rfl) dX6_inverts_49 ?_
  refine wp_iload_n hc 1 dX6_inverts_52 rfl ?_
  refine wp_callVw (As := [.int (fX6_less 0 (M4.1 109 1)), .int x1]) (rest := [.int 1, .ref (z 109)]) (j := 100) (w := sX6_over M4 (fX6_less 0 (M4.1 109 1)) x1) hc hx (kX6_over l D cy z hz M4 (fX6_less 0 (M4.1 109 1)) x1) cw123 (by decide) (by decide) (ce_5 rfl) rfl rfl rfl rfl (Nat.le_of_ble_eq_true rfl) dX6_inverts_53 (fun x5 hx5 => ?_)
  refine wp_iast hc hx (j := 109) (by decide) (by decide) rfl 1 rfl (vin (by decide)) dX6_inverts_56 ?_
  refine wp_nm (fun M6 hM6 => ?_)
  refine wp_aload_n hc 3 dX6_inverts_57 rfl ?_
  refine wp_iconst (v := 2) hc dX6_inverts_58 (by decide) ?_
  refine wp_aload_n hc 2 dX6_inverts_59 rfl ?_
  refine wp_iconst (v := 0) hc dX6_inverts_60 (by decide) ?_
  refine wp_aload_n hc 3 dX6_inverts_61 rfl ?_
  refine wp_iconst (v := 2) hc dX6_inverts_62 (by decide) ?_
  refine wp_iald hc hx (j := 109) (by decide) (by decide) rfl 2 rfl (vin (by decide)) dX6_inverts_63 ?_
  refine wp_callSg (As := [.int 0, .int (M6.1 109 2)]) (rest := [.ref (z 100), .int 2, .ref (z 109)]) (v := (fX6_less 0 (M6.1 109 2))) hc hNW (kX6_less l 0 (M6.1 109 2)) cw114 rfl rfl (Nat.le_of_ble_eq_true rfl) dX6_inverts_64 ?_
  refine wp_iload_n hc 1 dX6_inverts_67 rfl ?_
  refine wp_callVw (As := [.int (fX6_less 0 (M6.1 109 2)), .int x1]) (rest := [.int 2, .ref (z 109)]) (j := 100) (w := sX6_over M6 (fX6_less 0 (M6.1 109 2)) x1) hc hx (kX6_over l D cy z hz M6 (fX6_less 0 (M6.1 109 2)) x1) cw123 (by decide) (by decide) (ce_5 rfl) rfl rfl rfl rfl (Nat.le_of_ble_eq_true rfl) dX6_inverts_68 (fun x7 hx7 => ?_)
  refine wp_iast hc hx (j := 109) (by decide) (by decide) rfl 2 rfl (vin (by decide)) dX6_inverts_71 ?_
  refine wp_nm (fun M8 hM8 => ?_)
  refine wp_aload_n hc 3 dX6_inverts_72 rfl ?_
  refine wp_iconst (v := 3) hc dX6_inverts_73 (by decide) ?_
  refine wp_iload_n hc 0 dX6_inverts_74 rfl ?_
  refine wp_iast hc hx (j := 109) (by decide) (by decide) rfl 3 rfl (vin (by decide)) dX6_inverts_75 ?_
  refine wp_nm (fun M9 hM9 => ?_)
  refine wp_vret hc hr hk ?_ dX6_inverts_76
  show M9 = sX6_inverts_1 M
  rw [sX6_inverts_1, tk_eq hx1, tk_eq hx2, tk_eq hx3, tk_eq hM4, tk_eq hx5, tk_eq hM6, tk_eq hx7, tk_eq hM8, tk_eq hM9]
set_option maxRecDepth 10000 in
theorem kpX6_inverts_1 (M : Mem)  : KP M (sX6_inverts_1 M) := by
  unfold sX6_inverts_1
  refine tk_ind (P := KP M) _ _ (fun x1 hx1 => ?_)
  refine tk_ind (P := KP M) _ _ (fun x2 hx2 => ?_)
  have k1 : KP2 M x2 := by rw [hx2]; apply kpX6_over
  refine tk_ind (P := KP M) _ _ (fun x3 hx3 => ?_)
  have k2 : KP2 x2.2 x3 := by rw [hx3]; apply kpX6_over
  refine tk_ind (P := KP M) _ _ (fun M4 hM4 => ?_)
  have k3 : KP x3.2 M4 := by rw [hM4]; exact kp_st (by decide)
  refine tk_ind (P := KP M) _ _ (fun x5 hx5 => ?_)
  have k4 : KP2 M4 x5 := by rw [hx5]; apply kpX6_over
  refine tk_ind (P := KP M) _ _ (fun M6 hM6 => ?_)
  have k5 : KP x5.2 M6 := by rw [hM6]; exact kp_st (by decide)
  refine tk_ind (P := KP M) _ _ (fun x7 hx7 => ?_)
  have k6 : KP2 M6 x7 := by rw [hx7]; apply kpX6_over
  refine tk_ind (P := KP M) _ _ (fun M8 hM8 => ?_)
  have k7 : KP x7.2 M8 := by rw [hM8]; exact kp_st (by decide)
  refine tk_ind (P := KP M) _ _ (fun M9 hM9 => ?_)
  have k8 : KP M8 M9 := by rw [hM9]; exact kp_st (by decide)
  exact (show KP M M9 from KP.trans k1 (KP.trans k2 (KP.trans k3 (KP.trans k4 (KP.trans k5 (KP.trans k6 (KP.trans k7 (k8))))))))
def sX6_formsTo_2 (M : Mem) (i1 : Int32) : Mem :=
  tk (sX6_over M (fX6_less 0 (fX6_detBox M i1)) (M.1 101 ((fX6_boxAt M i1) + 2).toNatClampNeg)) fun x1 =>
  tk (st x1.2 110 0 x1.1) fun M2 =>
  tk (sX6_over M2 (M2.1 101 (fX6_boxAt M i1).toNatClampNeg) (M.1 101 ((fX6_boxAt M i1) + 2).toNatClampNeg)) fun x3 =>
  tk (st x3.2 110 1 x3.1) fun M4 =>
  tk (sX6_over M4 (fX6_less 0 (M4.1 101 ((fX6_boxAt M i1) + 3).toNatClampNeg)) (M.1 101 ((fX6_boxAt M i1) + 2).toNatClampNeg)) fun x5 =>
  tk (st x5.2 110 2 x5.1) fun M6 =>
  tk (sX6_over M6 10007 (M.1 101 ((fX6_boxAt M i1) + 2).toNatClampNeg)) fun x7 =>
  tk (st x7.2 110 3 x7.1) fun M8 =>
  M8
set_option maxHeartbeats 4000000 in
set_option maxRecDepth 100000 in
theorem kX6_formsTo_2 (l : Launch) (D : va_G) (cy : Nat → ClassId) (z : Nat → Nat) (hz : zI z) (M : Mem) (i1 : Int32) (hb : 0 ≤ i1.toInt ∧ i1.toInt < 8) : KV l yX6_formsTo wsX6_formsTo { frames := 5, cells := 0, slots := 0, locals := 112 } D cy z 100 15 [.ref (z 100), .int i1, .ref (z 110)] M (fun u => u = sX6_formsTo_2 M i1) := by
  refine met_wp (lv := [(0, .ref (z 100)), (1, .int i1), (2, .ref (z 110))]) hz (by decide) (by decide) rfl rfl (Nat.le_of_ble_eq_true rfl) rfl ?_
  intro p e s m below meth c hc hx hr hk
  have hNW := hx.2.1
  have hin6 : ∀ w ∈ wsX60, w ∈ wsX6_formsTo := by decide +kernel
  have hf7 : Cond.fieldLink RX6 7 (TX6 0).1 (TX6 0).2.1 (TX6 0).2.2.1 ∈ wsX6_formsTo := by decide +kernel
  have cw85 : CallW ({ frames := 5, cells := 0, slots := 0, locals := 112 }) s _ RX6 RX6 85 yX6_boxAt cX6_boxAt 2 (some .int) wsX6_boxAt ({ frames := 0, cells := 0, slots := 0, locals := 0 }) 0 0 1 := cwV 1 hc.2.2.2.2 gX6_formsTo_X6_boxAt rfl rfl rfl (by decide +kernel) ⟨Nat.le_of_ble_eq_true rfl, Nat.le_of_ble_eq_true rfl⟩
  have cw114 : CallB ({ frames := 5, cells := 0, slots := 0, locals := 112 }) s _ RX6 114 yX6_less cX6_less 2 (some .int) wsX6_less ({ frames := 2, cells := 0, slots := 0, locals := 42 }) 0 0 2 ∧ (Cond.static yX6_less).before _ s = true := va_cwS 2 hc.2.2.2.2 gX6_formsTo_X6_less rfl rfl rfl (by decide +kernel) ⟨Nat.le_of_ble_eq_true rfl, Nat.le_of_ble_eq_true rfl⟩
  have cw123 : CallW ({ frames := 5, cells := 0, slots := 0, locals := 112 }) s _ RX6 RX6 123 yX6_over cX6_over 6 (some .int) wsX6_over ({ frames := 3, cells := 0, slots := 0, locals := 67 }) 0 0 2 := cwV 2 hc.2.2.2.2 gX6_formsTo_X6_over rfl rfl rfl (by decide +kernel) ⟨Nat.le_of_ble_eq_true rfl, Nat.le_of_ble_eq_true rfl⟩
  have cw175 : CallW ({ frames := 5, cells := 0, slots := 0, locals := 112 }) s _ RX6 RX6 175 yX6_detBox cX6_detBox 3 (some .int) wsX6_detBox ({ frames := 4, cells := 0, slots := 0, locals := 90 }) 0 0 1 := cwV 1 hc.2.2.2.2 gX6_formsTo_X6_detBox rfl rfl rfl (by decide +kernel) ⟨Nat.le_of_ble_eq_true rfl, Nat.le_of_ble_eq_true rfl⟩
  refine wp_aload_n hc 0 dX6_formsTo_0 rfl ?_
  refine wp_iload_n hc 1 dX6_formsTo_1 rfl ?_
  refine wp_callVf (As := [.int i1]) (rest := []) (j := 100) (v := (fX6_boxAt M i1)) hc hx (kX6_boxAt l D cy z hz M i1) cw85 (by decide) (by decide) (ce_5 rfl) rfl rfl rfl rfl (Nat.le_of_ble_eq_true rfl) dX6_formsTo_2 ?_
  refine wp_istore_n (lv' := [(3, .int (fX6_boxAt M i1)), (0, .ref (z 100)), (1, .int i1), (2, .ref (z 110))]) hc dX6_formsTo_5 (by decide) rfl ?_
  refine wp_aload_n hc 1 dX6_formsTo_6 rfl ?_
  refine wp_get hc hx hin6 (j := 100) (by decide) (by decide) (ce_5 rfl) rfl 0 (by decide) hf7 rfl dX6_formsTo_7 ?_
  refine wp_iload_n hc 0 dX6_formsTo_10 rfl ?_
  refine wp_iconst (v := 2) hc dX6_formsTo_11 (by decide) ?_
  refine wp_iadd hc dX6_formsTo_12 ?_
  refine wp_iald hc hx (j := 101) (by decide) (by decide) rfl ((fX6_boxAt M i1) + 2).toNatClampNeg rfl (ixbk hb (by decide)) dX6_formsTo_13 ?_
  refine wp_istore (lv' := [(4, .int (M.1 101 ((fX6_boxAt M i1) + 2).toNatClampNeg)), (3, .int (fX6_boxAt M i1)), (0, .ref (z 100)), (1, .int i1), (2, .ref (z 110))]) hc dX6_formsTo_14 (by decide) rfl ?_
  refine wp_aload_n hc 4 dX6_formsTo_16 rfl ?_
  refine wp_iconst (v := 0) hc dX6_formsTo_17 (by decide) ?_
  refine wp_aload_n hc 2 dX6_formsTo_18 rfl ?_
  refine wp_iconst (v := 0) hc dX6_formsTo_19 (by decide) ?_
  refine wp_aload_n hc 2 dX6_formsTo_20 rfl ?_
  refine wp_iload_n hc 3 dX6_formsTo_21 rfl ?_
  refine wp_callVf (As := [.int i1]) (rest := [.int 0, .ref (z 100), .int 0, .ref (z 110)]) (j := 100) (v := (fX6_detBox M i1)) hc hx (kX6_detBox l D cy z hz M i1 hb) cw175 (by decide) (by decide) (ce_5 rfl) rfl rfl rfl rfl (Nat.le_of_ble_eq_true rfl) dX6_formsTo_22 ?_
  refine wp_callSg (As := [.int 0, .int (fX6_detBox M i1)]) (rest := [.ref (z 100), .int 0, .ref (z 110)]) (v := (fX6_less 0 (fX6_detBox M i1))) hc hNW (kX6_less l 0 (fX6_detBox M i1)) cw114 rfl rfl (Nat.le_of_ble_eq_true rfl) dX6_formsTo_25 ?_
  refine wp_iload hc 0 dX6_formsTo_28 rfl ?_
  refine wp_callVw (As := [.int (fX6_less 0 (fX6_detBox M i1)), .int (M.1 101 ((fX6_boxAt M i1) + 2).toNatClampNeg)]) (rest := [.int 0, .ref (z 110)]) (j := 100) (w := sX6_over M (fX6_less 0 (fX6_detBox M i1)) (M.1 101 ((fX6_boxAt M i1) + 2).toNatClampNeg)) hc hx (kX6_over l D cy z hz M (fX6_less 0 (fX6_detBox M i1)) (M.1 101 ((fX6_boxAt M i1) + 2).toNatClampNeg)) cw123 (by decide) (by decide) (ce_5 rfl) rfl rfl rfl rfl (Nat.le_of_ble_eq_true rfl) dX6_formsTo_30 (fun x1 hx1 => ?_)
  refine wp_iast hc hx (j := 110) (by decide) (by decide) rfl 0 rfl (vin (by decide)) dX6_formsTo_33 ?_
  refine wp_nm (fun M2 hM2 => ?_)
  refine wp_aload_n hc 4 dX6_formsTo_34 rfl ?_
  refine wp_iconst (v := 1) hc dX6_formsTo_35 (by decide) ?_
  refine wp_aload_n hc 2 dX6_formsTo_36 rfl ?_
  refine wp_aload_n hc 2 dX6_formsTo_37 rfl ?_
  refine wp_get hc hx hin6 (j := 100) (by decide) (by decide) (ce_5 rfl) rfl 0 (by decide) hf7 rfl dX6_formsTo_38 ?_
  refine wp_iload_n hc 1 dX6_formsTo_41 rfl ?_
  refine wp_iald hc hx (j := 101) (by decide) (by decide) rfl (fX6_boxAt M i1).toNatClampNeg rfl (ixb hb) dX6_formsTo_42 ?_
  refine wp_iload hc 0 dX6_formsTo_43 rfl ?_
  refine wp_callVw (As := [.int (M2.1 101 (fX6_boxAt M i1).toNatClampNeg), .int (M.1 101 ((fX6_boxAt M i1) + 2).toNatClampNeg)]) (rest := [.int 1, .ref (z 110)]) (j := 100) (w := sX6_over M2 (M2.1 101 (fX6_boxAt M i1).toNatClampNeg) (M.1 101 ((fX6_boxAt M i1) + 2).toNatClampNeg)) hc hx (kX6_over l D cy z hz M2 (M2.1 101 (fX6_boxAt M i1).toNatClampNeg) (M.1 101 ((fX6_boxAt M i1) + 2).toNatClampNeg)) cw123 (by decide) (by decide) (ce_5 rfl) rfl rfl rfl rfl (Nat.le_of_ble_eq_true rfl) dX6_formsTo_45 (fun x3 hx3 => ?_)
  refine wp_iast hc hx (j := 110) (by decide) (by decide) rfl 1 rfl (vin (by decide)) dX6_formsTo_48 ?_
  refine wp_nm (fun M4 hM4 => ?_)
  refine wp_aload_n hc 4 dX6_formsTo_49 rfl ?_
  refine wp_iconst (v := 2) hc dX6_formsTo_50 (by decide) ?_
  refine wp_aload_n hc 2 dX6_formsTo_51 rfl ?_
  refine wp_iconst (v := 0) hc dX6_formsTo_52 (by decide) ?_
  refine wp_aload_n hc 2 dX6_formsTo_53 rfl ?_
  refine wp_get hc hx hin6 (j := 100) (by decide) (by decide) (ce_5 rfl) rfl 0 (by decide) hf7 rfl dX6_formsTo_54 ?_
  refine wp_iload_n hc 1 dX6_formsTo_57 rfl ?_
  refine wp_iconst (v := 3) hc dX6_formsTo_58 (by decide) ?_
  refine wp_iadd hc dX6_formsTo_59 ?_
  refine wp_iald hc hx (j := 101) (by decide) (by decide) rfl ((fX6_boxAt M i1) + 3).toNatClampNeg rfl (ixbk hb (by decide)) dX6_formsTo_60 ?_
  refine wp_callSg (As := [.int 0, .int (M4.1 101 ((fX6_boxAt M i1) + 3).toNatClampNeg)]) (rest := [.ref (z 100), .int 2, .ref (z 110)]) (v := (fX6_less 0 (M4.1 101 ((fX6_boxAt M i1) + 3).toNatClampNeg))) hc hNW (kX6_less l 0 (M4.1 101 ((fX6_boxAt M i1) + 3).toNatClampNeg)) cw114 rfl rfl (Nat.le_of_ble_eq_true rfl) dX6_formsTo_61 ?_
  refine wp_iload hc 0 dX6_formsTo_64 rfl ?_
  refine wp_callVw (As := [.int (fX6_less 0 (M4.1 101 ((fX6_boxAt M i1) + 3).toNatClampNeg)), .int (M.1 101 ((fX6_boxAt M i1) + 2).toNatClampNeg)]) (rest := [.int 2, .ref (z 110)]) (j := 100) (w := sX6_over M4 (fX6_less 0 (M4.1 101 ((fX6_boxAt M i1) + 3).toNatClampNeg)) (M.1 101 ((fX6_boxAt M i1) + 2).toNatClampNeg)) hc hx (kX6_over l D cy z hz M4 (fX6_less 0 (M4.1 101 ((fX6_boxAt M i1) + 3).toNatClampNeg)) (M.1 101 ((fX6_boxAt M i1) + 2).toNatClampNeg)) cw123 (by decide) (by decide) (ce_5 rfl) rfl rfl rfl rfl (Nat.le_of_ble_eq_true rfl) dX6_formsTo_66 (fun x5 hx5 => ?_)
  refine wp_iast hc hx (j := 110) (by decide) (by decide) rfl 2 rfl (vin (by decide)) dX6_formsTo_69 ?_
  refine wp_nm (fun M6 hM6 => ?_)
  refine wp_aload_n hc 4 dX6_formsTo_70 rfl ?_
  refine wp_iconst (v := 3) hc dX6_formsTo_71 (by decide) ?_
  refine wp_aload_n hc 2 dX6_formsTo_72 rfl ?_
  refine wp_sipush (v := 10007) hc dX6_formsTo_73 (by decide) ?_
  refine wp_iload hc 0 dX6_formsTo_76 rfl ?_
  refine wp_callVw (As := [.int 10007, .int (M.1 101 ((fX6_boxAt M i1) + 2).toNatClampNeg)]) (rest := [.int 3, .ref (z 110)]) (j := 100) (w := sX6_over M6 10007 (M.1 101 ((fX6_boxAt M i1) + 2).toNatClampNeg)) hc hx (kX6_over l D cy z hz M6 10007 (M.1 101 ((fX6_boxAt M i1) + 2).toNatClampNeg)) cw123 (by decide) (by decide) (ce_5 rfl) rfl rfl rfl rfl (Nat.le_of_ble_eq_true rfl) dX6_formsTo_78 (fun x7 hx7 => ?_)
  refine wp_iast hc hx (j := 110) (by decide) (by decide) rfl 3 rfl (vin (by decide)) dX6_formsTo_81 ?_
  refine wp_nm (fun M8 hM8 => ?_)
  refine wp_vret hc hr hk ?_ dX6_formsTo_82
  show M8 = sX6_formsTo_2 M i1
  rw [sX6_formsTo_2, tk_eq hx1, tk_eq hM2, tk_eq hx3, tk_eq hM4, tk_eq hx5, tk_eq hM6, tk_eq hx7, tk_eq hM8]
set_option maxRecDepth 10000 in
theorem kpX6_formsTo_2 (M : Mem) (i1 : Int32) : KP M (sX6_formsTo_2 M i1) := by
  unfold sX6_formsTo_2
  refine tk_ind (P := KP M) _ _ (fun x1 hx1 => ?_)
  have k1 : KP2 M x1 := by rw [hx1]; apply kpX6_over
  refine tk_ind (P := KP M) _ _ (fun M2 hM2 => ?_)
  have k2 : KP x1.2 M2 := by rw [hM2]; exact kp_st (by decide)
  refine tk_ind (P := KP M) _ _ (fun x3 hx3 => ?_)
  have k3 : KP2 M2 x3 := by rw [hx3]; apply kpX6_over
  refine tk_ind (P := KP M) _ _ (fun M4 hM4 => ?_)
  have k4 : KP x3.2 M4 := by rw [hM4]; exact kp_st (by decide)
  refine tk_ind (P := KP M) _ _ (fun x5 hx5 => ?_)
  have k5 : KP2 M4 x5 := by rw [hx5]; apply kpX6_over
  refine tk_ind (P := KP M) _ _ (fun M6 hM6 => ?_)
  have k6 : KP x5.2 M6 := by rw [hM6]; exact kp_st (by decide)
  refine tk_ind (P := KP M) _ _ (fun x7 hx7 => ?_)
  have k7 : KP2 M6 x7 := by rw [hx7]; apply kpX6_over
  refine tk_ind (P := KP M) _ _ (fun M8 hM8 => ?_)
  have k8 : KP x7.2 M8 := by rw [hM8]; exact kp_st (by decide)
  exact (show KP M M8 from KP.trans k1 (KP.trans k2 (KP.trans k3 (KP.trans k4 (KP.trans k5 (KP.trans k6 (KP.trans k7 (k8))))))))
def sX6_inverts_2 (M : Mem)  : Mem :=
  tk ((fX6_less (fX6_by (M.1 110 0) (M.1 110 3)) (fX6_by (M.1 110 1) (M.1 110 2)))) fun x1 =>
  tk (sX6_over M (M.1 110 0) x1) fun x2 =>
  tk (sX6_over x2.2 (x2.2.1 110 3) x1) fun x3 =>
  tk (st x3.2 110 0 x3.1) fun M4 =>
  tk (sX6_over M4 (fX6_less 0 (M4.1 110 1)) x1) fun x5 =>
  tk (st x5.2 110 1 x5.1) fun M6 =>
  tk (sX6_over M6 (fX6_less 0 (M6.1 110 2)) x1) fun x7 =>
  tk (st x7.2 110 2 x7.1) fun M8 =>
  tk (st M8 110 3 x2.1) fun M9 =>
  M9
set_option maxHeartbeats 4000000 in
set_option maxRecDepth 100000 in
theorem kX6_inverts_2 (l : Launch) (D : va_G) (cy : Nat → ClassId) (z : Nat → Nat) (hz : zI z) (M : Mem)  : KV l yX6_inverts wsX6_inverts { frames := 4, cells := 0, slots := 0, locals := 92 } D cy z 100 15 [.ref (z 100), .ref (z 110)] M (fun u => u = sX6_inverts_2 M) := by
  refine met_wp (lv := [(0, .ref (z 100)), (1, .ref (z 110))]) hz (by decide) (by decide) rfl rfl (Nat.le_of_ble_eq_true rfl) rfl ?_
  intro p e s m below meth c hc hx hr hk
  have hNW := hx.2.1
  have cw78 : CallB ({ frames := 4, cells := 0, slots := 0, locals := 92 }) s _ RX6 78 yX6_by cX6_by 6 (some .int) wsX6_by ({ frames := 2, cells := 0, slots := 0, locals := 42 }) 0 0 2 ∧ (Cond.static yX6_by).before _ s = true := va_cwS 2 hc.2.2.2.2 gX6_inverts_X6_by rfl rfl rfl (by decide +kernel) ⟨Nat.le_of_ble_eq_true rfl, Nat.le_of_ble_eq_true rfl⟩
  have cw114 : CallB ({ frames := 4, cells := 0, slots := 0, locals := 92 }) s _ RX6 114 yX6_less cX6_less 2 (some .int) wsX6_less ({ frames := 2, cells := 0, slots := 0, locals := 42 }) 0 0 2 ∧ (Cond.static yX6_less).before _ s = true := va_cwS 2 hc.2.2.2.2 gX6_inverts_X6_less rfl rfl rfl (by decide +kernel) ⟨Nat.le_of_ble_eq_true rfl, Nat.le_of_ble_eq_true rfl⟩
  have cw123 : CallW ({ frames := 4, cells := 0, slots := 0, locals := 92 }) s _ RX6 RX6 123 yX6_over cX6_over 6 (some .int) wsX6_over ({ frames := 3, cells := 0, slots := 0, locals := 67 }) 0 0 2 := cwV 2 hc.2.2.2.2 gX6_inverts_X6_over rfl rfl rfl (by decide +kernel) ⟨Nat.le_of_ble_eq_true rfl, Nat.le_of_ble_eq_true rfl⟩
  refine wp_aload_n hc 1 dX6_inverts_0 rfl ?_
  refine wp_iconst (v := 0) hc dX6_inverts_1 (by decide) ?_
  refine wp_iald hc hx (j := 110) (by decide) (by decide) rfl 0 rfl (vin (by decide)) dX6_inverts_2 ?_
  refine wp_aload_n hc 1 dX6_inverts_3 rfl ?_
  refine wp_iconst (v := 3) hc dX6_inverts_4 (by decide) ?_
  refine wp_iald hc hx (j := 110) (by decide) (by decide) rfl 3 rfl (vin (by decide)) dX6_inverts_5 ?_
  refine wp_callSg (As := [.int (M.1 110 0), .int (M.1 110 3)]) (rest := []) (v := (fX6_by (M.1 110 0) (M.1 110 3))) hc hNW (kX6_by l (M.1 110 0) (M.1 110 3)) cw78 rfl rfl (Nat.le_of_ble_eq_true rfl) dX6_inverts_6 ?_
  refine wp_aload_n hc 1 dX6_inverts_9 rfl ?_
  refine wp_iconst (v := 1) hc dX6_inverts_10 (by decide) ?_
  refine wp_iald hc hx (j := 110) (by decide) (by decide) rfl 1 rfl (vin (by decide)) dX6_inverts_11 ?_
  refine wp_aload_n hc 1 dX6_inverts_12 rfl ?_
  refine wp_iconst (v := 2) hc dX6_inverts_13 (by decide) ?_
  refine wp_iald hc hx (j := 110) (by decide) (by decide) rfl 2 rfl (vin (by decide)) dX6_inverts_14 ?_
  refine wp_callSg (As := [.int (M.1 110 1), .int (M.1 110 2)]) (rest := [.int (fX6_by (M.1 110 0) (M.1 110 3))]) (v := (fX6_by (M.1 110 1) (M.1 110 2))) hc hNW (kX6_by l (M.1 110 1) (M.1 110 2)) cw78 rfl rfl (Nat.le_of_ble_eq_true rfl) dX6_inverts_15 ?_
  refine wp_callSg (As := [.int (fX6_by (M.1 110 0) (M.1 110 3)), .int (fX6_by (M.1 110 1) (M.1 110 2))]) (rest := []) (v := (fX6_less (fX6_by (M.1 110 0) (M.1 110 3)) (fX6_by (M.1 110 1) (M.1 110 2)))) hc hNW (kX6_less l (fX6_by (M.1 110 0) (M.1 110 3)) (fX6_by (M.1 110 1) (M.1 110 2))) cw114 rfl rfl (Nat.le_of_ble_eq_true rfl) dX6_inverts_18 ?_
  refine wp_topi (fun x1 hx1 => ?_)
  refine wp_istore_n (lv' := [(2, .int x1), (0, .ref (z 100)), (1, .ref (z 110))]) hc dX6_inverts_21 (by decide) rfl ?_
  refine wp_aload_n hc 1 dX6_inverts_22 rfl ?_
  refine wp_aload_n hc 2 dX6_inverts_23 rfl ?_
  refine wp_iconst (v := 0) hc dX6_inverts_24 (by decide) ?_
  refine wp_iald hc hx (j := 110) (by decide) (by decide) rfl 0 rfl (vin (by decide)) dX6_inverts_25 ?_
  refine wp_iload_n hc 0 dX6_inverts_26 rfl ?_
  refine wp_callVw (As := [.int (M.1 110 0), .int x1]) (rest := []) (j := 100) (w := sX6_over M (M.1 110 0) x1) hc hx (kX6_over l D cy z hz M (M.1 110 0) x1) cw123 (by decide) (by decide) (ce_5 rfl) rfl rfl rfl rfl (Nat.le_of_ble_eq_true rfl) dX6_inverts_27 (fun x2 hx2 => ?_)
  refine wp_istore_n (lv' := [(3, .int x2.1), (2, .int x1), (0, .ref (z 100)), (1, .ref (z 110))]) hc dX6_inverts_30 (by decide) rfl ?_
  refine wp_aload_n hc 3 dX6_inverts_31 rfl ?_
  refine wp_iconst (v := 0) hc dX6_inverts_32 (by decide) ?_
  refine wp_aload_n hc 2 dX6_inverts_33 rfl ?_
  refine wp_aload_n hc 3 dX6_inverts_34 rfl ?_
  refine wp_iconst (v := 3) hc dX6_inverts_35 (by decide) ?_
  refine wp_iald hc hx (j := 110) (by decide) (by decide) rfl 3 rfl (vin (by decide)) dX6_inverts_36 ?_
  refine wp_iload_n hc 1 dX6_inverts_37 rfl ?_
  refine wp_callVw (As := [.int (x2.2.1 110 3), .int x1]) (rest := [.int 0, .ref (z 110)]) (j := 100) (w := sX6_over x2.2 (x2.2.1 110 3) x1) hc hx (kX6_over l D cy z hz x2.2 (x2.2.1 110 3) x1) cw123 (by decide) (by decide) (ce_5 rfl) rfl rfl rfl rfl (Nat.le_of_ble_eq_true rfl) dX6_inverts_38 (fun x3 hx3 => ?_)
  refine wp_iast hc hx (j := 110) (by decide) (by decide) rfl 0 rfl (vin (by decide)) dX6_inverts_41 ?_
  refine wp_nm (fun M4 hM4 => ?_)
  refine wp_aload_n hc 3 dX6_inverts_42 rfl ?_
  refine wp_iconst (v := 1) hc dX6_inverts_43 (by decide) ?_
  refine wp_aload_n hc 2 dX6_inverts_44 rfl ?_
  refine wp_iconst (v := 0) hc dX6_inverts_45 (by decide) ?_
  refine wp_aload_n hc 3 dX6_inverts_46 rfl ?_
  refine wp_iconst (v := 1) hc dX6_inverts_47 (by decide) ?_
  refine wp_iald hc hx (j := 110) (by decide) (by decide) rfl 1 rfl (vin (by decide)) dX6_inverts_48 ?_
  refine wp_callSg (As := [.int 0, .int (M4.1 110 1)]) (rest := [.ref (z 100), .int 1, .ref (z 110)]) (v := (fX6_less 0 (M4.1 110 1))) hc hNW (kX6_less l 0 (M4.1 110 1)) cw114 rfl rfl (Nat.le_of_ble_eq_true rfl) dX6_inverts_49 ?_
  refine wp_iload_n hc 1 dX6_inverts_52 rfl ?_
  refine wp_callVw (As := [.int (fX6_less 0 (M4.1 110 1)), .int x1]) (rest := [.int 1, .ref (z 110)]) (j := 100) (w := sX6_over M4 (fX6_less 0 (M4.1 110 1)) x1) hc hx (kX6_over l D cy z hz M4 (fX6_less 0 (M4.1 110 1)) x1) cw123 (by decide) (by decide) (ce_5 rfl) rfl rfl rfl rfl (Nat.le_of_ble_eq_true rfl) dX6_inverts_53 (fun x5 hx5 => ?_)
  refine wp_iast hc hx (j := 110) (by decide) (by decide) rfl 1 rfl (vin (by decide)) dX6_inverts_56 ?_
  refine wp_nm (fun M6 hM6 => ?_)
  refine wp_aload_n hc 3 dX6_inverts_57 rfl ?_
  refine wp_iconst (v := 2) hc dX6_inverts_58 (by decide) ?_
  refine wp_aload_n hc 2 dX6_inverts_59 rfl ?_
  refine wp_iconst (v := 0) hc dX6_inverts_60 (by decide) ?_
  refine wp_aload_n hc 3 dX6_inverts_61 rfl ?_
  refine wp_iconst (v := 2) hc dX6_inverts_62 (by decide) ?_
  refine wp_iald hc hx (j := 110) (by decide) (by decide) rfl 2 rfl (vin (by decide)) dX6_inverts_63 ?_
  refine wp_callSg (As := [.int 0, .int (M6.1 110 2)]) (rest := [.ref (z 100), .int 2, .ref (z 110)]) (v := (fX6_less 0 (M6.1 110 2))) hc hNW (kX6_less l 0 (M6.1 110 2)) cw114 rfl rfl (Nat.le_of_ble_eq_true rfl) dX6_inverts_64 ?_
  refine wp_iload_n hc 1 dX6_inverts_67 rfl ?_
  refine wp_callVw (As := [.int (fX6_less 0 (M6.1 110 2)), .int x1]) (rest := [.int 2, .ref (z 110)]) (j := 100) (w := sX6_over M6 (fX6_less 0 (M6.1 110 2)) x1) hc hx (kX6_over l D cy z hz M6 (fX6_less 0 (M6.1 110 2)) x1) cw123 (by decide) (by decide) (ce_5 rfl) rfl rfl rfl rfl (Nat.le_of_ble_eq_true rfl) dX6_inverts_68 (fun x7 hx7 => ?_)
  refine wp_iast hc hx (j := 110) (by decide) (by decide) rfl 2 rfl (vin (by decide)) dX6_inverts_71 ?_
  refine wp_nm (fun M8 hM8 => ?_)
  refine wp_aload_n hc 3 dX6_inverts_72 rfl ?_
  refine wp_iconst (v := 3) hc dX6_inverts_73 (by decide) ?_
  refine wp_iload_n hc 0 dX6_inverts_74 rfl ?_
  refine wp_iast hc hx (j := 110) (by decide) (by decide) rfl 3 rfl (vin (by decide)) dX6_inverts_75 ?_
  refine wp_nm (fun M9 hM9 => ?_)
  refine wp_vret hc hr hk ?_ dX6_inverts_76
  show M9 = sX6_inverts_2 M
  rw [sX6_inverts_2, tk_eq hx1, tk_eq hx2, tk_eq hx3, tk_eq hM4, tk_eq hx5, tk_eq hM6, tk_eq hx7, tk_eq hM8, tk_eq hM9]
set_option maxRecDepth 10000 in
theorem kpX6_inverts_2 (M : Mem)  : KP M (sX6_inverts_2 M) := by
  unfold sX6_inverts_2
  refine tk_ind (P := KP M) _ _ (fun x1 hx1 => ?_)
  refine tk_ind (P := KP M) _ _ (fun x2 hx2 => ?_)
  have k1 : KP2 M x2 := by rw [hx2]; apply kpX6_over
  refine tk_ind (P := KP M) _ _ (fun x3 hx3 => ?_)
  have k2 : KP2 x2.2 x3 := by rw [hx3]; apply kpX6_over
  refine tk_ind (P := KP M) _ _ (fun M4 hM4 => ?_)
  have k3 : KP x3.2 M4 := by rw [hM4]; exact kp_st (by decide)
  refine tk_ind (P := KP M) _ _ (fun x5 hx5 => ?_)
  have k4 : KP2 M4 x5 := by rw [hx5]; apply kpX6_over
  refine tk_ind (P := KP M) _ _ (fun M6 hM6 => ?_)
  have k5 : KP x5.2 M6 := by rw [hM6]; exact kp_st (by decide)
  refine tk_ind (P := KP M) _ _ (fun x7 hx7 => ?_)
  have k6 : KP2 M6 x7 := by rw [hx7]; apply kpX6_over
  refine tk_ind (P := KP M) _ _ (fun M8 hM8 => ?_)
  have k7 : KP x7.2 M8 := by rw [hM8]; exact kp_st (by decide)
  refine tk_ind (P := KP M) _ _ (fun M9 hM9 => ?_)
  have k8 : KP M8 M9 := by rw [hM9]; exact kp_st (by decide)
  exact (show KP M M9 from KP.trans k1 (KP.trans k2 (KP.trans k3 (KP.trans k4 (KP.trans k5 (KP.trans k6 (KP.trans k7 (k8))))))))
def sX6_multiplies (M : Mem)  : Mem :=
  tk (st M 111 0 (fX6_plus (fX6_by (M.1 109 0) (M.1 110 0)) (fX6_by (M.1 109 1) (M.1 110 2)))) fun M1 =>
  tk (st M1 111 1 (fX6_plus (fX6_by (M1.1 109 0) (M1.1 110 1)) (fX6_by (M1.1 109 1) (M1.1 110 3)))) fun M2 =>
  tk (st M2 111 2 (fX6_plus (fX6_by (M2.1 109 2) (M2.1 110 0)) (fX6_by (M2.1 109 3) (M2.1 110 2)))) fun M3 =>
  tk (st M3 111 3 (fX6_plus (fX6_by (M3.1 109 2) (M3.1 110 1)) (fX6_by (M3.1 109 3) (M3.1 110 3)))) fun M4 =>
  M4
set_option maxHeartbeats 4000000 in
set_option maxRecDepth 100000 in
theorem kX6_multiplies (l : Launch) (D : va_G) (cy : Nat → ClassId) (z : Nat → Nat) (hz : zI z) (M : Mem)  : KV l yX6_multiplies wsX6_multiplies { frames := 3, cells := 0, slots := 0, locals := 67 } D cy z 100 15 [.ref (z 100)] M (fun u => u = sX6_multiplies M) := by
  refine met_wp (lv := [(0, .ref (z 100))]) hz (by decide) (by decide) rfl rfl (Nat.le_of_ble_eq_true rfl) rfl ?_
  intro p e s m below meth c hc hx hr hk
  have hNW := hx.2.1
  have hin6 : ∀ w ∈ wsX60, w ∈ wsX6_multiplies := by decide +kernel
  have hf34 : Cond.fieldLink RX6 34 (TX6 11).1 (TX6 11).2.1 (TX6 11).2.2.1 ∈ wsX6_multiplies := by decide +kernel
  have hf37 : Cond.fieldLink RX6 37 (TX6 12).1 (TX6 12).2.1 (TX6 12).2.2.1 ∈ wsX6_multiplies := by decide +kernel
  have hf40 : Cond.fieldLink RX6 40 (TX6 13).1 (TX6 13).2.1 (TX6 13).2.2.1 ∈ wsX6_multiplies := by decide +kernel
  have cw78 : CallB ({ frames := 3, cells := 0, slots := 0, locals := 67 }) s _ RX6 78 yX6_by cX6_by 6 (some .int) wsX6_by ({ frames := 2, cells := 0, slots := 0, locals := 42 }) 0 0 2 ∧ (Cond.static yX6_by).before _ s = true := va_cwS 2 hc.2.2.2.2 gX6_multiplies_X6_by rfl rfl rfl (by decide +kernel) ⟨Nat.le_of_ble_eq_true rfl, Nat.le_of_ble_eq_true rfl⟩
  have cw117 : CallB ({ frames := 3, cells := 0, slots := 0, locals := 67 }) s _ RX6 117 yX6_plus cX6_plus 2 (some .int) wsX6_plus ({ frames := 2, cells := 0, slots := 0, locals := 42 }) 0 0 2 ∧ (Cond.static yX6_plus).before _ s = true := va_cwS 2 hc.2.2.2.2 gX6_multiplies_X6_plus rfl rfl rfl (by decide +kernel) ⟨Nat.le_of_ble_eq_true rfl, Nat.le_of_ble_eq_true rfl⟩
  refine wp_iconst (v := 0) hc dX6_multiplies_0 (by decide) ?_
  refine wp_istore_n (lv' := [(1, .int 0), (0, .ref (z 100))]) hc dX6_multiplies_1 (by decide) rfl ?_
  refine wp_iload_n hc 0 dX6_multiplies_2 rfl ?_
  refine wp_iconst (v := 4) hc dX6_multiplies_3 (by decide) ?_
  refine wp_icmp_ge (tgt := 66) hc dX6_multiplies_4 (by decide) (fun c => absurd c (by decide)) (fun _ => ?_)
  refine wp_iload_n hc 0 dX6_multiplies_7 rfl ?_
  refine wp_iconst (v := 2) hc dX6_multiplies_8 (by decide) ?_
  refine wp_idiv hc dX6_multiplies_9 (by decide) ?_
  refine wp_cvt (v := 0) (by decide) ?_
  refine wp_iconst (v := 2) hc dX6_multiplies_10 (by decide) ?_
  refine wp_imul hc dX6_multiplies_11 ?_
  refine wp_cvt (v := 0) (by decide) ?_
  refine wp_istore_n (lv' := [(2, .int 0), (1, .int 0), (0, .ref (z 100))]) hc dX6_multiplies_12 (by decide) rfl ?_
  refine wp_iload_n hc 1 dX6_multiplies_13 rfl ?_
  refine wp_iconst (v := 2) hc dX6_multiplies_14 (by decide) ?_
  refine wp_iremR hc dX6_multiplies_15 (by decide) ?_
  refine wp_cvt (v := 0) (by decide) ?_
  refine wp_istore_n (lv' := [(3, .int 0), (2, .int 0), (1, .int 0), (0, .ref (z 100))]) hc dX6_multiplies_16 (by decide) rfl ?_
  refine wp_aload_n hc 3 dX6_multiplies_17 rfl ?_
  refine wp_get hc hx hin6 (j := 100) (by decide) (by decide) (ce_5 rfl) rfl 13 (by decide) hf40 rfl dX6_multiplies_18 ?_
  refine wp_iload_n hc 2 dX6_multiplies_21 rfl ?_
  refine wp_aload_n hc 3 dX6_multiplies_22 rfl ?_
  refine wp_get hc hx hin6 (j := 100) (by decide) (by decide) (ce_5 rfl) rfl 11 (by decide) hf34 rfl dX6_multiplies_23 ?_
  refine wp_iload_n hc 1 dX6_multiplies_26 rfl ?_
  refine wp_iald hc hx (j := 109) (by decide) (by decide) rfl 0 rfl (vin (by decide)) dX6_multiplies_27 ?_
  refine wp_aload_n hc 3 dX6_multiplies_28 rfl ?_
  refine wp_get hc hx hin6 (j := 100) (by decide) (by decide) (ce_5 rfl) rfl 12 (by decide) hf37 rfl dX6_multiplies_29 ?_
  refine wp_iload_n hc 0 dX6_multiplies_32 rfl ?_
  refine wp_iald hc hx (j := 110) (by decide) (by decide) rfl 0 rfl (vin (by decide)) dX6_multiplies_33 ?_
  refine wp_callSg (As := [.int (M.1 109 0), .int (M.1 110 0)]) (rest := [.int 0, .ref (z 111)]) (v := (fX6_by (M.1 109 0) (M.1 110 0))) hc hNW (kX6_by l (M.1 109 0) (M.1 110 0)) cw78 rfl rfl (Nat.le_of_ble_eq_true rfl) dX6_multiplies_34 ?_
  refine wp_aload_n hc 3 dX6_multiplies_37 rfl ?_
  refine wp_get hc hx hin6 (j := 100) (by decide) (by decide) (ce_5 rfl) rfl 11 (by decide) hf34 rfl dX6_multiplies_38 ?_
  refine wp_iload_n hc 1 dX6_multiplies_41 rfl ?_
  refine wp_iconst (v := 1) hc dX6_multiplies_42 (by decide) ?_
  refine wp_iadd hc dX6_multiplies_43 ?_
  refine wp_cvt (v := 1) (by decide) ?_
  refine wp_iald hc hx (j := 109) (by decide) (by decide) rfl 1 rfl (vin (by decide)) dX6_multiplies_44 ?_
  refine wp_aload_n hc 3 dX6_multiplies_45 rfl ?_
  refine wp_get hc hx hin6 (j := 100) (by decide) (by decide) (ce_5 rfl) rfl 12 (by decide) hf37 rfl dX6_multiplies_46 ?_
  refine wp_iload_n hc 0 dX6_multiplies_49 rfl ?_
  refine wp_iconst (v := 2) hc dX6_multiplies_50 (by decide) ?_
  refine wp_iadd hc dX6_multiplies_51 ?_
  refine wp_cvt (v := 2) (by decide) ?_
  refine wp_iald hc hx (j := 110) (by decide) (by decide) rfl 2 rfl (vin (by decide)) dX6_multiplies_52 ?_
  refine wp_callSg (As := [.int (M.1 109 1), .int (M.1 110 2)]) (rest := [.int (fX6_by (M.1 109 0) (M.1 110 0)), .int 0, .ref (z 111)]) (v := (fX6_by (M.1 109 1) (M.1 110 2))) hc hNW (kX6_by l (M.1 109 1) (M.1 110 2)) cw78 rfl rfl (Nat.le_of_ble_eq_true rfl) dX6_multiplies_53 ?_
  refine wp_callSg (As := [.int (fX6_by (M.1 109 0) (M.1 110 0)), .int (fX6_by (M.1 109 1) (M.1 110 2))]) (rest := [.int 0, .ref (z 111)]) (v := (fX6_plus (fX6_by (M.1 109 0) (M.1 110 0)) (fX6_by (M.1 109 1) (M.1 110 2)))) hc hNW (kX6_plus l (fX6_by (M.1 109 0) (M.1 110 0)) (fX6_by (M.1 109 1) (M.1 110 2))) cw117 rfl rfl (Nat.le_of_ble_eq_true rfl) dX6_multiplies_56 ?_
  refine wp_iast hc hx (j := 111) (by decide) (by decide) rfl 0 rfl (vin (by decide)) dX6_multiplies_59 ?_
  refine wp_nm (fun M1 hM1 => ?_)
  refine wp_iinc (v := 1) (lv' := [(1, .int 1), (3, .int 0), (2, .int 0), (0, .ref (z 100))]) hc 2 dX6_multiplies_60 rfl (by decide) (by decide) rfl ?_
  refine wp_goto (tgt := 2) hc dX6_multiplies_63 (by decide) ?_
  refine wp_iload_n hc 0 dX6_multiplies_2 rfl ?_
  refine wp_iconst (v := 4) hc dX6_multiplies_3 (by decide) ?_
  refine wp_icmp_ge (tgt := 66) hc dX6_multiplies_4 (by decide) (fun c => absurd c (by decide)) (fun _ => ?_)
  refine wp_iload_n hc 0 dX6_multiplies_7 rfl ?_
  refine wp_iconst (v := 2) hc dX6_multiplies_8 (by decide) ?_
  refine wp_idiv hc dX6_multiplies_9 (by decide) ?_
  refine wp_cvt (v := 0) (by decide) ?_
  refine wp_iconst (v := 2) hc dX6_multiplies_10 (by decide) ?_
  refine wp_imul hc dX6_multiplies_11 ?_
  refine wp_cvt (v := 0) (by decide) ?_
  refine wp_istore_n (lv' := [(2, .int 0), (1, .int 1), (3, .int 0), (0, .ref (z 100))]) hc dX6_multiplies_12 (by decide) rfl ?_
  refine wp_iload_n hc 1 dX6_multiplies_13 rfl ?_
  refine wp_iconst (v := 2) hc dX6_multiplies_14 (by decide) ?_
  refine wp_iremR hc dX6_multiplies_15 (by decide) ?_
  refine wp_cvt (v := 1) (by decide) ?_
  refine wp_istore_n (lv' := [(3, .int 1), (2, .int 0), (1, .int 1), (0, .ref (z 100))]) hc dX6_multiplies_16 (by decide) rfl ?_
  refine wp_aload_n hc 3 dX6_multiplies_17 rfl ?_
  refine wp_get hc hx hin6 (j := 100) (by decide) (by decide) (ce_5 rfl) rfl 13 (by decide) hf40 rfl dX6_multiplies_18 ?_
  refine wp_iload_n hc 2 dX6_multiplies_21 rfl ?_
  refine wp_aload_n hc 3 dX6_multiplies_22 rfl ?_
  refine wp_get hc hx hin6 (j := 100) (by decide) (by decide) (ce_5 rfl) rfl 11 (by decide) hf34 rfl dX6_multiplies_23 ?_
  refine wp_iload_n hc 1 dX6_multiplies_26 rfl ?_
  refine wp_iald hc hx (j := 109) (by decide) (by decide) rfl 0 rfl (vin (by decide)) dX6_multiplies_27 ?_
  refine wp_aload_n hc 3 dX6_multiplies_28 rfl ?_
  refine wp_get hc hx hin6 (j := 100) (by decide) (by decide) (ce_5 rfl) rfl 12 (by decide) hf37 rfl dX6_multiplies_29 ?_
  refine wp_iload_n hc 0 dX6_multiplies_32 rfl ?_
  refine wp_iald hc hx (j := 110) (by decide) (by decide) rfl 1 rfl (vin (by decide)) dX6_multiplies_33 ?_
  refine wp_callSg (As := [.int (M1.1 109 0), .int (M1.1 110 1)]) (rest := [.int 1, .ref (z 111)]) (v := (fX6_by (M1.1 109 0) (M1.1 110 1))) hc hNW (kX6_by l (M1.1 109 0) (M1.1 110 1)) cw78 rfl rfl (Nat.le_of_ble_eq_true rfl) dX6_multiplies_34 ?_
  refine wp_aload_n hc 3 dX6_multiplies_37 rfl ?_
  refine wp_get hc hx hin6 (j := 100) (by decide) (by decide) (ce_5 rfl) rfl 11 (by decide) hf34 rfl dX6_multiplies_38 ?_
  refine wp_iload_n hc 1 dX6_multiplies_41 rfl ?_
  refine wp_iconst (v := 1) hc dX6_multiplies_42 (by decide) ?_
  refine wp_iadd hc dX6_multiplies_43 ?_
  refine wp_cvt (v := 1) (by decide) ?_
  refine wp_iald hc hx (j := 109) (by decide) (by decide) rfl 1 rfl (vin (by decide)) dX6_multiplies_44 ?_
  refine wp_aload_n hc 3 dX6_multiplies_45 rfl ?_
  refine wp_get hc hx hin6 (j := 100) (by decide) (by decide) (ce_5 rfl) rfl 12 (by decide) hf37 rfl dX6_multiplies_46 ?_
  refine wp_iload_n hc 0 dX6_multiplies_49 rfl ?_
  refine wp_iconst (v := 2) hc dX6_multiplies_50 (by decide) ?_
  refine wp_iadd hc dX6_multiplies_51 ?_
  refine wp_cvt (v := 3) (by decide) ?_
  refine wp_iald hc hx (j := 110) (by decide) (by decide) rfl 3 rfl (vin (by decide)) dX6_multiplies_52 ?_
  refine wp_callSg (As := [.int (M1.1 109 1), .int (M1.1 110 3)]) (rest := [.int (fX6_by (M1.1 109 0) (M1.1 110 1)), .int 1, .ref (z 111)]) (v := (fX6_by (M1.1 109 1) (M1.1 110 3))) hc hNW (kX6_by l (M1.1 109 1) (M1.1 110 3)) cw78 rfl rfl (Nat.le_of_ble_eq_true rfl) dX6_multiplies_53 ?_
  refine wp_callSg (As := [.int (fX6_by (M1.1 109 0) (M1.1 110 1)), .int (fX6_by (M1.1 109 1) (M1.1 110 3))]) (rest := [.int 1, .ref (z 111)]) (v := (fX6_plus (fX6_by (M1.1 109 0) (M1.1 110 1)) (fX6_by (M1.1 109 1) (M1.1 110 3)))) hc hNW (kX6_plus l (fX6_by (M1.1 109 0) (M1.1 110 1)) (fX6_by (M1.1 109 1) (M1.1 110 3))) cw117 rfl rfl (Nat.le_of_ble_eq_true rfl) dX6_multiplies_56 ?_
  refine wp_iast hc hx (j := 111) (by decide) (by decide) rfl 1 rfl (vin (by decide)) dX6_multiplies_59 ?_
  refine wp_nm (fun M2 hM2 => ?_)
  refine wp_iinc (v := 2) (lv' := [(1, .int 2), (3, .int 1), (2, .int 0), (0, .ref (z 100))]) hc 2 dX6_multiplies_60 rfl (by decide) (by decide) rfl ?_
  refine wp_goto (tgt := 2) hc dX6_multiplies_63 (by decide) ?_
  refine wp_iload_n hc 0 dX6_multiplies_2 rfl ?_
  refine wp_iconst (v := 4) hc dX6_multiplies_3 (by decide) ?_
  refine wp_icmp_ge (tgt := 66) hc dX6_multiplies_4 (by decide) (fun c => absurd c (by decide)) (fun _ => ?_)
  refine wp_iload_n hc 0 dX6_multiplies_7 rfl ?_
  refine wp_iconst (v := 2) hc dX6_multiplies_8 (by decide) ?_
  refine wp_idiv hc dX6_multiplies_9 (by decide) ?_
  refine wp_cvt (v := 1) (by decide) ?_
  refine wp_iconst (v := 2) hc dX6_multiplies_10 (by decide) ?_
  refine wp_imul hc dX6_multiplies_11 ?_
  refine wp_cvt (v := 2) (by decide) ?_
  refine wp_istore_n (lv' := [(2, .int 2), (1, .int 2), (3, .int 1), (0, .ref (z 100))]) hc dX6_multiplies_12 (by decide) rfl ?_
  refine wp_iload_n hc 1 dX6_multiplies_13 rfl ?_
  refine wp_iconst (v := 2) hc dX6_multiplies_14 (by decide) ?_
  refine wp_iremR hc dX6_multiplies_15 (by decide) ?_
  refine wp_cvt (v := 0) (by decide) ?_
  refine wp_istore_n (lv' := [(3, .int 0), (2, .int 2), (1, .int 2), (0, .ref (z 100))]) hc dX6_multiplies_16 (by decide) rfl ?_
  refine wp_aload_n hc 3 dX6_multiplies_17 rfl ?_
  refine wp_get hc hx hin6 (j := 100) (by decide) (by decide) (ce_5 rfl) rfl 13 (by decide) hf40 rfl dX6_multiplies_18 ?_
  refine wp_iload_n hc 2 dX6_multiplies_21 rfl ?_
  refine wp_aload_n hc 3 dX6_multiplies_22 rfl ?_
  refine wp_get hc hx hin6 (j := 100) (by decide) (by decide) (ce_5 rfl) rfl 11 (by decide) hf34 rfl dX6_multiplies_23 ?_
  refine wp_iload_n hc 1 dX6_multiplies_26 rfl ?_
  refine wp_iald hc hx (j := 109) (by decide) (by decide) rfl 2 rfl (vin (by decide)) dX6_multiplies_27 ?_
  refine wp_aload_n hc 3 dX6_multiplies_28 rfl ?_
  refine wp_get hc hx hin6 (j := 100) (by decide) (by decide) (ce_5 rfl) rfl 12 (by decide) hf37 rfl dX6_multiplies_29 ?_
  refine wp_iload_n hc 0 dX6_multiplies_32 rfl ?_
  refine wp_iald hc hx (j := 110) (by decide) (by decide) rfl 0 rfl (vin (by decide)) dX6_multiplies_33 ?_
  refine wp_callSg (As := [.int (M2.1 109 2), .int (M2.1 110 0)]) (rest := [.int 2, .ref (z 111)]) (v := (fX6_by (M2.1 109 2) (M2.1 110 0))) hc hNW (kX6_by l (M2.1 109 2) (M2.1 110 0)) cw78 rfl rfl (Nat.le_of_ble_eq_true rfl) dX6_multiplies_34 ?_
  refine wp_aload_n hc 3 dX6_multiplies_37 rfl ?_
  refine wp_get hc hx hin6 (j := 100) (by decide) (by decide) (ce_5 rfl) rfl 11 (by decide) hf34 rfl dX6_multiplies_38 ?_
  refine wp_iload_n hc 1 dX6_multiplies_41 rfl ?_
  refine wp_iconst (v := 1) hc dX6_multiplies_42 (by decide) ?_
  refine wp_iadd hc dX6_multiplies_43 ?_
  refine wp_cvt (v := 3) (by decide) ?_
  refine wp_iald hc hx (j := 109) (by decide) (by decide) rfl 3 rfl (vin (by decide)) dX6_multiplies_44 ?_
  refine wp_aload_n hc 3 dX6_multiplies_45 rfl ?_
  refine wp_get hc hx hin6 (j := 100) (by decide) (by decide) (ce_5 rfl) rfl 12 (by decide) hf37 rfl dX6_multiplies_46 ?_
  refine wp_iload_n hc 0 dX6_multiplies_49 rfl ?_
  refine wp_iconst (v := 2) hc dX6_multiplies_50 (by decide) ?_
  refine wp_iadd hc dX6_multiplies_51 ?_
  refine wp_cvt (v := 2) (by decide) ?_
  refine wp_iald hc hx (j := 110) (by decide) (by decide) rfl 2 rfl (vin (by decide)) dX6_multiplies_52 ?_
  refine wp_callSg (As := [.int (M2.1 109 3), .int (M2.1 110 2)]) (rest := [.int (fX6_by (M2.1 109 2) (M2.1 110 0)), .int 2, .ref (z 111)]) (v := (fX6_by (M2.1 109 3) (M2.1 110 2))) hc hNW (kX6_by l (M2.1 109 3) (M2.1 110 2)) cw78 rfl rfl (Nat.le_of_ble_eq_true rfl) dX6_multiplies_53 ?_
  refine wp_callSg (As := [.int (fX6_by (M2.1 109 2) (M2.1 110 0)), .int (fX6_by (M2.1 109 3) (M2.1 110 2))]) (rest := [.int 2, .ref (z 111)]) (v := (fX6_plus (fX6_by (M2.1 109 2) (M2.1 110 0)) (fX6_by (M2.1 109 3) (M2.1 110 2)))) hc hNW (kX6_plus l (fX6_by (M2.1 109 2) (M2.1 110 0)) (fX6_by (M2.1 109 3) (M2.1 110 2))) cw117 rfl rfl (Nat.le_of_ble_eq_true rfl) dX6_multiplies_56 ?_
  refine wp_iast hc hx (j := 111) (by decide) (by decide) rfl 2 rfl (vin (by decide)) dX6_multiplies_59 ?_
  refine wp_nm (fun M3 hM3 => ?_)
  refine wp_iinc (v := 3) (lv' := [(1, .int 3), (3, .int 0), (2, .int 2), (0, .ref (z 100))]) hc 2 dX6_multiplies_60 rfl (by decide) (by decide) rfl ?_
  refine wp_goto (tgt := 2) hc dX6_multiplies_63 (by decide) ?_
  refine wp_iload_n hc 0 dX6_multiplies_2 rfl ?_
  refine wp_iconst (v := 4) hc dX6_multiplies_3 (by decide) ?_
  refine wp_icmp_ge (tgt := 66) hc dX6_multiplies_4 (by decide) (fun c => absurd c (by decide)) (fun _ => ?_)
  refine wp_iload_n hc 0 dX6_multiplies_7 rfl ?_
  refine wp_iconst (v := 2) hc dX6_multiplies_8 (by decide) ?_
  refine wp_idiv hc dX6_multiplies_9 (by decide) ?_
  refine wp_cvt (v := 1) (by decide) ?_
  refine wp_iconst (v := 2) hc dX6_multiplies_10 (by decide) ?_
  refine wp_imul hc dX6_multiplies_11 ?_
  refine wp_cvt (v := 2) (by decide) ?_
  refine wp_istore_n (lv' := [(2, .int 2), (1, .int 3), (3, .int 0), (0, .ref (z 100))]) hc dX6_multiplies_12 (by decide) rfl ?_
  refine wp_iload_n hc 1 dX6_multiplies_13 rfl ?_
  refine wp_iconst (v := 2) hc dX6_multiplies_14 (by decide) ?_
  refine wp_iremR hc dX6_multiplies_15 (by decide) ?_
  refine wp_cvt (v := 1) (by decide) ?_
  refine wp_istore_n (lv' := [(3, .int 1), (2, .int 2), (1, .int 3), (0, .ref (z 100))]) hc dX6_multiplies_16 (by decide) rfl ?_
  refine wp_aload_n hc 3 dX6_multiplies_17 rfl ?_
  refine wp_get hc hx hin6 (j := 100) (by decide) (by decide) (ce_5 rfl) rfl 13 (by decide) hf40 rfl dX6_multiplies_18 ?_
  refine wp_iload_n hc 2 dX6_multiplies_21 rfl ?_
  refine wp_aload_n hc 3 dX6_multiplies_22 rfl ?_
  refine wp_get hc hx hin6 (j := 100) (by decide) (by decide) (ce_5 rfl) rfl 11 (by decide) hf34 rfl dX6_multiplies_23 ?_
  refine wp_iload_n hc 1 dX6_multiplies_26 rfl ?_
  refine wp_iald hc hx (j := 109) (by decide) (by decide) rfl 2 rfl (vin (by decide)) dX6_multiplies_27 ?_
  refine wp_aload_n hc 3 dX6_multiplies_28 rfl ?_
  refine wp_get hc hx hin6 (j := 100) (by decide) (by decide) (ce_5 rfl) rfl 12 (by decide) hf37 rfl dX6_multiplies_29 ?_
  refine wp_iload_n hc 0 dX6_multiplies_32 rfl ?_
  refine wp_iald hc hx (j := 110) (by decide) (by decide) rfl 1 rfl (vin (by decide)) dX6_multiplies_33 ?_
  refine wp_callSg (As := [.int (M3.1 109 2), .int (M3.1 110 1)]) (rest := [.int 3, .ref (z 111)]) (v := (fX6_by (M3.1 109 2) (M3.1 110 1))) hc hNW (kX6_by l (M3.1 109 2) (M3.1 110 1)) cw78 rfl rfl (Nat.le_of_ble_eq_true rfl) dX6_multiplies_34 ?_
  refine wp_aload_n hc 3 dX6_multiplies_37 rfl ?_
  refine wp_get hc hx hin6 (j := 100) (by decide) (by decide) (ce_5 rfl) rfl 11 (by decide) hf34 rfl dX6_multiplies_38 ?_
  refine wp_iload_n hc 1 dX6_multiplies_41 rfl ?_
  refine wp_iconst (v := 1) hc dX6_multiplies_42 (by decide) ?_
  refine wp_iadd hc dX6_multiplies_43 ?_
  refine wp_cvt (v := 3) (by decide) ?_
  refine wp_iald hc hx (j := 109) (by decide) (by decide) rfl 3 rfl (vin (by decide)) dX6_multiplies_44 ?_
  refine wp_aload_n hc 3 dX6_multiplies_45 rfl ?_
  refine wp_get hc hx hin6 (j := 100) (by decide) (by decide) (ce_5 rfl) rfl 12 (by decide) hf37 rfl dX6_multiplies_46 ?_
  refine wp_iload_n hc 0 dX6_multiplies_49 rfl ?_
  refine wp_iconst (v := 2) hc dX6_multiplies_50 (by decide) ?_
  refine wp_iadd hc dX6_multiplies_51 ?_
  refine wp_cvt (v := 3) (by decide) ?_
  refine wp_iald hc hx (j := 110) (by decide) (by decide) rfl 3 rfl (vin (by decide)) dX6_multiplies_52 ?_
  refine wp_callSg (As := [.int (M3.1 109 3), .int (M3.1 110 3)]) (rest := [.int (fX6_by (M3.1 109 2) (M3.1 110 1)), .int 3, .ref (z 111)]) (v := (fX6_by (M3.1 109 3) (M3.1 110 3))) hc hNW (kX6_by l (M3.1 109 3) (M3.1 110 3)) cw78 rfl rfl (Nat.le_of_ble_eq_true rfl) dX6_multiplies_53 ?_
  refine wp_callSg (As := [.int (fX6_by (M3.1 109 2) (M3.1 110 1)), .int (fX6_by (M3.1 109 3) (M3.1 110 3))]) (rest := [.int 3, .ref (z 111)]) (v := (fX6_plus (fX6_by (M3.1 109 2) (M3.1 110 1)) (fX6_by (M3.1 109 3) (M3.1 110 3)))) hc hNW (kX6_plus l (fX6_by (M3.1 109 2) (M3.1 110 1)) (fX6_by (M3.1 109 3) (M3.1 110 3))) cw117 rfl rfl (Nat.le_of_ble_eq_true rfl) dX6_multiplies_56 ?_
  refine wp_iast hc hx (j := 111) (by decide) (by decide) rfl 3 rfl (vin (by decide)) dX6_multiplies_59 ?_
  refine wp_nm (fun M4 hM4 => ?_)
  refine wp_iinc (v := 4) (lv' := [(1, .int 4), (3, .int 1), (2, .int 2), (0, .ref (z 100))]) hc 2 dX6_multiplies_60 rfl (by decide) (by decide) rfl ?_
  refine wp_goto (tgt := 2) hc dX6_multiplies_63 (by decide) ?_
  refine wp_iload_n hc 0 dX6_multiplies_2 rfl ?_
  refine wp_iconst (v := 4) hc dX6_multiplies_3 (by decide) ?_
  refine wp_icmp_ge (tgt := 66) hc dX6_multiplies_4 (by decide) (fun _ => ?_) (fun c => absurd c (by decide))
  refine wp_vret hc hr hk ?_ dX6_multiplies_66
  show M4 = sX6_multiplies M
  rw [sX6_multiplies, tk_eq hM1, tk_eq hM2, tk_eq hM3, tk_eq hM4]
set_option maxRecDepth 10000 in
theorem kpX6_multiplies (M : Mem)  : KP M (sX6_multiplies M) := by
  unfold sX6_multiplies
  refine tk_ind (P := KP M) _ _ (fun M1 hM1 => ?_)
  have k1 : KP M M1 := by rw [hM1]; exact kp_st (by decide)
  refine tk_ind (P := KP M) _ _ (fun M2 hM2 => ?_)
  have k2 : KP M1 M2 := by rw [hM2]; exact kp_st (by decide)
  refine tk_ind (P := KP M) _ _ (fun M3 hM3 => ?_)
  have k3 : KP M2 M3 := by rw [hM3]; exact kp_st (by decide)
  refine tk_ind (P := KP M) _ _ (fun M4 hM4 => ?_)
  have k4 : KP M3 M4 := by rw [hM4]; exact kp_st (by decide)
  exact (show KP M M4 from KP.trans k1 (KP.trans k2 (KP.trans k3 (k4))))
def sX6_goesBack (M : Mem)  : Mem :=
  tk ((fX6_less (fX6_by (M.1 111 0) (M.1 111 3)) (fX6_by (M.1 111 1) (M.1 111 2)))) fun x1 =>
  tk (sX6_over M (M.1 111 1) (M.1 111 3)) fun x2 =>
  tk (st x2.2 108 0 x2.1) fun M3 =>
  tk (sX6_over M3 x1 (M3.1 111 3)) fun x4 =>
  tk (st x4.2 108 1 x4.1) fun M5 =>
  tk (sX6_over M5 10007 (M5.1 111 3)) fun x6 =>
  tk (st x6.2 108 2 x6.1) fun M7 =>
  tk (sX6_over M7 (fX6_less 0 (M7.1 111 2)) (M7.1 111 3)) fun x8 =>
  tk (st x8.2 108 3 x8.1) fun M9 =>
  M9
set_option maxHeartbeats 4000000 in
set_option maxRecDepth 100000 in
theorem kX6_goesBack (l : Launch) (D : va_G) (cy : Nat → ClassId) (z : Nat → Nat) (hz : zI z) (M : Mem)  : KV l yX6_goesBack wsX6_goesBack { frames := 4, cells := 0, slots := 0, locals := 92 } D cy z 100 15 [.ref (z 100)] M (fun u => u = sX6_goesBack M) := by
  refine met_wp (lv := [(0, .ref (z 100))]) hz (by decide) (by decide) rfl rfl (Nat.le_of_ble_eq_true rfl) rfl ?_
  intro p e s m below meth c hc hx hr hk
  have hNW := hx.2.1
  have hin6 : ∀ w ∈ wsX60, w ∈ wsX6_goesBack := by decide +kernel
  have hf31 : Cond.fieldLink RX6 31 (TX6 10).1 (TX6 10).2.1 (TX6 10).2.2.1 ∈ wsX6_goesBack := by decide +kernel
  have hf40 : Cond.fieldLink RX6 40 (TX6 13).1 (TX6 13).2.1 (TX6 13).2.2.1 ∈ wsX6_goesBack := by decide +kernel
  have cw78 : CallB ({ frames := 4, cells := 0, slots := 0, locals := 92 }) s _ RX6 78 yX6_by cX6_by 6 (some .int) wsX6_by ({ frames := 2, cells := 0, slots := 0, locals := 42 }) 0 0 2 ∧ (Cond.static yX6_by).before _ s = true := va_cwS 2 hc.2.2.2.2 gX6_goesBack_X6_by rfl rfl rfl (by decide +kernel) ⟨Nat.le_of_ble_eq_true rfl, Nat.le_of_ble_eq_true rfl⟩
  have cw114 : CallB ({ frames := 4, cells := 0, slots := 0, locals := 92 }) s _ RX6 114 yX6_less cX6_less 2 (some .int) wsX6_less ({ frames := 2, cells := 0, slots := 0, locals := 42 }) 0 0 2 ∧ (Cond.static yX6_less).before _ s = true := va_cwS 2 hc.2.2.2.2 gX6_goesBack_X6_less rfl rfl rfl (by decide +kernel) ⟨Nat.le_of_ble_eq_true rfl, Nat.le_of_ble_eq_true rfl⟩
  have cw123 : CallW ({ frames := 4, cells := 0, slots := 0, locals := 92 }) s _ RX6 RX6 123 yX6_over cX6_over 6 (some .int) wsX6_over ({ frames := 3, cells := 0, slots := 0, locals := 67 }) 0 0 2 := cwV 2 hc.2.2.2.2 gX6_goesBack_X6_over rfl rfl rfl (by decide +kernel) ⟨Nat.le_of_ble_eq_true rfl, Nat.le_of_ble_eq_true rfl⟩
  refine wp_aload_n hc 0 dX6_goesBack_0 rfl ?_
  refine wp_get hc hx hin6 (j := 100) (by decide) (by decide) (ce_5 rfl) rfl 13 (by decide) hf40 rfl dX6_goesBack_1 ?_
  refine wp_iconst (v := 0) hc dX6_goesBack_4 (by decide) ?_
  refine wp_iald hc hx (j := 111) (by decide) (by decide) rfl 0 rfl (vin (by decide)) dX6_goesBack_5 ?_
  refine wp_aload_n hc 0 dX6_goesBack_6 rfl ?_
  refine wp_get hc hx hin6 (j := 100) (by decide) (by decide) (ce_5 rfl) rfl 13 (by decide) hf40 rfl dX6_goesBack_7 ?_
  refine wp_iconst (v := 3) hc dX6_goesBack_10 (by decide) ?_
  refine wp_iald hc hx (j := 111) (by decide) (by decide) rfl 3 rfl (vin (by decide)) dX6_goesBack_11 ?_
  refine wp_callSg (As := [.int (M.1 111 0), .int (M.1 111 3)]) (rest := []) (v := (fX6_by (M.1 111 0) (M.1 111 3))) hc hNW (kX6_by l (M.1 111 0) (M.1 111 3)) cw78 rfl rfl (Nat.le_of_ble_eq_true rfl) dX6_goesBack_12 ?_
  refine wp_aload_n hc 0 dX6_goesBack_15 rfl ?_
  refine wp_get hc hx hin6 (j := 100) (by decide) (by decide) (ce_5 rfl) rfl 13 (by decide) hf40 rfl dX6_goesBack_16 ?_
  refine wp_iconst (v := 1) hc dX6_goesBack_19 (by decide) ?_
  refine wp_iald hc hx (j := 111) (by decide) (by decide) rfl 1 rfl (vin (by decide)) dX6_goesBack_20 ?_
  refine wp_aload_n hc 0 dX6_goesBack_21 rfl ?_
  refine wp_get hc hx hin6 (j := 100) (by decide) (by decide) (ce_5 rfl) rfl 13 (by decide) hf40 rfl dX6_goesBack_22 ?_
  refine wp_iconst (v := 2) hc dX6_goesBack_25 (by decide) ?_
  refine wp_iald hc hx (j := 111) (by decide) (by decide) rfl 2 rfl (vin (by decide)) dX6_goesBack_26 ?_
  refine wp_callSg (As := [.int (M.1 111 1), .int (M.1 111 2)]) (rest := [.int (fX6_by (M.1 111 0) (M.1 111 3))]) (v := (fX6_by (M.1 111 1) (M.1 111 2))) hc hNW (kX6_by l (M.1 111 1) (M.1 111 2)) cw78 rfl rfl (Nat.le_of_ble_eq_true rfl) dX6_goesBack_27 ?_
  refine wp_callSg (As := [.int (fX6_by (M.1 111 0) (M.1 111 3)), .int (fX6_by (M.1 111 1) (M.1 111 2))]) (rest := []) (v := (fX6_less (fX6_by (M.1 111 0) (M.1 111 3)) (fX6_by (M.1 111 1) (M.1 111 2)))) hc hNW (kX6_less l (fX6_by (M.1 111 0) (M.1 111 3)) (fX6_by (M.1 111 1) (M.1 111 2))) cw114 rfl rfl (Nat.le_of_ble_eq_true rfl) dX6_goesBack_30 ?_
  refine wp_topi (fun x1 hx1 => ?_)
  refine wp_istore_n (lv' := [(1, .int x1), (0, .ref (z 100))]) hc dX6_goesBack_33 (by decide) rfl ?_
  refine wp_aload_n hc 1 dX6_goesBack_34 rfl ?_
  refine wp_get hc hx hin6 (j := 100) (by decide) (by decide) (ce_5 rfl) rfl 10 (by decide) hf31 rfl dX6_goesBack_35 ?_
  refine wp_iconst (v := 0) hc dX6_goesBack_38 (by decide) ?_
  refine wp_aload_n hc 1 dX6_goesBack_39 rfl ?_
  refine wp_aload_n hc 1 dX6_goesBack_40 rfl ?_
  refine wp_get hc hx hin6 (j := 100) (by decide) (by decide) (ce_5 rfl) rfl 13 (by decide) hf40 rfl dX6_goesBack_41 ?_
  refine wp_iconst (v := 1) hc dX6_goesBack_44 (by decide) ?_
  refine wp_iald hc hx (j := 111) (by decide) (by decide) rfl 1 rfl (vin (by decide)) dX6_goesBack_45 ?_
  refine wp_aload_n hc 1 dX6_goesBack_46 rfl ?_
  refine wp_get hc hx hin6 (j := 100) (by decide) (by decide) (ce_5 rfl) rfl 13 (by decide) hf40 rfl dX6_goesBack_47 ?_
  refine wp_iconst (v := 3) hc dX6_goesBack_50 (by decide) ?_
  refine wp_iald hc hx (j := 111) (by decide) (by decide) rfl 3 rfl (vin (by decide)) dX6_goesBack_51 ?_
  refine wp_callVw (As := [.int (M.1 111 1), .int (M.1 111 3)]) (rest := [.int 0, .ref (z 108)]) (j := 100) (w := sX6_over M (M.1 111 1) (M.1 111 3)) hc hx (kX6_over l D cy z hz M (M.1 111 1) (M.1 111 3)) cw123 (by decide) (by decide) (ce_5 rfl) rfl rfl rfl rfl (Nat.le_of_ble_eq_true rfl) dX6_goesBack_52 (fun x2 hx2 => ?_)
  refine wp_iast hc hx (j := 108) (by decide) (by decide) rfl 0 rfl (vin (by decide)) dX6_goesBack_55 ?_
  refine wp_nm (fun M3 hM3 => ?_)
  refine wp_aload_n hc 1 dX6_goesBack_56 rfl ?_
  refine wp_get hc hx hin6 (j := 100) (by decide) (by decide) (ce_5 rfl) rfl 10 (by decide) hf31 rfl dX6_goesBack_57 ?_
  refine wp_iconst (v := 1) hc dX6_goesBack_60 (by decide) ?_
  refine wp_aload_n hc 1 dX6_goesBack_61 rfl ?_
  refine wp_iload_n hc 0 dX6_goesBack_62 rfl ?_
  refine wp_aload_n hc 1 dX6_goesBack_63 rfl ?_
  refine wp_get hc hx hin6 (j := 100) (by decide) (by decide) (ce_5 rfl) rfl 13 (by decide) hf40 rfl dX6_goesBack_64 ?_
  refine wp_iconst (v := 3) hc dX6_goesBack_67 (by decide) ?_
  refine wp_iald hc hx (j := 111) (by decide) (by decide) rfl 3 rfl (vin (by decide)) dX6_goesBack_68 ?_
  refine wp_callVw (As := [.int x1, .int (M3.1 111 3)]) (rest := [.int 1, .ref (z 108)]) (j := 100) (w := sX6_over M3 x1 (M3.1 111 3)) hc hx (kX6_over l D cy z hz M3 x1 (M3.1 111 3)) cw123 (by decide) (by decide) (ce_5 rfl) rfl rfl rfl rfl (Nat.le_of_ble_eq_true rfl) dX6_goesBack_69 (fun x4 hx4 => ?_)
  refine wp_iast hc hx (j := 108) (by decide) (by decide) rfl 1 rfl (vin (by decide)) dX6_goesBack_72 ?_
  refine wp_nm (fun M5 hM5 => ?_)
  refine wp_aload_n hc 1 dX6_goesBack_73 rfl ?_
  refine wp_get hc hx hin6 (j := 100) (by decide) (by decide) (ce_5 rfl) rfl 10 (by decide) hf31 rfl dX6_goesBack_74 ?_
  refine wp_iconst (v := 2) hc dX6_goesBack_77 (by decide) ?_
  refine wp_aload_n hc 1 dX6_goesBack_78 rfl ?_
  refine wp_sipush (v := 10007) hc dX6_goesBack_79 (by decide) ?_
  refine wp_aload_n hc 1 dX6_goesBack_82 rfl ?_
  refine wp_get hc hx hin6 (j := 100) (by decide) (by decide) (ce_5 rfl) rfl 13 (by decide) hf40 rfl dX6_goesBack_83 ?_
  refine wp_iconst (v := 3) hc dX6_goesBack_86 (by decide) ?_
  refine wp_iald hc hx (j := 111) (by decide) (by decide) rfl 3 rfl (vin (by decide)) dX6_goesBack_87 ?_
  refine wp_callVw (As := [.int 10007, .int (M5.1 111 3)]) (rest := [.int 2, .ref (z 108)]) (j := 100) (w := sX6_over M5 10007 (M5.1 111 3)) hc hx (kX6_over l D cy z hz M5 10007 (M5.1 111 3)) cw123 (by decide) (by decide) (ce_5 rfl) rfl rfl rfl rfl (Nat.le_of_ble_eq_true rfl) dX6_goesBack_88 (fun x6 hx6 => ?_)
  refine wp_iast hc hx (j := 108) (by decide) (by decide) rfl 2 rfl (vin (by decide)) dX6_goesBack_91 ?_
  refine wp_nm (fun M7 hM7 => ?_)
  refine wp_aload_n hc 1 dX6_goesBack_92 rfl ?_
  refine wp_get hc hx hin6 (j := 100) (by decide) (by decide) (ce_5 rfl) rfl 10 (by decide) hf31 rfl dX6_goesBack_93 ?_
  refine wp_iconst (v := 3) hc dX6_goesBack_96 (by decide) ?_
  refine wp_aload_n hc 1 dX6_goesBack_97 rfl ?_
  refine wp_iconst (v := 0) hc dX6_goesBack_98 (by decide) ?_
  refine wp_aload_n hc 1 dX6_goesBack_99 rfl ?_
  refine wp_get hc hx hin6 (j := 100) (by decide) (by decide) (ce_5 rfl) rfl 13 (by decide) hf40 rfl dX6_goesBack_100 ?_
  refine wp_iconst (v := 2) hc dX6_goesBack_103 (by decide) ?_
  refine wp_iald hc hx (j := 111) (by decide) (by decide) rfl 2 rfl (vin (by decide)) dX6_goesBack_104 ?_
  refine wp_callSg (As := [.int 0, .int (M7.1 111 2)]) (rest := [.ref (z 100), .int 3, .ref (z 108)]) (v := (fX6_less 0 (M7.1 111 2))) hc hNW (kX6_less l 0 (M7.1 111 2)) cw114 rfl rfl (Nat.le_of_ble_eq_true rfl) dX6_goesBack_105 ?_
  refine wp_aload_n hc 1 dX6_goesBack_108 rfl ?_
  refine wp_get hc hx hin6 (j := 100) (by decide) (by decide) (ce_5 rfl) rfl 13 (by decide) hf40 rfl dX6_goesBack_109 ?_
  refine wp_iconst (v := 3) hc dX6_goesBack_112 (by decide) ?_
  refine wp_iald hc hx (j := 111) (by decide) (by decide) rfl 3 rfl (vin (by decide)) dX6_goesBack_113 ?_
  refine wp_callVw (As := [.int (fX6_less 0 (M7.1 111 2)), .int (M7.1 111 3)]) (rest := [.int 3, .ref (z 108)]) (j := 100) (w := sX6_over M7 (fX6_less 0 (M7.1 111 2)) (M7.1 111 3)) hc hx (kX6_over l D cy z hz M7 (fX6_less 0 (M7.1 111 2)) (M7.1 111 3)) cw123 (by decide) (by decide) (ce_5 rfl) rfl rfl rfl rfl (Nat.le_of_ble_eq_true rfl) dX6_goesBack_114 (fun x8 hx8 => ?_)
  refine wp_iast hc hx (j := 108) (by decide) (by decide) rfl 3 rfl (vin (by decide)) dX6_goesBack_117 ?_
  refine wp_nm (fun M9 hM9 => ?_)
  refine wp_vret hc hr hk ?_ dX6_goesBack_118
  show M9 = sX6_goesBack M
  rw [sX6_goesBack, tk_eq hx1, tk_eq hx2, tk_eq hM3, tk_eq hx4, tk_eq hM5, tk_eq hx6, tk_eq hM7, tk_eq hx8, tk_eq hM9]
set_option maxRecDepth 10000 in
theorem kpX6_goesBack (M : Mem)  : KP M (sX6_goesBack M) := by
  unfold sX6_goesBack
  refine tk_ind (P := KP M) _ _ (fun x1 hx1 => ?_)
  refine tk_ind (P := KP M) _ _ (fun x2 hx2 => ?_)
  have k1 : KP2 M x2 := by rw [hx2]; apply kpX6_over
  refine tk_ind (P := KP M) _ _ (fun M3 hM3 => ?_)
  have k2 : KP x2.2 M3 := by rw [hM3]; exact kp_st (by decide)
  refine tk_ind (P := KP M) _ _ (fun x4 hx4 => ?_)
  have k3 : KP2 M3 x4 := by rw [hx4]; apply kpX6_over
  refine tk_ind (P := KP M) _ _ (fun M5 hM5 => ?_)
  have k4 : KP x4.2 M5 := by rw [hM5]; exact kp_st (by decide)
  refine tk_ind (P := KP M) _ _ (fun x6 hx6 => ?_)
  have k5 : KP2 M5 x6 := by rw [hx6]; apply kpX6_over
  refine tk_ind (P := KP M) _ _ (fun M7 hM7 => ?_)
  have k6 : KP x6.2 M7 := by rw [hM7]; exact kp_st (by decide)
  refine tk_ind (P := KP M) _ _ (fun x8 hx8 => ?_)
  have k7 : KP2 M7 x8 := by rw [hx8]; apply kpX6_over
  refine tk_ind (P := KP M) _ _ (fun M9 hM9 => ?_)
  have k8 : KP x8.2 M9 := by rw [hM9]; exact kp_st (by decide)
  exact (show KP M M9 from KP.trans k1 (KP.trans k2 (KP.trans k3 (KP.trans k4 (KP.trans k5 (KP.trans k6 (KP.trans k7 (k8))))))))
def sX6_canChain (M : Mem) (i1 : Int32) (i2 : Int32) : Int32 × Mem :=
  tk (st M 100 7 0) fun M1 =>
  tk (sX6_formsTo_1 M1 i1) fun M2 =>
  tk (sX6_formsTo_2 M2 i2) fun M3 =>
  tk (sX6_multiplies M3) fun M4 =>
  tk (sX6_goesBack M4) fun M5 =>
  if (M5.1 100 7) = 0 then
  (1, M5)
  else
  (0, M5)
set_option maxHeartbeats 4000000 in
set_option maxRecDepth 100000 in
theorem kX6_canChain (l : Launch) (D : va_G) (cy : Nat → ClassId) (z : Nat → Nat) (hz : zI z) (M : Mem) (i1 : Int32) (i2 : Int32) (hb1 : 0 ≤ i1.toInt ∧ i1.toInt < 8) (hb2 : 0 ≤ i2.toInt ∧ i2.toInt < 8) : KI l yX6_canChain wsX6_canChain { frames := 6, cells := 0, slots := 0, locals := 136 } D cy z 100 15 [.ref (z 100), .int i1, .int i2] M (fun r u => (r, u) = sX6_canChain M i1 i2) := by
  refine met_wp (lv := [(0, .ref (z 100)), (1, .int i1), (2, .int i2)]) hz (by decide) (by decide) rfl rfl (Nat.le_of_ble_eq_true rfl) rfl ?_
  intro p e s m below meth c hc hx hr hk
  have hNW := hx.2.1
  have hin6 : ∀ w ∈ wsX60, w ∈ wsX6_canChain := by decide +kernel
  have hf34 : Cond.fieldLink RX6 34 (TX6 11).1 (TX6 11).2.1 (TX6 11).2.2.1 ∈ wsX6_canChain := by decide +kernel
  have hf37 : Cond.fieldLink RX6 37 (TX6 12).1 (TX6 12).2.1 (TX6 12).2.2.1 ∈ wsX6_canChain := by decide +kernel
  have hf68 : Cond.fieldLink RX6 68 (TX6 7).1 (TX6 7).2.1 (TX6 7).2.2.1 ∈ wsX6_canChain := by decide +kernel
  have cw178 : CallW ({ frames := 6, cells := 0, slots := 0, locals := 136 }) s _ RX6 RX6 178 yX6_formsTo cX6_formsTo 5 none wsX6_formsTo ({ frames := 5, cells := 0, slots := 0, locals := 112 }) 0 0 2 := cwV 2 hc.2.2.2.2 gX6_canChain_X6_formsTo rfl rfl rfl (by decide +kernel) ⟨Nat.le_of_ble_eq_true rfl, Nat.le_of_ble_eq_true rfl⟩
  have cw182 : CallW ({ frames := 6, cells := 0, slots := 0, locals := 136 }) s _ RX6 RX6 182 yX6_multiplies cX6_multiplies 4 none wsX6_multiplies ({ frames := 3, cells := 0, slots := 0, locals := 67 }) 0 0 0 := cwV 0 hc.2.2.2.2 gX6_canChain_X6_multiplies rfl rfl rfl (by decide +kernel) ⟨Nat.le_of_ble_eq_true rfl, Nat.le_of_ble_eq_true rfl⟩
  have cw185 : CallW ({ frames := 6, cells := 0, slots := 0, locals := 136 }) s _ RX6 RX6 185 yX6_goesBack cX6_goesBack 2 none wsX6_goesBack ({ frames := 4, cells := 0, slots := 0, locals := 92 }) 0 0 0 := cwV 0 hc.2.2.2.2 gX6_canChain_X6_goesBack rfl rfl rfl (by decide +kernel) ⟨Nat.le_of_ble_eq_true rfl, Nat.le_of_ble_eq_true rfl⟩
  refine wp_aload_n hc 0 dX6_canChain_0 rfl ?_
  refine wp_iconst (v := 0) hc dX6_canChain_1 (by decide) ?_
  refine wp_put (M' := st M 100 7 0) hc hx hin6 tyX6 tyX6_ok nmX6 (j := 100) (by decide) (by decide) (ce_5 rfl) rfl 7 (by decide) hf68 rfl rfl rfl (Nat.le_of_ble_eq_true rfl) (by rw [ce_5 rfl]; exact ce_stM7 _ _ _) (fun i hi => ce_row (va_up_ne _ _ hi) rfl) dX6_canChain_2 ?_
  refine wp_nm (fun M1 hM1 => ?_)
  refine wp_aload_n hc 0 dX6_canChain_5 rfl ?_
  refine wp_iload_n hc 1 dX6_canChain_6 rfl ?_
  refine wp_aload_n hc 0 dX6_canChain_7 rfl ?_
  refine wp_get hc hx hin6 (j := 100) (by decide) (by decide) (ce_5 rfl) rfl 11 (by decide) hf34 rfl dX6_canChain_8 ?_
  refine wp_callVvw (As := [.int i1, .ref (z 109)]) (rest := []) (j := 100) (w := sX6_formsTo_1 M1 i1) hc hx (kX6_formsTo_1 l D cy z hz M1 i1 hb1) cw178 (by decide) (by decide) (ce_5 rfl) rfl rfl rfl rfl (Nat.le_of_ble_eq_true rfl) dX6_canChain_11 (fun M2 hM2 => ?_)
  refine wp_aload_n hc 0 dX6_canChain_14 rfl ?_
  refine wp_iload_n hc 2 dX6_canChain_15 rfl ?_
  refine wp_aload_n hc 0 dX6_canChain_16 rfl ?_
  refine wp_get hc hx hin6 (j := 100) (by decide) (by decide) (ce_5 rfl) rfl 12 (by decide) hf37 rfl dX6_canChain_17 ?_
  refine wp_callVvw (As := [.int i2, .ref (z 110)]) (rest := []) (j := 100) (w := sX6_formsTo_2 M2 i2) hc hx (kX6_formsTo_2 l D cy z hz M2 i2 hb2) cw178 (by decide) (by decide) (ce_5 rfl) rfl rfl rfl rfl (Nat.le_of_ble_eq_true rfl) dX6_canChain_20 (fun M3 hM3 => ?_)
  refine wp_aload_n hc 0 dX6_canChain_23 rfl ?_
  refine wp_callVvw (As := []) (rest := []) (j := 100) (w := sX6_multiplies M3) hc hx (kX6_multiplies l D cy z hz M3) cw182 (by decide) (by decide) (ce_5 rfl) rfl rfl rfl rfl (Nat.le_of_ble_eq_true rfl) dX6_canChain_24 (fun M4 hM4 => ?_)
  refine wp_aload_n hc 0 dX6_canChain_27 rfl ?_
  refine wp_callVvw (As := []) (rest := []) (j := 100) (w := sX6_goesBack M4) hc hx (kX6_goesBack l D cy z hz M4) cw185 (by decide) (by decide) (ce_5 rfl) rfl rfl rfl rfl (Nat.le_of_ble_eq_true rfl) dX6_canChain_28 (fun M5 hM5 => ?_)
  refine wp_aload_n hc 0 dX6_canChain_31 rfl ?_
  refine wp_get hc hx hin6 (j := 100) (by decide) (by decide) (ce_5 rfl) rfl 7 (by decide) hf68 rfl dX6_canChain_32 ?_
  refine wp_if_ne (tgt := 42) hc dX6_canChain_35 (by decide) (fun c35 => ?_) (fun c35 => ?_)
  · refine wp_iconst (v := 0) hc dX6_canChain_42 (by decide) ?_
    refine wp_zret hc hr hk rfl ?_ dX6_canChain_43
    show (0, M5) = sX6_canChain M i1 i2
    rw [sX6_canChain, tk_eq hM1, tk_eq hM2, tk_eq hM3, tk_eq hM4, tk_eq hM5, if_neg c35]
  refine wp_iconst (v := 1) hc dX6_canChain_38 (by decide) ?_
  refine wp_goto (tgt := 43) hc dX6_canChain_39 (by decide) ?_
  refine wp_zret hc hr hk rfl ?_ dX6_canChain_43
  show (1, M5) = sX6_canChain M i1 i2
  rw [sX6_canChain, tk_eq hM1, tk_eq hM2, tk_eq hM3, tk_eq hM4, tk_eq hM5, if_pos c35]
set_option maxRecDepth 10000 in
theorem kpX6_canChain (M : Mem) (i1 : Int32) (i2 : Int32) : KP2 M (sX6_canChain M i1 i2) := by
  unfold sX6_canChain
  refine tk_ind (P := KP2 M) _ _ (fun M1 hM1 => ?_)
  have k1 : KP M M1 := by rw [hM1]; exact kp_st (by decide)
  refine tk_ind (P := KP2 M) _ _ (fun M2 hM2 => ?_)
  have k2 : KP M1 M2 := by rw [hM2]; apply kpX6_formsTo_1
  refine tk_ind (P := KP2 M) _ _ (fun M3 hM3 => ?_)
  have k3 : KP M2 M3 := by rw [hM3]; apply kpX6_formsTo_2
  refine tk_ind (P := KP2 M) _ _ (fun M4 hM4 => ?_)
  have k4 : KP M3 M4 := by rw [hM4]; apply kpX6_multiplies
  refine tk_ind (P := KP2 M) _ _ (fun M5 hM5 => ?_)
  have k5 : KP M4 M5 := by rw [hM5]; apply kpX6_goesBack
  refine ite_ind (P := KP2 M) (fun _ => ?_) (fun _ => ?_)
  · exact (show KP M M5 from KP.trans k1 (KP.trans k2 (KP.trans k3 (KP.trans k4 (k5)))))
  · exact (show KP M M5 from KP.trans k1 (KP.trans k2 (KP.trans k3 (KP.trans k4 (k5)))))
theorem bX6_canChain (M : Mem) (i1 : Int32) (i2 : Int32) : B01 (sX6_canChain M i1 i2) := by
  unfold sX6_canChain
  refine tk_ind (P := B01) _ _ (fun M1 hM1 => ?_)
  refine tk_ind (P := B01) _ _ (fun M2 hM2 => ?_)
  refine tk_ind (P := B01) _ _ (fun M3 hM3 => ?_)
  refine tk_ind (P := B01) _ _ (fun M4 hM4 => ?_)
  refine tk_ind (P := B01) _ _ (fun M5 hM5 => ?_)
  refine ite_ind (P := B01) (fun _ => ?_) (fun _ => ?_)
  · exact (show _ ∨ _ from Or.inr rfl)
  · exact (show _ ∨ _ from Or.inl rfl)
def sX6_canPeel (M : Mem) (i1 : Int32) (i2 : Int32) (i3 : Int32) : Int32 × Mem :=
  tk (st M 100 7 0) fun M1 =>
  tk (sX6_formsTo_1 M1 i2) fun M2 =>
  tk (sX6_inverts_1 M2) fun M3 =>
  tk (sX6_formsTo_2 M3 i1) fun M4 =>
  tk (sX6_multiplies M4) fun M5 =>
  tk (sX6_copies M5) fun M6 =>
  tk (sX6_formsTo_2 M6 i3) fun M7 =>
  tk (sX6_inverts_2 M7) fun M8 =>
  tk (sX6_multiplies M8) fun M9 =>
  tk (sX6_goesBack M9) fun M10 =>
  if (M10.1 100 7) = 0 then
  (1, M10)
  else
  (0, M10)
set_option maxHeartbeats 4000000 in
set_option maxRecDepth 100000 in
theorem kX6_canPeel (l : Launch) (D : va_G) (cy : Nat → ClassId) (z : Nat → Nat) (hz : zI z) (M : Mem) (i1 : Int32) (i2 : Int32) (i3 : Int32) (hb1 : 0 ≤ i1.toInt ∧ i1.toInt < 8) (hb2 : 0 ≤ i2.toInt ∧ i2.toInt < 8) (hb3 : 0 ≤ i3.toInt ∧ i3.toInt < 8) : KI l yX6_canPeel wsX6_canPeel { frames := 6, cells := 0, slots := 0, locals := 136 } D cy z 100 15 [.ref (z 100), .int i1, .int i2, .int i3] M (fun r u => (r, u) = sX6_canPeel M i1 i2 i3) := by
  refine met_wp (lv := [(0, .ref (z 100)), (1, .int i1), (2, .int i2), (3, .int i3)]) hz (by decide) (by decide) rfl rfl (Nat.le_of_ble_eq_true rfl) rfl ?_
  intro p e s m below meth c hc hx hr hk
  have hNW := hx.2.1
  have hin6 : ∀ w ∈ wsX60, w ∈ wsX6_canPeel := by decide +kernel
  have hf34 : Cond.fieldLink RX6 34 (TX6 11).1 (TX6 11).2.1 (TX6 11).2.2.1 ∈ wsX6_canPeel := by decide +kernel
  have hf37 : Cond.fieldLink RX6 37 (TX6 12).1 (TX6 12).2.1 (TX6 12).2.2.1 ∈ wsX6_canPeel := by decide +kernel
  have hf40 : Cond.fieldLink RX6 40 (TX6 13).1 (TX6 13).2.1 (TX6 13).2.2.1 ∈ wsX6_canPeel := by decide +kernel
  have hf68 : Cond.fieldLink RX6 68 (TX6 7).1 (TX6 7).2.1 (TX6 7).2.2.1 ∈ wsX6_canPeel := by decide +kernel
  have cw178 : CallW ({ frames := 6, cells := 0, slots := 0, locals := 136 }) s _ RX6 RX6 178 yX6_formsTo cX6_formsTo 5 none wsX6_formsTo ({ frames := 5, cells := 0, slots := 0, locals := 112 }) 0 0 2 := cwV 2 hc.2.2.2.2 gX6_canPeel_X6_formsTo rfl rfl rfl (by decide +kernel) ⟨Nat.le_of_ble_eq_true rfl, Nat.le_of_ble_eq_true rfl⟩
  have cw182 : CallW ({ frames := 6, cells := 0, slots := 0, locals := 136 }) s _ RX6 RX6 182 yX6_multiplies cX6_multiplies 4 none wsX6_multiplies ({ frames := 3, cells := 0, slots := 0, locals := 67 }) 0 0 0 := cwV 0 hc.2.2.2.2 gX6_canPeel_X6_multiplies rfl rfl rfl (by decide +kernel) ⟨Nat.le_of_ble_eq_true rfl, Nat.le_of_ble_eq_true rfl⟩
  have cw185 : CallW ({ frames := 6, cells := 0, slots := 0, locals := 136 }) s _ RX6 RX6 185 yX6_goesBack cX6_goesBack 2 none wsX6_goesBack ({ frames := 4, cells := 0, slots := 0, locals := 92 }) 0 0 0 := cwV 0 hc.2.2.2.2 gX6_canPeel_X6_goesBack rfl rfl rfl (by decide +kernel) ⟨Nat.le_of_ble_eq_true rfl, Nat.le_of_ble_eq_true rfl⟩
  have cw192 : CallW ({ frames := 6, cells := 0, slots := 0, locals := 136 }) s _ RX6 RX6 192 yX6_inverts cX6_inverts 4 none wsX6_inverts ({ frames := 4, cells := 0, slots := 0, locals := 92 }) 0 0 1 := cwV 1 hc.2.2.2.2 gX6_canPeel_X6_inverts rfl rfl rfl (by decide +kernel) ⟨Nat.le_of_ble_eq_true rfl, Nat.le_of_ble_eq_true rfl⟩
  have cw196 : CallW ({ frames := 6, cells := 0, slots := 0, locals := 136 }) s _ RX6 RX6 196 yX6_copies cX6_copies 4 none wsX6_copies ({ frames := 0, cells := 0, slots := 0, locals := 0 }) 0 0 2 := cwV 2 hc.2.2.2.2 gX6_canPeel_X6_copies rfl rfl rfl (by decide +kernel) ⟨Nat.le_of_ble_eq_true rfl, Nat.le_of_ble_eq_true rfl⟩
  refine wp_aload_n hc 0 dX6_canPeel_0 rfl ?_
  refine wp_iconst (v := 0) hc dX6_canPeel_1 (by decide) ?_
  refine wp_put (M' := st M 100 7 0) hc hx hin6 tyX6 tyX6_ok nmX6 (j := 100) (by decide) (by decide) (ce_5 rfl) rfl 7 (by decide) hf68 rfl rfl rfl (Nat.le_of_ble_eq_true rfl) (by rw [ce_5 rfl]; exact ce_stM7 _ _ _) (fun i hi => ce_row (va_up_ne _ _ hi) rfl) dX6_canPeel_2 ?_
  refine wp_nm (fun M1 hM1 => ?_)
  refine wp_aload_n hc 0 dX6_canPeel_5 rfl ?_
  refine wp_iload_n hc 2 dX6_canPeel_6 rfl ?_
  refine wp_aload_n hc 0 dX6_canPeel_7 rfl ?_
  refine wp_get hc hx hin6 (j := 100) (by decide) (by decide) (ce_5 rfl) rfl 11 (by decide) hf34 rfl dX6_canPeel_8 ?_
  refine wp_callVvw (As := [.int i2, .ref (z 109)]) (rest := []) (j := 100) (w := sX6_formsTo_1 M1 i2) hc hx (kX6_formsTo_1 l D cy z hz M1 i2 hb2) cw178 (by decide) (by decide) (ce_5 rfl) rfl rfl rfl rfl (Nat.le_of_ble_eq_true rfl) dX6_canPeel_11 (fun M2 hM2 => ?_)
  refine wp_aload_n hc 0 dX6_canPeel_14 rfl ?_
  refine wp_aload_n hc 0 dX6_canPeel_15 rfl ?_
  refine wp_get hc hx hin6 (j := 100) (by decide) (by decide) (ce_5 rfl) rfl 11 (by decide) hf34 rfl dX6_canPeel_16 ?_
  refine wp_callVvw (As := [.ref (z 109)]) (rest := []) (j := 100) (w := sX6_inverts_1 M2) hc hx (kX6_inverts_1 l D cy z hz M2) cw192 (by decide) (by decide) (ce_5 rfl) rfl rfl rfl rfl (Nat.le_of_ble_eq_true rfl) dX6_canPeel_19 (fun M3 hM3 => ?_)
  refine wp_aload_n hc 0 dX6_canPeel_22 rfl ?_
  refine wp_iload_n hc 1 dX6_canPeel_23 rfl ?_
  refine wp_aload_n hc 0 dX6_canPeel_24 rfl ?_
  refine wp_get hc hx hin6 (j := 100) (by decide) (by decide) (ce_5 rfl) rfl 12 (by decide) hf37 rfl dX6_canPeel_25 ?_
  refine wp_callVvw (As := [.int i1, .ref (z 110)]) (rest := []) (j := 100) (w := sX6_formsTo_2 M3 i1) hc hx (kX6_formsTo_2 l D cy z hz M3 i1 hb1) cw178 (by decide) (by decide) (ce_5 rfl) rfl rfl rfl rfl (Nat.le_of_ble_eq_true rfl) dX6_canPeel_28 (fun M4 hM4 => ?_)
  refine wp_aload_n hc 0 dX6_canPeel_31 rfl ?_
  refine wp_callVvw (As := []) (rest := []) (j := 100) (w := sX6_multiplies M4) hc hx (kX6_multiplies l D cy z hz M4) cw182 (by decide) (by decide) (ce_5 rfl) rfl rfl rfl rfl (Nat.le_of_ble_eq_true rfl) dX6_canPeel_32 (fun M5 hM5 => ?_)
  refine wp_aload_n hc 0 dX6_canPeel_35 rfl ?_
  refine wp_aload_n hc 0 dX6_canPeel_36 rfl ?_
  refine wp_get hc hx hin6 (j := 100) (by decide) (by decide) (ce_5 rfl) rfl 13 (by decide) hf40 rfl dX6_canPeel_37 ?_
  refine wp_aload_n hc 0 dX6_canPeel_40 rfl ?_
  refine wp_get hc hx hin6 (j := 100) (by decide) (by decide) (ce_5 rfl) rfl 11 (by decide) hf34 rfl dX6_canPeel_41 ?_
  refine wp_callVvw (As := [.ref (z 111), .ref (z 109)]) (rest := []) (j := 100) (w := sX6_copies M5) hc hx (kX6_copies l D cy z hz M5) cw196 (by decide) (by decide) (ce_5 rfl) rfl rfl rfl rfl (Nat.le_of_ble_eq_true rfl) dX6_canPeel_44 (fun M6 hM6 => ?_)
  refine wp_aload_n hc 0 dX6_canPeel_47 rfl ?_
  refine wp_iload_n hc 3 dX6_canPeel_48 rfl ?_
  refine wp_aload_n hc 0 dX6_canPeel_49 rfl ?_
  refine wp_get hc hx hin6 (j := 100) (by decide) (by decide) (ce_5 rfl) rfl 12 (by decide) hf37 rfl dX6_canPeel_50 ?_
  refine wp_callVvw (As := [.int i3, .ref (z 110)]) (rest := []) (j := 100) (w := sX6_formsTo_2 M6 i3) hc hx (kX6_formsTo_2 l D cy z hz M6 i3 hb3) cw178 (by decide) (by decide) (ce_5 rfl) rfl rfl rfl rfl (Nat.le_of_ble_eq_true rfl) dX6_canPeel_53 (fun M7 hM7 => ?_)
  refine wp_aload_n hc 0 dX6_canPeel_56 rfl ?_
  refine wp_aload_n hc 0 dX6_canPeel_57 rfl ?_
  refine wp_get hc hx hin6 (j := 100) (by decide) (by decide) (ce_5 rfl) rfl 12 (by decide) hf37 rfl dX6_canPeel_58 ?_
  refine wp_callVvw (As := [.ref (z 110)]) (rest := []) (j := 100) (w := sX6_inverts_2 M7) hc hx (kX6_inverts_2 l D cy z hz M7) cw192 (by decide) (by decide) (ce_5 rfl) rfl rfl rfl rfl (Nat.le_of_ble_eq_true rfl) dX6_canPeel_61 (fun M8 hM8 => ?_)
  refine wp_aload_n hc 0 dX6_canPeel_64 rfl ?_
  refine wp_callVvw (As := []) (rest := []) (j := 100) (w := sX6_multiplies M8) hc hx (kX6_multiplies l D cy z hz M8) cw182 (by decide) (by decide) (ce_5 rfl) rfl rfl rfl rfl (Nat.le_of_ble_eq_true rfl) dX6_canPeel_65 (fun M9 hM9 => ?_)
  refine wp_aload_n hc 0 dX6_canPeel_68 rfl ?_
  refine wp_callVvw (As := []) (rest := []) (j := 100) (w := sX6_goesBack M9) hc hx (kX6_goesBack l D cy z hz M9) cw185 (by decide) (by decide) (ce_5 rfl) rfl rfl rfl rfl (Nat.le_of_ble_eq_true rfl) dX6_canPeel_69 (fun M10 hM10 => ?_)
  refine wp_aload_n hc 0 dX6_canPeel_72 rfl ?_
  refine wp_get hc hx hin6 (j := 100) (by decide) (by decide) (ce_5 rfl) rfl 7 (by decide) hf68 rfl dX6_canPeel_73 ?_
  refine wp_if_ne (tgt := 83) hc dX6_canPeel_76 (by decide) (fun c76 => ?_) (fun c76 => ?_)
  · refine wp_iconst (v := 0) hc dX6_canPeel_83 (by decide) ?_
    refine wp_zret hc hr hk rfl ?_ dX6_canPeel_84
    show (0, M10) = sX6_canPeel M i1 i2 i3
    rw [sX6_canPeel, tk_eq hM1, tk_eq hM2, tk_eq hM3, tk_eq hM4, tk_eq hM5, tk_eq hM6, tk_eq hM7, tk_eq hM8, tk_eq hM9, tk_eq hM10, if_neg c76]
  refine wp_iconst (v := 1) hc dX6_canPeel_79 (by decide) ?_
  refine wp_goto (tgt := 84) hc dX6_canPeel_80 (by decide) ?_
  refine wp_zret hc hr hk rfl ?_ dX6_canPeel_84
  show (1, M10) = sX6_canPeel M i1 i2 i3
  rw [sX6_canPeel, tk_eq hM1, tk_eq hM2, tk_eq hM3, tk_eq hM4, tk_eq hM5, tk_eq hM6, tk_eq hM7, tk_eq hM8, tk_eq hM9, tk_eq hM10, if_pos c76]
set_option maxRecDepth 10000 in
theorem kpX6_canPeel (M : Mem) (i1 : Int32) (i2 : Int32) (i3 : Int32) : KP2 M (sX6_canPeel M i1 i2 i3) := by
  unfold sX6_canPeel
  refine tk_ind (P := KP2 M) _ _ (fun M1 hM1 => ?_)
  have k1 : KP M M1 := by rw [hM1]; exact kp_st (by decide)
  refine tk_ind (P := KP2 M) _ _ (fun M2 hM2 => ?_)
  have k2 : KP M1 M2 := by rw [hM2]; apply kpX6_formsTo_1
  refine tk_ind (P := KP2 M) _ _ (fun M3 hM3 => ?_)
  have k3 : KP M2 M3 := by rw [hM3]; apply kpX6_inverts_1
  refine tk_ind (P := KP2 M) _ _ (fun M4 hM4 => ?_)
  have k4 : KP M3 M4 := by rw [hM4]; apply kpX6_formsTo_2
  refine tk_ind (P := KP2 M) _ _ (fun M5 hM5 => ?_)
  have k5 : KP M4 M5 := by rw [hM5]; apply kpX6_multiplies
  refine tk_ind (P := KP2 M) _ _ (fun M6 hM6 => ?_)
  have k6 : KP M5 M6 := by rw [hM6]; apply kpX6_copies
  refine tk_ind (P := KP2 M) _ _ (fun M7 hM7 => ?_)
  have k7 : KP M6 M7 := by rw [hM7]; apply kpX6_formsTo_2
  refine tk_ind (P := KP2 M) _ _ (fun M8 hM8 => ?_)
  have k8 : KP M7 M8 := by rw [hM8]; apply kpX6_inverts_2
  refine tk_ind (P := KP2 M) _ _ (fun M9 hM9 => ?_)
  have k9 : KP M8 M9 := by rw [hM9]; apply kpX6_multiplies
  refine tk_ind (P := KP2 M) _ _ (fun M10 hM10 => ?_)
  have k10 : KP M9 M10 := by rw [hM10]; apply kpX6_goesBack
  refine ite_ind (P := KP2 M) (fun _ => ?_) (fun _ => ?_)
  · exact (show KP M M10 from KP.trans k1 (KP.trans k2 (KP.trans k3 (KP.trans k4 (KP.trans k5 (KP.trans k6 (KP.trans k7 (KP.trans k8 (KP.trans k9 (k10))))))))))
  · exact (show KP M M10 from KP.trans k1 (KP.trans k2 (KP.trans k3 (KP.trans k4 (KP.trans k5 (KP.trans k6 (KP.trans k7 (KP.trans k8 (KP.trans k9 (k10))))))))))
theorem bX6_canPeel (M : Mem) (i1 : Int32) (i2 : Int32) (i3 : Int32) : B01 (sX6_canPeel M i1 i2 i3) := by
  unfold sX6_canPeel
  refine tk_ind (P := B01) _ _ (fun M1 hM1 => ?_)
  refine tk_ind (P := B01) _ _ (fun M2 hM2 => ?_)
  refine tk_ind (P := B01) _ _ (fun M3 hM3 => ?_)
  refine tk_ind (P := B01) _ _ (fun M4 hM4 => ?_)
  refine tk_ind (P := B01) _ _ (fun M5 hM5 => ?_)
  refine tk_ind (P := B01) _ _ (fun M6 hM6 => ?_)
  refine tk_ind (P := B01) _ _ (fun M7 hM7 => ?_)
  refine tk_ind (P := B01) _ _ (fun M8 hM8 => ?_)
  refine tk_ind (P := B01) _ _ (fun M9 hM9 => ?_)
  refine tk_ind (P := B01) _ _ (fun M10 hM10 => ?_)
  refine ite_ind (P := B01) (fun _ => ?_) (fun _ => ?_)
  · exact (show _ ∨ _ from Or.inr rfl)
  · exact (show _ ∨ _ from Or.inl rfl)
def sX6_formsSecond (M : Mem) (i1 : Int32) : Mem :=
  tk ((fX6_by (M.1 101 ((fX6_boxAt M i1) + 1).toNatClampNeg) (M.1 101 ((fX6_boxAt M i1) + 2).toNatClampNeg))) fun x1 =>
  tk ((fX6_less (fX6_by (fX6_less 10007 (M.1 101 (fX6_boxAt M i1).toNatClampNeg)) (fX6_less 10007 (M.1 101 ((fX6_boxAt M i1) + 3).toNatClampNeg))) x1)) fun x2 =>
  tk (sX6_over M (fX6_plus (fX6_by (fX6_plus 10007 (M.1 101 (fX6_boxAt M i1).toNatClampNeg)) (fX6_less 10007 (M.1 101 ((fX6_boxAt M i1) + 3).toNatClampNeg))) x1) x2) fun x3 =>
  tk (st x3.2 109 0 x3.1) fun M4 =>
  tk (sX6_over M4 (fX6_plus (M4.1 101 ((fX6_boxAt M i1) + 1).toNatClampNeg) (M4.1 101 ((fX6_boxAt M i1) + 1).toNatClampNeg)) x2) fun x5 =>
  tk (st x5.2 109 1 x5.1) fun M6 =>
  tk (sX6_over M6 (fX6_plus (M6.1 101 ((fX6_boxAt M i1) + 2).toNatClampNeg) (M6.1 101 ((fX6_boxAt M i1) + 2).toNatClampNeg)) x2) fun x7 =>
  tk (st x7.2 109 2 x7.1) fun M8 =>
  tk (sX6_over M8 (fX6_plus (fX6_by (fX6_less 10007 (M.1 101 (fX6_boxAt M i1).toNatClampNeg)) (fX6_plus 10007 (M.1 101 ((fX6_boxAt M i1) + 3).toNatClampNeg))) x1) x2) fun x9 =>
  tk (st x9.2 109 3 x9.1) fun M10 =>
  M10
set_option maxHeartbeats 4000000 in
set_option maxRecDepth 100000 in
theorem kX6_formsSecond (l : Launch) (D : va_G) (cy : Nat → ClassId) (z : Nat → Nat) (hz : zI z) (M : Mem) (i1 : Int32) (hb : 0 ≤ i1.toInt ∧ i1.toInt < 8) : KV l yX6_formsSecond wsX6_formsSecond { frames := 4, cells := 0, slots := 0, locals := 92 } D cy z 100 15 [.ref (z 100), .int i1] M (fun u => u = sX6_formsSecond M i1) := by
  refine met_wp (lv := [(0, .ref (z 100)), (1, .int i1)]) hz (by decide) (by decide) rfl rfl (Nat.le_of_ble_eq_true rfl) rfl ?_
  intro p e s m below meth c hc hx hr hk
  have hNW := hx.2.1
  have hin6 : ∀ w ∈ wsX60, w ∈ wsX6_formsSecond := by decide +kernel
  have hf7 : Cond.fieldLink RX6 7 (TX6 0).1 (TX6 0).2.1 (TX6 0).2.2.1 ∈ wsX6_formsSecond := by decide +kernel
  have hf34 : Cond.fieldLink RX6 34 (TX6 11).1 (TX6 11).2.1 (TX6 11).2.2.1 ∈ wsX6_formsSecond := by decide +kernel
  have cw78 : CallB ({ frames := 4, cells := 0, slots := 0, locals := 92 }) s _ RX6 78 yX6_by cX6_by 6 (some .int) wsX6_by ({ frames := 2, cells := 0, slots := 0, locals := 42 }) 0 0 2 ∧ (Cond.static yX6_by).before _ s = true := va_cwS 2 hc.2.2.2.2 gX6_formsSecond_X6_by rfl rfl rfl (by decide +kernel) ⟨Nat.le_of_ble_eq_true rfl, Nat.le_of_ble_eq_true rfl⟩
  have cw85 : CallW ({ frames := 4, cells := 0, slots := 0, locals := 92 }) s _ RX6 RX6 85 yX6_boxAt cX6_boxAt 2 (some .int) wsX6_boxAt ({ frames := 0, cells := 0, slots := 0, locals := 0 }) 0 0 1 := cwV 1 hc.2.2.2.2 gX6_formsSecond_X6_boxAt rfl rfl rfl (by decide +kernel) ⟨Nat.le_of_ble_eq_true rfl, Nat.le_of_ble_eq_true rfl⟩
  have cw114 : CallB ({ frames := 4, cells := 0, slots := 0, locals := 92 }) s _ RX6 114 yX6_less cX6_less 2 (some .int) wsX6_less ({ frames := 2, cells := 0, slots := 0, locals := 42 }) 0 0 2 ∧ (Cond.static yX6_less).before _ s = true := va_cwS 2 hc.2.2.2.2 gX6_formsSecond_X6_less rfl rfl rfl (by decide +kernel) ⟨Nat.le_of_ble_eq_true rfl, Nat.le_of_ble_eq_true rfl⟩
  have cw117 : CallB ({ frames := 4, cells := 0, slots := 0, locals := 92 }) s _ RX6 117 yX6_plus cX6_plus 2 (some .int) wsX6_plus ({ frames := 2, cells := 0, slots := 0, locals := 42 }) 0 0 2 ∧ (Cond.static yX6_plus).before _ s = true := va_cwS 2 hc.2.2.2.2 gX6_formsSecond_X6_plus rfl rfl rfl (by decide +kernel) ⟨Nat.le_of_ble_eq_true rfl, Nat.le_of_ble_eq_true rfl⟩
  have cw123 : CallW ({ frames := 4, cells := 0, slots := 0, locals := 92 }) s _ RX6 RX6 123 yX6_over cX6_over 6 (some .int) wsX6_over ({ frames := 3, cells := 0, slots := 0, locals := 67 }) 0 0 2 := cwV 2 hc.2.2.2.2 gX6_formsSecond_X6_over rfl rfl rfl (by decide +kernel) ⟨Nat.le_of_ble_eq_true rfl, Nat.le_of_ble_eq_true rfl⟩
  refine wp_aload_n hc 0 dX6_formsSecond_0 rfl ?_
  refine wp_iload_n hc 1 dX6_formsSecond_1 rfl ?_
  refine wp_callVf (As := [.int i1]) (rest := []) (j := 100) (v := (fX6_boxAt M i1)) hc hx (kX6_boxAt l D cy z hz M i1) cw85 (by decide) (by decide) (ce_5 rfl) rfl rfl rfl rfl (Nat.le_of_ble_eq_true rfl) dX6_formsSecond_2 ?_
  refine wp_istore_n (lv' := [(2, .int (fX6_boxAt M i1)), (0, .ref (z 100)), (1, .int i1)]) hc dX6_formsSecond_5 (by decide) rfl ?_
  refine wp_aload_n hc 1 dX6_formsSecond_6 rfl ?_
  refine wp_get hc hx hin6 (j := 100) (by decide) (by decide) (ce_5 rfl) rfl 0 (by decide) hf7 rfl dX6_formsSecond_7 ?_
  refine wp_iload_n hc 0 dX6_formsSecond_10 rfl ?_
  refine wp_iald hc hx (j := 101) (by decide) (by decide) rfl (fX6_boxAt M i1).toNatClampNeg rfl (ixb hb) dX6_formsSecond_11 ?_
  refine wp_istore_n (lv' := [(3, .int (M.1 101 (fX6_boxAt M i1).toNatClampNeg)), (2, .int (fX6_boxAt M i1)), (0, .ref (z 100)), (1, .int i1)]) hc dX6_formsSecond_12 (by decide) rfl ?_
  refine wp_aload_n hc 2 dX6_formsSecond_13 rfl ?_
  refine wp_get hc hx hin6 (j := 100) (by decide) (by decide) (ce_5 rfl) rfl 0 (by decide) hf7 rfl dX6_formsSecond_14 ?_
  refine wp_iload_n hc 1 dX6_formsSecond_17 rfl ?_
  refine wp_iconst (v := 3) hc dX6_formsSecond_18 (by decide) ?_
  refine wp_iadd hc dX6_formsSecond_19 ?_
  refine wp_iald hc hx (j := 101) (by decide) (by decide) rfl ((fX6_boxAt M i1) + 3).toNatClampNeg rfl (ixbk hb (by decide)) dX6_formsSecond_20 ?_
  refine wp_istore (lv' := [(4, .int (M.1 101 ((fX6_boxAt M i1) + 3).toNatClampNeg)), (3, .int (M.1 101 (fX6_boxAt M i1).toNatClampNeg)), (2, .int (fX6_boxAt M i1)), (0, .ref (z 100)), (1, .int i1)]) hc dX6_formsSecond_21 (by decide) rfl ?_
  refine wp_aload_n hc 3 dX6_formsSecond_23 rfl ?_
  refine wp_get hc hx hin6 (j := 100) (by decide) (by decide) (ce_5 rfl) rfl 0 (by decide) hf7 rfl dX6_formsSecond_24 ?_
  refine wp_iload_n hc 2 dX6_formsSecond_27 rfl ?_
  refine wp_iconst (v := 1) hc dX6_formsSecond_28 (by decide) ?_
  refine wp_iadd hc dX6_formsSecond_29 ?_
  refine wp_iald hc hx (j := 101) (by decide) (by decide) rfl ((fX6_boxAt M i1) + 1).toNatClampNeg rfl (ixbk hb (by decide)) dX6_formsSecond_30 ?_
  refine wp_aload_n hc 3 dX6_formsSecond_31 rfl ?_
  refine wp_get hc hx hin6 (j := 100) (by decide) (by decide) (ce_5 rfl) rfl 0 (by decide) hf7 rfl dX6_formsSecond_32 ?_
  refine wp_iload_n hc 2 dX6_formsSecond_35 rfl ?_
  refine wp_iconst (v := 2) hc dX6_formsSecond_36 (by decide) ?_
  refine wp_iadd hc dX6_formsSecond_37 ?_
  refine wp_iald hc hx (j := 101) (by decide) (by decide) rfl ((fX6_boxAt M i1) + 2).toNatClampNeg rfl (ixbk hb (by decide)) dX6_formsSecond_38 ?_
  refine wp_callSg (As := [.int (M.1 101 ((fX6_boxAt M i1) + 1).toNatClampNeg), .int (M.1 101 ((fX6_boxAt M i1) + 2).toNatClampNeg)]) (rest := []) (v := (fX6_by (M.1 101 ((fX6_boxAt M i1) + 1).toNatClampNeg) (M.1 101 ((fX6_boxAt M i1) + 2).toNatClampNeg))) hc hNW (kX6_by l (M.1 101 ((fX6_boxAt M i1) + 1).toNatClampNeg) (M.1 101 ((fX6_boxAt M i1) + 2).toNatClampNeg)) cw78 rfl rfl (Nat.le_of_ble_eq_true rfl) dX6_formsSecond_39 ?_
  refine wp_topi (fun x1 hx1 => ?_)
  refine wp_istore (lv' := [(5, .int x1), (4, .int (M.1 101 ((fX6_boxAt M i1) + 3).toNatClampNeg)), (3, .int (M.1 101 (fX6_boxAt M i1).toNatClampNeg)), (2, .int (fX6_boxAt M i1)), (0, .ref (z 100)), (1, .int i1)]) hc dX6_formsSecond_42 (by decide) rfl ?_
  refine wp_sipush (v := 10007) hc dX6_formsSecond_44 (by decide) ?_
  refine wp_iload_n hc 2 dX6_formsSecond_47 rfl ?_
  refine wp_callSg (As := [.int 10007, .int (M.1 101 (fX6_boxAt M i1).toNatClampNeg)]) (rest := []) (v := (fX6_less 10007 (M.1 101 (fX6_boxAt M i1).toNatClampNeg))) hc hNW (kX6_less l 10007 (M.1 101 (fX6_boxAt M i1).toNatClampNeg)) cw114 rfl rfl (Nat.le_of_ble_eq_true rfl) dX6_formsSecond_48 ?_
  refine wp_sipush (v := 10007) hc dX6_formsSecond_51 (by decide) ?_
  refine wp_iload hc 1 dX6_formsSecond_54 rfl ?_
  refine wp_callSg (As := [.int 10007, .int (M.1 101 ((fX6_boxAt M i1) + 3).toNatClampNeg)]) (rest := [.int (fX6_less 10007 (M.1 101 (fX6_boxAt M i1).toNatClampNeg))]) (v := (fX6_less 10007 (M.1 101 ((fX6_boxAt M i1) + 3).toNatClampNeg))) hc hNW (kX6_less l 10007 (M.1 101 ((fX6_boxAt M i1) + 3).toNatClampNeg)) cw114 rfl rfl (Nat.le_of_ble_eq_true rfl) dX6_formsSecond_56 ?_
  refine wp_callSg (As := [.int (fX6_less 10007 (M.1 101 (fX6_boxAt M i1).toNatClampNeg)), .int (fX6_less 10007 (M.1 101 ((fX6_boxAt M i1) + 3).toNatClampNeg))]) (rest := []) (v := (fX6_by (fX6_less 10007 (M.1 101 (fX6_boxAt M i1).toNatClampNeg)) (fX6_less 10007 (M.1 101 ((fX6_boxAt M i1) + 3).toNatClampNeg)))) hc hNW (kX6_by l (fX6_less 10007 (M.1 101 (fX6_boxAt M i1).toNatClampNeg)) (fX6_less 10007 (M.1 101 ((fX6_boxAt M i1) + 3).toNatClampNeg))) cw78 rfl rfl (Nat.le_of_ble_eq_true rfl) dX6_formsSecond_59 ?_
  refine wp_iload hc 0 dX6_formsSecond_62 rfl ?_
  refine wp_callSg (As := [.int (fX6_by (fX6_less 10007 (M.1 101 (fX6_boxAt M i1).toNatClampNeg)) (fX6_less 10007 (M.1 101 ((fX6_boxAt M i1) + 3).toNatClampNeg))), .int x1]) (rest := []) (v := (fX6_less (fX6_by (fX6_less 10007 (M.1 101 (fX6_boxAt M i1).toNatClampNeg)) (fX6_less 10007 (M.1 101 ((fX6_boxAt M i1) + 3).toNatClampNeg))) x1)) hc hNW (kX6_less l (fX6_by (fX6_less 10007 (M.1 101 (fX6_boxAt M i1).toNatClampNeg)) (fX6_less 10007 (M.1 101 ((fX6_boxAt M i1) + 3).toNatClampNeg))) x1) cw114 rfl rfl (Nat.le_of_ble_eq_true rfl) dX6_formsSecond_64 ?_
  refine wp_topi (fun x2 hx2 => ?_)
  refine wp_istore (lv' := [(6, .int x2), (5, .int x1), (4, .int (M.1 101 ((fX6_boxAt M i1) + 3).toNatClampNeg)), (3, .int (M.1 101 (fX6_boxAt M i1).toNatClampNeg)), (2, .int (fX6_boxAt M i1)), (0, .ref (z 100)), (1, .int i1)]) hc dX6_formsSecond_67 (by decide) rfl ?_
  refine wp_aload_n hc 5 dX6_formsSecond_69 rfl ?_
  refine wp_get hc hx hin6 (j := 100) (by decide) (by decide) (ce_5 rfl) rfl 11 (by decide) hf34 rfl dX6_formsSecond_70 ?_
  refine wp_iconst (v := 0) hc dX6_formsSecond_73 (by decide) ?_
  refine wp_aload_n hc 5 dX6_formsSecond_74 rfl ?_
  refine wp_sipush (v := 10007) hc dX6_formsSecond_75 (by decide) ?_
  refine wp_iload_n hc 3 dX6_formsSecond_78 rfl ?_
  refine wp_callSg (As := [.int 10007, .int (M.1 101 (fX6_boxAt M i1).toNatClampNeg)]) (rest := [.ref (z 100), .int 0, .ref (z 109)]) (v := (fX6_plus 10007 (M.1 101 (fX6_boxAt M i1).toNatClampNeg))) hc hNW (kX6_plus l 10007 (M.1 101 (fX6_boxAt M i1).toNatClampNeg)) cw117 rfl rfl (Nat.le_of_ble_eq_true rfl) dX6_formsSecond_79 ?_
  refine wp_sipush (v := 10007) hc dX6_formsSecond_82 (by decide) ?_
  refine wp_iload hc 2 dX6_formsSecond_85 rfl ?_
  refine wp_callSg (As := [.int 10007, .int (M.1 101 ((fX6_boxAt M i1) + 3).toNatClampNeg)]) (rest := [.int (fX6_plus 10007 (M.1 101 (fX6_boxAt M i1).toNatClampNeg)), .ref (z 100), .int 0, .ref (z 109)]) (v := (fX6_less 10007 (M.1 101 ((fX6_boxAt M i1) + 3).toNatClampNeg))) hc hNW (kX6_less l 10007 (M.1 101 ((fX6_boxAt M i1) + 3).toNatClampNeg)) cw114 rfl rfl (Nat.le_of_ble_eq_true rfl) dX6_formsSecond_87 ?_
  refine wp_callSg (As := [.int (fX6_plus 10007 (M.1 101 (fX6_boxAt M i1).toNatClampNeg)), .int (fX6_less 10007 (M.1 101 ((fX6_boxAt M i1) + 3).toNatClampNeg))]) (rest := [.ref (z 100), .int 0, .ref (z 109)]) (v := (fX6_by (fX6_plus 10007 (M.1 101 (fX6_boxAt M i1).toNatClampNeg)) (fX6_less 10007 (M.1 101 ((fX6_boxAt M i1) + 3).toNatClampNeg)))) hc hNW (kX6_by l (fX6_plus 10007 (M.1 101 (fX6_boxAt M i1).toNatClampNeg)) (fX6_less 10007 (M.1 101 ((fX6_boxAt M i1) + 3).toNatClampNeg))) cw78 rfl rfl (Nat.le_of_ble_eq_true rfl) dX6_formsSecond_90 ?_
  refine wp_iload hc 1 dX6_formsSecond_93 rfl ?_
  refine wp_callSg (As := [.int (fX6_by (fX6_plus 10007 (M.1 101 (fX6_boxAt M i1).toNatClampNeg)) (fX6_less 10007 (M.1 101 ((fX6_boxAt M i1) + 3).toNatClampNeg))), .int x1]) (rest := [.ref (z 100), .int 0, .ref (z 109)]) (v := (fX6_plus (fX6_by (fX6_plus 10007 (M.1 101 (fX6_boxAt M i1).toNatClampNeg)) (fX6_less 10007 (M.1 101 ((fX6_boxAt M i1) + 3).toNatClampNeg))) x1)) hc hNW (kX6_plus l (fX6_by (fX6_plus 10007 (M.1 101 (fX6_boxAt M i1).toNatClampNeg)) (fX6_less 10007 (M.1 101 ((fX6_boxAt M i1) + 3).toNatClampNeg))) x1) cw117 rfl rfl (Nat.le_of_ble_eq_true rfl) dX6_formsSecond_95 ?_
  refine wp_iload hc 0 dX6_formsSecond_98 rfl ?_
  refine wp_callVw (As := [.int (fX6_plus (fX6_by (fX6_plus 10007 (M.1 101 (fX6_boxAt M i1).toNatClampNeg)) (fX6_less 10007 (M.1 101 ((fX6_boxAt M i1) + 3).toNatClampNeg))) x1), .int x2]) (rest := [.int 0, .ref (z 109)]) (j := 100) (w := sX6_over M (fX6_plus (fX6_by (fX6_plus 10007 (M.1 101 (fX6_boxAt M i1).toNatClampNeg)) (fX6_less 10007 (M.1 101 ((fX6_boxAt M i1) + 3).toNatClampNeg))) x1) x2) hc hx (kX6_over l D cy z hz M (fX6_plus (fX6_by (fX6_plus 10007 (M.1 101 (fX6_boxAt M i1).toNatClampNeg)) (fX6_less 10007 (M.1 101 ((fX6_boxAt M i1) + 3).toNatClampNeg))) x1) x2) cw123 (by decide) (by decide) (ce_5 rfl) rfl rfl rfl rfl (Nat.le_of_ble_eq_true rfl) dX6_formsSecond_100 (fun x3 hx3 => ?_)
  refine wp_iast hc hx (j := 109) (by decide) (by decide) rfl 0 rfl (vin (by decide)) dX6_formsSecond_103 ?_
  refine wp_nm (fun M4 hM4 => ?_)
  refine wp_aload_n hc 5 dX6_formsSecond_104 rfl ?_
  refine wp_get hc hx hin6 (j := 100) (by decide) (by decide) (ce_5 rfl) rfl 11 (by decide) hf34 rfl dX6_formsSecond_105 ?_
  refine wp_iconst (v := 1) hc dX6_formsSecond_108 (by decide) ?_
  refine wp_aload_n hc 5 dX6_formsSecond_109 rfl ?_
  refine wp_aload_n hc 5 dX6_formsSecond_110 rfl ?_
  refine wp_get hc hx hin6 (j := 100) (by decide) (by decide) (ce_5 rfl) rfl 0 (by decide) hf7 rfl dX6_formsSecond_111 ?_
  refine wp_iload_n hc 4 dX6_formsSecond_114 rfl ?_
  refine wp_iconst (v := 1) hc dX6_formsSecond_115 (by decide) ?_
  refine wp_iadd hc dX6_formsSecond_116 ?_
  refine wp_iald hc hx (j := 101) (by decide) (by decide) rfl ((fX6_boxAt M i1) + 1).toNatClampNeg rfl (ixbk hb (by decide)) dX6_formsSecond_117 ?_
  refine wp_aload_n hc 5 dX6_formsSecond_118 rfl ?_
  refine wp_get hc hx hin6 (j := 100) (by decide) (by decide) (ce_5 rfl) rfl 0 (by decide) hf7 rfl dX6_formsSecond_119 ?_
  refine wp_iload_n hc 4 dX6_formsSecond_122 rfl ?_
  refine wp_iconst (v := 1) hc dX6_formsSecond_123 (by decide) ?_
  refine wp_iadd hc dX6_formsSecond_124 ?_
  refine wp_iald hc hx (j := 101) (by decide) (by decide) rfl ((fX6_boxAt M i1) + 1).toNatClampNeg rfl (ixbk hb (by decide)) dX6_formsSecond_125 ?_
  refine wp_callSg (As := [.int (M4.1 101 ((fX6_boxAt M i1) + 1).toNatClampNeg), .int (M4.1 101 ((fX6_boxAt M i1) + 1).toNatClampNeg)]) (rest := [.ref (z 100), .int 1, .ref (z 109)]) (v := (fX6_plus (M4.1 101 ((fX6_boxAt M i1) + 1).toNatClampNeg) (M4.1 101 ((fX6_boxAt M i1) + 1).toNatClampNeg))) hc hNW (kX6_plus l (M4.1 101 ((fX6_boxAt M i1) + 1).toNatClampNeg) (M4.1 101 ((fX6_boxAt M i1) + 1).toNatClampNeg)) cw117 rfl rfl (Nat.le_of_ble_eq_true rfl) dX6_formsSecond_126 ?_
  refine wp_iload hc 0 dX6_formsSecond_129 rfl ?_
  refine wp_callVw (As := [.int (fX6_plus (M4.1 101 ((fX6_boxAt M i1) + 1).toNatClampNeg) (M4.1 101 ((fX6_boxAt M i1) + 1).toNatClampNeg)), .int x2]) (rest := [.int 1, .ref (z 109)]) (j := 100) (w := sX6_over M4 (fX6_plus (M4.1 101 ((fX6_boxAt M i1) + 1).toNatClampNeg) (M4.1 101 ((fX6_boxAt M i1) + 1).toNatClampNeg)) x2) hc hx (kX6_over l D cy z hz M4 (fX6_plus (M4.1 101 ((fX6_boxAt M i1) + 1).toNatClampNeg) (M4.1 101 ((fX6_boxAt M i1) + 1).toNatClampNeg)) x2) cw123 (by decide) (by decide) (ce_5 rfl) rfl rfl rfl rfl (Nat.le_of_ble_eq_true rfl) dX6_formsSecond_131 (fun x5 hx5 => ?_)
  refine wp_iast hc hx (j := 109) (by decide) (by decide) rfl 1 rfl (vin (by decide)) dX6_formsSecond_134 ?_
  refine wp_nm (fun M6 hM6 => ?_)
  refine wp_aload_n hc 5 dX6_formsSecond_135 rfl ?_
  refine wp_get hc hx hin6 (j := 100) (by decide) (by decide) (ce_5 rfl) rfl 11 (by decide) hf34 rfl dX6_formsSecond_136 ?_
  refine wp_iconst (v := 2) hc dX6_formsSecond_139 (by decide) ?_
  refine wp_aload_n hc 5 dX6_formsSecond_140 rfl ?_
  refine wp_aload_n hc 5 dX6_formsSecond_141 rfl ?_
  refine wp_get hc hx hin6 (j := 100) (by decide) (by decide) (ce_5 rfl) rfl 0 (by decide) hf7 rfl dX6_formsSecond_142 ?_
  refine wp_iload_n hc 4 dX6_formsSecond_145 rfl ?_
  refine wp_iconst (v := 2) hc dX6_formsSecond_146 (by decide) ?_
  refine wp_iadd hc dX6_formsSecond_147 ?_
  refine wp_iald hc hx (j := 101) (by decide) (by decide) rfl ((fX6_boxAt M i1) + 2).toNatClampNeg rfl (ixbk hb (by decide)) dX6_formsSecond_148 ?_
  refine wp_aload_n hc 5 dX6_formsSecond_149 rfl ?_
  refine wp_get hc hx hin6 (j := 100) (by decide) (by decide) (ce_5 rfl) rfl 0 (by decide) hf7 rfl dX6_formsSecond_150 ?_
  refine wp_iload_n hc 4 dX6_formsSecond_153 rfl ?_
  refine wp_iconst (v := 2) hc dX6_formsSecond_154 (by decide) ?_
  refine wp_iadd hc dX6_formsSecond_155 ?_
  refine wp_iald hc hx (j := 101) (by decide) (by decide) rfl ((fX6_boxAt M i1) + 2).toNatClampNeg rfl (ixbk hb (by decide)) dX6_formsSecond_156 ?_
  refine wp_callSg (As := [.int (M6.1 101 ((fX6_boxAt M i1) + 2).toNatClampNeg), .int (M6.1 101 ((fX6_boxAt M i1) + 2).toNatClampNeg)]) (rest := [.ref (z 100), .int 2, .ref (z 109)]) (v := (fX6_plus (M6.1 101 ((fX6_boxAt M i1) + 2).toNatClampNeg) (M6.1 101 ((fX6_boxAt M i1) + 2).toNatClampNeg))) hc hNW (kX6_plus l (M6.1 101 ((fX6_boxAt M i1) + 2).toNatClampNeg) (M6.1 101 ((fX6_boxAt M i1) + 2).toNatClampNeg)) cw117 rfl rfl (Nat.le_of_ble_eq_true rfl) dX6_formsSecond_157 ?_
  refine wp_iload hc 0 dX6_formsSecond_160 rfl ?_
  refine wp_callVw (As := [.int (fX6_plus (M6.1 101 ((fX6_boxAt M i1) + 2).toNatClampNeg) (M6.1 101 ((fX6_boxAt M i1) + 2).toNatClampNeg)), .int x2]) (rest := [.int 2, .ref (z 109)]) (j := 100) (w := sX6_over M6 (fX6_plus (M6.1 101 ((fX6_boxAt M i1) + 2).toNatClampNeg) (M6.1 101 ((fX6_boxAt M i1) + 2).toNatClampNeg)) x2) hc hx (kX6_over l D cy z hz M6 (fX6_plus (M6.1 101 ((fX6_boxAt M i1) + 2).toNatClampNeg) (M6.1 101 ((fX6_boxAt M i1) + 2).toNatClampNeg)) x2) cw123 (by decide) (by decide) (ce_5 rfl) rfl rfl rfl rfl (Nat.le_of_ble_eq_true rfl) dX6_formsSecond_162 (fun x7 hx7 => ?_)
  refine wp_iast hc hx (j := 109) (by decide) (by decide) rfl 2 rfl (vin (by decide)) dX6_formsSecond_165 ?_
  refine wp_nm (fun M8 hM8 => ?_)
  refine wp_aload_n hc 5 dX6_formsSecond_166 rfl ?_
  refine wp_get hc hx hin6 (j := 100) (by decide) (by decide) (ce_5 rfl) rfl 11 (by decide) hf34 rfl dX6_formsSecond_167 ?_
  refine wp_iconst (v := 3) hc dX6_formsSecond_170 (by decide) ?_
  refine wp_aload_n hc 5 dX6_formsSecond_171 rfl ?_
  refine wp_sipush (v := 10007) hc dX6_formsSecond_172 (by decide) ?_
  refine wp_iload_n hc 3 dX6_formsSecond_175 rfl ?_
  refine wp_callSg (As := [.int 10007, .int (M.1 101 (fX6_boxAt M i1).toNatClampNeg)]) (rest := [.ref (z 100), .int 3, .ref (z 109)]) (v := (fX6_less 10007 (M.1 101 (fX6_boxAt M i1).toNatClampNeg))) hc hNW (kX6_less l 10007 (M.1 101 (fX6_boxAt M i1).toNatClampNeg)) cw114 rfl rfl (Nat.le_of_ble_eq_true rfl) dX6_formsSecond_176 ?_
  refine wp_sipush (v := 10007) hc dX6_formsSecond_179 (by decide) ?_
  refine wp_iload hc 2 dX6_formsSecond_182 rfl ?_
  refine wp_callSg (As := [.int 10007, .int (M.1 101 ((fX6_boxAt M i1) + 3).toNatClampNeg)]) (rest := [.int (fX6_less 10007 (M.1 101 (fX6_boxAt M i1).toNatClampNeg)), .ref (z 100), .int 3, .ref (z 109)]) (v := (fX6_plus 10007 (M.1 101 ((fX6_boxAt M i1) + 3).toNatClampNeg))) hc hNW (kX6_plus l 10007 (M.1 101 ((fX6_boxAt M i1) + 3).toNatClampNeg)) cw117 rfl rfl (Nat.le_of_ble_eq_true rfl) dX6_formsSecond_184 ?_
  refine wp_callSg (As := [.int (fX6_less 10007 (M.1 101 (fX6_boxAt M i1).toNatClampNeg)), .int (fX6_plus 10007 (M.1 101 ((fX6_boxAt M i1) + 3).toNatClampNeg))]) (rest := [.ref (z 100), .int 3, .ref (z 109)]) (v := (fX6_by (fX6_less 10007 (M.1 101 (fX6_boxAt M i1).toNatClampNeg)) (fX6_plus 10007 (M.1 101 ((fX6_boxAt M i1) + 3).toNatClampNeg)))) hc hNW (kX6_by l (fX6_less 10007 (M.1 101 (fX6_boxAt M i1).toNatClampNeg)) (fX6_plus 10007 (M.1 101 ((fX6_boxAt M i1) + 3).toNatClampNeg))) cw78 rfl rfl (Nat.le_of_ble_eq_true rfl) dX6_formsSecond_187 ?_
  refine wp_iload hc 1 dX6_formsSecond_190 rfl ?_
  refine wp_callSg (As := [.int (fX6_by (fX6_less 10007 (M.1 101 (fX6_boxAt M i1).toNatClampNeg)) (fX6_plus 10007 (M.1 101 ((fX6_boxAt M i1) + 3).toNatClampNeg))), .int x1]) (rest := [.ref (z 100), .int 3, .ref (z 109)]) (v := (fX6_plus (fX6_by (fX6_less 10007 (M.1 101 (fX6_boxAt M i1).toNatClampNeg)) (fX6_plus 10007 (M.1 101 ((fX6_boxAt M i1) + 3).toNatClampNeg))) x1)) hc hNW (kX6_plus l (fX6_by (fX6_less 10007 (M.1 101 (fX6_boxAt M i1).toNatClampNeg)) (fX6_plus 10007 (M.1 101 ((fX6_boxAt M i1) + 3).toNatClampNeg))) x1) cw117 rfl rfl (Nat.le_of_ble_eq_true rfl) dX6_formsSecond_192 ?_
  refine wp_iload hc 0 dX6_formsSecond_195 rfl ?_
  refine wp_callVw (As := [.int (fX6_plus (fX6_by (fX6_less 10007 (M.1 101 (fX6_boxAt M i1).toNatClampNeg)) (fX6_plus 10007 (M.1 101 ((fX6_boxAt M i1) + 3).toNatClampNeg))) x1), .int x2]) (rest := [.int 3, .ref (z 109)]) (j := 100) (w := sX6_over M8 (fX6_plus (fX6_by (fX6_less 10007 (M.1 101 (fX6_boxAt M i1).toNatClampNeg)) (fX6_plus 10007 (M.1 101 ((fX6_boxAt M i1) + 3).toNatClampNeg))) x1) x2) hc hx (kX6_over l D cy z hz M8 (fX6_plus (fX6_by (fX6_less 10007 (M.1 101 (fX6_boxAt M i1).toNatClampNeg)) (fX6_plus 10007 (M.1 101 ((fX6_boxAt M i1) + 3).toNatClampNeg))) x1) x2) cw123 (by decide) (by decide) (ce_5 rfl) rfl rfl rfl rfl (Nat.le_of_ble_eq_true rfl) dX6_formsSecond_197 (fun x9 hx9 => ?_)
  refine wp_iast hc hx (j := 109) (by decide) (by decide) rfl 3 rfl (vin (by decide)) dX6_formsSecond_200 ?_
  refine wp_nm (fun M10 hM10 => ?_)
  refine wp_vret hc hr hk ?_ dX6_formsSecond_201
  show M10 = sX6_formsSecond M i1
  rw [sX6_formsSecond, tk_eq hx1, tk_eq hx2, tk_eq hx3, tk_eq hM4, tk_eq hx5, tk_eq hM6, tk_eq hx7, tk_eq hM8, tk_eq hx9, tk_eq hM10]
set_option maxRecDepth 10000 in
theorem kpX6_formsSecond (M : Mem) (i1 : Int32) : KP M (sX6_formsSecond M i1) := by
  unfold sX6_formsSecond
  refine tk_ind (P := KP M) _ _ (fun x1 hx1 => ?_)
  refine tk_ind (P := KP M) _ _ (fun x2 hx2 => ?_)
  refine tk_ind (P := KP M) _ _ (fun x3 hx3 => ?_)
  have k1 : KP2 M x3 := by rw [hx3]; apply kpX6_over
  refine tk_ind (P := KP M) _ _ (fun M4 hM4 => ?_)
  have k2 : KP x3.2 M4 := by rw [hM4]; exact kp_st (by decide)
  refine tk_ind (P := KP M) _ _ (fun x5 hx5 => ?_)
  have k3 : KP2 M4 x5 := by rw [hx5]; apply kpX6_over
  refine tk_ind (P := KP M) _ _ (fun M6 hM6 => ?_)
  have k4 : KP x5.2 M6 := by rw [hM6]; exact kp_st (by decide)
  refine tk_ind (P := KP M) _ _ (fun x7 hx7 => ?_)
  have k5 : KP2 M6 x7 := by rw [hx7]; apply kpX6_over
  refine tk_ind (P := KP M) _ _ (fun M8 hM8 => ?_)
  have k6 : KP x7.2 M8 := by rw [hM8]; exact kp_st (by decide)
  refine tk_ind (P := KP M) _ _ (fun x9 hx9 => ?_)
  have k7 : KP2 M8 x9 := by rw [hx9]; apply kpX6_over
  refine tk_ind (P := KP M) _ _ (fun M10 hM10 => ?_)
  have k8 : KP x9.2 M10 := by rw [hM10]; exact kp_st (by decide)
  exact (show KP M M10 from KP.trans k1 (KP.trans k2 (KP.trans k3 (KP.trans k4 (KP.trans k5 (KP.trans k6 (KP.trans k7 (k8))))))))
