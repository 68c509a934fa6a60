def sX4_tells (M : Mem) (q1 : Nat) (q2 : Nat) : Int32 × Mem :=
  tk ((fX1_minus (fX1_minus 10007 (fX1_times (M.1 q1 1) (M.1 q2 0))) (fX1_times (M.1 q1 4) (M.1 q2 3)))) fun x1 =>
  tk ((fX1_minus (fX1_minus 10007 (fX1_times (M.1 q1 10) (M.1 q2 0))) (fX1_times (M.1 q1 7) (M.1 q2 3)))) fun x2 =>
  tk ((fX1_plus x1 (fX1_times (fX1_times (M.1 q1 1) (M.1 q1 4)) (fX0_determinant M q2)))) fun x3 =>
  tk ((fX1_plus x2 (fX1_times (fX1_times (M.1 q1 10) (M.1 q1 7)) (fX0_determinant M q2)))) fun x4 =>
  if x3 = 0 then
  (0, M)
  else
  if x4 = 0 then
  (0, M)
  else
  tk ((fX1_times (M.1 q1 2) (fX1_minus (M.1 q2 0) (fX1_times (M.1 q1 4) (fX0_determinant M q2))))) fun x5 =>
  tk ((fX1_times (M.1 q1 8) (fX1_minus (M.1 q2 3) (fX1_times (M.1 q1 10) (fX0_determinant M q2))))) fun x6 =>
  tk (sX0_fill M 3 (fX1_plus (M.1 q1 0) (fX1_over x5 x3)) (fX1_plus (M.1 q1 9) (fX1_over (fX1_times (M.1 q1 11) (M.1 q2 1)) x4)) (fX1_plus (M.1 q1 3) (fX1_over (fX1_times (M.1 q1 5) (M.1 q2 2)) x3)) (fX1_plus (M.1 q1 6) (fX1_over x6 x4))) fun M7 =>
  (1, M7)
set_option maxHeartbeats 4000000 in
set_option maxRecDepth 100000 in
theorem kX4_tells (l : Launch) (D : va_G) (cy : Nat → ClassId) (z : Nat → Nat) (hz : zI z) (M : Mem) (q1 : Nat) (q2 : Nat) (hlq1 : 0 ≤ q1) (hjq1 : q1 < 0 + 100) (hkq1 : kd q1 = 7) (hnq1 : ln q1 = 12) (hjq2 : q2 < 0 + 100) (hkq2 : kd q2 = 0) : KI l yX4_tells wsX4_tells { frames := 3, cells := 0, slots := 0, locals := 68 } D cy z 0 100 [.ref (z 1), .ref (z q1), .ref (z q2)] M (fun r u => (r, u) = sX4_tells M q1 q2) := by
  refine met_wp (lv := [(0, .ref (z 1)), (1, .ref (z q1)), (2, .ref (z q2))]) hz (by decide) (by decide) rfl rfl (Nat.le_of_ble_eq_true rfl) rfl ?_
  intro p e s m below meth c hc hx hr hk
  have hNW := hx.2.1
  have hin0 : ∀ w ∈ wsX00, w ∈ wsX4_tells := by decide +kernel
  have hin4 : ∀ w ∈ wsX40, w ∈ wsX4_tells := by decide +kernel
  have hf18 : Cond.fieldLink RX4 18 (TX4 1).1 (TX4 1).2.1 (TX4 1).2.2.1 ∈ wsX4_tells := by decide +kernel
  have hf77 : Cond.fieldLink RX4 77 (TX0 3).1 (TX0 3).2.1 (TX0 3).2.2.1 ∈ wsX4_tells := by decide +kernel
  have hf81 : Cond.fieldLink RX4 81 (TX0 2).1 (TX0 2).2.1 (TX0 2).2.2.1 ∈ wsX4_tells := by decide +kernel
  have hf84 : Cond.fieldLink RX4 84 (TX0 1).1 (TX0 1).2.1 (TX0 1).2.2.1 ∈ wsX4_tells := by decide +kernel
  have hf87 : Cond.fieldLink RX4 87 (TX0 0).1 (TX0 0).2.1 (TX0 0).2.2.1 ∈ wsX4_tells := by decide +kernel
  have cw40 : CallW ({ frames := 3, cells := 0, slots := 0, locals := 68 }) s _ RX4 RX0 40 yX0_fill cX0_fill 5 none wsX0_fill ({ frames := 0, cells := 0, slots := 0, locals := 0 }) 0 0 4 := cwV 4 hc.2.2.2.2 gX4_tells_X0_fill rfl rfl rfl (by decide +kernel) ⟨Nat.le_of_ble_eq_true rfl, Nat.le_of_ble_eq_true rfl⟩
  have cw152 : CallW ({ frames := 3, cells := 0, slots := 0, locals := 68 }) s _ RX4 RX0 152 yX0_determinant cX0_determinant 1 (some .int) wsX0_determinant ({ frames := 2, cells := 0, slots := 0, locals := 48 }) 0 0 0 := cwV 0 hc.2.2.2.2 gX4_tells_X0_determinant rfl rfl rfl (by decide +kernel) ⟨Nat.le_of_ble_eq_true rfl, Nat.le_of_ble_eq_true rfl⟩
  have cw156 : CallB ({ frames := 3, cells := 0, slots := 0, locals := 68 }) s _ RX4 156 yX1_times cX1_times 6 (some .int) wsX1_times ({ frames := 1, cells := 0, slots := 0, locals := 23 }) 0 0 2 ∧ (Cond.static yX1_times).before _ s = true := va_cwS 2 hc.2.2.2.2 gX4_tells_X1_times rfl rfl rfl (by decide +kernel) ⟨Nat.le_of_ble_eq_true rfl, Nat.le_of_ble_eq_true rfl⟩
  have cw159 : CallB ({ frames := 3, cells := 0, slots := 0, locals := 68 }) s _ RX4 159 yX1_minus cX1_minus 2 (some .int) wsX1_minus ({ frames := 1, cells := 0, slots := 0, locals := 23 }) 0 0 2 ∧ (Cond.static yX1_minus).before _ s = true := va_cwS 2 hc.2.2.2.2 gX4_tells_X1_minus rfl rfl rfl (by decide +kernel) ⟨Nat.le_of_ble_eq_true rfl, Nat.le_of_ble_eq_true rfl⟩
  have cw162 : CallB ({ frames := 3, cells := 0, slots := 0, locals := 68 }) s _ RX4 162 yX1_plus cX1_plus 2 (some .int) wsX1_plus ({ frames := 1, cells := 0, slots := 0, locals := 23 }) 0 0 2 ∧ (Cond.static yX1_plus).before _ s = true := va_cwS 2 hc.2.2.2.2 gX4_tells_X1_plus rfl rfl rfl (by decide +kernel) ⟨Nat.le_of_ble_eq_true rfl, Nat.le_of_ble_eq_true rfl⟩
  have cw165 : CallB ({ frames := 3, cells := 0, slots := 0, locals := 68 }) s _ RX4 165 yX1_over cX1_over 9 (some .int) wsX1_over ({ frames := 1, cells := 0, slots := 0, locals := 23 }) 0 0 2 ∧ (Cond.static yX1_over).before _ s = true := va_cwS 2 hc.2.2.2.2 gX4_tells_X1_over rfl rfl rfl (by decide +kernel) ⟨Nat.le_of_ble_eq_true rfl, Nat.le_of_ble_eq_true rfl⟩
  refine wp_aload_n hc 2 dX4_tells_0 rfl ?_
  refine wp_callVf (As := []) (rest := []) (j := q2) (v := (fX0_determinant M q2)) hc hx (kX0_determinant l D cy z hz M q2 hjq2 hkq2) cw152 (Nat.zero_le _) hjq2 (ce_0 hkq2) rfl rfl rfl rfl (Nat.le_of_ble_eq_true rfl) dX4_tells_1 ?_
  refine wp_istore_n (lv' := [(3, .int (fX0_determinant M q2)), (0, .ref (z 1)), (1, .ref (z q1)), (2, .ref (z q2))]) hc dX4_tells_4 (by decide) rfl ?_
  refine wp_sipush (v := 10007) hc dX4_tells_5 (by decide) ?_
  refine wp_aload_n hc 2 dX4_tells_8 rfl ?_
  refine wp_iconst (v := 1) hc dX4_tells_9 (by decide) ?_
  refine wp_iald hc hx (j := q1) hlq1 hjq1 hkq1 1 rfl (by rw [hnq1]; exact vin (by decide)) dX4_tells_10 ?_
  refine wp_aload_n hc 3 dX4_tells_11 rfl ?_
  refine wp_get hc hx hin0 (j := q2) (Nat.zero_le _) hjq2 (ce_0 hkq2) rfl 0 (by decide) hf87 rfl dX4_tells_12 ?_
  refine wp_callSg (As := [.int (M.1 q1 1), .int (M.1 q2 0)]) (rest := [.int 10007]) (v := (fX1_times (M.1 q1 1) (M.1 q2 0))) hc hNW (kX1_times l (M.1 q1 1) (M.1 q2 0)) cw156 rfl rfl (Nat.le_of_ble_eq_true rfl) dX4_tells_15 ?_
  refine wp_callSg (As := [.int 10007, .int (fX1_times (M.1 q1 1) (M.1 q2 0))]) (rest := []) (v := (fX1_minus 10007 (fX1_times (M.1 q1 1) (M.1 q2 0)))) hc hNW (kX1_minus l 10007 (fX1_times (M.1 q1 1) (M.1 q2 0))) cw159 rfl rfl (Nat.le_of_ble_eq_true rfl) dX4_tells_18 ?_
  refine wp_aload_n hc 2 dX4_tells_21 rfl ?_
  refine wp_iconst (v := 4) hc dX4_tells_22 (by decide) ?_
  refine wp_iald hc hx (j := q1) hlq1 hjq1 hkq1 4 rfl (by rw [hnq1]; exact vin (by decide)) dX4_tells_23 ?_
  refine wp_aload_n hc 3 dX4_tells_24 rfl ?_
  refine wp_get hc hx hin0 (j := q2) (Nat.zero_le _) hjq2 (ce_0 hkq2) rfl 3 (by decide) hf77 rfl dX4_tells_25 ?_
  refine wp_callSg (As := [.int (M.1 q1 4), .int (M.1 q2 3)]) (rest := [.int (fX1_minus 10007 (fX1_times (M.1 q1 1) (M.1 q2 0)))]) (v := (fX1_times (M.1 q1 4) (M.1 q2 3))) hc hNW (kX1_times l (M.1 q1 4) (M.1 q2 3)) cw156 rfl rfl (Nat.le_of_ble_eq_true rfl) dX4_tells_28 ?_
  refine wp_callSg (As := [.int (fX1_minus 10007 (fX1_times (M.1 q1 1) (M.1 q2 0))), .int (fX1_times (M.1 q1 4) (M.1 q2 3))]) (rest := []) (v := (fX1_minus (fX1_minus 10007 (fX1_times (M.1 q1 1) (M.1 q2 0))) (fX1_times (M.1 q1 4) (M.1 q2 3)))) hc hNW (kX1_minus l (fX1_minus 10007 (fX1_times (M.1 q1 1) (M.1 q2 0))) (fX1_times (M.1 q1 4) (M.1 q2 3))) cw159 rfl rfl (Nat.le_of_ble_eq_true rfl) dX4_tells_31 ?_
  refine wp_topi (fun x1 hx1 => ?_)
  refine wp_istore (lv' := [(4, .int x1), (3, .int (fX0_determinant M q2)), (0, .ref (z 1)), (1, .ref (z q1)), (2, .ref (z q2))]) hc dX4_tells_34 (by decide) rfl ?_
  refine wp_sipush (v := 10007) hc dX4_tells_36 (by decide) ?_
  refine wp_aload_n hc 3 dX4_tells_39 rfl ?_
  refine wp_bipush (v := 10) hc dX4_tells_40 (by decide) ?_
  refine wp_iald hc hx (j := q1) hlq1 hjq1 hkq1 10 rfl (by rw [hnq1]; exact vin (by decide)) dX4_tells_42 ?_
  refine wp_aload_n hc 4 dX4_tells_43 rfl ?_
  refine wp_get hc hx hin0 (j := q2) (Nat.zero_le _) hjq2 (ce_0 hkq2) rfl 0 (by decide) hf87 rfl dX4_tells_44 ?_
  refine wp_callSg (As := [.int (M.1 q1 10), .int (M.1 q2 0)]) (rest := [.int 10007]) (v := (fX1_times (M.1 q1 10) (M.1 q2 0))) hc hNW (kX1_times l (M.1 q1 10) (M.1 q2 0)) cw156 rfl rfl (Nat.le_of_ble_eq_true rfl) dX4_tells_47 ?_
  refine wp_callSg (As := [.int 10007, .int (fX1_times (M.1 q1 10) (M.1 q2 0))]) (rest := []) (v := (fX1_minus 10007 (fX1_times (M.1 q1 10) (M.1 q2 0)))) hc hNW (kX1_minus l 10007 (fX1_times (M.1 q1 10) (M.1 q2 0))) cw159 rfl rfl (Nat.le_of_ble_eq_true rfl) dX4_tells_50 ?_
  refine wp_aload_n hc 3 dX4_tells_53 rfl ?_
  refine wp_bipush (v := 7) hc dX4_tells_54 (by decide) ?_
  refine wp_iald hc hx (j := q1) hlq1 hjq1 hkq1 7 rfl (by rw [hnq1]; exact vin (by decide)) dX4_tells_56 ?_
  refine wp_aload_n hc 4 dX4_tells_57 rfl ?_
  refine wp_get hc hx hin0 (j := q2) (Nat.zero_le _) hjq2 (ce_0 hkq2) rfl 3 (by decide) hf77 rfl dX4_tells_58 ?_
  refine wp_callSg (As := [.int (M.1 q1 7), .int (M.1 q2 3)]) (rest := [.int (fX1_minus 10007 (fX1_times (M.1 q1 10) (M.1 q2 0)))]) (v := (fX1_times (M.1 q1 7) (M.1 q2 3))) hc hNW (kX1_times l (M.1 q1 7) (M.1 q2 3)) cw156 rfl rfl (Nat.le_of_ble_eq_true rfl) dX4_tells_61 ?_
  refine wp_callSg (As := [.int (fX1_minus 10007 (fX1_times (M.1 q1 10) (M.1 q2 0))), .int (fX1_times (M.1 q1 7) (M.1 q2 3))]) (rest := []) (v := (fX1_minus (fX1_minus 10007 (fX1_times (M.1 q1 10) (M.1 q2 0))) (fX1_times (M.1 q1 7) (M.1 q2 3)))) hc hNW (kX1_minus l (fX1_minus 10007 (fX1_times (M.1 q1 10) (M.1 q2 0))) (fX1_times (M.1 q1 7) (M.1 q2 3))) cw159 rfl rfl (Nat.le_of_ble_eq_true rfl) dX4_tells_64 ?_
  refine wp_topi (fun x2 hx2 => ?_)
  refine wp_istore (lv' := [(5, .int x2), (4, .int x1), (3, .int (fX0_determinant M q2)), (0, .ref (z 1)), (1, .ref (z q1)), (2, .ref (z q2))]) hc dX4_tells_67 (by decide) rfl ?_
  refine wp_iload hc 1 dX4_tells_69 rfl ?_
  refine wp_aload_n hc 4 dX4_tells_71 rfl ?_
  refine wp_iconst (v := 1) hc dX4_tells_72 (by decide) ?_
  refine wp_iald hc hx (j := q1) hlq1 hjq1 hkq1 1 rfl (by rw [hnq1]; exact vin (by decide)) dX4_tells_73 ?_
  refine wp_aload_n hc 4 dX4_tells_74 rfl ?_
  refine wp_iconst (v := 4) hc dX4_tells_75 (by decide) ?_
  refine wp_iald hc hx (j := q1) hlq1 hjq1 hkq1 4 rfl (by rw [hnq1]; exact vin (by decide)) dX4_tells_76 ?_
  refine wp_callSg (As := [.int (M.1 q1 1), .int (M.1 q1 4)]) (rest := [.int x1]) (v := (fX1_times (M.1 q1 1) (M.1 q1 4))) hc hNW (kX1_times l (M.1 q1 1) (M.1 q1 4)) cw156 rfl rfl (Nat.le_of_ble_eq_true rfl) dX4_tells_77 ?_
  refine wp_iload_n hc 2 dX4_tells_80 rfl ?_
  refine wp_callSg (As := [.int (fX1_times (M.1 q1 1) (M.1 q1 4)), .int (fX0_determinant M q2)]) (rest := [.int x1]) (v := (fX1_times (fX1_times (M.1 q1 1) (M.1 q1 4)) (fX0_determinant M q2))) hc hNW (kX1_times l (fX1_times (M.1 q1 1) (M.1 q1 4)) (fX0_determinant M q2)) cw156 rfl rfl (Nat.le_of_ble_eq_true rfl) dX4_tells_81 ?_
  refine wp_callSg (As := [.int x1, .int (fX1_times (fX1_times (M.1 q1 1) (M.1 q1 4)) (fX0_determinant M q2))]) (rest := []) (v := (fX1_plus x1 (fX1_times (fX1_times (M.1 q1 1) (M.1 q1 4)) (fX0_determinant M q2)))) hc hNW (kX1_plus l x1 (fX1_times (fX1_times (M.1 q1 1) (M.1 q1 4)) (fX0_determinant M q2))) cw162 rfl rfl (Nat.le_of_ble_eq_true rfl) dX4_tells_84 ?_
  refine wp_topi (fun x3 hx3 => ?_)
  refine wp_istore (lv' := [(6, .int x3), (5, .int x2), (4, .int x1), (3, .int (fX0_determinant M q2)), (0, .ref (z 1)), (1, .ref (z q1)), (2, .ref (z q2))]) hc dX4_tells_87 (by decide) rfl ?_
  refine wp_iload hc 1 dX4_tells_89 rfl ?_
  refine wp_aload_n hc 5 dX4_tells_91 rfl ?_
  refine wp_bipush (v := 10) hc dX4_tells_92 (by decide) ?_
  refine wp_iald hc hx (j := q1) hlq1 hjq1 hkq1 10 rfl (by rw [hnq1]; exact vin (by decide)) dX4_tells_94 ?_
  refine wp_aload_n hc 5 dX4_tells_95 rfl ?_
  refine wp_bipush (v := 7) hc dX4_tells_96 (by decide) ?_
  refine wp_iald hc hx (j := q1) hlq1 hjq1 hkq1 7 rfl (by rw [hnq1]; exact vin (by decide)) dX4_tells_98 ?_
  refine wp_callSg (As := [.int (M.1 q1 10), .int (M.1 q1 7)]) (rest := [.int x2]) (v := (fX1_times (M.1 q1 10) (M.1 q1 7))) hc hNW (kX1_times l (M.1 q1 10) (M.1 q1 7)) cw156 rfl rfl (Nat.le_of_ble_eq_true rfl) dX4_tells_99 ?_
  refine wp_iload_n hc 3 dX4_tells_102 rfl ?_
  refine wp_callSg (As := [.int (fX1_times (M.1 q1 10) (M.1 q1 7)), .int (fX0_determinant M q2)]) (rest := [.int x2]) (v := (fX1_times (fX1_times (M.1 q1 10) (M.1 q1 7)) (fX0_determinant M q2))) hc hNW (kX1_times l (fX1_times (M.1 q1 10) (M.1 q1 7)) (fX0_determinant M q2)) cw156 rfl rfl (Nat.le_of_ble_eq_true rfl) dX4_tells_103 ?_
  refine wp_callSg (As := [.int x2, .int (fX1_times (fX1_times (M.1 q1 10) (M.1 q1 7)) (fX0_determinant M q2))]) (rest := []) (v := (fX1_plus x2 (fX1_times (fX1_times (M.1 q1 10) (M.1 q1 7)) (fX0_determinant M q2)))) hc hNW (kX1_plus l x2 (fX1_times (fX1_times (M.1 q1 10) (M.1 q1 7)) (fX0_determinant M q2))) cw162 rfl rfl (Nat.le_of_ble_eq_true rfl) dX4_tells_106 ?_
  refine wp_topi (fun x4 hx4 => ?_)
  refine wp_istore (lv' := [(7, .int x4), (6, .int x3), (5, .int x2), (4, .int x1), (3, .int (fX0_determinant M q2)), (0, .ref (z 1)), (1, .ref (z q1)), (2, .ref (z q2))]) hc dX4_tells_109 (by decide) rfl ?_
  refine wp_iload hc 1 dX4_tells_111 rfl ?_
  refine wp_if_eq (tgt := 121) hc dX4_tells_113 (by decide) (fun c113 => ?_) (fun c113 => ?_)
  · refine wp_iconst (v := 0) hc dX4_tells_121 (by decide) ?_
    refine wp_zret hc hr hk rfl ?_ dX4_tells_122
    show (0, M) = sX4_tells M q1 q2
    rw [sX4_tells, tk_eq hx1, tk_eq hx2, tk_eq hx3, tk_eq hx4, if_pos c113]
  refine wp_iload hc 0 dX4_tells_116 rfl ?_
  refine wp_if_ne (tgt := 123) hc dX4_tells_118 (by decide) (fun c118 => ?_) (fun c118 => ?_)
  · refine wp_aload_n hc 6 dX4_tells_123 rfl ?_
    refine wp_iconst (v := 2) hc dX4_tells_124 (by decide) ?_
    refine wp_iald hc hx (j := q1) hlq1 hjq1 hkq1 2 rfl (by rw [hnq1]; exact vin (by decide)) dX4_tells_125 ?_
    refine wp_aload_n hc 7 dX4_tells_126 rfl ?_
    refine wp_get hc hx hin0 (j := q2) (Nat.zero_le _) hjq2 (ce_0 hkq2) rfl 0 (by decide) hf87 rfl dX4_tells_127 ?_
    refine wp_aload_n hc 6 dX4_tells_130 rfl ?_
    refine wp_iconst (v := 4) hc dX4_tells_131 (by decide) ?_
    refine wp_iald hc hx (j := q1) hlq1 hjq1 hkq1 4 rfl (by rw [hnq1]; exact vin (by decide)) dX4_tells_132 ?_
    refine wp_iload_n hc 4 dX4_tells_133 rfl ?_
    refine wp_callSg (As := [.int (M.1 q1 4), .int (fX0_determinant M q2)]) (rest := [.int (M.1 q2 0), .int (M.1 q1 2)]) (v := (fX1_times (M.1 q1 4) (fX0_determinant M q2))) hc hNW (kX1_times l (M.1 q1 4) (fX0_determinant M q2)) cw156 rfl rfl (Nat.le_of_ble_eq_true rfl) dX4_tells_134 ?_
    refine wp_callSg (As := [.int (M.1 q2 0), .int (fX1_times (M.1 q1 4) (fX0_determinant M q2))]) (rest := [.int (M.1 q1 2)]) (v := (fX1_minus (M.1 q2 0) (fX1_times (M.1 q1 4) (fX0_determinant M q2)))) hc hNW (kX1_minus l (M.1 q2 0) (fX1_times (M.1 q1 4) (fX0_determinant M q2))) cw159 rfl rfl (Nat.le_of_ble_eq_true rfl) dX4_tells_137 ?_
    refine wp_callSg (As := [.int (M.1 q1 2), .int (fX1_minus (M.1 q2 0) (fX1_times (M.1 q1 4) (fX0_determinant M q2)))]) (rest := []) (v := (fX1_times (M.1 q1 2) (fX1_minus (M.1 q2 0) (fX1_times (M.1 q1 4) (fX0_determinant M q2))))) hc hNW (kX1_times l (M.1 q1 2) (fX1_minus (M.1 q2 0) (fX1_times (M.1 q1 4) (fX0_determinant M q2)))) cw156 rfl rfl (Nat.le_of_ble_eq_true rfl) dX4_tells_140 ?_
    refine wp_topi (fun x5 hx5 => ?_)
    refine wp_istore (lv' := [(8, .int x5), (7, .int x4), (6, .int x3), (5, .int x2), (4, .int x1), (3, .int (fX0_determinant M q2)), (0, .ref (z 1)), (1, .ref (z q1)), (2, .ref (z q2))]) hc dX4_tells_143 (by decide) rfl ?_
    refine wp_aload_n hc 7 dX4_tells_145 rfl ?_
    refine wp_bipush (v := 8) hc dX4_tells_146 (by decide) ?_
    refine wp_iald hc hx (j := q1) hlq1 hjq1 hkq1 8 rfl (by rw [hnq1]; exact vin (by decide)) dX4_tells_148 ?_
    refine wp_aload_n hc 8 dX4_tells_149 rfl ?_
    refine wp_get hc hx hin0 (j := q2) (Nat.zero_le _) hjq2 (ce_0 hkq2) rfl 3 (by decide) hf77 rfl dX4_tells_150 ?_
    refine wp_aload_n hc 7 dX4_tells_153 rfl ?_
    refine wp_bipush (v := 10) hc dX4_tells_154 (by decide) ?_
    refine wp_iald hc hx (j := q1) hlq1 hjq1 hkq1 10 rfl (by rw [hnq1]; exact vin (by decide)) dX4_tells_156 ?_
    refine wp_iload_n hc 5 dX4_tells_157 rfl ?_
    refine wp_callSg (As := [.int (M.1 q1 10), .int (fX0_determinant M q2)]) (rest := [.int (M.1 q2 3), .int (M.1 q1 8)]) (v := (fX1_times (M.1 q1 10) (fX0_determinant M q2))) hc hNW (kX1_times l (M.1 q1 10) (fX0_determinant M q2)) cw156 rfl rfl (Nat.le_of_ble_eq_true rfl) dX4_tells_158 ?_
    refine wp_callSg (As := [.int (M.1 q2 3), .int (fX1_times (M.1 q1 10) (fX0_determinant M q2))]) (rest := [.int (M.1 q1 8)]) (v := (fX1_minus (M.1 q2 3) (fX1_times (M.1 q1 10) (fX0_determinant M q2)))) hc hNW (kX1_minus l (M.1 q2 3) (fX1_times (M.1 q1 10) (fX0_determinant M q2))) cw159 rfl rfl (Nat.le_of_ble_eq_true rfl) dX4_tells_161 ?_
    refine wp_callSg (As := [.int (M.1 q1 8), .int (fX1_minus (M.1 q2 3) (fX1_times (M.1 q1 10) (fX0_determinant M q2)))]) (rest := []) (v := (fX1_times (M.1 q1 8) (fX1_minus (M.1 q2 3) (fX1_times (M.1 q1 10) (fX0_determinant M q2))))) hc hNW (kX1_times l (M.1 q1 8) (fX1_minus (M.1 q2 3) (fX1_times (M.1 q1 10) (fX0_determinant M q2)))) cw156 rfl rfl (Nat.le_of_ble_eq_true rfl) dX4_tells_164 ?_
    refine wp_topi (fun x6 hx6 => ?_)
    refine wp_istore (lv' := [(9, .int x6), (8, .int x5), (7, .int x4), (6, .int x3), (5, .int x2), (4, .int x1), (3, .int (fX0_determinant M q2)), (0, .ref (z 1)), (1, .ref (z q1)), (2, .ref (z q2))]) hc dX4_tells_167 (by decide) rfl ?_
    refine wp_aload_n hc 7 dX4_tells_169 rfl ?_
    refine wp_get hc hx hin4 (j := 1) (by decide) (by decide) (ce_3 rfl) rfl 1 (by decide) hf18 rfl dX4_tells_170 ?_
    refine wp_aload_n hc 8 dX4_tells_173 rfl ?_
    refine wp_iconst (v := 0) hc dX4_tells_174 (by decide) ?_
    refine wp_iald hc hx (j := q1) hlq1 hjq1 hkq1 0 rfl (by rw [hnq1]; exact vin (by decide)) dX4_tells_175 ?_
    refine wp_iload hc 1 dX4_tells_176 rfl ?_
    refine wp_iload hc 3 dX4_tells_178 rfl ?_
    refine wp_callSg (As := [.int x5, .int x3]) (rest := [.int (M.1 q1 0), .ref (z 3)]) (v := (fX1_over x5 x3)) hc hNW (kX1_over l x5 x3) cw165 rfl rfl (Nat.le_of_ble_eq_true rfl) dX4_tells_180 ?_
    refine wp_callSg (As := [.int (M.1 q1 0), .int (fX1_over x5 x3)]) (rest := [.ref (z 3)]) (v := (fX1_plus (M.1 q1 0) (fX1_over x5 x3))) hc hNW (kX1_plus l (M.1 q1 0) (fX1_over x5 x3)) cw162 rfl rfl (Nat.le_of_ble_eq_true rfl) dX4_tells_183 ?_
    refine wp_aload_n hc 8 dX4_tells_186 rfl ?_
    refine wp_bipush (v := 9) hc dX4_tells_187 (by decide) ?_
    refine wp_iald hc hx (j := q1) hlq1 hjq1 hkq1 9 rfl (by rw [hnq1]; exact vin (by decide)) dX4_tells_189 ?_
    refine wp_aload_n hc 8 dX4_tells_190 rfl ?_
    refine wp_bipush (v := 11) hc dX4_tells_191 (by decide) ?_
    refine wp_iald hc hx (j := q1) hlq1 hjq1 hkq1 11 rfl (by rw [hnq1]; exact vin (by decide)) dX4_tells_193 ?_
    refine wp_aload_n hc 9 dX4_tells_194 rfl ?_
    refine wp_get hc hx hin0 (j := q2) (Nat.zero_le _) hjq2 (ce_0 hkq2) rfl 1 (by decide) hf84 rfl dX4_tells_195 ?_
    refine wp_callSg (As := [.int (M.1 q1 11), .int (M.1 q2 1)]) (rest := [.int (M.1 q1 9), .int (fX1_plus (M.1 q1 0) (fX1_over x5 x3)), .ref (z 3)]) (v := (fX1_times (M.1 q1 11) (M.1 q2 1))) hc hNW (kX1_times l (M.1 q1 11) (M.1 q2 1)) cw156 rfl rfl (Nat.le_of_ble_eq_true rfl) dX4_tells_198 ?_
    refine wp_iload hc 2 dX4_tells_201 rfl ?_
    refine wp_callSg (As := [.int (fX1_times (M.1 q1 11) (M.1 q2 1)), .int x4]) (rest := [.int (M.1 q1 9), .int (fX1_plus (M.1 q1 0) (fX1_over x5 x3)), .ref (z 3)]) (v := (fX1_over (fX1_times (M.1 q1 11) (M.1 q2 1)) x4)) hc hNW (kX1_over l (fX1_times (M.1 q1 11) (M.1 q2 1)) x4) cw165 rfl rfl (Nat.le_of_ble_eq_true rfl) dX4_tells_203 ?_
    refine wp_callSg (As := [.int (M.1 q1 9), .int (fX1_over (fX1_times (M.1 q1 11) (M.1 q2 1)) x4)]) (rest := [.int (fX1_plus (M.1 q1 0) (fX1_over x5 x3)), .ref (z 3)]) (v := (fX1_plus (M.1 q1 9) (fX1_over (fX1_times (M.1 q1 11) (M.1 q2 1)) x4))) hc hNW (kX1_plus l (M.1 q1 9) (fX1_over (fX1_times (M.1 q1 11) (M.1 q2 1)) x4)) cw162 rfl rfl (Nat.le_of_ble_eq_true rfl) dX4_tells_206 ?_
    refine wp_aload_n hc 8 dX4_tells_209 rfl ?_
    refine wp_iconst (v := 3) hc dX4_tells_210 (by decide) ?_
    refine wp_iald hc hx (j := q1) hlq1 hjq1 hkq1 3 rfl (by rw [hnq1]; exact vin (by decide)) dX4_tells_211 ?_
    refine wp_aload_n hc 8 dX4_tells_212 rfl ?_
    refine wp_iconst (v := 5) hc dX4_tells_213 (by decide) ?_
    refine wp_iald hc hx (j := q1) hlq1 hjq1 hkq1 5 rfl (by rw [hnq1]; exact vin (by decide)) dX4_tells_214 ?_
    refine wp_aload_n hc 9 dX4_tells_215 rfl ?_
    refine wp_get hc hx hin0 (j := q2) (Nat.zero_le _) hjq2 (ce_0 hkq2) rfl 2 (by decide) hf81 rfl dX4_tells_216 ?_
    refine wp_callSg (As := [.int (M.1 q1 5), .int (M.1 q2 2)]) (rest := [.int (M.1 q1 3), .int (fX1_plus (M.1 q1 9) (fX1_over (fX1_times (M.1 q1 11) (M.1 q2 1)) x4)), .int (fX1_plus (M.1 q1 0) (fX1_over x5 x3)), .ref (z 3)]) (v := (fX1_times (M.1 q1 5) (M.1 q2 2))) hc hNW (kX1_times l (M.1 q1 5) (M.1 q2 2)) cw156 rfl rfl (Nat.le_of_ble_eq_true rfl) dX4_tells_219 ?_
    refine wp_iload hc 3 dX4_tells_222 rfl ?_
    refine wp_callSg (As := [.int (fX1_times (M.1 q1 5) (M.1 q2 2)), .int x3]) (rest := [.int (M.1 q1 3), .int (fX1_plus (M.1 q1 9) (fX1_over (fX1_times (M.1 q1 11) (M.1 q2 1)) x4)), .int (fX1_plus (M.1 q1 0) (fX1_over x5 x3)), .ref (z 3)]) (v := (fX1_over (fX1_times (M.1 q1 5) (M.1 q2 2)) x3)) hc hNW (kX1_over l (fX1_times (M.1 q1 5) (M.1 q2 2)) x3) cw165 rfl rfl (Nat.le_of_ble_eq_true rfl) dX4_tells_224 ?_
    refine wp_callSg (As := [.int (M.1 q1 3), .int (fX1_over (fX1_times (M.1 q1 5) (M.1 q2 2)) x3)]) (rest := [.int (fX1_plus (M.1 q1 9) (fX1_over (fX1_times (M.1 q1 11) (M.1 q2 1)) x4)), .int (fX1_plus (M.1 q1 0) (fX1_over x5 x3)), .ref (z 3)]) (v := (fX1_plus (M.1 q1 3) (fX1_over (fX1_times (M.1 q1 5) (M.1 q2 2)) x3))) hc hNW (kX1_plus l (M.1 q1 3) (fX1_over (fX1_times (M.1 q1 5) (M.1 q2 2)) x3)) cw162 rfl rfl (Nat.le_of_ble_eq_true rfl) dX4_tells_227 ?_
    refine wp_aload_n hc 8 dX4_tells_230 rfl ?_
    refine wp_bipush (v := 6) hc dX4_tells_231 (by decide) ?_
    refine wp_iald hc hx (j := q1) hlq1 hjq1 hkq1 6 rfl (by rw [hnq1]; exact vin (by decide)) dX4_tells_233 ?_
    refine wp_iload hc 0 dX4_tells_234 rfl ?_
    refine wp_iload hc 2 dX4_tells_236 rfl ?_
    refine wp_callSg (As := [.int x6, .int x4]) (rest := [.int (M.1 q1 6), .int (fX1_plus (M.1 q1 3) (fX1_over (fX1_times (M.1 q1 5) (M.1 q2 2)) x3)), .int (fX1_plus (M.1 q1 9) (fX1_over (fX1_times (M.1 q1 11) (M.1 q2 1)) x4)), .int (fX1_plus (M.1 q1 0) (fX1_over x5 x3)), .ref (z 3)]) (v := (fX1_over x6 x4)) hc hNW (kX1_over l x6 x4) cw165 rfl rfl (Nat.le_of_ble_eq_true rfl) dX4_tells_238 ?_
    refine wp_callSg (As := [.int (M.1 q1 6), .int (fX1_over x6 x4)]) (rest := [.int (fX1_plus (M.1 q1 3) (fX1_over (fX1_times (M.1 q1 5) (M.1 q2 2)) x3)), .int (fX1_plus (M.1 q1 9) (fX1_over (fX1_times (M.1 q1 11) (M.1 q2 1)) x4)), .int (fX1_plus (M.1 q1 0) (fX1_over x5 x3)), .ref (z 3)]) (v := (fX1_plus (M.1 q1 6) (fX1_over x6 x4))) hc hNW (kX1_plus l (M.1 q1 6) (fX1_over x6 x4)) cw162 rfl rfl (Nat.le_of_ble_eq_true rfl) dX4_tells_241 ?_
    refine wp_callVvw (As := [.int (fX1_plus (M.1 q1 0) (fX1_over x5 x3)), .int (fX1_plus (M.1 q1 9) (fX1_over (fX1_times (M.1 q1 11) (M.1 q2 1)) x4)), .int (fX1_plus (M.1 q1 3) (fX1_over (fX1_times (M.1 q1 5) (M.1 q2 2)) x3)), .int (fX1_plus (M.1 q1 6) (fX1_over x6 x4))]) (rest := []) (j := 3) (w := sX0_fill M 3 (fX1_plus (M.1 q1 0) (fX1_over x5 x3)) (fX1_plus (M.1 q1 9) (fX1_over (fX1_times (M.1 q1 11) (M.1 q2 1)) x4)) (fX1_plus (M.1 q1 3) (fX1_over (fX1_times (M.1 q1 5) (M.1 q2 2)) x3)) (fX1_plus (M.1 q1 6) (fX1_over x6 x4))) hc hx (kX0_fill l D cy z hz M 3 (fX1_plus (M.1 q1 0) (fX1_over x5 x3)) (fX1_plus (M.1 q1 9) (fX1_over (fX1_times (M.1 q1 11) (M.1 q2 1)) x4)) (fX1_plus (M.1 q1 3) (fX1_over (fX1_times (M.1 q1 5) (M.1 q2 2)) x3)) (fX1_plus (M.1 q1 6) (fX1_over x6 x4)) (by decide) rfl) cw40 (by decide) (by decide) (ce_0 rfl) rfl rfl rfl rfl (Nat.le_of_ble_eq_true rfl) dX4_tells_244 (fun M7 hM7 => ?_)
    refine wp_iconst (v := 1) hc dX4_tells_247 (by decide) ?_
    refine wp_zret hc hr hk rfl ?_ dX4_tells_248
    show (1, M7) = sX4_tells M q1 q2
    rw [sX4_tells, tk_eq hx1, tk_eq hx2, tk_eq hx3, tk_eq hx4, if_neg c113, if_neg c118, tk_eq hx5, tk_eq hx6, tk_eq hM7]
  refine wp_iconst (v := 0) hc dX4_tells_121 (by decide) ?_
  refine wp_zret hc hr hk rfl ?_ dX4_tells_122
  show (0, M) = sX4_tells M q1 q2
  rw [sX4_tells, tk_eq hx1, tk_eq hx2, tk_eq hx3, tk_eq hx4, if_neg c113, if_pos c118]
set_option maxRecDepth 10000 in
theorem kfX4_tells (M : Mem) (q1 : Nat) (q2 : Nat) : KF2 (fun x => 2 ≤ x ∧ x ≤ 9) M (sX4_tells M q1 q2) := by
  unfold sX4_tells
  refine tk_ind (P := KF2 (fun x => 2 ≤ x ∧ x ≤ 9) M) _ _ (fun x1 hx1 => ?_)
  refine tk_ind (P := KF2 (fun x => 2 ≤ x ∧ x ≤ 9) M) _ _ (fun x2 hx2 => ?_)
  refine tk_ind (P := KF2 (fun x => 2 ≤ x ∧ x ≤ 9) M) _ _ (fun x3 hx3 => ?_)
  refine tk_ind (P := KF2 (fun x => 2 ≤ x ∧ x ≤ 9) M) _ _ (fun x4 hx4 => ?_)
  refine ite_ind (P := KF2 (fun x => 2 ≤ x ∧ x ≤ 9) M) (fun c1 => ?_) (fun c1 => ?_)
  · exact (show KF (fun x => 2 ≤ x ∧ x ≤ 9) M M from KF.rf)
  · refine ite_ind (P := KF2 (fun x => 2 ≤ x ∧ x ≤ 9) M) (fun c2 => ?_) (fun c2 => ?_)
    · exact (show KF (fun x => 2 ≤ x ∧ x ≤ 9) M M from KF.rf)
    · refine tk_ind (P := KF2 (fun x => 2 ≤ x ∧ x ≤ 9) M) _ _ (fun x5 hx5 => ?_)
      refine tk_ind (P := KF2 (fun x => 2 ≤ x ∧ x ≤ 9) M) _ _ (fun x6 hx6 => ?_)
      refine tk_ind (P := KF2 (fun x => 2 ≤ x ∧ x ≤ 9) M) _ _ (fun M7 hM7 => ?_)
      have k3 : KF (fun x => 2 ≤ x ∧ x ≤ 9) M M7 := by rw [hM7]; exact KF.mono (kfX0_fill _ _ _ _ _ _) (fun x h => by first | exact h | ((try dsimp only at h ⊢); omega))
      exact (show KF (fun x => 2 ≤ x ∧ x ≤ 9) M M7 from k3)
theorem bX4_tells (M : Mem) (q1 : Nat) (q2 : Nat) : B01 (sX4_tells M q1 q2) := by
  unfold sX4_tells
  refine tk_ind (P := B01) _ _ (fun x1 hx1 => ?_)
  refine tk_ind (P := B01) _ _ (fun x2 hx2 => ?_)
  refine tk_ind (P := B01) _ _ (fun x3 hx3 => ?_)
  refine tk_ind (P := B01) _ _ (fun x4 hx4 => ?_)
  refine ite_ind (P := B01) (fun _ => ?_) (fun _ => ?_)
  · exact (show _ ∨ _ from Or.inl rfl)
  · refine ite_ind (P := B01) (fun _ => ?_) (fun _ => ?_)
    · exact (show _ ∨ _ from Or.inl rfl)
    · refine tk_ind (P := B01) _ _ (fun x5 hx5 => ?_)
      refine tk_ind (P := B01) _ _ (fun x6 hx6 => ?_)
      refine tk_ind (P := B01) _ _ (fun M7 hM7 => ?_)
      exact (show _ ∨ _ from Or.inr rfl)
def sX4_learnLoad (M : Mem) (q1 : Nat) : Int32 × Mem :=
  tk (sX0_fill M 2 0 0 0 0) fun M1 =>
  tk (sX4_tells M1 q1 2) fun x2 =>
  if x2.1 = 0 then
  (0, x2.2)
  else
  tk (st x2.2 9 0 (x2.2.1 3 0)) fun M3 =>
  tk (st M3 9 3 (M3.1 3 2)) fun M4 =>
  tk (st M4 9 6 (M4.1 3 3)) fun M5 =>
  tk (st M5 9 9 (M5.1 3 1)) fun M6 =>
  (1, M6)
set_option maxHeartbeats 4000000 in
set_option maxRecDepth 100000 in
theorem kX4_learnLoad (l : Launch) (D : va_G) (cy : Nat → ClassId) (z : Nat → Nat) (hz : zI z) (M : Mem) (q1 : Nat) (hlq1 : 0 ≤ q1) (hjq1 : q1 < 0 + 100) (hkq1 : kd q1 = 7) (hnq1 : ln q1 = 12) : KI l yX4_learnLoad wsX4_learnLoad { frames := 4, cells := 0, slots := 0, locals := 97 } D cy z 0 100 [.ref (z 1), .ref (z q1)] M (fun r u => (r, u) = sX4_learnLoad M q1) := by
  refine met_wp (lv := [(0, .ref (z 1)), (1, .ref (z q1))]) hz (by decide) (by decide) rfl rfl (Nat.le_of_ble_eq_true rfl) rfl ?_
  intro p e s m below meth c hc hx hr hk
  have hNW := hx.2.1
  have hin0 : ∀ w ∈ wsX00, w ∈ wsX4_learnLoad := by decide +kernel
  have hin4 : ∀ w ∈ wsX40, w ∈ wsX4_learnLoad := by decide +kernel
  have hf12 : Cond.fieldLink RX4 12 (TX4 0).1 (TX4 0).2.1 (TX4 0).2.2.1 ∈ wsX4_learnLoad := by decide +kernel
  have hf18 : Cond.fieldLink RX4 18 (TX4 1).1 (TX4 1).2.1 (TX4 1).2.2.1 ∈ wsX4_learnLoad := by decide +kernel
  have hf36 : Cond.fieldLink RX4 36 (TX4 7).1 (TX4 7).2.1 (TX4 7).2.2.1 ∈ wsX4_learnLoad := by decide +kernel
  have hf77 : Cond.fieldLink RX4 77 (TX0 3).1 (TX0 3).2.1 (TX0 3).2.2.1 ∈ wsX4_learnLoad := by decide +kernel
  have hf81 : Cond.fieldLink RX4 81 (TX0 2).1 (TX0 2).2.1 (TX0 2).2.2.1 ∈ wsX4_learnLoad := by decide +kernel
  have hf84 : Cond.fieldLink RX4 84 (TX0 1).1 (TX0 1).2.1 (TX0 1).2.2.1 ∈ wsX4_learnLoad := by decide +kernel
  have hf87 : Cond.fieldLink RX4 87 (TX0 0).1 (TX0 0).2.1 (TX0 0).2.2.1 ∈ wsX4_learnLoad := by decide +kernel
  have cw40 : CallW ({ frames := 4, cells := 0, slots := 0, locals := 97 }) s _ RX4 RX0 40 yX0_fill cX0_fill 5 none wsX0_fill ({ frames := 0, cells := 0, slots := 0, locals := 0 }) 0 0 4 := cwV 4 hc.2.2.2.2 gX4_learnLoad_X0_fill rfl rfl rfl (by decide +kernel) ⟨Nat.le_of_ble_eq_true rfl, Nat.le_of_ble_eq_true rfl⟩
  have cw118 : CallW ({ frames := 4, cells := 0, slots := 0, locals := 97 }) s _ RX4 RX4 118 yX4_tells cX4_tells 10 (some .boolean) wsX4_tells ({ frames := 3, cells := 0, slots := 0, locals := 68 }) 0 0 2 := cwV 2 hc.2.2.2.2 gX4_learnLoad_X4_tells rfl rfl rfl (by decide +kernel) ⟨Nat.le_of_ble_eq_true rfl, Nat.le_of_ble_eq_true rfl⟩
  refine wp_aload_n hc 0 dX4_learnLoad_0 rfl ?_
  refine wp_get hc hx hin4 (j := 1) (by decide) (by decide) (ce_3 rfl) rfl 0 (by decide) hf12 rfl dX4_learnLoad_1 ?_
  refine wp_iconst (v := 0) hc dX4_learnLoad_4 (by decide) ?_
  refine wp_iconst (v := 0) hc dX4_learnLoad_5 (by decide) ?_
  refine wp_iconst (v := 0) hc dX4_learnLoad_6 (by decide) ?_
  refine wp_iconst (v := 0) hc dX4_learnLoad_7 (by decide) ?_
  refine wp_callVvw (As := [.int 0, .int 0, .int 0, .int 0]) (rest := []) (j := 2) (w := sX0_fill M 2 0 0 0 0) hc hx (kX0_fill l D cy z hz M 2 0 0 0 0 (by decide) rfl) cw40 (by decide) (by decide) (ce_0 rfl) rfl rfl rfl rfl (Nat.le_of_ble_eq_true rfl) dX4_learnLoad_8 (fun M1 hM1 => ?_)
  refine wp_aload_n hc 0 dX4_learnLoad_11 rfl ?_
  refine wp_aload_n hc 1 dX4_learnLoad_12 rfl ?_
  refine wp_aload_n hc 0 dX4_learnLoad_13 rfl ?_
  refine wp_get hc hx hin4 (j := 1) (by decide) (by decide) (ce_3 rfl) rfl 0 (by decide) hf12 rfl dX4_learnLoad_14 ?_
  refine wp_callVw (As := [.ref (z q1), .ref (z 2)]) (rest := []) (j := 1) (w := sX4_tells M1 q1 2) hc hx (kX4_tells l D cy z hz M1 q1 2 hlq1 hjq1 hkq1 (hnq1) (by decide) rfl) cw118 (by decide) (by decide) (ce_3 rfl) rfl rfl rfl rfl (Nat.le_of_ble_eq_true rfl) dX4_learnLoad_17 (fun x2 hx2 => ?_)
  refine wp_if_ne (tgt := 25) hc dX4_learnLoad_20 (by decide) (fun c20 => ?_) (fun c20 => ?_)
  · refine wp_aload_n hc 0 dX4_learnLoad_25 rfl ?_
    refine wp_get hc hx hin4 (j := 1) (by decide) (by decide) (ce_3 rfl) rfl 7 (by decide) hf36 rfl dX4_learnLoad_26 ?_
    refine wp_iconst (v := 0) hc dX4_learnLoad_29 (by decide) ?_
    refine wp_aload_n hc 0 dX4_learnLoad_30 rfl ?_
    refine wp_get hc hx hin4 (j := 1) (by decide) (by decide) (ce_3 rfl) rfl 1 (by decide) hf18 rfl dX4_learnLoad_31 ?_
    refine wp_get hc hx hin0 (j := 3) (by decide) (by decide) (ce_0 rfl) rfl 0 (by decide) hf87 rfl dX4_learnLoad_34 ?_
    refine wp_iast hc hx (j := 9) (by decide) (by decide) rfl 0 rfl (vin (by decide)) dX4_learnLoad_37 ?_
    refine wp_nm (fun M3 hM3 => ?_)
    refine wp_aload_n hc 0 dX4_learnLoad_38 rfl ?_
    refine wp_get hc hx hin4 (j := 1) (by decide) (by decide) (ce_3 rfl) rfl 7 (by decide) hf36 rfl dX4_learnLoad_39 ?_
    refine wp_iconst (v := 3) hc dX4_learnLoad_42 (by decide) ?_
    refine wp_aload_n hc 0 dX4_learnLoad_43 rfl ?_
    refine wp_get hc hx hin4 (j := 1) (by decide) (by decide) (ce_3 rfl) rfl 1 (by decide) hf18 rfl dX4_learnLoad_44 ?_
    refine wp_get hc hx hin0 (j := 3) (by decide) (by decide) (ce_0 rfl) rfl 2 (by decide) hf81 rfl dX4_learnLoad_47 ?_
    refine wp_iast hc hx (j := 9) (by decide) (by decide) rfl 3 rfl (vin (by decide)) dX4_learnLoad_50 ?_
    refine wp_nm (fun M4 hM4 => ?_)
    refine wp_aload_n hc 0 dX4_learnLoad_51 rfl ?_
    refine wp_get hc hx hin4 (j := 1) (by decide) (by decide) (ce_3 rfl) rfl 7 (by decide) hf36 rfl dX4_learnLoad_52 ?_
    refine wp_bipush (v := 6) hc dX4_learnLoad_55 (by decide) ?_
    refine wp_aload_n hc 0 dX4_learnLoad_57 rfl ?_
    refine wp_get hc hx hin4 (j := 1) (by decide) (by decide) (ce_3 rfl) rfl 1 (by decide) hf18 rfl dX4_learnLoad_58 ?_
    refine wp_get hc hx hin0 (j := 3) (by decide) (by decide) (ce_0 rfl) rfl 3 (by decide) hf77 rfl dX4_learnLoad_61 ?_
    refine wp_iast hc hx (j := 9) (by decide) (by decide) rfl 6 rfl (vin (by decide)) dX4_learnLoad_64 ?_
    refine wp_nm (fun M5 hM5 => ?_)
    refine wp_aload_n hc 0 dX4_learnLoad_65 rfl ?_
    refine wp_get hc hx hin4 (j := 1) (by decide) (by decide) (ce_3 rfl) rfl 7 (by decide) hf36 rfl dX4_learnLoad_66 ?_
    refine wp_bipush (v := 9) hc dX4_learnLoad_69 (by decide) ?_
    refine wp_aload_n hc 0 dX4_learnLoad_71 rfl ?_
    refine wp_get hc hx hin4 (j := 1) (by decide) (by decide) (ce_3 rfl) rfl 1 (by decide) hf18 rfl dX4_learnLoad_72 ?_
    refine wp_get hc hx hin0 (j := 3) (by decide) (by decide) (ce_0 rfl) rfl 1 (by decide) hf84 rfl dX4_learnLoad_75 ?_
    refine wp_iast hc hx (j := 9) (by decide) (by decide) rfl 9 rfl (vin (by decide)) dX4_learnLoad_78 ?_
    refine wp_nm (fun M6 hM6 => ?_)
    refine wp_iconst (v := 1) hc dX4_learnLoad_79 (by decide) ?_
    refine wp_zret hc hr hk rfl ?_ dX4_learnLoad_80
    show (1, M6) = sX4_learnLoad M q1
    rw [sX4_learnLoad, tk_eq hM1, tk_eq hx2, if_neg c20, tk_eq hM3, tk_eq hM4, tk_eq hM5, tk_eq hM6]
  refine wp_iconst (v := 0) hc dX4_learnLoad_23 (by decide) ?_
  refine wp_zret hc hr hk rfl ?_ dX4_learnLoad_24
  show (0, x2.2) = sX4_learnLoad M q1
  rw [sX4_learnLoad, tk_eq hM1, tk_eq hx2, if_pos c20]
set_option maxRecDepth 10000 in
theorem kfX4_learnLoad (M : Mem) (q1 : Nat) : KF2 (fun x => 2 ≤ x ∧ x ≤ 9) M (sX4_learnLoad M q1) := by
  unfold sX4_learnLoad
  refine tk_ind (P := KF2 (fun x => 2 ≤ x ∧ x ≤ 9) M) _ _ (fun M1 hM1 => ?_)
  have k1 : KF (fun x => 2 ≤ x ∧ x ≤ 9) M M1 := by rw [hM1]; exact KF.mono (kfX0_fill _ _ _ _ _ _) (fun x h => by first | exact h | ((try dsimp only at h ⊢); omega))
  refine tk_ind (P := KF2 (fun x => 2 ≤ x ∧ x ≤ 9) M) _ _ (fun x2 hx2 => ?_)
  have k2 : KF2 (fun x => 2 ≤ x ∧ x ≤ 9) M1 x2 := by rw [hx2]; exact KF2.mono (kfX4_tells _ _ _) (fun x h => by first | exact h | ((try dsimp only at h ⊢); omega))
  refine ite_ind (P := KF2 (fun x => 2 ≤ x ∧ x ≤ 9) M) (fun c3 => ?_) (fun c3 => ?_)
  · exact (show KF (fun x => 2 ≤ x ∧ x ≤ 9) M x2.2 from KF.trans k1 (k2))
  · refine tk_ind (P := KF2 (fun x => 2 ≤ x ∧ x ≤ 9) M) _ _ (fun M3 hM3 => ?_)
    have k4 : KF (fun x => 2 ≤ x ∧ x ≤ 9) x2.2 M3 := by rw [hM3]; first | exact kf_st (by show _; omega) | exact kf_sr (by show _; omega)
    refine tk_ind (P := KF2 (fun x => 2 ≤ x ∧ x ≤ 9) M) _ _ (fun M4 hM4 => ?_)
    have k5 : KF (fun x => 2 ≤ x ∧ x ≤ 9) M3 M4 := by rw [hM4]; first | exact kf_st (by show _; omega) | exact kf_sr (by show _; omega)
    refine tk_ind (P := KF2 (fun x => 2 ≤ x ∧ x ≤ 9) M) _ _ (fun M5 hM5 => ?_)
    have k6 : KF (fun x => 2 ≤ x ∧ x ≤ 9) M4 M5 := by rw [hM5]; first | exact kf_st (by show _; omega) | exact kf_sr (by show _; omega)
    refine tk_ind (P := KF2 (fun x => 2 ≤ x ∧ x ≤ 9) M) _ _ (fun M6 hM6 => ?_)
    have k7 : KF (fun x => 2 ≤ x ∧ x ≤ 9) M5 M6 := by rw [hM6]; first | exact kf_st (by show _; omega) | exact kf_sr (by show _; omega)
    exact (show KF (fun x => 2 ≤ x ∧ x ≤ 9) M M6 from KF.trans k1 (KF.trans k2 (KF.trans k4 (KF.trans k5 (KF.trans k6 (k7))))))
theorem bX4_learnLoad (M : Mem) (q1 : Nat) : B01 (sX4_learnLoad M q1) := by
  unfold sX4_learnLoad
  refine tk_ind (P := B01) _ _ (fun M1 hM1 => ?_)
  refine tk_ind (P := B01) _ _ (fun x2 hx2 => ?_)
  refine ite_ind (P := B01) (fun _ => ?_) (fun _ => ?_)
  · exact (show _ ∨ _ from Or.inl rfl)
  · refine tk_ind (P := B01) _ _ (fun M3 hM3 => ?_)
    refine tk_ind (P := B01) _ _ (fun M4 hM4 => ?_)
    refine tk_ind (P := B01) _ _ (fun M5 hM5 => ?_)
    refine tk_ind (P := B01) _ _ (fun M6 hM6 => ?_)
    exact (show _ ∨ _ from Or.inr rfl)
def fX4_seenAt_0 (M : Mem)  : Int32 :=
  (M.1 3 0)
set_option maxHeartbeats 4000000 in
set_option maxRecDepth 100000 in
theorem kX4_seenAt_0 (l : Launch) (D : va_G) (cy : Nat → ClassId) (z : Nat → Nat) (hz : zI z) (M : Mem)  : KI l yX4_seenAt wsX4_seenAt { frames := 0, cells := 0, slots := 0, locals := 0 } D cy z 0 100 [.ref (z 1), .int 0] M (fun r u => r = fX4_seenAt_0 M ∧ u = M) := by
  refine met_wp (lv := [(0, .ref (z 1)), (1, .int 0)]) hz (by decide) (by decide) rfl rfl (Nat.le_of_ble_eq_true rfl) rfl ?_
  intro p e s m below meth c hc hx hr hk
  have hNW := hx.2.1
  have hin0 : ∀ w ∈ wsX00, w ∈ wsX4_seenAt := by decide +kernel
  have hin4 : ∀ w ∈ wsX40, w ∈ wsX4_seenAt := by decide +kernel
  have hf18 : Cond.fieldLink RX4 18 (TX4 1).1 (TX4 1).2.1 (TX4 1).2.2.1 ∈ wsX4_seenAt := by decide +kernel
  have hf87 : Cond.fieldLink RX4 87 (TX0 0).1 (TX0 0).2.1 (TX0 0).2.2.1 ∈ wsX4_seenAt := by decide +kernel
  refine wp_iload_n hc 1 dX4_seenAt_0 rfl ?_
  refine wp_if_ne (tgt := 14) hc dX4_seenAt_1 (by decide) (fun c => absurd c (by decide)) (fun _ => ?_)
  refine wp_aload_n hc 0 dX4_seenAt_4 rfl ?_
  refine wp_get hc hx hin4 (j := 1) (by decide) (by decide) (ce_3 rfl) rfl 1 (by decide) hf18 rfl dX4_seenAt_5 ?_
  refine wp_get hc hx hin0 (j := 3) (by decide) (by decide) (ce_0 rfl) rfl 0 (by decide) hf87 rfl dX4_seenAt_8 ?_
  refine wp_goto (tgt := 21) hc dX4_seenAt_11 (by decide) ?_
  refine wp_iret hc hr hk ?_ dX4_seenAt_21
  show (M.1 3 0) = fX4_seenAt_0 M ∧ M = M
  exact ⟨by rw [fX4_seenAt_0], rfl⟩
def sX4_endStandard_0 (M : Mem) (i2 : Int32) : Mem :=
  tk (sX0_fill M 2 i2 0 0 0) fun M1 =>
  M1
set_option maxHeartbeats 4000000 in
set_option maxRecDepth 100000 in
theorem kX4_endStandard_0 (l : Launch) (D : va_G) (cy : Nat → ClassId) (z : Nat → Nat) (hz : zI z) (M : Mem) (i2 : Int32) : KV l yX4_endStandard wsX4_endStandard { frames := 1, cells := 0, slots := 0, locals := 24 } D cy z 0 100 [.ref (z 1), .int 0, .int i2] M (fun u => u = sX4_endStandard_0 M i2) := by
  refine met_wp (lv := [(0, .ref (z 1)), (1, .int 0), (2, .int i2)]) hz (by decide) (by decide) rfl rfl (Nat.le_of_ble_eq_true rfl) rfl ?_
  intro p e s m below meth c hc hx hr hk
  have hNW := hx.2.1
  have hin4 : ∀ w ∈ wsX40, w ∈ wsX4_endStandard := by decide +kernel
  have hf12 : Cond.fieldLink RX4 12 (TX4 0).1 (TX4 0).2.1 (TX4 0).2.2.1 ∈ wsX4_endStandard := by decide +kernel
  have cw40 : CallW ({ frames := 1, cells := 0, slots := 0, locals := 24 }) s _ RX4 RX0 40 yX0_fill cX0_fill 5 none wsX0_fill ({ frames := 0, cells := 0, slots := 0, locals := 0 }) 0 0 4 := cwV 4 hc.2.2.2.2 gX4_endStandard_X0_fill rfl rfl rfl (by decide +kernel) ⟨Nat.le_of_ble_eq_true rfl, Nat.le_of_ble_eq_true rfl⟩
  refine wp_aload_n hc 0 dX4_endStandard_0 rfl ?_
  refine wp_get hc hx hin4 (j := 1) (by decide) (by decide) (ce_3 rfl) rfl 0 (by decide) hf12 rfl dX4_endStandard_1 ?_
  refine wp_iload_n hc 1 dX4_endStandard_4 rfl ?_
  refine wp_if_ne (tgt := 12) hc dX4_endStandard_5 (by decide) (fun c => absurd c (by decide)) (fun _ => ?_)
  refine wp_iload_n hc 2 dX4_endStandard_8 rfl ?_
  refine wp_goto (tgt := 13) hc dX4_endStandard_9 (by decide) ?_
  refine wp_iconst (v := 0) hc dX4_endStandard_13 (by decide) ?_
  refine wp_iconst (v := 0) hc dX4_endStandard_14 (by decide) ?_
  refine wp_iload_n hc 1 dX4_endStandard_15 rfl ?_
  refine wp_if_ne (tgt := 23) hc dX4_endStandard_16 (by decide) (fun c => absurd c (by decide)) (fun _ => ?_)
  refine wp_iconst (v := 0) hc dX4_endStandard_19 (by decide) ?_
  refine wp_goto (tgt := 24) hc dX4_endStandard_20 (by decide) ?_
  refine wp_callVvw (As := [.int i2, .int 0, .int 0, .int 0]) (rest := []) (j := 2) (w := sX0_fill M 2 i2 0 0 0) hc hx (kX0_fill l D cy z hz M 2 i2 0 0 0 (by decide) rfl) cw40 (by decide) (by decide) (ce_0 rfl) rfl rfl rfl rfl (Nat.le_of_ble_eq_true rfl) dX4_endStandard_24 (fun M1 hM1 => ?_)
  refine wp_vret hc hr hk ?_ dX4_endStandard_27
  show M1 = sX4_endStandard_0 M i2
  rw [sX4_endStandard_0, tk_eq hM1]
set_option maxRecDepth 10000 in
theorem kfX4_endStandard_0 (M : Mem) (i2 : Int32) : KF (fun x => 2 ≤ x ∧ x ≤ 9) M (sX4_endStandard_0 M i2) := by
  unfold sX4_endStandard_0
  refine tk_ind (P := KF (fun x => 2 ≤ x ∧ x ≤ 9) M) _ _ (fun M1 hM1 => ?_)
  have k1 : KF (fun x => 2 ≤ x ∧ x ≤ 9) M M1 := by rw [hM1]; exact KF.mono (kfX0_fill _ _ _ _ _ _) (fun x h => by first | exact h | ((try dsimp only at h ⊢); omega))
  exact (show KF (fun x => 2 ≤ x ∧ x ≤ 9) M M1 from k1)
def sX4_learnEnds_0 (M : Mem) (q1 : Nat) : Int32 × Mem :=
  tk (sX4_endStandard_0 M 10007) fun M1 =>
  tk (sX4_tells M1 q1 2) fun x2 =>
  if x2.1 = 0 then
  (0, x2.2)
  else
  tk (sX4_endStandard_0 x2.2 100130042) fun M3 =>
  tk (sX4_tells M3 q1 2) fun x4 =>
  if x4.1 = 0 then
  (0, x4.2)
  else
  tk ((fX1_minus (fX1_minus (fX4_seenAt_0 x2.2) (x2.2.1 9 0)) (fX1_minus (fX4_seenAt_0 x4.2) (x4.2.1 9 0)))) fun x5 =>
  if x5 = 0 then
  (0, x4.2)
  else
  tk (st x4.2 9 1 (fX1_over (fX1_plus (fX1_minus (fX4_seenAt_0 x2.2) (x2.2.1 9 0)) (fX1_minus (fX4_seenAt_0 x4.2) (x4.2.1 9 0))) x5)) fun M6 =>
  tk (st M6 9 2 (fX1_times (fX1_minus (fX4_seenAt_0 x2.2) (x2.2.1 9 0)) (fX1_minus 10007 (M6.1 9 1)))) fun M7 =>
  (1, M7)
set_option maxHeartbeats 4000000 in
set_option maxRecDepth 100000 in
theorem kX4_learnEnds_0 (l : Launch) (D : va_G) (cy : Nat → ClassId) (z : Nat → Nat) (hz : zI z) (M : Mem) (q1 : Nat) (hlq1 : 0 ≤ q1) (hjq1 : q1 < 0 + 100) (hkq1 : kd q1 = 7) (hnq1 : ln q1 = 12) : KI l yX4_learnEnds wsX4_learnEnds { frames := 4, cells := 0, slots := 0, locals := 97 } D cy z 0 100 [.ref (z 1), .ref (z q1), .int 0] M (fun r u => (r, u) = sX4_learnEnds_0 M q1) := by
  refine met_wp (lv := [(0, .ref (z 1)), (1, .ref (z q1)), (2, .int 0)]) hz (by decide) (by decide) rfl rfl (Nat.le_of_ble_eq_true rfl) rfl ?_
  intro p e s m below meth c hc hx hr hk
  have hNW := hx.2.1
  have hin4 : ∀ w ∈ wsX40, w ∈ wsX4_learnEnds := by decide +kernel
  have hf12 : Cond.fieldLink RX4 12 (TX4 0).1 (TX4 0).2.1 (TX4 0).2.2.1 ∈ wsX4_learnEnds := by decide +kernel
  have hf36 : Cond.fieldLink RX4 36 (TX4 7).1 (TX4 7).2.1 (TX4 7).2.2.1 ∈ wsX4_learnEnds := by decide +kernel
  have cw118 : CallW ({ frames := 4, cells := 0, slots := 0, locals := 97 }) s _ RX4 RX4 118 yX4_tells cX4_tells 10 (some .boolean) wsX4_tells ({ frames := 3, cells := 0, slots := 0, locals := 68 }) 0 0 2 := cwV 2 hc.2.2.2.2 gX4_learnEnds_X4_tells rfl rfl rfl (by decide +kernel) ⟨Nat.le_of_ble_eq_true rfl, Nat.le_of_ble_eq_true rfl⟩
  have cw156 : CallB ({ frames := 4, cells := 0, slots := 0, locals := 97 }) s _ RX4 156 yX1_times cX1_times 6 (some .int) wsX1_times ({ frames := 1, cells := 0, slots := 0, locals := 23 }) 0 0 2 ∧ (Cond.static yX1_times).before _ s = true := va_cwS 2 hc.2.2.2.2 gX4_learnEnds_X1_times rfl rfl rfl (by decide +kernel) ⟨Nat.le_of_ble_eq_true rfl, Nat.le_of_ble_eq_true rfl⟩
  have cw159 : CallB ({ frames := 4, cells := 0, slots := 0, locals := 97 }) s _ RX4 159 yX1_minus cX1_minus 2 (some .int) wsX1_minus ({ frames := 1, cells := 0, slots := 0, locals := 23 }) 0 0 2 ∧ (Cond.static yX1_minus).before _ s = true := va_cwS 2 hc.2.2.2.2 gX4_learnEnds_X1_minus rfl rfl rfl (by decide +kernel) ⟨Nat.le_of_ble_eq_true rfl, Nat.le_of_ble_eq_true rfl⟩
  have cw162 : CallB ({ frames := 4, cells := 0, slots := 0, locals := 97 }) s _ RX4 162 yX1_plus cX1_plus 2 (some .int) wsX1_plus ({ frames := 1, cells := 0, slots := 0, locals := 23 }) 0 0 2 ∧ (Cond.static yX1_plus).before _ s = true := va_cwS 2 hc.2.2.2.2 gX4_learnEnds_X1_plus rfl rfl rfl (by decide +kernel) ⟨Nat.le_of_ble_eq_true rfl, Nat.le_of_ble_eq_true rfl⟩
  have cw165 : CallB ({ frames := 4, cells := 0, slots := 0, locals := 97 }) s _ RX4 165 yX1_over cX1_over 9 (some .int) wsX1_over ({ frames := 1, cells := 0, slots := 0, locals := 23 }) 0 0 2 ∧ (Cond.static yX1_over).before _ s = true := va_cwS 2 hc.2.2.2.2 gX4_learnEnds_X1_over rfl rfl rfl (by decide +kernel) ⟨Nat.le_of_ble_eq_true rfl, Nat.le_of_ble_eq_true rfl⟩
  have cw168 : CallW ({ frames := 4, cells := 0, slots := 0, locals := 97 }) s _ RX4 RX4 168 yX4_endStandard cX4_endStandard 3 none wsX4_endStandard ({ frames := 1, cells := 0, slots := 0, locals := 24 }) 0 0 2 := cwV 2 hc.2.2.2.2 gX4_learnEnds_X4_endStandard rfl rfl rfl (by decide +kernel) ⟨Nat.le_of_ble_eq_true rfl, Nat.le_of_ble_eq_true rfl⟩
  have cw171 : CallW ({ frames := 4, cells := 0, slots := 0, locals := 97 }) s _ RX4 RX4 171 yX4_seenAt cX4_seenAt 2 (some .int) wsX4_seenAt ({ frames := 0, cells := 0, slots := 0, locals := 0 }) 0 0 1 := cwV 1 hc.2.2.2.2 gX4_learnEnds_X4_seenAt rfl rfl rfl (by decide +kernel) ⟨Nat.le_of_ble_eq_true rfl, Nat.le_of_ble_eq_true rfl⟩
  refine wp_bipush (v := 6) hc dX4_learnEnds_0 (by decide) ?_
  refine wp_iload_n hc 2 dX4_learnEnds_2 rfl ?_
  refine wp_imul hc dX4_learnEnds_3 ?_
  refine wp_cvt (v := 0) (by decide) ?_
  refine wp_istore_n (lv' := [(3, .int 0), (0, .ref (z 1)), (1, .ref (z q1)), (2, .int 0)]) hc dX4_learnEnds_4 (by decide) rfl ?_
  refine wp_aload_n hc 1 dX4_learnEnds_5 rfl ?_
  refine wp_iload_n hc 3 dX4_learnEnds_6 rfl ?_
  refine wp_sipush (v := 10007) hc dX4_learnEnds_7 (by decide) ?_
  refine wp_callVvw (As := [.int 0, .int 10007]) (rest := []) (j := 1) (w := sX4_endStandard_0 M 10007) hc hx (kX4_endStandard_0 l D cy z hz M 10007) cw168 (by decide) (by decide) (ce_3 rfl) rfl rfl rfl rfl (Nat.le_of_ble_eq_true rfl) dX4_learnEnds_10 (fun M1 hM1 => ?_)
  refine wp_aload_n hc 1 dX4_learnEnds_13 rfl ?_
  refine wp_aload_n hc 2 dX4_learnEnds_14 rfl ?_
  refine wp_aload_n hc 1 dX4_learnEnds_15 rfl ?_
  refine wp_get hc hx hin4 (j := 1) (by decide) (by decide) (ce_3 rfl) rfl 0 (by decide) hf12 rfl dX4_learnEnds_16 ?_
  refine wp_callVw (As := [.ref (z q1), .ref (z 2)]) (rest := []) (j := 1) (w := sX4_tells M1 q1 2) hc hx (kX4_tells l D cy z hz M1 q1 2 hlq1 hjq1 hkq1 (hnq1) (by decide) rfl) cw118 (by decide) (by decide) (ce_3 rfl) rfl rfl rfl rfl (Nat.le_of_ble_eq_true rfl) dX4_learnEnds_19 (fun x2 hx2 => ?_)
  refine wp_if_ne (tgt := 27) hc dX4_learnEnds_22 (by decide) (fun c22 => ?_) (fun c22 => ?_)
  · refine wp_aload_n hc 1 dX4_learnEnds_27 rfl ?_
    refine wp_iload_n hc 3 dX4_learnEnds_28 rfl ?_
    refine wp_callVf (As := [.int 0]) (rest := []) (j := 1) (v := (fX4_seenAt_0 x2.2)) hc hx (kX4_seenAt_0 l D cy z hz x2.2) cw171 (by decide) (by decide) (ce_3 rfl) rfl rfl rfl rfl (Nat.le_of_ble_eq_true rfl) dX4_learnEnds_29 ?_
    refine wp_aload_n hc 1 dX4_learnEnds_32 rfl ?_
    refine wp_get hc hx hin4 (j := 1) (by decide) (by decide) (ce_3 rfl) rfl 7 (by decide) hf36 rfl dX4_learnEnds_33 ?_
    refine wp_iload_n hc 0 dX4_learnEnds_36 rfl ?_
    refine wp_iald hc hx (j := 9) (by decide) (by decide) rfl 0 rfl (vin (by decide)) dX4_learnEnds_37 ?_
    refine wp_callSg (As := [.int (fX4_seenAt_0 x2.2), .int (x2.2.1 9 0)]) (rest := []) (v := (fX1_minus (fX4_seenAt_0 x2.2) (x2.2.1 9 0))) hc hNW (kX1_minus l (fX4_seenAt_0 x2.2) (x2.2.1 9 0)) cw159 rfl rfl (Nat.le_of_ble_eq_true rfl) dX4_learnEnds_38 ?_
    refine wp_istore (lv' := [(4, .int (fX1_minus (fX4_seenAt_0 x2.2) (x2.2.1 9 0))), (3, .int 0), (0, .ref (z 1)), (1, .ref (z q1)), (2, .int 0)]) hc dX4_learnEnds_41 (by decide) rfl ?_
    refine wp_aload_n hc 2 dX4_learnEnds_43 rfl ?_
    refine wp_iload_n hc 4 dX4_learnEnds_44 rfl ?_
    refine wp_ldc (v := 100130042) hc (by decide +kernel) dX4_learnEnds_45 ?_
    refine wp_callVvw (As := [.int 0, .int 100130042]) (rest := []) (j := 1) (w := sX4_endStandard_0 x2.2 100130042) hc hx (kX4_endStandard_0 l D cy z hz x2.2 100130042) cw168 (by decide) (by decide) (ce_3 rfl) rfl rfl rfl rfl (Nat.le_of_ble_eq_true rfl) dX4_learnEnds_47 (fun M3 hM3 => ?_)
    refine wp_aload_n hc 2 dX4_learnEnds_50 rfl ?_
    refine wp_aload_n hc 3 dX4_learnEnds_51 rfl ?_
    refine wp_aload_n hc 2 dX4_learnEnds_52 rfl ?_
    refine wp_get hc hx hin4 (j := 1) (by decide) (by decide) (ce_3 rfl) rfl 0 (by decide) hf12 rfl dX4_learnEnds_53 ?_
    refine wp_callVw (As := [.ref (z q1), .ref (z 2)]) (rest := []) (j := 1) (w := sX4_tells M3 q1 2) hc hx (kX4_tells l D cy z hz M3 q1 2 hlq1 hjq1 hkq1 (hnq1) (by decide) rfl) cw118 (by decide) (by decide) (ce_3 rfl) rfl rfl rfl rfl (Nat.le_of_ble_eq_true rfl) dX4_learnEnds_56 (fun x4 hx4 => ?_)
    refine wp_if_ne (tgt := 64) hc dX4_learnEnds_59 (by decide) (fun c59 => ?_) (fun c59 => ?_)
    · refine wp_aload_n hc 2 dX4_learnEnds_64 rfl ?_
      refine wp_iload_n hc 4 dX4_learnEnds_65 rfl ?_
      refine wp_callVf (As := [.int 0]) (rest := []) (j := 1) (v := (fX4_seenAt_0 x4.2)) hc hx (kX4_seenAt_0 l D cy z hz x4.2) cw171 (by decide) (by decide) (ce_3 rfl) rfl rfl rfl rfl (Nat.le_of_ble_eq_true rfl) dX4_learnEnds_66 ?_
      refine wp_aload_n hc 2 dX4_learnEnds_69 rfl ?_
      refine wp_get hc hx hin4 (j := 1) (by decide) (by decide) (ce_3 rfl) rfl 7 (by decide) hf36 rfl dX4_learnEnds_70 ?_
      refine wp_iload_n hc 1 dX4_learnEnds_73 rfl ?_
      refine wp_iald hc hx (j := 9) (by decide) (by decide) rfl 0 rfl (vin (by decide)) dX4_learnEnds_74 ?_
      refine wp_callSg (As := [.int (fX4_seenAt_0 x4.2), .int (x4.2.1 9 0)]) (rest := []) (v := (fX1_minus (fX4_seenAt_0 x4.2) (x4.2.1 9 0))) hc hNW (kX1_minus l (fX4_seenAt_0 x4.2) (x4.2.1 9 0)) cw159 rfl rfl (Nat.le_of_ble_eq_true rfl) dX4_learnEnds_75 ?_
      refine wp_istore (lv' := [(5, .int (fX1_minus (fX4_seenAt_0 x4.2) (x4.2.1 9 0))), (4, .int (fX1_minus (fX4_seenAt_0 x2.2) (x2.2.1 9 0))), (3, .int 0), (0, .ref (z 1)), (1, .ref (z q1)), (2, .int 0)]) hc dX4_learnEnds_78 (by decide) rfl ?_
      refine wp_iload hc 1 dX4_learnEnds_80 rfl ?_
      refine wp_iload hc 0 dX4_learnEnds_82 rfl ?_
      refine wp_callSg (As := [.int (fX1_minus (fX4_seenAt_0 x2.2) (x2.2.1 9 0)), .int (fX1_minus (fX4_seenAt_0 x4.2) (x4.2.1 9 0))]) (rest := []) (v := (fX1_minus (fX1_minus (fX4_seenAt_0 x2.2) (x2.2.1 9 0)) (fX1_minus (fX4_seenAt_0 x4.2) (x4.2.1 9 0)))) hc hNW (kX1_minus l (fX1_minus (fX4_seenAt_0 x2.2) (x2.2.1 9 0)) (fX1_minus (fX4_seenAt_0 x4.2) (x4.2.1 9 0))) cw159 rfl rfl (Nat.le_of_ble_eq_true rfl) dX4_learnEnds_84 ?_
      refine wp_topi (fun x5 hx5 => ?_)
      refine wp_istore (lv' := [(6, .int x5), (5, .int (fX1_minus (fX4_seenAt_0 x4.2) (x4.2.1 9 0))), (4, .int (fX1_minus (fX4_seenAt_0 x2.2) (x2.2.1 9 0))), (3, .int 0), (0, .ref (z 1)), (1, .ref (z q1)), (2, .int 0)]) hc dX4_learnEnds_87 (by decide) rfl ?_
      refine wp_iload hc 0 dX4_learnEnds_89 rfl ?_
      refine wp_if_ne (tgt := 96) hc dX4_learnEnds_91 (by decide) (fun c91 => ?_) (fun c91 => ?_)
      · refine wp_aload_n hc 4 dX4_learnEnds_96 rfl ?_
        refine wp_get hc hx hin4 (j := 1) (by decide) (by decide) (ce_3 rfl) rfl 7 (by decide) hf36 rfl dX4_learnEnds_97 ?_
        refine wp_iload_n hc 3 dX4_learnEnds_100 rfl ?_
        refine wp_iconst (v := 1) hc dX4_learnEnds_101 (by decide) ?_
        refine wp_iadd hc dX4_learnEnds_102 ?_
        refine wp_cvt (v := 1) (by decide) ?_
        refine wp_iload hc 2 dX4_learnEnds_103 rfl ?_
        refine wp_iload hc 1 dX4_learnEnds_105 rfl ?_
        refine wp_callSg (As := [.int (fX1_minus (fX4_seenAt_0 x2.2) (x2.2.1 9 0)), .int (fX1_minus (fX4_seenAt_0 x4.2) (x4.2.1 9 0))]) (rest := [.int 1, .ref (z 9)]) (v := (fX1_plus (fX1_minus (fX4_seenAt_0 x2.2) (x2.2.1 9 0)) (fX1_minus (fX4_seenAt_0 x4.2) (x4.2.1 9 0)))) hc hNW (kX1_plus l (fX1_minus (fX4_seenAt_0 x2.2) (x2.2.1 9 0)) (fX1_minus (fX4_seenAt_0 x4.2) (x4.2.1 9 0))) cw162 rfl rfl (Nat.le_of_ble_eq_true rfl) dX4_learnEnds_107 ?_
        refine wp_iload hc 0 dX4_learnEnds_110 rfl ?_
        refine wp_callSg (As := [.int (fX1_plus (fX1_minus (fX4_seenAt_0 x2.2) (x2.2.1 9 0)) (fX1_minus (fX4_seenAt_0 x4.2) (x4.2.1 9 0))), .int x5]) (rest := [.int 1, .ref (z 9)]) (v := (fX1_over (fX1_plus (fX1_minus (fX4_seenAt_0 x2.2) (x2.2.1 9 0)) (fX1_minus (fX4_seenAt_0 x4.2) (x4.2.1 9 0))) x5)) hc hNW (kX1_over l (fX1_plus (fX1_minus (fX4_seenAt_0 x2.2) (x2.2.1 9 0)) (fX1_minus (fX4_seenAt_0 x4.2) (x4.2.1 9 0))) x5) cw165 rfl rfl (Nat.le_of_ble_eq_true rfl) dX4_learnEnds_112 ?_
        refine wp_iast hc hx (j := 9) (by decide) (by decide) rfl 1 rfl (vin (by decide)) dX4_learnEnds_115 ?_
        refine wp_nm (fun M6 hM6 => ?_)
        refine wp_aload_n hc 4 dX4_learnEnds_116 rfl ?_
        refine wp_get hc hx hin4 (j := 1) (by decide) (by decide) (ce_3 rfl) rfl 7 (by decide) hf36 rfl dX4_learnEnds_117 ?_
        refine wp_iload_n hc 3 dX4_learnEnds_120 rfl ?_
        refine wp_iconst (v := 2) hc dX4_learnEnds_121 (by decide) ?_
        refine wp_iadd hc dX4_learnEnds_122 ?_
        refine wp_cvt (v := 2) (by decide) ?_
        refine wp_iload hc 2 dX4_learnEnds_123 rfl ?_
        refine wp_sipush (v := 10007) hc dX4_learnEnds_125 (by decide) ?_
        refine wp_aload_n hc 4 dX4_learnEnds_128 rfl ?_
        refine wp_get hc hx hin4 (j := 1) (by decide) (by decide) (ce_3 rfl) rfl 7 (by decide) hf36 rfl dX4_learnEnds_129 ?_
        refine wp_iload_n hc 3 dX4_learnEnds_132 rfl ?_
        refine wp_iconst (v := 1) hc dX4_learnEnds_133 (by decide) ?_
        refine wp_iadd hc dX4_learnEnds_134 ?_
        refine wp_cvt (v := 1) (by decide) ?_
        refine wp_iald hc hx (j := 9) (by decide) (by decide) rfl 1 rfl (vin (by decide)) dX4_learnEnds_135 ?_
        refine wp_callSg (As := [.int 10007, .int (M6.1 9 1)]) (rest := [.int (fX1_minus (fX4_seenAt_0 x2.2) (x2.2.1 9 0)), .int 2, .ref (z 9)]) (v := (fX1_minus 10007 (M6.1 9 1))) hc hNW (kX1_minus l 10007 (M6.1 9 1)) cw159 rfl rfl (Nat.le_of_ble_eq_true rfl) dX4_learnEnds_136 ?_
        refine wp_callSg (As := [.int (fX1_minus (fX4_seenAt_0 x2.2) (x2.2.1 9 0)), .int (fX1_minus 10007 (M6.1 9 1))]) (rest := [.int 2, .ref (z 9)]) (v := (fX1_times (fX1_minus (fX4_seenAt_0 x2.2) (x2.2.1 9 0)) (fX1_minus 10007 (M6.1 9 1)))) hc hNW (kX1_times l (fX1_minus (fX4_seenAt_0 x2.2) (x2.2.1 9 0)) (fX1_minus 10007 (M6.1 9 1))) cw156 rfl rfl (Nat.le_of_ble_eq_true rfl) dX4_learnEnds_139 ?_
        refine wp_iast hc hx (j := 9) (by decide) (by decide) rfl 2 rfl (vin (by decide)) dX4_learnEnds_142 ?_
        refine wp_nm (fun M7 hM7 => ?_)
        refine wp_iconst (v := 1) hc dX4_learnEnds_143 (by decide) ?_
        refine wp_zret hc hr hk rfl ?_ dX4_learnEnds_144
        show (1, M7) = sX4_learnEnds_0 M q1
        rw [sX4_learnEnds_0, tk_eq hM1, tk_eq hx2, if_neg c22, tk_eq hM3, tk_eq hx4, if_neg c59, tk_eq hx5, if_neg c91, tk_eq hM6, tk_eq hM7]
      refine wp_iconst (v := 0) hc dX4_learnEnds_94 (by decide) ?_
      refine wp_zret hc hr hk rfl ?_ dX4_learnEnds_95
      show (0, x4.2) = sX4_learnEnds_0 M q1
      rw [sX4_learnEnds_0, tk_eq hM1, tk_eq hx2, if_neg c22, tk_eq hM3, tk_eq hx4, if_neg c59, tk_eq hx5, if_pos c91]
    refine wp_iconst (v := 0) hc dX4_learnEnds_62 (by decide) ?_
    refine wp_zret hc hr hk rfl ?_ dX4_learnEnds_63
    show (0, x4.2) = sX4_learnEnds_0 M q1
    rw [sX4_learnEnds_0, tk_eq hM1, tk_eq hx2, if_neg c22, tk_eq hM3, tk_eq hx4, if_pos c59]
  refine wp_iconst (v := 0) hc dX4_learnEnds_25 (by decide) ?_
  refine wp_zret hc hr hk rfl ?_ dX4_learnEnds_26
  show (0, x2.2) = sX4_learnEnds_0 M q1
  rw [sX4_learnEnds_0, tk_eq hM1, tk_eq hx2, if_pos c22]
set_option maxRecDepth 10000 in
theorem kfX4_learnEnds_0 (M : Mem) (q1 : Nat) : KF2 (fun x => 2 ≤ x ∧ x ≤ 9) M (sX4_learnEnds_0 M q1) := by
  unfold sX4_learnEnds_0
  refine tk_ind (P := KF2 (fun x => 2 ≤ x ∧ x ≤ 9) M) _ _ (fun M1 hM1 => ?_)
  have k1 : KF (fun x => 2 ≤ x ∧ x ≤ 9) M M1 := by rw [hM1]; exact KF.mono (kfX4_endStandard_0 _ _) (fun x h => by first | exact h | ((try dsimp only at h ⊢); omega))
  refine tk_ind (P := KF2 (fun x => 2 ≤ x ∧ x ≤ 9) M) _ _ (fun x2 hx2 => ?_)
  have k2 : KF2 (fun x => 2 ≤ x ∧ x ≤ 9) M1 x2 := by rw [hx2]; exact KF2.mono (kfX4_tells _ _ _) (fun x h => by first | exact h | ((try dsimp only at h ⊢); omega))
  refine ite_ind (P := KF2 (fun x => 2 ≤ x ∧ x ≤ 9) M) (fun c3 => ?_) (fun c3 => ?_)
  · exact (show KF (fun x => 2 ≤ x ∧ x ≤ 9) M x2.2 from KF.trans k1 (k2))
  · refine tk_ind (P := KF2 (fun x => 2 ≤ x ∧ x ≤ 9) M) _ _ (fun M3 hM3 => ?_)
    have k4 : KF (fun x => 2 ≤ x ∧ x ≤ 9) x2.2 M3 := by rw [hM3]; exact KF.mono (kfX4_endStandard_0 _ _) (fun x h => by first | exact h | ((try dsimp only at h ⊢); omega))
    refine tk_ind (P := KF2 (fun x => 2 ≤ x ∧ x ≤ 9) M) _ _ (fun x4 hx4 => ?_)
    have k5 : KF2 (fun x => 2 ≤ x ∧ x ≤ 9) M3 x4 := by rw [hx4]; exact KF2.mono (kfX4_tells _ _ _) (fun x h => by first | exact h | ((try dsimp only at h ⊢); omega))
    refine ite_ind (P := KF2 (fun x => 2 ≤ x ∧ x ≤ 9) M) (fun c6 => ?_) (fun c6 => ?_)
    · exact (show KF (fun x => 2 ≤ x ∧ x ≤ 9) M x4.2 from KF.trans k1 (KF.trans k2 (KF.trans k4 (k5))))
    · refine tk_ind (P := KF2 (fun x => 2 ≤ x ∧ x ≤ 9) M) _ _ (fun x5 hx5 => ?_)
      refine ite_ind (P := KF2 (fun x => 2 ≤ x ∧ x ≤ 9) M) (fun c7 => ?_) (fun c7 => ?_)
      · exact (show KF (fun x => 2 ≤ x ∧ x ≤ 9) M x4.2 from KF.trans k1 (KF.trans k2 (KF.trans k4 (k5))))
      · refine tk_ind (P := KF2 (fun x => 2 ≤ x ∧ x ≤ 9) M) _ _ (fun M6 hM6 => ?_)
        have k8 : KF (fun x => 2 ≤ x ∧ x ≤ 9) x4.2 M6 := by rw [hM6]; first | exact kf_st (by show _; omega) | exact kf_sr (by show _; omega)
        refine tk_ind (P := KF2 (fun x => 2 ≤ x ∧ x ≤ 9) M) _ _ (fun M7 hM7 => ?_)
        have k9 : KF (fun x => 2 ≤ x ∧ x ≤ 9) M6 M7 := by rw [hM7]; first | exact kf_st (by show _; omega) | exact kf_sr (by show _; omega)
        exact (show KF (fun x => 2 ≤ x ∧ x ≤ 9) M M7 from KF.trans k1 (KF.trans k2 (KF.trans k4 (KF.trans k5 (KF.trans k8 (k9))))))
theorem bX4_learnEnds_0 (M : Mem) (q1 : Nat) : B01 (sX4_learnEnds_0 M q1) := by
  unfold sX4_learnEnds_0
  refine tk_ind (P := B01) _ _ (fun M1 hM1 => ?_)
  refine tk_ind (P := B01) _ _ (fun x2 hx2 => ?_)
  refine ite_ind (P := B01) (fun _ => ?_) (fun _ => ?_)
  · exact (show _ ∨ _ from Or.inl rfl)
  · refine tk_ind (P := B01) _ _ (fun M3 hM3 => ?_)
    refine tk_ind (P := B01) _ _ (fun x4 hx4 => ?_)
    refine ite_ind (P := B01) (fun _ => ?_) (fun _ => ?_)
    · exact (show _ ∨ _ from Or.inl rfl)
    · refine tk_ind (P := B01) _ _ (fun x5 hx5 => ?_)
      refine ite_ind (P := B01) (fun _ => ?_) (fun _ => ?_)
      · exact (show _ ∨ _ from Or.inl rfl)
      · refine tk_ind (P := B01) _ _ (fun M6 hM6 => ?_)
        refine tk_ind (P := B01) _ _ (fun M7 hM7 => ?_)
        exact (show _ ∨ _ from Or.inr rfl)
def sX4_learnCrossing_0 (M : Mem) (i2 : Int32) : Int32 × Mem :=
  tk ((fX1_plus (M.1 9 2) (fX1_times (fX1_minus (fX4_seenAt_0 M) (M.1 9 0)) (M.1 9 1)))) fun x1 =>
  if x1 = 0 then
  (0, M)
  else
  tk (st M 9 4 (fX1_over (fX1_minus (fX4_seenAt_0 M) (M.1 9 0)) x1)) fun M2 =>
  tk (st M2 9 5 (fX1_times (fX1_minus i2 (M2.1 9 3)) (fX1_minus 10007 (fX1_times (M2.1 9 1) (M2.1 9 4))))) fun M3 =>
  (1, M3)
set_option maxHeartbeats 4000000 in
set_option maxRecDepth 100000 in
theorem kX4_learnCrossing_0 (l : Launch) (D : va_G) (cy : Nat → ClassId) (z : Nat → Nat) (hz : zI z) (M : Mem) (i2 : Int32) : KI l yX4_learnCrossing wsX4_learnCrossing { frames := 2, cells := 0, slots := 0, locals := 51 } D cy z 0 100 [.ref (z 1), .int 0, .int i2] M (fun r u => (r, u) = sX4_learnCrossing_0 M i2) := by
  refine met_wp (lv := [(0, .ref (z 1)), (1, .int 0), (2, .int i2)]) hz (by decide) (by decide) rfl rfl (Nat.le_of_ble_eq_true rfl) rfl ?_
  intro p e s m below meth c hc hx hr hk
  have hNW := hx.2.1
  have hin4 : ∀ w ∈ wsX40, w ∈ wsX4_learnCrossing := by decide +kernel
  have hf36 : Cond.fieldLink RX4 36 (TX4 7).1 (TX4 7).2.1 (TX4 7).2.2.1 ∈ wsX4_learnCrossing := by decide +kernel
  have cw156 : CallB ({ frames := 2, cells := 0, slots := 0, locals := 51 }) s _ RX4 156 yX1_times cX1_times 6 (some .int) wsX1_times ({ frames := 1, cells := 0, slots := 0, locals := 23 }) 0 0 2 ∧ (Cond.static yX1_times).before _ s = true := va_cwS 2 hc.2.2.2.2 gX4_learnCrossing_X1_times rfl rfl rfl (by decide +kernel) ⟨Nat.le_of_ble_eq_true rfl, Nat.le_of_ble_eq_true rfl⟩
  have cw159 : CallB ({ frames := 2, cells := 0, slots := 0, locals := 51 }) s _ RX4 159 yX1_minus cX1_minus 2 (some .int) wsX1_minus ({ frames := 1, cells := 0, slots := 0, locals := 23 }) 0 0 2 ∧ (Cond.static yX1_minus).before _ s = true := va_cwS 2 hc.2.2.2.2 gX4_learnCrossing_X1_minus rfl rfl rfl (by decide +kernel) ⟨Nat.le_of_ble_eq_true rfl, Nat.le_of_ble_eq_true rfl⟩
  have cw162 : CallB ({ frames := 2, cells := 0, slots := 0, locals := 51 }) s _ RX4 162 yX1_plus cX1_plus 2 (some .int) wsX1_plus ({ frames := 1, cells := 0, slots := 0, locals := 23 }) 0 0 2 ∧ (Cond.static yX1_plus).before _ s = true := va_cwS 2 hc.2.2.2.2 gX4_learnCrossing_X1_plus rfl rfl rfl (by decide +kernel) ⟨Nat.le_of_ble_eq_true rfl, Nat.le_of_ble_eq_true rfl⟩
  have cw165 : CallB ({ frames := 2, cells := 0, slots := 0, locals := 51 }) s _ RX4 165 yX1_over cX1_over 9 (some .int) wsX1_over ({ frames := 1, cells := 0, slots := 0, locals := 23 }) 0 0 2 ∧ (Cond.static yX1_over).before _ s = true := va_cwS 2 hc.2.2.2.2 gX4_learnCrossing_X1_over rfl rfl rfl (by decide +kernel) ⟨Nat.le_of_ble_eq_true rfl, Nat.le_of_ble_eq_true rfl⟩
  have cw171 : CallW ({ frames := 2, cells := 0, slots := 0, locals := 51 }) s _ RX4 RX4 171 yX4_seenAt cX4_seenAt 2 (some .int) wsX4_seenAt ({ frames := 0, cells := 0, slots := 0, locals := 0 }) 0 0 1 := cwV 1 hc.2.2.2.2 gX4_learnCrossing_X4_seenAt rfl rfl rfl (by decide +kernel) ⟨Nat.le_of_ble_eq_true rfl, Nat.le_of_ble_eq_true rfl⟩
  refine wp_bipush (v := 6) hc dX4_learnCrossing_0 (by decide) ?_
  refine wp_iload_n hc 1 dX4_learnCrossing_2 rfl ?_
  refine wp_imul hc dX4_learnCrossing_3 ?_
  refine wp_cvt (v := 0) (by decide) ?_
  refine wp_istore_n (lv' := [(3, .int 0), (0, .ref (z 1)), (1, .int 0), (2, .int i2)]) hc dX4_learnCrossing_4 (by decide) rfl ?_
  refine wp_aload_n hc 1 dX4_learnCrossing_5 rfl ?_
  refine wp_iload_n hc 2 dX4_learnCrossing_6 rfl ?_
  refine wp_callVf (As := [.int 0]) (rest := []) (j := 1) (v := (fX4_seenAt_0 M)) hc hx (kX4_seenAt_0 l D cy z hz M) cw171 (by decide) (by decide) (ce_3 rfl) rfl rfl rfl rfl (Nat.le_of_ble_eq_true rfl) dX4_learnCrossing_7 ?_
  refine wp_aload_n hc 1 dX4_learnCrossing_10 rfl ?_
  refine wp_get hc hx hin4 (j := 1) (by decide) (by decide) (ce_3 rfl) rfl 7 (by decide) hf36 rfl dX4_learnCrossing_11 ?_
  refine wp_iload_n hc 0 dX4_learnCrossing_14 rfl ?_
  refine wp_iald hc hx (j := 9) (by decide) (by decide) rfl 0 rfl (vin (by decide)) dX4_learnCrossing_15 ?_
  refine wp_callSg (As := [.int (fX4_seenAt_0 M), .int (M.1 9 0)]) (rest := []) (v := (fX1_minus (fX4_seenAt_0 M) (M.1 9 0))) hc hNW (kX1_minus l (fX4_seenAt_0 M) (M.1 9 0)) cw159 rfl rfl (Nat.le_of_ble_eq_true rfl) dX4_learnCrossing_16 ?_
  refine wp_istore (lv' := [(4, .int (fX1_minus (fX4_seenAt_0 M) (M.1 9 0))), (3, .int 0), (0, .ref (z 1)), (1, .int 0), (2, .int i2)]) hc dX4_learnCrossing_19 (by decide) rfl ?_
  refine wp_aload_n hc 2 dX4_learnCrossing_21 rfl ?_
  refine wp_get hc hx hin4 (j := 1) (by decide) (by decide) (ce_3 rfl) rfl 7 (by decide) hf36 rfl dX4_learnCrossing_22 ?_
  refine wp_iload_n hc 1 dX4_learnCrossing_25 rfl ?_
  refine wp_iconst (v := 2) hc dX4_learnCrossing_26 (by decide) ?_
  refine wp_iadd hc dX4_learnCrossing_27 ?_
  refine wp_cvt (v := 2) (by decide) ?_
  refine wp_iald hc hx (j := 9) (by decide) (by decide) rfl 2 rfl (vin (by decide)) dX4_learnCrossing_28 ?_
  refine wp_iload hc 0 dX4_learnCrossing_29 rfl ?_
  refine wp_aload_n hc 2 dX4_learnCrossing_31 rfl ?_
  refine wp_get hc hx hin4 (j := 1) (by decide) (by decide) (ce_3 rfl) rfl 7 (by decide) hf36 rfl dX4_learnCrossing_32 ?_
  refine wp_iload_n hc 1 dX4_learnCrossing_35 rfl ?_
  refine wp_iconst (v := 1) hc dX4_learnCrossing_36 (by decide) ?_
  refine wp_iadd hc dX4_learnCrossing_37 ?_
  refine wp_cvt (v := 1) (by decide) ?_
  refine wp_iald hc hx (j := 9) (by decide) (by decide) rfl 1 rfl (vin (by decide)) dX4_learnCrossing_38 ?_
  refine wp_callSg (As := [.int (fX1_minus (fX4_seenAt_0 M) (M.1 9 0)), .int (M.1 9 1)]) (rest := [.int (M.1 9 2)]) (v := (fX1_times (fX1_minus (fX4_seenAt_0 M) (M.1 9 0)) (M.1 9 1))) hc hNW (kX1_times l (fX1_minus (fX4_seenAt_0 M) (M.1 9 0)) (M.1 9 1)) cw156 rfl rfl (Nat.le_of_ble_eq_true rfl) dX4_learnCrossing_39 ?_
  refine wp_callSg (As := [.int (M.1 9 2), .int (fX1_times (fX1_minus (fX4_seenAt_0 M) (M.1 9 0)) (M.1 9 1))]) (rest := []) (v := (fX1_plus (M.1 9 2) (fX1_times (fX1_minus (fX4_seenAt_0 M) (M.1 9 0)) (M.1 9 1)))) hc hNW (kX1_plus l (M.1 9 2) (fX1_times (fX1_minus (fX4_seenAt_0 M) (M.1 9 0)) (M.1 9 1))) cw162 rfl rfl (Nat.le_of_ble_eq_true rfl) dX4_learnCrossing_42 ?_
  refine wp_topi (fun x1 hx1 => ?_)
  refine wp_istore (lv' := [(5, .int x1), (4, .int (fX1_minus (fX4_seenAt_0 M) (M.1 9 0))), (3, .int 0), (0, .ref (z 1)), (1, .int 0), (2, .int i2)]) hc dX4_learnCrossing_45 (by decide) rfl ?_
  refine wp_iload hc 0 dX4_learnCrossing_47 rfl ?_
  refine wp_if_ne (tgt := 54) hc dX4_learnCrossing_49 (by decide) (fun c49 => ?_) (fun c49 => ?_)
  · refine wp_aload_n hc 3 dX4_learnCrossing_54 rfl ?_
    refine wp_get hc hx hin4 (j := 1) (by decide) (by decide) (ce_3 rfl) rfl 7 (by decide) hf36 rfl dX4_learnCrossing_55 ?_
    refine wp_iload_n hc 2 dX4_learnCrossing_58 rfl ?_
    refine wp_iconst (v := 4) hc dX4_learnCrossing_59 (by decide) ?_
    refine wp_iadd hc dX4_learnCrossing_60 ?_
    refine wp_cvt (v := 4) (by decide) ?_
    refine wp_iload hc 1 dX4_learnCrossing_61 rfl ?_
    refine wp_iload hc 0 dX4_learnCrossing_63 rfl ?_
    refine wp_callSg (As := [.int (fX1_minus (fX4_seenAt_0 M) (M.1 9 0)), .int x1]) (rest := [.int 4, .ref (z 9)]) (v := (fX1_over (fX1_minus (fX4_seenAt_0 M) (M.1 9 0)) x1)) hc hNW (kX1_over l (fX1_minus (fX4_seenAt_0 M) (M.1 9 0)) x1) cw165 rfl rfl (Nat.le_of_ble_eq_true rfl) dX4_learnCrossing_65 ?_
    refine wp_iast hc hx (j := 9) (by decide) (by decide) rfl 4 rfl (vin (by decide)) dX4_learnCrossing_68 ?_
    refine wp_nm (fun M2 hM2 => ?_)
    refine wp_sipush (v := 10007) hc dX4_learnCrossing_69 (by decide) ?_
    refine wp_aload_n hc 3 dX4_learnCrossing_72 rfl ?_
    refine wp_get hc hx hin4 (j := 1) (by decide) (by decide) (ce_3 rfl) rfl 7 (by decide) hf36 rfl dX4_learnCrossing_73 ?_
    refine wp_iload_n hc 2 dX4_learnCrossing_76 rfl ?_
    refine wp_iconst (v := 1) hc dX4_learnCrossing_77 (by decide) ?_
    refine wp_iadd hc dX4_learnCrossing_78 ?_
    refine wp_cvt (v := 1) (by decide) ?_
    refine wp_iald hc hx (j := 9) (by decide) (by decide) rfl 1 rfl (vin (by decide)) dX4_learnCrossing_79 ?_
    refine wp_aload_n hc 3 dX4_learnCrossing_80 rfl ?_
    refine wp_get hc hx hin4 (j := 1) (by decide) (by decide) (ce_3 rfl) rfl 7 (by decide) hf36 rfl dX4_learnCrossing_81 ?_
    refine wp_iload_n hc 2 dX4_learnCrossing_84 rfl ?_
    refine wp_iconst (v := 4) hc dX4_learnCrossing_85 (by decide) ?_
    refine wp_iadd hc dX4_learnCrossing_86 ?_
    refine wp_cvt (v := 4) (by decide) ?_
    refine wp_iald hc hx (j := 9) (by decide) (by decide) rfl 4 rfl (vin (by decide)) dX4_learnCrossing_87 ?_
    refine wp_callSg (As := [.int (M2.1 9 1), .int (M2.1 9 4)]) (rest := [.int 10007]) (v := (fX1_times (M2.1 9 1) (M2.1 9 4))) hc hNW (kX1_times l (M2.1 9 1) (M2.1 9 4)) cw156 rfl rfl (Nat.le_of_ble_eq_true rfl) dX4_learnCrossing_88 ?_
    refine wp_callSg (As := [.int 10007, .int (fX1_times (M2.1 9 1) (M2.1 9 4))]) (rest := []) (v := (fX1_minus 10007 (fX1_times (M2.1 9 1) (M2.1 9 4)))) hc hNW (kX1_minus l 10007 (fX1_times (M2.1 9 1) (M2.1 9 4))) cw159 rfl rfl (Nat.le_of_ble_eq_true rfl) dX4_learnCrossing_91 ?_
    refine wp_istore (lv' := [(6, .int (fX1_minus 10007 (fX1_times (M2.1 9 1) (M2.1 9 4)))), (5, .int x1), (4, .int (fX1_minus (fX4_seenAt_0 M) (M.1 9 0))), (3, .int 0), (0, .ref (z 1)), (1, .int 0), (2, .int i2)]) hc dX4_learnCrossing_94 (by decide) rfl ?_
    refine wp_aload_n hc 4 dX4_learnCrossing_96 rfl ?_
    refine wp_get hc hx hin4 (j := 1) (by decide) (by decide) (ce_3 rfl) rfl 7 (by decide) hf36 rfl dX4_learnCrossing_97 ?_
    refine wp_iload_n hc 3 dX4_learnCrossing_100 rfl ?_
    refine wp_iconst (v := 5) hc dX4_learnCrossing_101 (by decide) ?_
    refine wp_iadd hc dX4_learnCrossing_102 ?_
    refine wp_cvt (v := 5) (by decide) ?_
    refine wp_iload_n hc 6 dX4_learnCrossing_103 rfl ?_
    refine wp_aload_n hc 4 dX4_learnCrossing_104 rfl ?_
    refine wp_get hc hx hin4 (j := 1) (by decide) (by decide) (ce_3 rfl) rfl 7 (by decide) hf36 rfl dX4_learnCrossing_105 ?_
    refine wp_iload_n hc 3 dX4_learnCrossing_108 rfl ?_
    refine wp_iconst (v := 3) hc dX4_learnCrossing_109 (by decide) ?_
    refine wp_iadd hc dX4_learnCrossing_110 ?_
    refine wp_cvt (v := 3) (by decide) ?_
    refine wp_iald hc hx (j := 9) (by decide) (by decide) rfl 3 rfl (vin (by decide)) dX4_learnCrossing_111 ?_
    refine wp_callSg (As := [.int i2, .int (M2.1 9 3)]) (rest := [.int 5, .ref (z 9)]) (v := (fX1_minus i2 (M2.1 9 3))) hc hNW (kX1_minus l i2 (M2.1 9 3)) cw159 rfl rfl (Nat.le_of_ble_eq_true rfl) dX4_learnCrossing_112 ?_
    refine wp_iload hc 0 dX4_learnCrossing_115 rfl ?_
    refine wp_callSg (As := [.int (fX1_minus i2 (M2.1 9 3)), .int (fX1_minus 10007 (fX1_times (M2.1 9 1) (M2.1 9 4)))]) (rest := [.int 5, .ref (z 9)]) (v := (fX1_times (fX1_minus i2 (M2.1 9 3)) (fX1_minus 10007 (fX1_times (M2.1 9 1) (M2.1 9 4))))) hc hNW (kX1_times l (fX1_minus i2 (M2.1 9 3)) (fX1_minus 10007 (fX1_times (M2.1 9 1) (M2.1 9 4)))) cw156 rfl rfl (Nat.le_of_ble_eq_true rfl) dX4_learnCrossing_117 ?_
    refine wp_iast hc hx (j := 9) (by decide) (by decide) rfl 5 rfl (vin (by decide)) dX4_learnCrossing_120 ?_
    refine wp_nm (fun M3 hM3 => ?_)
    refine wp_iconst (v := 1) hc dX4_learnCrossing_121 (by decide) ?_
    refine wp_zret hc hr hk rfl ?_ dX4_learnCrossing_122
    show (1, M3) = sX4_learnCrossing_0 M i2
    rw [sX4_learnCrossing_0, tk_eq hx1, if_neg c49, tk_eq hM2, tk_eq hM3]
  refine wp_iconst (v := 0) hc dX4_learnCrossing_52 (by decide) ?_
  refine wp_zret hc hr hk rfl ?_ dX4_learnCrossing_53
  show (0, M) = sX4_learnCrossing_0 M i2
  rw [sX4_learnCrossing_0, tk_eq hx1, if_pos c49]
set_option maxRecDepth 10000 in
theorem kfX4_learnCrossing_0 (M : Mem) (i2 : Int32) : KF2 (fun x => 2 ≤ x ∧ x ≤ 9) M (sX4_learnCrossing_0 M i2) := by
  unfold sX4_learnCrossing_0
  refine tk_ind (P := KF2 (fun x => 2 ≤ x ∧ x ≤ 9) M) _ _ (fun x1 hx1 => ?_)
  refine ite_ind (P := KF2 (fun x => 2 ≤ x ∧ x ≤ 9) M) (fun c1 => ?_) (fun c1 => ?_)
  · exact (show KF (fun x => 2 ≤ x ∧ x ≤ 9) M M from KF.rf)
  · refine tk_ind (P := KF2 (fun x => 2 ≤ x ∧ x ≤ 9) M) _ _ (fun M2 hM2 => ?_)
    have k2 : KF (fun x => 2 ≤ x ∧ x ≤ 9) M M2 := by rw [hM2]; first | exact kf_st (by show _; omega) | exact kf_sr (by show _; omega)
    refine tk_ind (P := KF2 (fun x => 2 ≤ x ∧ x ≤ 9) M) _ _ (fun M3 hM3 => ?_)
    have k3 : KF (fun x => 2 ≤ x ∧ x ≤ 9) M2 M3 := by rw [hM3]; first | exact kf_st (by show _; omega) | exact kf_sr (by show _; omega)
    exact (show KF (fun x => 2 ≤ x ∧ x ≤ 9) M M3 from KF.trans k2 (k3))
theorem bX4_learnCrossing_0 (M : Mem) (i2 : Int32) : B01 (sX4_learnCrossing_0 M i2) := by
  unfold sX4_learnCrossing_0
  refine tk_ind (P := B01) _ _ (fun x1 hx1 => ?_)
  refine ite_ind (P := B01) (fun _ => ?_) (fun _ => ?_)
  · exact (show _ ∨ _ from Or.inl rfl)
  · refine tk_ind (P := B01) _ _ (fun M2 hM2 => ?_)
    refine tk_ind (P := B01) _ _ (fun M3 hM3 => ?_)
    exact (show _ ∨ _ from Or.inr rfl)
def fX4_seenAt_1 (M : Mem)  : Int32 :=
  (M.1 3 3)
set_option maxHeartbeats 4000000 in
set_option maxRecDepth 100000 in
theorem kX4_seenAt_1 (l : Launch) (D : va_G) (cy : Nat → ClassId) (z : Nat → Nat) (hz : zI z) (M : Mem)  : KI l yX4_seenAt wsX4_seenAt { frames := 0, cells := 0, slots := 0, locals := 0 } D cy z 0 100 [.ref (z 1), .int 1] M (fun r u => r = fX4_seenAt_1 M ∧ u = M) := by
  refine met_wp (lv := [(0, .ref (z 1)), (1, .int 1)]) hz (by decide) (by decide) rfl rfl (Nat.le_of_ble_eq_true rfl) rfl ?_
  intro p e s m below meth c hc hx hr hk
  have hNW := hx.2.1
  have hin0 : ∀ w ∈ wsX00, w ∈ wsX4_seenAt := by decide +kernel
  have hin4 : ∀ w ∈ wsX40, w ∈ wsX4_seenAt := by decide +kernel
  have hf18 : Cond.fieldLink RX4 18 (TX4 1).1 (TX4 1).2.1 (TX4 1).2.2.1 ∈ wsX4_seenAt := by decide +kernel
  have hf77 : Cond.fieldLink RX4 77 (TX0 3).1 (TX0 3).2.1 (TX0 3).2.2.1 ∈ wsX4_seenAt := by decide +kernel
  refine wp_iload_n hc 1 dX4_seenAt_0 rfl ?_
  refine wp_if_ne (tgt := 14) hc dX4_seenAt_1 (by decide) (fun _ => ?_) (fun c => absurd c (by decide))
  refine wp_aload_n hc 0 dX4_seenAt_14 rfl ?_
  refine wp_get hc hx hin4 (j := 1) (by decide) (by decide) (ce_3 rfl) rfl 1 (by decide) hf18 rfl dX4_seenAt_15 ?_
  refine wp_get hc hx hin0 (j := 3) (by decide) (by decide) (ce_0 rfl) rfl 3 (by decide) hf77 rfl dX4_seenAt_18 ?_
  refine wp_iret hc hr hk ?_ dX4_seenAt_21
  show (M.1 3 3) = fX4_seenAt_1 M ∧ M = M
  exact ⟨by rw [fX4_seenAt_1], rfl⟩
def sX4_endStandard_1 (M : Mem) (i2 : Int32) : Mem :=
  tk (sX0_fill M 2 0 0 0 i2) fun M1 =>
  M1
set_option maxHeartbeats 4000000 in
set_option maxRecDepth 100000 in
theorem kX4_endStandard_1 (l : Launch) (D : va_G) (cy : Nat → ClassId) (z : Nat → Nat) (hz : zI z) (M : Mem) (i2 : Int32) : KV l yX4_endStandard wsX4_endStandard { frames := 1, cells := 0, slots := 0, locals := 24 } D cy z 0 100 [.ref (z 1), .int 1, .int i2] M (fun u => u = sX4_endStandard_1 M i2) := by
  refine met_wp (lv := [(0, .ref (z 1)), (1, .int 1), (2, .int i2)]) hz (by decide) (by decide) rfl rfl (Nat.le_of_ble_eq_true rfl) rfl ?_
  intro p e s m below meth c hc hx hr hk
  have hNW := hx.2.1
  have hin4 : ∀ w ∈ wsX40, w ∈ wsX4_endStandard := by decide +kernel
  have hf12 : Cond.fieldLink RX4 12 (TX4 0).1 (TX4 0).2.1 (TX4 0).2.2.1 ∈ wsX4_endStandard := by decide +kernel
  have cw40 : CallW ({ frames := 1, cells := 0, slots := 0, locals := 24 }) s _ RX4 RX0 40 yX0_fill cX0_fill 5 none wsX0_fill ({ frames := 0, cells := 0, slots := 0, locals := 0 }) 0 0 4 := cwV 4 hc.2.2.2.2 gX4_endStandard_X0_fill rfl rfl rfl (by decide +kernel) ⟨Nat.le_of_ble_eq_true rfl, Nat.le_of_ble_eq_true rfl⟩
  refine wp_aload_n hc 0 dX4_endStandard_0 rfl ?_
  refine wp_get hc hx hin4 (j := 1) (by decide) (by decide) (ce_3 rfl) rfl 0 (by decide) hf12 rfl dX4_endStandard_1 ?_
  refine wp_iload_n hc 1 dX4_endStandard_4 rfl ?_
  refine wp_if_ne (tgt := 12) hc dX4_endStandard_5 (by decide) (fun _ => ?_) (fun c => absurd c (by decide))
  refine wp_iconst (v := 0) hc dX4_endStandard_12 (by decide) ?_
  refine wp_iconst (v := 0) hc dX4_endStandard_13 (by decide) ?_
  refine wp_iconst (v := 0) hc dX4_endStandard_14 (by decide) ?_
  refine wp_iload_n hc 1 dX4_endStandard_15 rfl ?_
  refine wp_if_ne (tgt := 23) hc dX4_endStandard_16 (by decide) (fun _ => ?_) (fun c => absurd c (by decide))
  refine wp_iload_n hc 2 dX4_endStandard_23 rfl ?_
  refine wp_callVvw (As := [.int 0, .int 0, .int 0, .int i2]) (rest := []) (j := 2) (w := sX0_fill M 2 0 0 0 i2) hc hx (kX0_fill l D cy z hz M 2 0 0 0 i2 (by decide) rfl) cw40 (by decide) (by decide) (ce_0 rfl) rfl rfl rfl rfl (Nat.le_of_ble_eq_true rfl) dX4_endStandard_24 (fun M1 hM1 => ?_)
  refine wp_vret hc hr hk ?_ dX4_endStandard_27
  show M1 = sX4_endStandard_1 M i2
  rw [sX4_endStandard_1, tk_eq hM1]
set_option maxRecDepth 10000 in
theorem kfX4_endStandard_1 (M : Mem) (i2 : Int32) : KF (fun x => 2 ≤ x ∧ x ≤ 9) M (sX4_endStandard_1 M i2) := by
  unfold sX4_endStandard_1
  refine tk_ind (P := KF (fun x => 2 ≤ x ∧ x ≤ 9) M) _ _ (fun M1 hM1 => ?_)
  have k1 : KF (fun x => 2 ≤ x ∧ x ≤ 9) M M1 := by rw [hM1]; exact KF.mono (kfX0_fill _ _ _ _ _ _) (fun x h => by first | exact h | ((try dsimp only at h ⊢); omega))
  exact (show KF (fun x => 2 ≤ x ∧ x ≤ 9) M M1 from k1)
def sX4_learnEnds_1 (M : Mem) (q1 : Nat) : Int32 × Mem :=
  tk (sX4_endStandard_1 M 10007) fun M1 =>
  tk (sX4_tells M1 q1 2) fun x2 =>
  if x2.1 = 0 then
  (0, x2.2)
  else
  tk (sX4_endStandard_1 x2.2 100130042) fun M3 =>
  tk (sX4_tells M3 q1 2) fun x4 =>
  if x4.1 = 0 then
  (0, x4.2)
  else
  tk ((fX1_minus (fX1_minus (fX4_seenAt_1 x2.2) (x2.2.1 9 6)) (fX1_minus (fX4_seenAt_1 x4.2) (x4.2.1 9 6)))) fun x5 =>
  if x5 = 0 then
  (0, x4.2)
  else
  tk (st x4.2 9 7 (fX1_over (fX1_plus (fX1_minus (fX4_seenAt_1 x2.2) (x2.2.1 9 6)) (fX1_minus (fX4_seenAt_1 x4.2) (x4.2.1 9 6))) x5)) fun M6 =>
  tk (st M6 9 8 (fX1_times (fX1_minus (fX4_seenAt_1 x2.2) (x2.2.1 9 6)) (fX1_minus 10007 (M6.1 9 7)))) fun M7 =>
  (1, M7)
set_option maxHeartbeats 4000000 in
set_option maxRecDepth 100000 in
theorem kX4_learnEnds_1 (l : Launch) (D : va_G) (cy : Nat → ClassId) (z : Nat → Nat) (hz : zI z) (M : Mem) (q1 : Nat) (hlq1 : 0 ≤ q1) (hjq1 : q1 < 0 + 100) (hkq1 : kd q1 = 7) (hnq1 : ln q1 = 12) : KI l yX4_learnEnds wsX4_learnEnds { frames := 4, cells := 0, slots := 0, locals := 97 } D cy z 0 100 [.ref (z 1), .ref (z q1), .int 1] M (fun r u => (r, u) = sX4_learnEnds_1 M q1) := by
  refine met_wp (lv := [(0, .ref (z 1)), (1, .ref (z q1)), (2, .int 1)]) hz (by decide) (by decide) rfl rfl (Nat.le_of_ble_eq_true rfl) rfl ?_
  intro p e s m below meth c hc hx hr hk
  have hNW := hx.2.1
  have hin4 : ∀ w ∈ wsX40, w ∈ wsX4_learnEnds := by decide +kernel
  have hf12 : Cond.fieldLink RX4 12 (TX4 0).1 (TX4 0).2.1 (TX4 0).2.2.1 ∈ wsX4_learnEnds := by decide +kernel
  have hf36 : Cond.fieldLink RX4 36 (TX4 7).1 (TX4 7).2.1 (TX4 7).2.2.1 ∈ wsX4_learnEnds := by decide +kernel
  have cw118 : CallW ({ frames := 4, cells := 0, slots := 0, locals := 97 }) s _ RX4 RX4 118 yX4_tells cX4_tells 10 (some .boolean) wsX4_tells ({ frames := 3, cells := 0, slots := 0, locals := 68 }) 0 0 2 := cwV 2 hc.2.2.2.2 gX4_learnEnds_X4_tells rfl rfl rfl (by decide +kernel) ⟨Nat.le_of_ble_eq_true rfl, Nat.le_of_ble_eq_true rfl⟩
  have cw156 : CallB ({ frames := 4, cells := 0, slots := 0, locals := 97 }) s _ RX4 156 yX1_times cX1_times 6 (some .int) wsX1_times ({ frames := 1, cells := 0, slots := 0, locals := 23 }) 0 0 2 ∧ (Cond.static yX1_times).before _ s = true := va_cwS 2 hc.2.2.2.2 gX4_learnEnds_X1_times rfl rfl rfl (by decide +kernel) ⟨Nat.le_of_ble_eq_true rfl, Nat.le_of_ble_eq_true rfl⟩
  have cw159 : CallB ({ frames := 4, cells := 0, slots := 0, locals := 97 }) s _ RX4 159 yX1_minus cX1_minus 2 (some .int) wsX1_minus ({ frames := 1, cells := 0, slots := 0, locals := 23 }) 0 0 2 ∧ (Cond.static yX1_minus).before _ s = true := va_cwS 2 hc.2.2.2.2 gX4_learnEnds_X1_minus rfl rfl rfl (by decide +kernel) ⟨Nat.le_of_ble_eq_true rfl, Nat.le_of_ble_eq_true rfl⟩
  have cw162 : CallB ({ frames := 4, cells := 0, slots := 0, locals := 97 }) s _ RX4 162 yX1_plus cX1_plus 2 (some .int) wsX1_plus ({ frames := 1, cells := 0, slots := 0, locals := 23 }) 0 0 2 ∧ (Cond.static yX1_plus).before _ s = true := va_cwS 2 hc.2.2.2.2 gX4_learnEnds_X1_plus rfl rfl rfl (by decide +kernel) ⟨Nat.le_of_ble_eq_true rfl, Nat.le_of_ble_eq_true rfl⟩
  have cw165 : CallB ({ frames := 4, cells := 0, slots := 0, locals := 97 }) s _ RX4 165 yX1_over cX1_over 9 (some .int) wsX1_over ({ frames := 1, cells := 0, slots := 0, locals := 23 }) 0 0 2 ∧ (Cond.static yX1_over).before _ s = true := va_cwS 2 hc.2.2.2.2 gX4_learnEnds_X1_over rfl rfl rfl (by decide +kernel) ⟨Nat.le_of_ble_eq_true rfl, Nat.le_of_ble_eq_true rfl⟩
  have cw168 : CallW ({ frames := 4, cells := 0, slots := 0, locals := 97 }) s _ RX4 RX4 168 yX4_endStandard cX4_endStandard 3 none wsX4_endStandard ({ frames := 1, cells := 0, slots := 0, locals := 24 }) 0 0 2 := cwV 2 hc.2.2.2.2 gX4_learnEnds_X4_endStandard rfl rfl rfl (by decide +kernel) ⟨Nat.le_of_ble_eq_true rfl, Nat.le_of_ble_eq_true rfl⟩
  have cw171 : CallW ({ frames := 4, cells := 0, slots := 0, locals := 97 }) s _ RX4 RX4 171 yX4_seenAt cX4_seenAt 2 (some .int) wsX4_seenAt ({ frames := 0, cells := 0, slots := 0, locals := 0 }) 0 0 1 := cwV 1 hc.2.2.2.2 gX4_learnEnds_X4_seenAt rfl rfl rfl (by decide +kernel) ⟨Nat.le_of_ble_eq_true rfl, Nat.le_of_ble_eq_true rfl⟩
  refine wp_bipush (v := 6) hc dX4_learnEnds_0 (by decide) ?_
  refine wp_iload_n hc 2 dX4_learnEnds_2 rfl ?_
  refine wp_imul hc dX4_learnEnds_3 ?_
  refine wp_cvt (v := 6) (by decide) ?_
  refine wp_istore_n (lv' := [(3, .int 6), (0, .ref (z 1)), (1, .ref (z q1)), (2, .int 1)]) hc dX4_learnEnds_4 (by decide) rfl ?_
  refine wp_aload_n hc 1 dX4_learnEnds_5 rfl ?_
  refine wp_iload_n hc 3 dX4_learnEnds_6 rfl ?_
  refine wp_sipush (v := 10007) hc dX4_learnEnds_7 (by decide) ?_
  refine wp_callVvw (As := [.int 1, .int 10007]) (rest := []) (j := 1) (w := sX4_endStandard_1 M 10007) hc hx (kX4_endStandard_1 l D cy z hz M 10007) cw168 (by decide) (by decide) (ce_3 rfl) rfl rfl rfl rfl (Nat.le_of_ble_eq_true rfl) dX4_learnEnds_10 (fun M1 hM1 => ?_)
  refine wp_aload_n hc 1 dX4_learnEnds_13 rfl ?_
  refine wp_aload_n hc 2 dX4_learnEnds_14 rfl ?_
  refine wp_aload_n hc 1 dX4_learnEnds_15 rfl ?_
  refine wp_get hc hx hin4 (j := 1) (by decide) (by decide) (ce_3 rfl) rfl 0 (by decide) hf12 rfl dX4_learnEnds_16 ?_
  refine wp_callVw (As := [.ref (z q1), .ref (z 2)]) (rest := []) (j := 1) (w := sX4_tells M1 q1 2) hc hx (kX4_tells l D cy z hz M1 q1 2 hlq1 hjq1 hkq1 (hnq1) (by decide) rfl) cw118 (by decide) (by decide) (ce_3 rfl) rfl rfl rfl rfl (Nat.le_of_ble_eq_true rfl) dX4_learnEnds_19 (fun x2 hx2 => ?_)
  refine wp_if_ne (tgt := 27) hc dX4_learnEnds_22 (by decide) (fun c22 => ?_) (fun c22 => ?_)
  · refine wp_aload_n hc 1 dX4_learnEnds_27 rfl ?_
    refine wp_iload_n hc 3 dX4_learnEnds_28 rfl ?_
    refine wp_callVf (As := [.int 1]) (rest := []) (j := 1) (v := (fX4_seenAt_1 x2.2)) hc hx (kX4_seenAt_1 l D cy z hz x2.2) cw171 (by decide) (by decide) (ce_3 rfl) rfl rfl rfl rfl (Nat.le_of_ble_eq_true rfl) dX4_learnEnds_29 ?_
    refine wp_aload_n hc 1 dX4_learnEnds_32 rfl ?_
    refine wp_get hc hx hin4 (j := 1) (by decide) (by decide) (ce_3 rfl) rfl 7 (by decide) hf36 rfl dX4_learnEnds_33 ?_
    refine wp_iload_n hc 0 dX4_learnEnds_36 rfl ?_
    refine wp_iald hc hx (j := 9) (by decide) (by decide) rfl 6 rfl (vin (by decide)) dX4_learnEnds_37 ?_
    refine wp_callSg (As := [.int (fX4_seenAt_1 x2.2), .int (x2.2.1 9 6)]) (rest := []) (v := (fX1_minus (fX4_seenAt_1 x2.2) (x2.2.1 9 6))) hc hNW (kX1_minus l (fX4_seenAt_1 x2.2) (x2.2.1 9 6)) cw159 rfl rfl (Nat.le_of_ble_eq_true rfl) dX4_learnEnds_38 ?_
    refine wp_istore (lv' := [(4, .int (fX1_minus (fX4_seenAt_1 x2.2) (x2.2.1 9 6))), (3, .int 6), (0, .ref (z 1)), (1, .ref (z q1)), (2, .int 1)]) hc dX4_learnEnds_41 (by decide) rfl ?_
    refine wp_aload_n hc 2 dX4_learnEnds_43 rfl ?_
    refine wp_iload_n hc 4 dX4_learnEnds_44 rfl ?_
    refine wp_ldc (v := 100130042) hc (by decide +kernel) dX4_learnEnds_45 ?_
    refine wp_callVvw (As := [.int 1, .int 100130042]) (rest := []) (j := 1) (w := sX4_endStandard_1 x2.2 100130042) hc hx (kX4_endStandard_1 l D cy z hz x2.2 100130042) cw168 (by decide) (by decide) (ce_3 rfl) rfl rfl rfl rfl (Nat.le_of_ble_eq_true rfl) dX4_learnEnds_47 (fun M3 hM3 => ?_)
    refine wp_aload_n hc 2 dX4_learnEnds_50 rfl ?_
    refine wp_aload_n hc 3 dX4_learnEnds_51 rfl ?_
    refine wp_aload_n hc 2 dX4_learnEnds_52 rfl ?_
    refine wp_get hc hx hin4 (j := 1) (by decide) (by decide) (ce_3 rfl) rfl 0 (by decide) hf12 rfl dX4_learnEnds_53 ?_
    refine wp_callVw (As := [.ref (z q1), .ref (z 2)]) (rest := []) (j := 1) (w := sX4_tells M3 q1 2) hc hx (kX4_tells l D cy z hz M3 q1 2 hlq1 hjq1 hkq1 (hnq1) (by decide) rfl) cw118 (by decide) (by decide) (ce_3 rfl) rfl rfl rfl rfl (Nat.le_of_ble_eq_true rfl) dX4_learnEnds_56 (fun x4 hx4 => ?_)
    refine wp_if_ne (tgt := 64) hc dX4_learnEnds_59 (by decide) (fun c59 => ?_) (fun c59 => ?_)
    · refine wp_aload_n hc 2 dX4_learnEnds_64 rfl ?_
      refine wp_iload_n hc 4 dX4_learnEnds_65 rfl ?_
      refine wp_callVf (As := [.int 1]) (rest := []) (j := 1) (v := (fX4_seenAt_1 x4.2)) hc hx (kX4_seenAt_1 l D cy z hz x4.2) cw171 (by decide) (by decide) (ce_3 rfl) rfl rfl rfl rfl (Nat.le_of_ble_eq_true rfl) dX4_learnEnds_66 ?_
      refine wp_aload_n hc 2 dX4_learnEnds_69 rfl ?_
      refine wp_get hc hx hin4 (j := 1) (by decide) (by decide) (ce_3 rfl) rfl 7 (by decide) hf36 rfl dX4_learnEnds_70 ?_
      refine wp_iload_n hc 1 dX4_learnEnds_73 rfl ?_
      refine wp_iald hc hx (j := 9) (by decide) (by decide) rfl 6 rfl (vin (by decide)) dX4_learnEnds_74 ?_
      refine wp_callSg (As := [.int (fX4_seenAt_1 x4.2), .int (x4.2.1 9 6)]) (rest := []) (v := (fX1_minus (fX4_seenAt_1 x4.2) (x4.2.1 9 6))) hc hNW (kX1_minus l (fX4_seenAt_1 x4.2) (x4.2.1 9 6)) cw159 rfl rfl (Nat.le_of_ble_eq_true rfl) dX4_learnEnds_75 ?_
      refine wp_istore (lv' := [(5, .int (fX1_minus (fX4_seenAt_1 x4.2) (x4.2.1 9 6))), (4, .int (fX1_minus (fX4_seenAt_1 x2.2) (x2.2.1 9 6))), (3, .int 6), (0, .ref (z 1)), (1, .ref (z q1)), (2, .int 1)]) hc dX4_learnEnds_78 (by decide) rfl ?_
      refine wp_iload hc 1 dX4_learnEnds_80 rfl ?_
      refine wp_iload hc 0 dX4_learnEnds_82 rfl ?_
      refine wp_callSg (As := [.int (fX1_minus (fX4_seenAt_1 x2.2) (x2.2.1 9 6)), .int (fX1_minus (fX4_seenAt_1 x4.2) (x4.2.1 9 6))]) (rest := []) (v := (fX1_minus (fX1_minus (fX4_seenAt_1 x2.2) (x2.2.1 9 6)) (fX1_minus (fX4_seenAt_1 x4.2) (x4.2.1 9 6)))) hc hNW (kX1_minus l (fX1_minus (fX4_seenAt_1 x2.2) (x2.2.1 9 6)) (fX1_minus (fX4_seenAt_1 x4.2) (x4.2.1 9 6))) cw159 rfl rfl (Nat.le_of_ble_eq_true rfl) dX4_learnEnds_84 ?_
      refine wp_topi (fun x5 hx5 => ?_)
      refine wp_istore (lv' := [(6, .int x5), (5, .int (fX1_minus (fX4_seenAt_1 x4.2) (x4.2.1 9 6))), (4, .int (fX1_minus (fX4_seenAt_1 x2.2) (x2.2.1 9 6))), (3, .int 6), (0, .ref (z 1)), (1, .ref (z q1)), (2, .int 1)]) hc dX4_learnEnds_87 (by decide) rfl ?_
      refine wp_iload hc 0 dX4_learnEnds_89 rfl ?_
      refine wp_if_ne (tgt := 96) hc dX4_learnEnds_91 (by decide) (fun c91 => ?_) (fun c91 => ?_)
      · refine wp_aload_n hc 4 dX4_learnEnds_96 rfl ?_
        refine wp_get hc hx hin4 (j := 1) (by decide) (by decide) (ce_3 rfl) rfl 7 (by decide) hf36 rfl dX4_learnEnds_97 ?_
        refine wp_iload_n hc 3 dX4_learnEnds_100 rfl ?_
        refine wp_iconst (v := 1) hc dX4_learnEnds_101 (by decide) ?_
        refine wp_iadd hc dX4_learnEnds_102 ?_
        refine wp_cvt (v := 7) (by decide) ?_
        refine wp_iload hc 2 dX4_learnEnds_103 rfl ?_
        refine wp_iload hc 1 dX4_learnEnds_105 rfl ?_
        refine wp_callSg (As := [.int (fX1_minus (fX4_seenAt_1 x2.2) (x2.2.1 9 6)), .int (fX1_minus (fX4_seenAt_1 x4.2) (x4.2.1 9 6))]) (rest := [.int 7, .ref (z 9)]) (v := (fX1_plus (fX1_minus (fX4_seenAt_1 x2.2) (x2.2.1 9 6)) (fX1_minus (fX4_seenAt_1 x4.2) (x4.2.1 9 6)))) hc hNW (kX1_plus l (fX1_minus (fX4_seenAt_1 x2.2) (x2.2.1 9 6)) (fX1_minus (fX4_seenAt_1 x4.2) (x4.2.1 9 6))) cw162 rfl rfl (Nat.le_of_ble_eq_true rfl) dX4_learnEnds_107 ?_
        refine wp_iload hc 0 dX4_learnEnds_110 rfl ?_
        refine wp_callSg (As := [.int (fX1_plus (fX1_minus (fX4_seenAt_1 x2.2) (x2.2.1 9 6)) (fX1_minus (fX4_seenAt_1 x4.2) (x4.2.1 9 6))), .int x5]) (rest := [.int 7, .ref (z 9)]) (v := (fX1_over (fX1_plus (fX1_minus (fX4_seenAt_1 x2.2) (x2.2.1 9 6)) (fX1_minus (fX4_seenAt_1 x4.2) (x4.2.1 9 6))) x5)) hc hNW (kX1_over l (fX1_plus (fX1_minus (fX4_seenAt_1 x2.2) (x2.2.1 9 6)) (fX1_minus (fX4_seenAt_1 x4.2) (x4.2.1 9 6))) x5) cw165 rfl rfl (Nat.le_of_ble_eq_true rfl) dX4_learnEnds_112 ?_
        refine wp_iast hc hx (j := 9) (by decide) (by decide) rfl 7 rfl (vin (by decide)) dX4_learnEnds_115 ?_
        refine wp_nm (fun M6 hM6 => ?_)
        refine wp_aload_n hc 4 dX4_learnEnds_116 rfl ?_
        refine wp_get hc hx hin4 (j := 1) (by decide) (by decide) (ce_3 rfl) rfl 7 (by decide) hf36 rfl dX4_learnEnds_117 ?_
        refine wp_iload_n hc 3 dX4_learnEnds_120 rfl ?_
        refine wp_iconst (v := 2) hc dX4_learnEnds_121 (by decide) ?_
        refine wp_iadd hc dX4_learnEnds_122 ?_
        refine wp_cvt (v := 8) (by decide) ?_
        refine wp_iload hc 2 dX4_learnEnds_123 rfl ?_
        refine wp_sipush (v := 10007) hc dX4_learnEnds_125 (by decide) ?_
        refine wp_aload_n hc 4 dX4_learnEnds_128 rfl ?_
        refine wp_get hc hx hin4 (j := 1) (by decide) (by decide) (ce_3 rfl) rfl 7 (by decide) hf36 rfl dX4_learnEnds_129 ?_
        refine wp_iload_n hc 3 dX4_learnEnds_132 rfl ?_
        refine wp_iconst (v := 1) hc dX4_learnEnds_133 (by decide) ?_
        refine wp_iadd hc dX4_learnEnds_134 ?_
        refine wp_cvt (v := 7) (by decide) ?_
        refine wp_iald hc hx (j := 9) (by decide) (by decide) rfl 7 rfl (vin (by decide)) dX4_learnEnds_135 ?_
        refine wp_callSg (As := [.int 10007, .int (M6.1 9 7)]) (rest := [.int (fX1_minus (fX4_seenAt_1 x2.2) (x2.2.1 9 6)), .int 8, .ref (z 9)]) (v := (fX1_minus 10007 (M6.1 9 7))) hc hNW (kX1_minus l 10007 (M6.1 9 7)) cw159 rfl rfl (Nat.le_of_ble_eq_true rfl) dX4_learnEnds_136 ?_
        refine wp_callSg (As := [.int (fX1_minus (fX4_seenAt_1 x2.2) (x2.2.1 9 6)), .int (fX1_minus 10007 (M6.1 9 7))]) (rest := [.int 8, .ref (z 9)]) (v := (fX1_times (fX1_minus (fX4_seenAt_1 x2.2) (x2.2.1 9 6)) (fX1_minus 10007 (M6.1 9 7)))) hc hNW (kX1_times l (fX1_minus (fX4_seenAt_1 x2.2) (x2.2.1 9 6)) (fX1_minus 10007 (M6.1 9 7))) cw156 rfl rfl (Nat.le_of_ble_eq_true rfl) dX4_learnEnds_139 ?_
        refine wp_iast hc hx (j := 9) (by decide) (by decide) rfl 8 rfl (vin (by decide)) dX4_learnEnds_142 ?_
        refine wp_nm (fun M7 hM7 => ?_)
        refine wp_iconst (v := 1) hc dX4_learnEnds_143 (by decide) ?_
        refine wp_zret hc hr hk rfl ?_ dX4_learnEnds_144
        show (1, M7) = sX4_learnEnds_1 M q1
        rw [sX4_learnEnds_1, tk_eq hM1, tk_eq hx2, if_neg c22, tk_eq hM3, tk_eq hx4, if_neg c59, tk_eq hx5, if_neg c91, tk_eq hM6, tk_eq hM7]
      refine wp_iconst (v := 0) hc dX4_learnEnds_94 (by decide) ?_
      refine wp_zret hc hr hk rfl ?_ dX4_learnEnds_95
      show (0, x4.2) = sX4_learnEnds_1 M q1
      rw [sX4_learnEnds_1, tk_eq hM1, tk_eq hx2, if_neg c22, tk_eq hM3, tk_eq hx4, if_neg c59, tk_eq hx5, if_pos c91]
    refine wp_iconst (v := 0) hc dX4_learnEnds_62 (by decide) ?_
    refine wp_zret hc hr hk rfl ?_ dX4_learnEnds_63
    show (0, x4.2) = sX4_learnEnds_1 M q1
    rw [sX4_learnEnds_1, tk_eq hM1, tk_eq hx2, if_neg c22, tk_eq hM3, tk_eq hx4, if_pos c59]
  refine wp_iconst (v := 0) hc dX4_learnEnds_25 (by decide) ?_
  refine wp_zret hc hr hk rfl ?_ dX4_learnEnds_26
  show (0, x2.2) = sX4_learnEnds_1 M q1
  rw [sX4_learnEnds_1, tk_eq hM1, tk_eq hx2, if_pos c22]
set_option maxRecDepth 10000 in
theorem kfX4_learnEnds_1 (M : Mem) (q1 : Nat) : KF2 (fun x => 2 ≤ x ∧ x ≤ 9) M (sX4_learnEnds_1 M q1) := by
  unfold sX4_learnEnds_1
  refine tk_ind (P := KF2 (fun x => 2 ≤ x ∧ x ≤ 9) M) _ _ (fun M1 hM1 => ?_)
  have k1 : KF (fun x => 2 ≤ x ∧ x ≤ 9) M M1 := by rw [hM1]; exact KF.mono (kfX4_endStandard_1 _ _) (fun x h => by first | exact h | ((try dsimp only at h ⊢); omega))
  refine tk_ind (P := KF2 (fun x => 2 ≤ x ∧ x ≤ 9) M) _ _ (fun x2 hx2 => ?_)
  have k2 : KF2 (fun x => 2 ≤ x ∧ x ≤ 9) M1 x2 := by rw [hx2]; exact KF2.mono (kfX4_tells _ _ _) (fun x h => by first | exact h | ((try dsimp only at h ⊢); omega))
  refine ite_ind (P := KF2 (fun x => 2 ≤ x ∧ x ≤ 9) M) (fun c3 => ?_) (fun c3 => ?_)
  · exact (show KF (fun x => 2 ≤ x ∧ x ≤ 9) M x2.2 from KF.trans k1 (k2))
  · refine tk_ind (P := KF2 (fun x => 2 ≤ x ∧ x ≤ 9) M) _ _ (fun M3 hM3 => ?_)
    have k4 : KF (fun x => 2 ≤ x ∧ x ≤ 9) x2.2 M3 := by rw [hM3]; exact KF.mono (kfX4_endStandard_1 _ _) (fun x h => by first | exact h | ((try dsimp only at h ⊢); omega))
    refine tk_ind (P := KF2 (fun x => 2 ≤ x ∧ x ≤ 9) M) _ _ (fun x4 hx4 => ?_)
    have k5 : KF2 (fun x => 2 ≤ x ∧ x ≤ 9) M3 x4 := by rw [hx4]; exact KF2.mono (kfX4_tells _ _ _) (fun x h => by first | exact h | ((try dsimp only at h ⊢); omega))
    refine ite_ind (P := KF2 (fun x => 2 ≤ x ∧ x ≤ 9) M) (fun c6 => ?_) (fun c6 => ?_)
    · exact (show KF (fun x => 2 ≤ x ∧ x ≤ 9) M x4.2 from KF.trans k1 (KF.trans k2 (KF.trans k4 (k5))))
    · refine tk_ind (P := KF2 (fun x => 2 ≤ x ∧ x ≤ 9) M) _ _ (fun x5 hx5 => ?_)
      refine ite_ind (P := KF2 (fun x => 2 ≤ x ∧ x ≤ 9) M) (fun c7 => ?_) (fun c7 => ?_)
      · exact (show KF (fun x => 2 ≤ x ∧ x ≤ 9) M x4.2 from KF.trans k1 (KF.trans k2 (KF.trans k4 (k5))))
      · refine tk_ind (P := KF2 (fun x => 2 ≤ x ∧ x ≤ 9) M) _ _ (fun M6 hM6 => ?_)
        have k8 : KF (fun x => 2 ≤ x ∧ x ≤ 9) x4.2 M6 := by rw [hM6]; first | exact kf_st (by show _; omega) | exact kf_sr (by show _; omega)
        refine tk_ind (P := KF2 (fun x => 2 ≤ x ∧ x ≤ 9) M) _ _ (fun M7 hM7 => ?_)
        have k9 : KF (fun x => 2 ≤ x ∧ x ≤ 9) M6 M7 := by rw [hM7]; first | exact kf_st (by show _; omega) | exact kf_sr (by show _; omega)
        exact (show KF (fun x => 2 ≤ x ∧ x ≤ 9) M M7 from KF.trans k1 (KF.trans k2 (KF.trans k4 (KF.trans k5 (KF.trans k8 (k9))))))
theorem bX4_learnEnds_1 (M : Mem) (q1 : Nat) : B01 (sX4_learnEnds_1 M q1) := by
  unfold sX4_learnEnds_1
  refine tk_ind (P := B01) _ _ (fun M1 hM1 => ?_)
  refine tk_ind (P := B01) _ _ (fun x2 hx2 => ?_)
  refine ite_ind (P := B01) (fun _ => ?_) (fun _ => ?_)
  · exact (show _ ∨ _ from Or.inl rfl)
  · refine tk_ind (P := B01) _ _ (fun M3 hM3 => ?_)
    refine tk_ind (P := B01) _ _ (fun x4 hx4 => ?_)
    refine ite_ind (P := B01) (fun _ => ?_) (fun _ => ?_)
    · exact (show _ ∨ _ from Or.inl rfl)
    · refine tk_ind (P := B01) _ _ (fun x5 hx5 => ?_)
      refine ite_ind (P := B01) (fun _ => ?_) (fun _ => ?_)
      · exact (show _ ∨ _ from Or.inl rfl)
      · refine tk_ind (P := B01) _ _ (fun M6 hM6 => ?_)
        refine tk_ind (P := B01) _ _ (fun M7 hM7 => ?_)
        exact (show _ ∨ _ from Or.inr rfl)
def sX4_learnCrossing_1 (M : Mem) (i2 : Int32) : Int32 × Mem :=
  tk ((fX1_plus (M.1 9 8) (fX1_times (fX1_minus (fX4_seenAt_1 M) (M.1 9 6)) (M.1 9 7)))) fun x1 =>
  if x1 = 0 then
  (0, M)
  else
  tk (st M 9 10 (fX1_over (fX1_minus (fX4_seenAt_1 M) (M.1 9 6)) x1)) fun M2 =>
  tk (st M2 9 11 (fX1_times (fX1_minus i2 (M2.1 9 9)) (fX1_minus 10007 (fX1_times (M2.1 9 7) (M2.1 9 10))))) fun M3 =>
  (1, M3)
set_option maxHeartbeats 4000000 in
set_option maxRecDepth 100000 in
theorem kX4_learnCrossing_1 (l : Launch) (D : va_G) (cy : Nat → ClassId) (z : Nat → Nat) (hz : zI z) (M : Mem) (i2 : Int32) : KI l yX4_learnCrossing wsX4_learnCrossing { frames := 2, cells := 0, slots := 0, locals := 51 } D cy z 0 100 [.ref (z 1), .int 1, .int i2] M (fun r u => (r, u) = sX4_learnCrossing_1 M i2) := by
  refine met_wp (lv := [(0, .ref (z 1)), (1, .int 1), (2, .int i2)]) hz (by decide) (by decide) rfl rfl (Nat.le_of_ble_eq_true rfl) rfl ?_
  intro p e s m below meth c hc hx hr hk
  have hNW := hx.2.1
  have hin4 : ∀ w ∈ wsX40, w ∈ wsX4_learnCrossing := by decide +kernel
  have hf36 : Cond.fieldLink RX4 36 (TX4 7).1 (TX4 7).2.1 (TX4 7).2.2.1 ∈ wsX4_learnCrossing := by decide +kernel
  have cw156 : CallB ({ frames := 2, cells := 0, slots := 0, locals := 51 }) s _ RX4 156 yX1_times cX1_times 6 (some .int) wsX1_times ({ frames := 1, cells := 0, slots := 0, locals := 23 }) 0 0 2 ∧ (Cond.static yX1_times).before _ s = true := va_cwS 2 hc.2.2.2.2 gX4_learnCrossing_X1_times rfl rfl rfl (by decide +kernel) ⟨Nat.le_of_ble_eq_true rfl, Nat.le_of_ble_eq_true rfl⟩
  have cw159 : CallB ({ frames := 2, cells := 0, slots := 0, locals := 51 }) s _ RX4 159 yX1_minus cX1_minus 2 (some .int) wsX1_minus ({ frames := 1, cells := 0, slots := 0, locals := 23 }) 0 0 2 ∧ (Cond.static yX1_minus).before _ s = true := va_cwS 2 hc.2.2.2.2 gX4_learnCrossing_X1_minus rfl rfl rfl (by decide +kernel) ⟨Nat.le_of_ble_eq_true rfl, Nat.le_of_ble_eq_true rfl⟩
  have cw162 : CallB ({ frames := 2, cells := 0, slots := 0, locals := 51 }) s _ RX4 162 yX1_plus cX1_plus 2 (some .int) wsX1_plus ({ frames := 1, cells := 0, slots := 0, locals := 23 }) 0 0 2 ∧ (Cond.static yX1_plus).before _ s = true := va_cwS 2 hc.2.2.2.2 gX4_learnCrossing_X1_plus rfl rfl rfl (by decide +kernel) ⟨Nat.le_of_ble_eq_true rfl, Nat.le_of_ble_eq_true rfl⟩
  have cw165 : CallB ({ frames := 2, cells := 0, slots := 0, locals := 51 }) s _ RX4 165 yX1_over cX1_over 9 (some .int) wsX1_over ({ frames := 1, cells := 0, slots := 0, locals := 23 }) 0 0 2 ∧ (Cond.static yX1_over).before _ s = true := va_cwS 2 hc.2.2.2.2 gX4_learnCrossing_X1_over rfl rfl rfl (by decide +kernel) ⟨Nat.le_of_ble_eq_true rfl, Nat.le_of_ble_eq_true rfl⟩
  have cw171 : CallW ({ frames := 2, cells := 0, slots := 0, locals := 51 }) s _ RX4 RX4 171 yX4_seenAt cX4_seenAt 2 (some .int) wsX4_seenAt ({ frames := 0, cells := 0, slots := 0, locals := 0 }) 0 0 1 := cwV 1 hc.2.2.2.2 gX4_learnCrossing_X4_seenAt rfl rfl rfl (by decide +kernel) ⟨Nat.le_of_ble_eq_true rfl, Nat.le_of_ble_eq_true rfl⟩
  refine wp_bipush (v := 6) hc dX4_learnCrossing_0 (by decide) ?_
  refine wp_iload_n hc 1 dX4_learnCrossing_2 rfl ?_
  refine wp_imul hc dX4_learnCrossing_3 ?_
  refine wp_cvt (v := 6) (by decide) ?_
  refine wp_istore_n (lv' := [(3, .int 6), (0, .ref (z 1)), (1, .int 1), (2, .int i2)]) hc dX4_learnCrossing_4 (by decide) rfl ?_
  refine wp_aload_n hc 1 dX4_learnCrossing_5 rfl ?_
  refine wp_iload_n hc 2 dX4_learnCrossing_6 rfl ?_
  refine wp_callVf (As := [.int 1]) (rest := []) (j := 1) (v := (fX4_seenAt_1 M)) hc hx (kX4_seenAt_1 l D cy z hz M) cw171 (by decide) (by decide) (ce_3 rfl) rfl rfl rfl rfl (Nat.le_of_ble_eq_true rfl) dX4_learnCrossing_7 ?_
  refine wp_aload_n hc 1 dX4_learnCrossing_10 rfl ?_
  refine wp_get hc hx hin4 (j := 1) (by decide) (by decide) (ce_3 rfl) rfl 7 (by decide) hf36 rfl dX4_learnCrossing_11 ?_
  refine wp_iload_n hc 0 dX4_learnCrossing_14 rfl ?_
  refine wp_iald hc hx (j := 9) (by decide) (by decide) rfl 6 rfl (vin (by decide)) dX4_learnCrossing_15 ?_
  refine wp_callSg (As := [.int (fX4_seenAt_1 M), .int (M.1 9 6)]) (rest := []) (v := (fX1_minus (fX4_seenAt_1 M) (M.1 9 6))) hc hNW (kX1_minus l (fX4_seenAt_1 M) (M.1 9 6)) cw159 rfl rfl (Nat.le_of_ble_eq_true rfl) dX4_learnCrossing_16 ?_
  refine wp_istore (lv' := [(4, .int (fX1_minus (fX4_seenAt_1 M) (M.1 9 6))), (3, .int 6), (0, .ref (z 1)), (1, .int 1), (2, .int i2)]) hc dX4_learnCrossing_19 (by decide) rfl ?_
  refine wp_aload_n hc 2 dX4_learnCrossing_21 rfl ?_
  refine wp_get hc hx hin4 (j := 1) (by decide) (by decide) (ce_3 rfl) rfl 7 (by decide) hf36 rfl dX4_learnCrossing_22 ?_
  refine wp_iload_n hc 1 dX4_learnCrossing_25 rfl ?_
  refine wp_iconst (v := 2) hc dX4_learnCrossing_26 (by decide) ?_
  refine wp_iadd hc dX4_learnCrossing_27 ?_
  refine wp_cvt (v := 8) (by decide) ?_
  refine wp_iald hc hx (j := 9) (by decide) (by decide) rfl 8 rfl (vin (by decide)) dX4_learnCrossing_28 ?_
  refine wp_iload hc 0 dX4_learnCrossing_29 rfl ?_
  refine wp_aload_n hc 2 dX4_learnCrossing_31 rfl ?_
  refine wp_get hc hx hin4 (j := 1) (by decide) (by decide) (ce_3 rfl) rfl 7 (by decide) hf36 rfl dX4_learnCrossing_32 ?_
  refine wp_iload_n hc 1 dX4_learnCrossing_35 rfl ?_
  refine wp_iconst (v := 1) hc dX4_learnCrossing_36 (by decide) ?_
  refine wp_iadd hc dX4_learnCrossing_37 ?_
  refine wp_cvt (v := 7) (by decide) ?_
  refine wp_iald hc hx (j := 9) (by decide) (by decide) rfl 7 rfl (vin (by decide)) dX4_learnCrossing_38 ?_
  refine wp_callSg (As := [.int (fX1_minus (fX4_seenAt_1 M) (M.1 9 6)), .int (M.1 9 7)]) (rest := [.int (M.1 9 8)]) (v := (fX1_times (fX1_minus (fX4_seenAt_1 M) (M.1 9 6)) (M.1 9 7))) hc hNW (kX1_times l (fX1_minus (fX4_seenAt_1 M) (M.1 9 6)) (M.1 9 7)) cw156 rfl rfl (Nat.le_of_ble_eq_true rfl) dX4_learnCrossing_39 ?_
  refine wp_callSg (As := [.int (M.1 9 8), .int (fX1_times (fX1_minus (fX4_seenAt_1 M) (M.1 9 6)) (M.1 9 7))]) (rest := []) (v := (fX1_plus (M.1 9 8) (fX1_times (fX1_minus (fX4_seenAt_1 M) (M.1 9 6)) (M.1 9 7)))) hc hNW (kX1_plus l (M.1 9 8) (fX1_times (fX1_minus (fX4_seenAt_1 M) (M.1 9 6)) (M.1 9 7))) cw162 rfl rfl (Nat.le_of_ble_eq_true rfl) dX4_learnCrossing_42 ?_
  refine wp_topi (fun x1 hx1 => ?_)
  refine wp_istore (lv' := [(5, .int x1), (4, .int (fX1_minus (fX4_seenAt_1 M) (M.1 9 6))), (3, .int 6), (0, .ref (z 1)), (1, .int 1), (2, .int i2)]) hc dX4_learnCrossing_45 (by decide) rfl ?_
  refine wp_iload hc 0 dX4_learnCrossing_47 rfl ?_
  refine wp_if_ne (tgt := 54) hc dX4_learnCrossing_49 (by decide) (fun c49 => ?_) (fun c49 => ?_)
  · refine wp_aload_n hc 3 dX4_learnCrossing_54 rfl ?_
    refine wp_get hc hx hin4 (j := 1) (by decide) (by decide) (ce_3 rfl) rfl 7 (by decide) hf36 rfl dX4_learnCrossing_55 ?_
    refine wp_iload_n hc 2 dX4_learnCrossing_58 rfl ?_
    refine wp_iconst (v := 4) hc dX4_learnCrossing_59 (by decide) ?_
    refine wp_iadd hc dX4_learnCrossing_60 ?_
    refine wp_cvt (v := 10) (by decide) ?_
    refine wp_iload hc 1 dX4_learnCrossing_61 rfl ?_
    refine wp_iload hc 0 dX4_learnCrossing_63 rfl ?_
    refine wp_callSg (As := [.int (fX1_minus (fX4_seenAt_1 M) (M.1 9 6)), .int x1]) (rest := [.int 10, .ref (z 9)]) (v := (fX1_over (fX1_minus (fX4_seenAt_1 M) (M.1 9 6)) x1)) hc hNW (kX1_over l (fX1_minus (fX4_seenAt_1 M) (M.1 9 6)) x1) cw165 rfl rfl (Nat.le_of_ble_eq_true rfl) dX4_learnCrossing_65 ?_
    refine wp_iast hc hx (j := 9) (by decide) (by decide) rfl 10 rfl (vin (by decide)) dX4_learnCrossing_68 ?_
    refine wp_nm (fun M2 hM2 => ?_)
    refine wp_sipush (v := 10007) hc dX4_learnCrossing_69 (by decide) ?_
    refine wp_aload_n hc 3 dX4_learnCrossing_72 rfl ?_
    refine wp_get hc hx hin4 (j := 1) (by decide) (by decide) (ce_3 rfl) rfl 7 (by decide) hf36 rfl dX4_learnCrossing_73 ?_
    refine wp_iload_n hc 2 dX4_learnCrossing_76 rfl ?_
    refine wp_iconst (v := 1) hc dX4_learnCrossing_77 (by decide) ?_
    refine wp_iadd hc dX4_learnCrossing_78 ?_
    refine wp_cvt (v := 7) (by decide) ?_
    refine wp_iald hc hx (j := 9) (by decide) (by decide) rfl 7 rfl (vin (by decide)) dX4_learnCrossing_79 ?_
    refine wp_aload_n hc 3 dX4_learnCrossing_80 rfl ?_
    refine wp_get hc hx hin4 (j := 1) (by decide) (by decide) (ce_3 rfl) rfl 7 (by decide) hf36 rfl dX4_learnCrossing_81 ?_
    refine wp_iload_n hc 2 dX4_learnCrossing_84 rfl ?_
    refine wp_iconst (v := 4) hc dX4_learnCrossing_85 (by decide) ?_
    refine wp_iadd hc dX4_learnCrossing_86 ?_
    refine wp_cvt (v := 10) (by decide) ?_
    refine wp_iald hc hx (j := 9) (by decide) (by decide) rfl 10 rfl (vin (by decide)) dX4_learnCrossing_87 ?_
    refine wp_callSg (As := [.int (M2.1 9 7), .int (M2.1 9 10)]) (rest := [.int 10007]) (v := (fX1_times (M2.1 9 7) (M2.1 9 10))) hc hNW (kX1_times l (M2.1 9 7) (M2.1 9 10)) cw156 rfl rfl (Nat.le_of_ble_eq_true rfl) dX4_learnCrossing_88 ?_
    refine wp_callSg (As := [.int 10007, .int (fX1_times (M2.1 9 7) (M2.1 9 10))]) (rest := []) (v := (fX1_minus 10007 (fX1_times (M2.1 9 7) (M2.1 9 10)))) hc hNW (kX1_minus l 10007 (fX1_times (M2.1 9 7) (M2.1 9 10))) cw159 rfl rfl (Nat.le_of_ble_eq_true rfl) dX4_learnCrossing_91 ?_
    refine wp_istore (lv' := [(6, .int (fX1_minus 10007 (fX1_times (M2.1 9 7) (M2.1 9 10)))), (5, .int x1), (4, .int (fX1_minus (fX4_seenAt_1 M) (M.1 9 6))), (3, .int 6), (0, .ref (z 1)), (1, .int 1), (2, .int i2)]) hc dX4_learnCrossing_94 (by decide) rfl ?_
    refine wp_aload_n hc 4 dX4_learnCrossing_96 rfl ?_
    refine wp_get hc hx hin4 (j := 1) (by decide) (by decide) (ce_3 rfl) rfl 7 (by decide) hf36 rfl dX4_learnCrossing_97 ?_
    refine wp_iload_n hc 3 dX4_learnCrossing_100 rfl ?_
    refine wp_iconst (v := 5) hc dX4_learnCrossing_101 (by decide) ?_
    refine wp_iadd hc dX4_learnCrossing_102 ?_
    refine wp_cvt (v := 11) (by decide) ?_
    refine wp_iload_n hc 6 dX4_learnCrossing_103 rfl ?_
    refine wp_aload_n hc 4 dX4_learnCrossing_104 rfl ?_
    refine wp_get hc hx hin4 (j := 1) (by decide) (by decide) (ce_3 rfl) rfl 7 (by decide) hf36 rfl dX4_learnCrossing_105 ?_
    refine wp_iload_n hc 3 dX4_learnCrossing_108 rfl ?_
    refine wp_iconst (v := 3) hc dX4_learnCrossing_109 (by decide) ?_
    refine wp_iadd hc dX4_learnCrossing_110 ?_
    refine wp_cvt (v := 9) (by decide) ?_
    refine wp_iald hc hx (j := 9) (by decide) (by decide) rfl 9 rfl (vin (by decide)) dX4_learnCrossing_111 ?_
    refine wp_callSg (As := [.int i2, .int (M2.1 9 9)]) (rest := [.int 11, .ref (z 9)]) (v := (fX1_minus i2 (M2.1 9 9))) hc hNW (kX1_minus l i2 (M2.1 9 9)) cw159 rfl rfl (Nat.le_of_ble_eq_true rfl) dX4_learnCrossing_112 ?_
    refine wp_iload hc 0 dX4_learnCrossing_115 rfl ?_
    refine wp_callSg (As := [.int (fX1_minus i2 (M2.1 9 9)), .int (fX1_minus 10007 (fX1_times (M2.1 9 7) (M2.1 9 10)))]) (rest := [.int 11, .ref (z 9)]) (v := (fX1_times (fX1_minus i2 (M2.1 9 9)) (fX1_minus 10007 (fX1_times (M2.1 9 7) (M2.1 9 10))))) hc hNW (kX1_times l (fX1_minus i2 (M2.1 9 9)) (fX1_minus 10007 (fX1_times (M2.1 9 7) (M2.1 9 10)))) cw156 rfl rfl (Nat.le_of_ble_eq_true rfl) dX4_learnCrossing_117 ?_
    refine wp_iast hc hx (j := 9) (by decide) (by decide) rfl 11 rfl (vin (by decide)) dX4_learnCrossing_120 ?_
    refine wp_nm (fun M3 hM3 => ?_)
    refine wp_iconst (v := 1) hc dX4_learnCrossing_121 (by decide) ?_
    refine wp_zret hc hr hk rfl ?_ dX4_learnCrossing_122
    show (1, M3) = sX4_learnCrossing_1 M i2
    rw [sX4_learnCrossing_1, tk_eq hx1, if_neg c49, tk_eq hM2, tk_eq hM3]
  refine wp_iconst (v := 0) hc dX4_learnCrossing_52 (by decide) ?_
  refine wp_zret hc hr hk rfl ?_ dX4_learnCrossing_53
  show (0, M) = sX4_learnCrossing_1 M i2
  rw [sX4_learnCrossing_1, tk_eq hx1, if_pos c49]
set_option maxRecDepth 10000 in
theorem kfX4_learnCrossing_1 (M : Mem) (i2 : Int32) : KF2 (fun x => 2 ≤ x ∧ x ≤ 9) M (sX4_learnCrossing_1 M i2) := by
  unfold sX4_learnCrossing_1
  refine tk_ind (P := KF2 (fun x => 2 ≤ x ∧ x ≤ 9) M) _ _ (fun x1 hx1 => ?_)
  refine ite_ind (P := KF2 (fun x => 2 ≤ x ∧ x ≤ 9) M) (fun c1 => ?_) (fun c1 => ?_)
  · exact (show KF (fun x => 2 ≤ x ∧ x ≤ 9) M M from KF.rf)
  · refine tk_ind (P := KF2 (fun x => 2 ≤ x ∧ x ≤ 9) M) _ _ (fun M2 hM2 => ?_)
    have k2 : KF (fun x => 2 ≤ x ∧ x ≤ 9) M M2 := by rw [hM2]; first | exact kf_st (by show _; omega) | exact kf_sr (by show _; omega)
    refine tk_ind (P := KF2 (fun x => 2 ≤ x ∧ x ≤ 9) M) _ _ (fun M3 hM3 => ?_)
    have k3 : KF (fun x => 2 ≤ x ∧ x ≤ 9) M2 M3 := by rw [hM3]; first | exact kf_st (by show _; omega) | exact kf_sr (by show _; omega)
    exact (show KF (fun x => 2 ≤ x ∧ x ≤ 9) M M3 from KF.trans k2 (k3))
theorem bX4_learnCrossing_1 (M : Mem) (i2 : Int32) : B01 (sX4_learnCrossing_1 M i2) := by
  unfold sX4_learnCrossing_1
  refine tk_ind (P := B01) _ _ (fun x1 hx1 => ?_)
  refine ite_ind (P := B01) (fun _ => ?_) (fun _ => ?_)
  · exact (show _ ∨ _ from Or.inl rfl)
  · refine tk_ind (P := B01) _ _ (fun M2 hM2 => ?_)
    refine tk_ind (P := B01) _ _ (fun M3 hM3 => ?_)
    exact (show _ ∨ _ from Or.inr rfl)
def sX4_learnThrough (M : Mem) (q1 : Nat) : Int32 × Mem :=
  tk (sX0_fill M 2 0 10007 10007 0) fun M1 =>
  tk (sX4_tells M1 q1 2) fun x2 =>
  if x2.1 = 0 then
  (0, x2.2)
  else
  tk (sX4_learnCrossing_0 x2.2 (x2.2.1 3 2)) fun x3 =>
  if x3.1 = 0 then
  (0, x3.2)
  else
  tk (sX4_learnCrossing_1 x3.2 (x3.2.1 3 1)) fun x4 =>
  if x4.1 = 0 then
  (0, x4.2)
  else
  (1, x4.2)
set_option maxHeartbeats 4000000 in
set_option maxRecDepth 100000 in
theorem kX4_learnThrough (l : Launch) (D : va_G) (cy : Nat → ClassId) (z : Nat → Nat) (hz : zI z) (M : Mem) (q1 : Nat) (hlq1 : 0 ≤ q1) (hjq1 : q1 < 0 + 100) (hkq1 : kd q1 = 7) (hnq1 : ln q1 = 12) : KI l yX4_learnThrough wsX4_learnThrough { frames := 4, cells := 0, slots := 0, locals := 97 } D cy z 0 100 [.ref (z 1), .ref (z q1)] M (fun r u => (r, u) = sX4_learnThrough M q1) := by
  refine met_wp (lv := [(0, .ref (z 1)), (1, .ref (z q1))]) hz (by decide) (by decide) rfl rfl (Nat.le_of_ble_eq_true rfl) rfl ?_
  intro p e s m below meth c hc hx hr hk
  have hNW := hx.2.1
  have hin0 : ∀ w ∈ wsX00, w ∈ wsX4_learnThrough := by decide +kernel
  have hin4 : ∀ w ∈ wsX40, w ∈ wsX4_learnThrough := by decide +kernel
  have hf12 : Cond.fieldLink RX4 12 (TX4 0).1 (TX4 0).2.1 (TX4 0).2.2.1 ∈ wsX4_learnThrough := by decide +kernel
  have hf18 : Cond.fieldLink RX4 18 (TX4 1).1 (TX4 1).2.1 (TX4 1).2.2.1 ∈ wsX4_learnThrough := by decide +kernel
  have hf81 : Cond.fieldLink RX4 81 (TX0 2).1 (TX0 2).2.1 (TX0 2).2.2.1 ∈ wsX4_learnThrough := by decide +kernel
  have hf84 : Cond.fieldLink RX4 84 (TX0 1).1 (TX0 1).2.1 (TX0 1).2.2.1 ∈ wsX4_learnThrough := by decide +kernel
  have cw40 : CallW ({ frames := 4, cells := 0, slots := 0, locals := 97 }) s _ RX4 RX0 40 yX0_fill cX0_fill 5 none wsX0_fill ({ frames := 0, cells := 0, slots := 0, locals := 0 }) 0 0 4 := cwV 4 hc.2.2.2.2 gX4_learnThrough_X0_fill rfl rfl rfl (by decide +kernel) ⟨Nat.le_of_ble_eq_true rfl, Nat.le_of_ble_eq_true rfl⟩
  have cw118 : CallW ({ frames := 4, cells := 0, slots := 0, locals := 97 }) s _ RX4 RX4 118 yX4_tells cX4_tells 10 (some .boolean) wsX4_tells ({ frames := 3, cells := 0, slots := 0, locals := 68 }) 0 0 2 := cwV 2 hc.2.2.2.2 gX4_learnThrough_X4_tells rfl rfl rfl (by decide +kernel) ⟨Nat.le_of_ble_eq_true rfl, Nat.le_of_ble_eq_true rfl⟩
  have cw175 : CallW ({ frames := 4, cells := 0, slots := 0, locals := 97 }) s _ RX4 RX4 175 yX4_learnCrossing cX4_learnCrossing 7 (some .boolean) wsX4_learnCrossing ({ frames := 2, cells := 0, slots := 0, locals := 51 }) 0 0 2 := cwV 2 hc.2.2.2.2 gX4_learnThrough_X4_learnCrossing rfl rfl rfl (by decide +kernel) ⟨Nat.le_of_ble_eq_true rfl, Nat.le_of_ble_eq_true rfl⟩
  refine wp_aload_n hc 0 dX4_learnThrough_0 rfl ?_
  refine wp_get hc hx hin4 (j := 1) (by decide) (by decide) (ce_3 rfl) rfl 0 (by decide) hf12 rfl dX4_learnThrough_1 ?_
  refine wp_iconst (v := 0) hc dX4_learnThrough_4 (by decide) ?_
  refine wp_sipush (v := 10007) hc dX4_learnThrough_5 (by decide) ?_
  refine wp_sipush (v := 10007) hc dX4_learnThrough_8 (by decide) ?_
  refine wp_iconst (v := 0) hc dX4_learnThrough_11 (by decide) ?_
  refine wp_callVvw (As := [.int 0, .int 10007, .int 10007, .int 0]) (rest := []) (j := 2) (w := sX0_fill M 2 0 10007 10007 0) hc hx (kX0_fill l D cy z hz M 2 0 10007 10007 0 (by decide) rfl) cw40 (by decide) (by decide) (ce_0 rfl) rfl rfl rfl rfl (Nat.le_of_ble_eq_true rfl) dX4_learnThrough_12 (fun M1 hM1 => ?_)
  refine wp_aload_n hc 0 dX4_learnThrough_15 rfl ?_
  refine wp_aload_n hc 1 dX4_learnThrough_16 rfl ?_
  refine wp_aload_n hc 0 dX4_learnThrough_17 rfl ?_
  refine wp_get hc hx hin4 (j := 1) (by decide) (by decide) (ce_3 rfl) rfl 0 (by decide) hf12 rfl dX4_learnThrough_18 ?_
  refine wp_callVw (As := [.ref (z q1), .ref (z 2)]) (rest := []) (j := 1) (w := sX4_tells M1 q1 2) hc hx (kX4_tells l D cy z hz M1 q1 2 hlq1 hjq1 hkq1 (hnq1) (by decide) rfl) cw118 (by decide) (by decide) (ce_3 rfl) rfl rfl rfl rfl (Nat.le_of_ble_eq_true rfl) dX4_learnThrough_21 (fun x2 hx2 => ?_)
  refine wp_if_eq (tgt := 61) hc dX4_learnThrough_24 (by decide) (fun c24 => ?_) (fun c24 => ?_)
  · refine wp_iconst (v := 0) hc dX4_learnThrough_61 (by decide) ?_
    refine wp_zret hc hr hk rfl ?_ dX4_learnThrough_62
    show (0, x2.2) = sX4_learnThrough M q1
    rw [sX4_learnThrough, tk_eq hM1, tk_eq hx2, if_pos c24]
  refine wp_aload_n hc 0 dX4_learnThrough_27 rfl ?_
  refine wp_iconst (v := 0) hc dX4_learnThrough_28 (by decide) ?_
  refine wp_aload_n hc 0 dX4_learnThrough_29 rfl ?_
  refine wp_get hc hx hin4 (j := 1) (by decide) (by decide) (ce_3 rfl) rfl 1 (by decide) hf18 rfl dX4_learnThrough_30 ?_
  refine wp_get hc hx hin0 (j := 3) (by decide) (by decide) (ce_0 rfl) rfl 2 (by decide) hf81 rfl dX4_learnThrough_33 ?_
  refine wp_callVw (As := [.int 0, .int (x2.2.1 3 2)]) (rest := []) (j := 1) (w := sX4_learnCrossing_0 x2.2 (x2.2.1 3 2)) hc hx (kX4_learnCrossing_0 l D cy z hz x2.2 (x2.2.1 3 2)) cw175 (by decide) (by decide) (ce_3 rfl) rfl rfl rfl rfl (Nat.le_of_ble_eq_true rfl) dX4_learnThrough_36 (fun x3 hx3 => ?_)
  refine wp_if_eq (tgt := 61) hc dX4_learnThrough_39 (by decide) (fun c39 => ?_) (fun c39 => ?_)
  · refine wp_iconst (v := 0) hc dX4_learnThrough_61 (by decide) ?_
    refine wp_zret hc hr hk rfl ?_ dX4_learnThrough_62
    show (0, x3.2) = sX4_learnThrough M q1
    rw [sX4_learnThrough, tk_eq hM1, tk_eq hx2, if_neg c24, tk_eq hx3, if_pos c39]
  refine wp_aload_n hc 0 dX4_learnThrough_42 rfl ?_
  refine wp_iconst (v := 1) hc dX4_learnThrough_43 (by decide) ?_
  refine wp_aload_n hc 0 dX4_learnThrough_44 rfl ?_
  refine wp_get hc hx hin4 (j := 1) (by decide) (by decide) (ce_3 rfl) rfl 1 (by decide) hf18 rfl dX4_learnThrough_45 ?_
  refine wp_get hc hx hin0 (j := 3) (by decide) (by decide) (ce_0 rfl) rfl 1 (by decide) hf84 rfl dX4_learnThrough_48 ?_
  refine wp_callVw (As := [.int 1, .int (x3.2.1 3 1)]) (rest := []) (j := 1) (w := sX4_learnCrossing_1 x3.2 (x3.2.1 3 1)) hc hx (kX4_learnCrossing_1 l D cy z hz x3.2 (x3.2.1 3 1)) cw175 (by decide) (by decide) (ce_3 rfl) rfl rfl rfl rfl (Nat.le_of_ble_eq_true rfl) dX4_learnThrough_51 (fun x4 hx4 => ?_)
  refine wp_if_eq (tgt := 61) hc dX4_learnThrough_54 (by decide) (fun c54 => ?_) (fun c54 => ?_)
  · refine wp_iconst (v := 0) hc dX4_learnThrough_61 (by decide) ?_
    refine wp_zret hc hr hk rfl ?_ dX4_learnThrough_62
    show (0, x4.2) = sX4_learnThrough M q1
    rw [sX4_learnThrough, tk_eq hM1, tk_eq hx2, if_neg c24, tk_eq hx3, if_neg c39, tk_eq hx4, if_pos c54]
  refine wp_iconst (v := 1) hc dX4_learnThrough_57 (by decide) ?_
  refine wp_goto (tgt := 62) hc dX4_learnThrough_58 (by decide) ?_
  refine wp_zret hc hr hk rfl ?_ dX4_learnThrough_62
  show (1, x4.2) = sX4_learnThrough M q1
  rw [sX4_learnThrough, tk_eq hM1, tk_eq hx2, if_neg c24, tk_eq hx3, if_neg c39, tk_eq hx4, if_neg c54]
set_option maxRecDepth 10000 in
theorem kfX4_learnThrough (M : Mem) (q1 : Nat) : KF2 (fun x => 2 ≤ x ∧ x ≤ 9) M (sX4_learnThrough M q1) := by
  unfold sX4_learnThrough
  refine tk_ind (P := KF2 (fun x => 2 ≤ x ∧ x ≤ 9) M) _ _ (fun M1 hM1 => ?_)
  have k1 : KF (fun x => 2 ≤ x ∧ x ≤ 9) M M1 := by rw [hM1]; exact KF.mono (kfX0_fill _ _ _ _ _ _) (fun x h => by first | exact h | ((try dsimp only at h ⊢); omega))
  refine tk_ind (P := KF2 (fun x => 2 ≤ x ∧ x ≤ 9) M) _ _ (fun x2 hx2 => ?_)
  have k2 : KF2 (fun x => 2 ≤ x ∧ x ≤ 9) M1 x2 := by rw [hx2]; exact KF2.mono (kfX4_tells _ _ _) (fun x h => by first | exact h | ((try dsimp only at h ⊢); omega))
  refine ite_ind (P := KF2 (fun x => 2 ≤ x ∧ x ≤ 9) M) (fun c3 => ?_) (fun c3 => ?_)
  · exact (show KF (fun x => 2 ≤ x ∧ x ≤ 9) M x2.2 from KF.trans k1 (k2))
  · refine tk_ind (P := KF2 (fun x => 2 ≤ x ∧ x ≤ 9) M) _ _ (fun x3 hx3 => ?_)
    have k4 : KF2 (fun x => 2 ≤ x ∧ x ≤ 9) x2.2 x3 := by rw [hx3]; exact KF2.mono (kfX4_learnCrossing_0 _ _) (fun x h => by first | exact h | ((try dsimp only at h ⊢); omega))
    refine ite_ind (P := KF2 (fun x => 2 ≤ x ∧ x ≤ 9) M) (fun c5 => ?_) (fun c5 => ?_)
    · exact (show KF (fun x => 2 ≤ x ∧ x ≤ 9) M x3.2 from KF.trans k1 (KF.trans k2 (k4)))
    · refine tk_ind (P := KF2 (fun x => 2 ≤ x ∧ x ≤ 9) M) _ _ (fun x4 hx4 => ?_)
      have k6 : KF2 (fun x => 2 ≤ x ∧ x ≤ 9) x3.2 x4 := by rw [hx4]; exact KF2.mono (kfX4_learnCrossing_1 _ _) (fun x h => by first | exact h | ((try dsimp only at h ⊢); omega))
      refine ite_ind (P := KF2 (fun x => 2 ≤ x ∧ x ≤ 9) M) (fun c7 => ?_) (fun c7 => ?_)
      · exact (show KF (fun x => 2 ≤ x ∧ x ≤ 9) M x4.2 from KF.trans k1 (KF.trans k2 (KF.trans k4 (k6))))
      · exact (show KF (fun x => 2 ≤ x ∧ x ≤ 9) M x4.2 from KF.trans k1 (KF.trans k2 (KF.trans k4 (k6))))
theorem bX4_learnThrough (M : Mem) (q1 : Nat) : B01 (sX4_learnThrough M q1) := by
  unfold sX4_learnThrough
  refine tk_ind (P := B01) _ _ (fun M1 hM1 => ?_)
  refine tk_ind (P := B01) _ _ (fun x2 hx2 => ?_)
  refine ite_ind (P := B01) (fun _ => ?_) (fun _ => ?_)
  · exact (show _ ∨ _ from Or.inl rfl)
  · refine tk_ind (P := B01) _ _ (fun x3 hx3 => ?_)
    refine ite_ind (P := B01) (fun _ => ?_) (fun _ => ?_)
    · exact (show _ ∨ _ from Or.inl rfl)
    · refine tk_ind (P := B01) _ _ (fun x4 hx4 => ?_)
      refine ite_ind (P := B01) (fun _ => ?_) (fun _ => ?_)
      · exact (show _ ∨ _ from Or.inl rfl)
      · exact (show _ ∨ _ from Or.inr rfl)
def sX4_strip (M : Mem) (q1 : Nat) : Int32 × Mem :=
  if (M.1 q1 2) = 0 then
  (0, M)
  else
  if (M.1 q1 5) = 0 then
  (0, M)
  else
  if (M.1 q1 8) = 0 then
  (0, M)
  else
  if (M.1 q1 11) = 0 then
  (0, M)
  else
  tk (sX0_fill M 4 (fX1_over (fX1_minus (M.1 3 0) (M.1 q1 0)) (M.1 q1 2)) (fX1_over (fX1_minus (M.1 3 1) (M.1 q1 9)) (M.1 q1 11)) (fX1_over (fX1_minus (M.1 3 2) (M.1 q1 3)) (M.1 q1 5)) (fX1_over (fX1_minus (M.1 3 3) (M.1 q1 6)) (M.1 q1 8))) fun M1 =>
  (1, M1)
set_option maxHeartbeats 4000000 in
set_option maxRecDepth 100000 in
theorem kX4_strip (l : Launch) (D : va_G) (cy : Nat → ClassId) (z : Nat → Nat) (hz : zI z) (M : Mem) (q1 : Nat) (hlq1 : 0 ≤ q1) (hjq1 : q1 < 0 + 100) (hkq1 : kd q1 = 7) (hnq1 : ln q1 = 12) : KI l yX4_strip wsX4_strip { frames := 2, cells := 0, slots := 0, locals := 51 } D cy z 0 100 [.ref (z 1), .ref (z q1)] M (fun r u => (r, u) = sX4_strip M q1) := by
  refine met_wp (lv := [(0, .ref (z 1)), (1, .ref (z q1))]) hz (by decide) (by decide) rfl rfl (Nat.le_of_ble_eq_true rfl) rfl ?_
  intro p e s m below meth c hc hx hr hk
  have hNW := hx.2.1
  have hin0 : ∀ w ∈ wsX00, w ∈ wsX4_strip := by decide +kernel
  have hin4 : ∀ w ∈ wsX40, w ∈ wsX4_strip := by decide +kernel
  have hf18 : Cond.fieldLink RX4 18 (TX4 1).1 (TX4 1).2.1 (TX4 1).2.2.1 ∈ wsX4_strip := by decide +kernel
  have hf21 : Cond.fieldLink RX4 21 (TX4 2).1 (TX4 2).2.1 (TX4 2).2.2.1 ∈ wsX4_strip := by decide +kernel
  have hf77 : Cond.fieldLink RX4 77 (TX0 3).1 (TX0 3).2.1 (TX0 3).2.2.1 ∈ wsX4_strip := by decide +kernel
  have hf81 : Cond.fieldLink RX4 81 (TX0 2).1 (TX0 2).2.1 (TX0 2).2.2.1 ∈ wsX4_strip := by decide +kernel
  have hf84 : Cond.fieldLink RX4 84 (TX0 1).1 (TX0 1).2.1 (TX0 1).2.2.1 ∈ wsX4_strip := by decide +kernel
  have hf87 : Cond.fieldLink RX4 87 (TX0 0).1 (TX0 0).2.1 (TX0 0).2.2.1 ∈ wsX4_strip := by decide +kernel
  have cw40 : CallW ({ frames := 2, cells := 0, slots := 0, locals := 51 }) s _ RX4 RX0 40 yX0_fill cX0_fill 5 none wsX0_fill ({ frames := 0, cells := 0, slots := 0, locals := 0 }) 0 0 4 := cwV 4 hc.2.2.2.2 gX4_strip_X0_fill rfl rfl rfl (by decide +kernel) ⟨Nat.le_of_ble_eq_true rfl, Nat.le_of_ble_eq_true rfl⟩
  have cw159 : CallB ({ frames := 2, cells := 0, slots := 0, locals := 51 }) s _ RX4 159 yX1_minus cX1_minus 2 (some .int) wsX1_minus ({ frames := 1, cells := 0, slots := 0, locals := 23 }) 0 0 2 ∧ (Cond.static yX1_minus).before _ s = true := va_cwS 2 hc.2.2.2.2 gX4_strip_X1_minus rfl rfl rfl (by decide +kernel) ⟨Nat.le_of_ble_eq_true rfl, Nat.le_of_ble_eq_true rfl⟩
  have cw165 : CallB ({ frames := 2, cells := 0, slots := 0, locals := 51 }) s _ RX4 165 yX1_over cX1_over 9 (some .int) wsX1_over ({ frames := 1, cells := 0, slots := 0, locals := 23 }) 0 0 2 ∧ (Cond.static yX1_over).before _ s = true := va_cwS 2 hc.2.2.2.2 gX4_strip_X1_over rfl rfl rfl (by decide +kernel) ⟨Nat.le_of_ble_eq_true rfl, Nat.le_of_ble_eq_true rfl⟩
  refine wp_aload_n hc 1 dX4_strip_0 rfl ?_
  refine wp_iconst (v := 2) hc dX4_strip_1 (by decide) ?_
  refine wp_iald hc hx (j := q1) hlq1 hjq1 hkq1 2 rfl (by rw [hnq1]; exact vin (by decide)) dX4_strip_2 ?_
  refine wp_if_eq (tgt := 26) hc dX4_strip_3 (by decide) (fun c3 => ?_) (fun c3 => ?_)
  · refine wp_iconst (v := 0) hc dX4_strip_26 (by decide) ?_
    refine wp_zret hc hr hk rfl ?_ dX4_strip_27
    show (0, M) = sX4_strip M q1
    rw [sX4_strip, if_pos c3]
  refine wp_aload_n hc 1 dX4_strip_6 rfl ?_
  refine wp_iconst (v := 5) hc dX4_strip_7 (by decide) ?_
  refine wp_iald hc hx (j := q1) hlq1 hjq1 hkq1 5 rfl (by rw [hnq1]; exact vin (by decide)) dX4_strip_8 ?_
  refine wp_if_eq (tgt := 26) hc dX4_strip_9 (by decide) (fun c9 => ?_) (fun c9 => ?_)
  · refine wp_iconst (v := 0) hc dX4_strip_26 (by decide) ?_
    refine wp_zret hc hr hk rfl ?_ dX4_strip_27
    show (0, M) = sX4_strip M q1
    rw [sX4_strip, if_neg c3, if_pos c9]
  refine wp_aload_n hc 1 dX4_strip_12 rfl ?_
  refine wp_bipush (v := 8) hc dX4_strip_13 (by decide) ?_
  refine wp_iald hc hx (j := q1) hlq1 hjq1 hkq1 8 rfl (by rw [hnq1]; exact vin (by decide)) dX4_strip_15 ?_
  refine wp_if_eq (tgt := 26) hc dX4_strip_16 (by decide) (fun c16 => ?_) (fun c16 => ?_)
  · refine wp_iconst (v := 0) hc dX4_strip_26 (by decide) ?_
    refine wp_zret hc hr hk rfl ?_ dX4_strip_27
    show (0, M) = sX4_strip M q1
    rw [sX4_strip, if_neg c3, if_neg c9, if_pos c16]
  refine wp_aload_n hc 1 dX4_strip_19 rfl ?_
  refine wp_bipush (v := 11) hc dX4_strip_20 (by decide) ?_
  refine wp_iald hc hx (j := q1) hlq1 hjq1 hkq1 11 rfl (by rw [hnq1]; exact vin (by decide)) dX4_strip_22 ?_
  refine wp_if_ne (tgt := 28) hc dX4_strip_23 (by decide) (fun c23 => ?_) (fun c23 => ?_)
  · refine wp_aload_n hc 0 dX4_strip_28 rfl ?_
    refine wp_get hc hx hin4 (j := 1) (by decide) (by decide) (ce_3 rfl) rfl 2 (by decide) hf21 rfl dX4_strip_29 ?_
    refine wp_aload_n hc 0 dX4_strip_32 rfl ?_
    refine wp_get hc hx hin4 (j := 1) (by decide) (by decide) (ce_3 rfl) rfl 1 (by decide) hf18 rfl dX4_strip_33 ?_
    refine wp_get hc hx hin0 (j := 3) (by decide) (by decide) (ce_0 rfl) rfl 0 (by decide) hf87 rfl dX4_strip_36 ?_
    refine wp_aload_n hc 1 dX4_strip_39 rfl ?_
    refine wp_iconst (v := 0) hc dX4_strip_40 (by decide) ?_
    refine wp_iald hc hx (j := q1) hlq1 hjq1 hkq1 0 rfl (by rw [hnq1]; exact vin (by decide)) dX4_strip_41 ?_
    refine wp_callSg (As := [.int (M.1 3 0), .int (M.1 q1 0)]) (rest := [.ref (z 4)]) (v := (fX1_minus (M.1 3 0) (M.1 q1 0))) hc hNW (kX1_minus l (M.1 3 0) (M.1 q1 0)) cw159 rfl rfl (Nat.le_of_ble_eq_true rfl) dX4_strip_42 ?_
    refine wp_aload_n hc 1 dX4_strip_45 rfl ?_
    refine wp_iconst (v := 2) hc dX4_strip_46 (by decide) ?_
    refine wp_iald hc hx (j := q1) hlq1 hjq1 hkq1 2 rfl (by rw [hnq1]; exact vin (by decide)) dX4_strip_47 ?_
    refine wp_callSg (As := [.int (fX1_minus (M.1 3 0) (M.1 q1 0)), .int (M.1 q1 2)]) (rest := [.ref (z 4)]) (v := (fX1_over (fX1_minus (M.1 3 0) (M.1 q1 0)) (M.1 q1 2))) hc hNW (kX1_over l (fX1_minus (M.1 3 0) (M.1 q1 0)) (M.1 q1 2)) cw165 rfl rfl (Nat.le_of_ble_eq_true rfl) dX4_strip_48 ?_
    refine wp_aload_n hc 0 dX4_strip_51 rfl ?_
    refine wp_get hc hx hin4 (j := 1) (by decide) (by decide) (ce_3 rfl) rfl 1 (by decide) hf18 rfl dX4_strip_52 ?_
    refine wp_get hc hx hin0 (j := 3) (by decide) (by decide) (ce_0 rfl) rfl 1 (by decide) hf84 rfl dX4_strip_55 ?_
    refine wp_aload_n hc 1 dX4_strip_58 rfl ?_
    refine wp_bipush (v := 9) hc dX4_strip_59 (by decide) ?_
    refine wp_iald hc hx (j := q1) hlq1 hjq1 hkq1 9 rfl (by rw [hnq1]; exact vin (by decide)) dX4_strip_61 ?_
    refine wp_callSg (As := [.int (M.1 3 1), .int (M.1 q1 9)]) (rest := [.int (fX1_over (fX1_minus (M.1 3 0) (M.1 q1 0)) (M.1 q1 2)), .ref (z 4)]) (v := (fX1_minus (M.1 3 1) (M.1 q1 9))) hc hNW (kX1_minus l (M.1 3 1) (M.1 q1 9)) cw159 rfl rfl (Nat.le_of_ble_eq_true rfl) dX4_strip_62 ?_
    refine wp_aload_n hc 1 dX4_strip_65 rfl ?_
    refine wp_bipush (v := 11) hc dX4_strip_66 (by decide) ?_
    refine wp_iald hc hx (j := q1) hlq1 hjq1 hkq1 11 rfl (by rw [hnq1]; exact vin (by decide)) dX4_strip_68 ?_
    refine wp_callSg (As := [.int (fX1_minus (M.1 3 1) (M.1 q1 9)), .int (M.1 q1 11)]) (rest := [.int (fX1_over (fX1_minus (M.1 3 0) (M.1 q1 0)) (M.1 q1 2)), .ref (z 4)]) (v := (fX1_over (fX1_minus (M.1 3 1) (M.1 q1 9)) (M.1 q1 11))) hc hNW (kX1_over l (fX1_minus (M.1 3 1) (M.1 q1 9)) (M.1 q1 11)) cw165 rfl rfl (Nat.le_of_ble_eq_true rfl) dX4_strip_69 ?_
    refine wp_aload_n hc 0 dX4_strip_72 rfl ?_
    refine wp_get hc hx hin4 (j := 1) (by decide) (by decide) (ce_3 rfl) rfl 1 (by decide) hf18 rfl dX4_strip_73 ?_
    refine wp_get hc hx hin0 (j := 3) (by decide) (by decide) (ce_0 rfl) rfl 2 (by decide) hf81 rfl dX4_strip_76 ?_
    refine wp_aload_n hc 1 dX4_strip_79 rfl ?_
    refine wp_iconst (v := 3) hc dX4_strip_80 (by decide) ?_
    refine wp_iald hc hx (j := q1) hlq1 hjq1 hkq1 3 rfl (by rw [hnq1]; exact vin (by decide)) dX4_strip_81 ?_
    refine wp_callSg (As := [.int (M.1 3 2), .int (M.1 q1 3)]) (rest := [.int (fX1_over (fX1_minus (M.1 3 1) (M.1 q1 9)) (M.1 q1 11)), .int (fX1_over (fX1_minus (M.1 3 0) (M.1 q1 0)) (M.1 q1 2)), .ref (z 4)]) (v := (fX1_minus (M.1 3 2) (M.1 q1 3))) hc hNW (kX1_minus l (M.1 3 2) (M.1 q1 3)) cw159 rfl rfl (Nat.le_of_ble_eq_true rfl) dX4_strip_82 ?_
    refine wp_aload_n hc 1 dX4_strip_85 rfl ?_
    refine wp_iconst (v := 5) hc dX4_strip_86 (by decide) ?_
    refine wp_iald hc hx (j := q1) hlq1 hjq1 hkq1 5 rfl (by rw [hnq1]; exact vin (by decide)) dX4_strip_87 ?_
    refine wp_callSg (As := [.int (fX1_minus (M.1 3 2) (M.1 q1 3)), .int (M.1 q1 5)]) (rest := [.int (fX1_over (fX1_minus (M.1 3 1) (M.1 q1 9)) (M.1 q1 11)), .int (fX1_over (fX1_minus (M.1 3 0) (M.1 q1 0)) (M.1 q1 2)), .ref (z 4)]) (v := (fX1_over (fX1_minus (M.1 3 2) (M.1 q1 3)) (M.1 q1 5))) hc hNW (kX1_over l (fX1_minus (M.1 3 2) (M.1 q1 3)) (M.1 q1 5)) cw165 rfl rfl (Nat.le_of_ble_eq_true rfl) dX4_strip_88 ?_
    refine wp_aload_n hc 0 dX4_strip_91 rfl ?_
    refine wp_get hc hx hin4 (j := 1) (by decide) (by decide) (ce_3 rfl) rfl 1 (by decide) hf18 rfl dX4_strip_92 ?_
    refine wp_get hc hx hin0 (j := 3) (by decide) (by decide) (ce_0 rfl) rfl 3 (by decide) hf77 rfl dX4_strip_95 ?_
    refine wp_aload_n hc 1 dX4_strip_98 rfl ?_
    refine wp_bipush (v := 6) hc dX4_strip_99 (by decide) ?_
    refine wp_iald hc hx (j := q1) hlq1 hjq1 hkq1 6 rfl (by rw [hnq1]; exact vin (by decide)) dX4_strip_101 ?_
    refine wp_callSg (As := [.int (M.1 3 3), .int (M.1 q1 6)]) (rest := [.int (fX1_over (fX1_minus (M.1 3 2) (M.1 q1 3)) (M.1 q1 5)), .int (fX1_over (fX1_minus (M.1 3 1) (M.1 q1 9)) (M.1 q1 11)), .int (fX1_over (fX1_minus (M.1 3 0) (M.1 q1 0)) (M.1 q1 2)), .ref (z 4)]) (v := (fX1_minus (M.1 3 3) (M.1 q1 6))) hc hNW (kX1_minus l (M.1 3 3) (M.1 q1 6)) cw159 rfl rfl (Nat.le_of_ble_eq_true rfl) dX4_strip_102 ?_
    refine wp_aload_n hc 1 dX4_strip_105 rfl ?_
    refine wp_bipush (v := 8) hc dX4_strip_106 (by decide) ?_
    refine wp_iald hc hx (j := q1) hlq1 hjq1 hkq1 8 rfl (by rw [hnq1]; exact vin (by decide)) dX4_strip_108 ?_
    refine wp_callSg (As := [.int (fX1_minus (M.1 3 3) (M.1 q1 6)), .int (M.1 q1 8)]) (rest := [.int (fX1_over (fX1_minus (M.1 3 2) (M.1 q1 3)) (M.1 q1 5)), .int (fX1_over (fX1_minus (M.1 3 1) (M.1 q1 9)) (M.1 q1 11)), .int (fX1_over (fX1_minus (M.1 3 0) (M.1 q1 0)) (M.1 q1 2)), .ref (z 4)]) (v := (fX1_over (fX1_minus (M.1 3 3) (M.1 q1 6)) (M.1 q1 8))) hc hNW (kX1_over l (fX1_minus (M.1 3 3) (M.1 q1 6)) (M.1 q1 8)) cw165 rfl rfl (Nat.le_of_ble_eq_true rfl) dX4_strip_109 ?_
    refine wp_callVvw (As := [.int (fX1_over (fX1_minus (M.1 3 0) (M.1 q1 0)) (M.1 q1 2)), .int (fX1_over (fX1_minus (M.1 3 1) (M.1 q1 9)) (M.1 q1 11)), .int (fX1_over (fX1_minus (M.1 3 2) (M.1 q1 3)) (M.1 q1 5)), .int (fX1_over (fX1_minus (M.1 3 3) (M.1 q1 6)) (M.1 q1 8))]) (rest := []) (j := 4) (w := sX0_fill M 4 (fX1_over (fX1_minus (M.1 3 0) (M.1 q1 0)) (M.1 q1 2)) (fX1_over (fX1_minus (M.1 3 1) (M.1 q1 9)) (M.1 q1 11)) (fX1_over (fX1_minus (M.1 3 2) (M.1 q1 3)) (M.1 q1 5)) (fX1_over (fX1_minus (M.1 3 3) (M.1 q1 6)) (M.1 q1 8))) hc hx (kX0_fill l D cy z hz M 4 (fX1_over (fX1_minus (M.1 3 0) (M.1 q1 0)) (M.1 q1 2)) (fX1_over (fX1_minus (M.1 3 1) (M.1 q1 9)) (M.1 q1 11)) (fX1_over (fX1_minus (M.1 3 2) (M.1 q1 3)) (M.1 q1 5)) (fX1_over (fX1_minus (M.1 3 3) (M.1 q1 6)) (M.1 q1 8)) (by decide) rfl) cw40 (by decide) (by decide) (ce_0 rfl) rfl rfl rfl rfl (Nat.le_of_ble_eq_true rfl) dX4_strip_112 (fun M1 hM1 => ?_)
    refine wp_iconst (v := 1) hc dX4_strip_115 (by decide) ?_
    refine wp_zret hc hr hk rfl ?_ dX4_strip_116
    show (1, M1) = sX4_strip M q1
    rw [sX4_strip, if_neg c3, if_neg c9, if_neg c16, if_neg c23, tk_eq hM1]
  refine wp_iconst (v := 0) hc dX4_strip_26 (by decide) ?_
  refine wp_zret hc hr hk rfl ?_ dX4_strip_27
  show (0, M) = sX4_strip M q1
  rw [sX4_strip, if_neg c3, if_neg c9, if_neg c16, if_pos c23]
set_option maxRecDepth 10000 in
theorem kfX4_strip (M : Mem) (q1 : Nat) : KF2 (fun x => 2 ≤ x ∧ x ≤ 9) M (sX4_strip M q1) := by
  unfold sX4_strip
  refine ite_ind (P := KF2 (fun x => 2 ≤ x ∧ x ≤ 9) M) (fun c1 => ?_) (fun c1 => ?_)
  · exact (show KF (fun x => 2 ≤ x ∧ x ≤ 9) M M from KF.rf)
  · refine ite_ind (P := KF2 (fun x => 2 ≤ x ∧ x ≤ 9) M) (fun c2 => ?_) (fun c2 => ?_)
    · exact (show KF (fun x => 2 ≤ x ∧ x ≤ 9) M M from KF.rf)
    · refine ite_ind (P := KF2 (fun x => 2 ≤ x ∧ x ≤ 9) M) (fun c3 => ?_) (fun c3 => ?_)
      · exact (show KF (fun x => 2 ≤ x ∧ x ≤ 9) M M from KF.rf)
      · refine ite_ind (P := KF2 (fun x => 2 ≤ x ∧ x ≤ 9) M) (fun c4 => ?_) (fun c4 => ?_)
        · exact (show KF (fun x => 2 ≤ x ∧ x ≤ 9) M M from KF.rf)
        · refine tk_ind (P := KF2 (fun x => 2 ≤ x ∧ x ≤ 9) M) _ _ (fun M1 hM1 => ?_)
          have k5 : KF (fun x => 2 ≤ x ∧ x ≤ 9) M M1 := by rw [hM1]; exact KF.mono (kfX0_fill _ _ _ _ _ _) (fun x h => by first | exact h | ((try dsimp only at h ⊢); omega))
          exact (show KF (fun x => 2 ≤ x ∧ x ≤ 9) M M1 from k5)
theorem bX4_strip (M : Mem) (q1 : Nat) : B01 (sX4_strip M q1) := by
  unfold sX4_strip
  refine ite_ind (P := B01) (fun _ => ?_) (fun _ => ?_)
  · exact (show _ ∨ _ from Or.inl rfl)
  · refine ite_ind (P := B01) (fun _ => ?_) (fun _ => ?_)
    · exact (show _ ∨ _ from Or.inl rfl)
    · refine ite_ind (P := B01) (fun _ => ?_) (fun _ => ?_)
      · exact (show _ ∨ _ from Or.inl rfl)
      · refine ite_ind (P := B01) (fun _ => ?_) (fun _ => ?_)
        · exact (show _ ∨ _ from Or.inl rfl)
        · refine tk_ind (P := B01) _ _ (fun M1 hM1 => ?_)
          exact (show _ ∨ _ from Or.inr rfl)
def sX4_solve (M : Mem) (q1 : Nat) : Int32 × Mem :=
  tk ((fX1_minus (fX1_times (fX1_plus 10007 (fX1_times (M.1 4 0) (M.1 q1 1))) (fX1_plus 10007 (fX1_times (M.1 4 3) (M.1 q1 7)))) (fX1_times (fX1_times (M.1 4 2) (M.1 4 1)) (fX1_times (M.1 q1 4) (M.1 q1 10))))) fun x1 =>
  if x1 = 0 then
  (0, M)
  else
  tk ((fX1_plus 10007 (fX1_times (M.1 4 0) (fX1_minus (M.1 q1 1) (M.1 q1 10))))) fun x2 =>
  tk ((fX1_plus 10007 (fX1_times (M.1 4 3) (fX1_minus (M.1 q1 7) (M.1 q1 4))))) fun x3 =>
  tk (sX0_fill M 8 (fX1_minus (fX1_times (M.1 4 0) (fX1_plus 10007 (fX1_times (M.1 4 3) (M.1 q1 7)))) (fX1_times (M.1 q1 4) (fX1_times (M.1 4 2) (M.1 4 1)))) (fX1_times x2 (M.1 4 1)) (fX1_times x3 (M.1 4 2)) (fX1_minus (fX1_times (M.1 4 3) (fX1_plus 10007 (fX1_times (M.1 4 0) (M.1 q1 1)))) (fX1_times (M.1 q1 10) (fX1_times (M.1 4 2) (M.1 4 1))))) fun M4 =>
  tk (sX0_divideBy M4 8 x1) fun M5 =>
  (1, M5)
set_option maxHeartbeats 4000000 in
set_option maxRecDepth 100000 in
theorem kX4_solve (l : Launch) (D : va_G) (cy : Nat → ClassId) (z : Nat → Nat) (hz : zI z) (M : Mem) (q1 : Nat) (hlq1 : 0 ≤ q1) (hjq1 : q1 < 0 + 100) (hkq1 : kd q1 = 7) (hnq1 : ln q1 = 12) : KI l yX4_solve wsX4_solve { frames := 3, cells := 0, slots := 0, locals := 73 } D cy z 0 100 [.ref (z 1), .ref (z q1)] M (fun r u => (r, u) = sX4_solve M q1) := by
  refine met_wp (lv := [(0, .ref (z 1)), (1, .ref (z q1))]) hz (by decide) (by decide) rfl rfl (Nat.le_of_ble_eq_true rfl) rfl ?_
  intro p e s m below meth c hc hx hr hk
  have hNW := hx.2.1
  have hin0 : ∀ w ∈ wsX00, w ∈ wsX4_solve := by decide +kernel
  have hin4 : ∀ w ∈ wsX40, w ∈ wsX4_solve := by decide +kernel
  have hf21 : Cond.fieldLink RX4 21 (TX4 2).1 (TX4 2).2.1 (TX4 2).2.2.1 ∈ wsX4_solve := by decide +kernel
  have hf33 : Cond.fieldLink RX4 33 (TX4 6).1 (TX4 6).2.1 (TX4 6).2.2.1 ∈ wsX4_solve := by decide +kernel
  have hf77 : Cond.fieldLink RX4 77 (TX0 3).1 (TX0 3).2.1 (TX0 3).2.2.1 ∈ wsX4_solve := by decide +kernel
  have hf81 : Cond.fieldLink RX4 81 (TX0 2).1 (TX0 2).2.1 (TX0 2).2.2.1 ∈ wsX4_solve := by decide +kernel
  have hf84 : Cond.fieldLink RX4 84 (TX0 1).1 (TX0 1).2.1 (TX0 1).2.2.1 ∈ wsX4_solve := by decide +kernel
  have hf87 : Cond.fieldLink RX4 87 (TX0 0).1 (TX0 0).2.1 (TX0 0).2.2.1 ∈ wsX4_solve := by decide +kernel
  have cw40 : CallW ({ frames := 3, cells := 0, slots := 0, locals := 73 }) s _ RX4 RX0 40 yX0_fill cX0_fill 5 none wsX0_fill ({ frames := 0, cells := 0, slots := 0, locals := 0 }) 0 0 4 := cwV 4 hc.2.2.2.2 gX4_solve_X0_fill rfl rfl rfl (by decide +kernel) ⟨Nat.le_of_ble_eq_true rfl, Nat.le_of_ble_eq_true rfl⟩
  have cw156 : CallB ({ frames := 3, cells := 0, slots := 0, locals := 73 }) s _ RX4 156 yX1_times cX1_times 6 (some .int) wsX1_times ({ frames := 1, cells := 0, slots := 0, locals := 23 }) 0 0 2 ∧ (Cond.static yX1_times).before _ s = true := va_cwS 2 hc.2.2.2.2 gX4_solve_X1_times rfl rfl rfl (by decide +kernel) ⟨Nat.le_of_ble_eq_true rfl, Nat.le_of_ble_eq_true rfl⟩
  have cw159 : CallB ({ frames := 3, cells := 0, slots := 0, locals := 73 }) s _ RX4 159 yX1_minus cX1_minus 2 (some .int) wsX1_minus ({ frames := 1, cells := 0, slots := 0, locals := 23 }) 0 0 2 ∧ (Cond.static yX1_minus).before _ s = true := va_cwS 2 hc.2.2.2.2 gX4_solve_X1_minus rfl rfl rfl (by decide +kernel) ⟨Nat.le_of_ble_eq_true rfl, Nat.le_of_ble_eq_true rfl⟩
  have cw162 : CallB ({ frames := 3, cells := 0, slots := 0, locals := 73 }) s _ RX4 162 yX1_plus cX1_plus 2 (some .int) wsX1_plus ({ frames := 1, cells := 0, slots := 0, locals := 23 }) 0 0 2 ∧ (Cond.static yX1_plus).before _ s = true := va_cwS 2 hc.2.2.2.2 gX4_solve_X1_plus rfl rfl rfl (by decide +kernel) ⟨Nat.le_of_ble_eq_true rfl, Nat.le_of_ble_eq_true rfl⟩
  have cw178 : CallW ({ frames := 3, cells := 0, slots := 0, locals := 73 }) s _ RX4 RX0 178 yX0_divideBy cX0_divideBy 3 none wsX0_divideBy ({ frames := 2, cells := 0, slots := 0, locals := 51 }) 0 0 1 := cwV 1 hc.2.2.2.2 gX4_solve_X0_divideBy rfl rfl rfl (by decide +kernel) ⟨Nat.le_of_ble_eq_true rfl, Nat.le_of_ble_eq_true rfl⟩
  refine wp_sipush (v := 10007) hc dX4_solve_0 (by decide) ?_
  refine wp_aload_n hc 0 dX4_solve_3 rfl ?_
  refine wp_get hc hx hin4 (j := 1) (by decide) (by decide) (ce_3 rfl) rfl 2 (by decide) hf21 rfl dX4_solve_4 ?_
  refine wp_get hc hx hin0 (j := 4) (by decide) (by decide) (ce_0 rfl) rfl 0 (by decide) hf87 rfl dX4_solve_7 ?_
  refine wp_aload_n hc 1 dX4_solve_10 rfl ?_
  refine wp_iconst (v := 1) hc dX4_solve_11 (by decide) ?_
  refine wp_iald hc hx (j := q1) hlq1 hjq1 hkq1 1 rfl (by rw [hnq1]; exact vin (by decide)) dX4_solve_12 ?_
  refine wp_callSg (As := [.int (M.1 4 0), .int (M.1 q1 1)]) (rest := [.int 10007]) (v := (fX1_times (M.1 4 0) (M.1 q1 1))) hc hNW (kX1_times l (M.1 4 0) (M.1 q1 1)) cw156 rfl rfl (Nat.le_of_ble_eq_true rfl) dX4_solve_13 ?_
  refine wp_callSg (As := [.int 10007, .int (fX1_times (M.1 4 0) (M.1 q1 1))]) (rest := []) (v := (fX1_plus 10007 (fX1_times (M.1 4 0) (M.1 q1 1)))) hc hNW (kX1_plus l 10007 (fX1_times (M.1 4 0) (M.1 q1 1))) cw162 rfl rfl (Nat.le_of_ble_eq_true rfl) dX4_solve_16 ?_
  refine wp_istore_n (lv' := [(2, .int (fX1_plus 10007 (fX1_times (M.1 4 0) (M.1 q1 1)))), (0, .ref (z 1)), (1, .ref (z q1))]) hc dX4_solve_19 (by decide) rfl ?_
  refine wp_sipush (v := 10007) hc dX4_solve_20 (by decide) ?_
  refine wp_aload_n hc 1 dX4_solve_23 rfl ?_
  refine wp_get hc hx hin4 (j := 1) (by decide) (by decide) (ce_3 rfl) rfl 2 (by decide) hf21 rfl dX4_solve_24 ?_
  refine wp_get hc hx hin0 (j := 4) (by decide) (by decide) (ce_0 rfl) rfl 3 (by decide) hf77 rfl dX4_solve_27 ?_
  refine wp_aload_n hc 2 dX4_solve_30 rfl ?_
  refine wp_bipush (v := 7) hc dX4_solve_31 (by decide) ?_
  refine wp_iald hc hx (j := q1) hlq1 hjq1 hkq1 7 rfl (by rw [hnq1]; exact vin (by decide)) dX4_solve_33 ?_
  refine wp_callSg (As := [.int (M.1 4 3), .int (M.1 q1 7)]) (rest := [.int 10007]) (v := (fX1_times (M.1 4 3) (M.1 q1 7))) hc hNW (kX1_times l (M.1 4 3) (M.1 q1 7)) cw156 rfl rfl (Nat.le_of_ble_eq_true rfl) dX4_solve_34 ?_
  refine wp_callSg (As := [.int 10007, .int (fX1_times (M.1 4 3) (M.1 q1 7))]) (rest := []) (v := (fX1_plus 10007 (fX1_times (M.1 4 3) (M.1 q1 7)))) hc hNW (kX1_plus l 10007 (fX1_times (M.1 4 3) (M.1 q1 7))) cw162 rfl rfl (Nat.le_of_ble_eq_true rfl) dX4_solve_37 ?_
  refine wp_istore_n (lv' := [(3, .int (fX1_plus 10007 (fX1_times (M.1 4 3) (M.1 q1 7)))), (2, .int (fX1_plus 10007 (fX1_times (M.1 4 0) (M.1 q1 1)))), (0, .ref (z 1)), (1, .ref (z q1))]) hc dX4_solve_40 (by decide) rfl ?_
  refine wp_aload_n hc 2 dX4_solve_41 rfl ?_
  refine wp_get hc hx hin4 (j := 1) (by decide) (by decide) (ce_3 rfl) rfl 2 (by decide) hf21 rfl dX4_solve_42 ?_
  refine wp_get hc hx hin0 (j := 4) (by decide) (by decide) (ce_0 rfl) rfl 2 (by decide) hf81 rfl dX4_solve_45 ?_
  refine wp_aload_n hc 2 dX4_solve_48 rfl ?_
  refine wp_get hc hx hin4 (j := 1) (by decide) (by decide) (ce_3 rfl) rfl 2 (by decide) hf21 rfl dX4_solve_49 ?_
  refine wp_get hc hx hin0 (j := 4) (by decide) (by decide) (ce_0 rfl) rfl 1 (by decide) hf84 rfl dX4_solve_52 ?_
  refine wp_callSg (As := [.int (M.1 4 2), .int (M.1 4 1)]) (rest := []) (v := (fX1_times (M.1 4 2) (M.1 4 1))) hc hNW (kX1_times l (M.1 4 2) (M.1 4 1)) cw156 rfl rfl (Nat.le_of_ble_eq_true rfl) dX4_solve_55 ?_
  refine wp_istore (lv' := [(4, .int (fX1_times (M.1 4 2) (M.1 4 1))), (3, .int (fX1_plus 10007 (fX1_times (M.1 4 3) (M.1 q1 7)))), (2, .int (fX1_plus 10007 (fX1_times (M.1 4 0) (M.1 q1 1)))), (0, .ref (z 1)), (1, .ref (z q1))]) hc dX4_solve_58 (by decide) rfl ?_
  refine wp_iload_n hc 2 dX4_solve_60 rfl ?_
  refine wp_iload_n hc 1 dX4_solve_61 rfl ?_
  refine wp_callSg (As := [.int (fX1_plus 10007 (fX1_times (M.1 4 0) (M.1 q1 1))), .int (fX1_plus 10007 (fX1_times (M.1 4 3) (M.1 q1 7)))]) (rest := []) (v := (fX1_times (fX1_plus 10007 (fX1_times (M.1 4 0) (M.1 q1 1))) (fX1_plus 10007 (fX1_times (M.1 4 3) (M.1 q1 7))))) hc hNW (kX1_times l (fX1_plus 10007 (fX1_times (M.1 4 0) (M.1 q1 1))) (fX1_plus 10007 (fX1_times (M.1 4 3) (M.1 q1 7)))) cw156 rfl rfl (Nat.le_of_ble_eq_true rfl) dX4_solve_62 ?_
  refine wp_iload hc 0 dX4_solve_65 rfl ?_
  refine wp_aload_n hc 4 dX4_solve_67 rfl ?_
  refine wp_iconst (v := 4) hc dX4_solve_68 (by decide) ?_
  refine wp_iald hc hx (j := q1) hlq1 hjq1 hkq1 4 rfl (by rw [hnq1]; exact vin (by decide)) dX4_solve_69 ?_
  refine wp_aload_n hc 4 dX4_solve_70 rfl ?_
  refine wp_bipush (v := 10) hc dX4_solve_71 (by decide) ?_
  refine wp_iald hc hx (j := q1) hlq1 hjq1 hkq1 10 rfl (by rw [hnq1]; exact vin (by decide)) dX4_solve_73 ?_
  refine wp_callSg (As := [.int (M.1 q1 4), .int (M.1 q1 10)]) (rest := [.int (fX1_times (M.1 4 2) (M.1 4 1)), .int (fX1_times (fX1_plus 10007 (fX1_times (M.1 4 0) (M.1 q1 1))) (fX1_plus 10007 (fX1_times (M.1 4 3) (M.1 q1 7))))]) (v := (fX1_times (M.1 q1 4) (M.1 q1 10))) hc hNW (kX1_times l (M.1 q1 4) (M.1 q1 10)) cw156 rfl rfl (Nat.le_of_ble_eq_true rfl) dX4_solve_74 ?_
  refine wp_callSg (As := [.int (fX1_times (M.1 4 2) (M.1 4 1)), .int (fX1_times (M.1 q1 4) (M.1 q1 10))]) (rest := [.int (fX1_times (fX1_plus 10007 (fX1_times (M.1 4 0) (M.1 q1 1))) (fX1_plus 10007 (fX1_times (M.1 4 3) (M.1 q1 7))))]) (v := (fX1_times (fX1_times (M.1 4 2) (M.1 4 1)) (fX1_times (M.1 q1 4) (M.1 q1 10)))) hc hNW (kX1_times l (fX1_times (M.1 4 2) (M.1 4 1)) (fX1_times (M.1 q1 4) (M.1 q1 10))) cw156 rfl rfl (Nat.le_of_ble_eq_true rfl) dX4_solve_77 ?_
  refine wp_callSg (As := [.int (fX1_times (fX1_plus 10007 (fX1_times (M.1 4 0) (M.1 q1 1))) (fX1_plus 10007 (fX1_times (M.1 4 3) (M.1 q1 7)))), .int (fX1_times (fX1_times (M.1 4 2) (M.1 4 1)) (fX1_times (M.1 q1 4) (M.1 q1 10)))]) (rest := []) (v := (fX1_minus (fX1_times (fX1_plus 10007 (fX1_times (M.1 4 0) (M.1 q1 1))) (fX1_plus 10007 (fX1_times (M.1 4 3) (M.1 q1 7)))) (fX1_times (fX1_times (M.1 4 2) (M.1 4 1)) (fX1_times (M.1 q1 4) (M.1 q1 10))))) hc hNW (kX1_minus l (fX1_times (fX1_plus 10007 (fX1_times (M.1 4 0) (M.1 q1 1))) (fX1_plus 10007 (fX1_times (M.1 4 3) (M.1 q1 7)))) (fX1_times (fX1_times (M.1 4 2) (M.1 4 1)) (fX1_times (M.1 q1 4) (M.1 q1 10)))) cw159 rfl rfl (Nat.le_of_ble_eq_true rfl) dX4_solve_80 ?_
  refine wp_topi (fun x1 hx1 => ?_)
  refine wp_istore (lv' := [(5, .int x1), (4, .int (fX1_times (M.1 4 2) (M.1 4 1))), (3, .int (fX1_plus 10007 (fX1_times (M.1 4 3) (M.1 q1 7)))), (2, .int (fX1_plus 10007 (fX1_times (M.1 4 0) (M.1 q1 1)))), (0, .ref (z 1)), (1, .ref (z q1))]) hc dX4_solve_83 (by decide) rfl ?_
  refine wp_iload hc 0 dX4_solve_85 rfl ?_
  refine wp_if_ne (tgt := 92) hc dX4_solve_87 (by decide) (fun c87 => ?_) (fun c87 => ?_)
  · refine wp_sipush (v := 10007) hc dX4_solve_92 (by decide) ?_
    refine wp_aload_n hc 4 dX4_solve_95 rfl ?_
    refine wp_get hc hx hin4 (j := 1) (by decide) (by decide) (ce_3 rfl) rfl 2 (by decide) hf21 rfl dX4_solve_96 ?_
    refine wp_get hc hx hin0 (j := 4) (by decide) (by decide) (ce_0 rfl) rfl 0 (by decide) hf87 rfl dX4_solve_99 ?_
    refine wp_aload_n hc 5 dX4_solve_102 rfl ?_
    refine wp_iconst (v := 1) hc dX4_solve_103 (by decide) ?_
    refine wp_iald hc hx (j := q1) hlq1 hjq1 hkq1 1 rfl (by rw [hnq1]; exact vin (by decide)) dX4_solve_104 ?_
    refine wp_aload_n hc 5 dX4_solve_105 rfl ?_
    refine wp_bipush (v := 10) hc dX4_solve_106 (by decide) ?_
    refine wp_iald hc hx (j := q1) hlq1 hjq1 hkq1 10 rfl (by rw [hnq1]; exact vin (by decide)) dX4_solve_108 ?_
    refine wp_callSg (As := [.int (M.1 q1 1), .int (M.1 q1 10)]) (rest := [.int (M.1 4 0), .int 10007]) (v := (fX1_minus (M.1 q1 1) (M.1 q1 10))) hc hNW (kX1_minus l (M.1 q1 1) (M.1 q1 10)) cw159 rfl rfl (Nat.le_of_ble_eq_true rfl) dX4_solve_109 ?_
    refine wp_callSg (As := [.int (M.1 4 0), .int (fX1_minus (M.1 q1 1) (M.1 q1 10))]) (rest := [.int 10007]) (v := (fX1_times (M.1 4 0) (fX1_minus (M.1 q1 1) (M.1 q1 10)))) hc hNW (kX1_times l (M.1 4 0) (fX1_minus (M.1 q1 1) (M.1 q1 10))) cw156 rfl rfl (Nat.le_of_ble_eq_true rfl) dX4_solve_112 ?_
    refine wp_callSg (As := [.int 10007, .int (fX1_times (M.1 4 0) (fX1_minus (M.1 q1 1) (M.1 q1 10)))]) (rest := []) (v := (fX1_plus 10007 (fX1_times (M.1 4 0) (fX1_minus (M.1 q1 1) (M.1 q1 10))))) hc hNW (kX1_plus l 10007 (fX1_times (M.1 4 0) (fX1_minus (M.1 q1 1) (M.1 q1 10)))) cw162 rfl rfl (Nat.le_of_ble_eq_true rfl) dX4_solve_115 ?_
    refine wp_topi (fun x2 hx2 => ?_)
    refine wp_istore (lv' := [(6, .int x2), (5, .int x1), (4, .int (fX1_times (M.1 4 2) (M.1 4 1))), (3, .int (fX1_plus 10007 (fX1_times (M.1 4 3) (M.1 q1 7)))), (2, .int (fX1_plus 10007 (fX1_times (M.1 4 0) (M.1 q1 1)))), (0, .ref (z 1)), (1, .ref (z q1))]) hc dX4_solve_118 (by decide) rfl ?_
    refine wp_sipush (v := 10007) hc dX4_solve_120 (by decide) ?_
    refine wp_aload_n hc 5 dX4_solve_123 rfl ?_
    refine wp_get hc hx hin4 (j := 1) (by decide) (by decide) (ce_3 rfl) rfl 2 (by decide) hf21 rfl dX4_solve_124 ?_
    refine wp_get hc hx hin0 (j := 4) (by decide) (by decide) (ce_0 rfl) rfl 3 (by decide) hf77 rfl dX4_solve_127 ?_
    refine wp_aload_n hc 6 dX4_solve_130 rfl ?_
    refine wp_bipush (v := 7) hc dX4_solve_131 (by decide) ?_
    refine wp_iald hc hx (j := q1) hlq1 hjq1 hkq1 7 rfl (by rw [hnq1]; exact vin (by decide)) dX4_solve_133 ?_
    refine wp_aload_n hc 6 dX4_solve_134 rfl ?_
    refine wp_iconst (v := 4) hc dX4_solve_135 (by decide) ?_
    refine wp_iald hc hx (j := q1) hlq1 hjq1 hkq1 4 rfl (by rw [hnq1]; exact vin (by decide)) dX4_solve_136 ?_
    refine wp_callSg (As := [.int (M.1 q1 7), .int (M.1 q1 4)]) (rest := [.int (M.1 4 3), .int 10007]) (v := (fX1_minus (M.1 q1 7) (M.1 q1 4))) hc hNW (kX1_minus l (M.1 q1 7) (M.1 q1 4)) cw159 rfl rfl (Nat.le_of_ble_eq_true rfl) dX4_solve_137 ?_
    refine wp_callSg (As := [.int (M.1 4 3), .int (fX1_minus (M.1 q1 7) (M.1 q1 4))]) (rest := [.int 10007]) (v := (fX1_times (M.1 4 3) (fX1_minus (M.1 q1 7) (M.1 q1 4)))) hc hNW (kX1_times l (M.1 4 3) (fX1_minus (M.1 q1 7) (M.1 q1 4))) cw156 rfl rfl (Nat.le_of_ble_eq_true rfl) dX4_solve_140 ?_
    refine wp_callSg (As := [.int 10007, .int (fX1_times (M.1 4 3) (fX1_minus (M.1 q1 7) (M.1 q1 4)))]) (rest := []) (v := (fX1_plus 10007 (fX1_times (M.1 4 3) (fX1_minus (M.1 q1 7) (M.1 q1 4))))) hc hNW (kX1_plus l 10007 (fX1_times (M.1 4 3) (fX1_minus (M.1 q1 7) (M.1 q1 4)))) cw162 rfl rfl (Nat.le_of_ble_eq_true rfl) dX4_solve_143 ?_
    refine wp_topi (fun x3 hx3 => ?_)
    refine wp_istore (lv' := [(7, .int x3), (6, .int x2), (5, .int x1), (4, .int (fX1_times (M.1 4 2) (M.1 4 1))), (3, .int (fX1_plus 10007 (fX1_times (M.1 4 3) (M.1 q1 7)))), (2, .int (fX1_plus 10007 (fX1_times (M.1 4 0) (M.1 q1 1)))), (0, .ref (z 1)), (1, .ref (z q1))]) hc dX4_solve_146 (by decide) rfl ?_
    refine wp_aload_n hc 6 dX4_solve_148 rfl ?_
    refine wp_get hc hx hin4 (j := 1) (by decide) (by decide) (ce_3 rfl) rfl 6 (by decide) hf33 rfl dX4_solve_149 ?_
    refine wp_aload_n hc 6 dX4_solve_152 rfl ?_
    refine wp_get hc hx hin4 (j := 1) (by decide) (by decide) (ce_3 rfl) rfl 2 (by decide) hf21 rfl dX4_solve_153 ?_
    refine wp_get hc hx hin0 (j := 4) (by decide) (by decide) (ce_0 rfl) rfl 0 (by decide) hf87 rfl dX4_solve_156 ?_
    refine wp_iload_n hc 4 dX4_solve_159 rfl ?_
    refine wp_callSg (As := [.int (M.1 4 0), .int (fX1_plus 10007 (fX1_times (M.1 4 3) (M.1 q1 7)))]) (rest := [.ref (z 8)]) (v := (fX1_times (M.1 4 0) (fX1_plus 10007 (fX1_times (M.1 4 3) (M.1 q1 7))))) hc hNW (kX1_times l (M.1 4 0) (fX1_plus 10007 (fX1_times (M.1 4 3) (M.1 q1 7)))) cw156 rfl rfl (Nat.le_of_ble_eq_true rfl) dX4_solve_160 ?_
    refine wp_aload_n hc 7 dX4_solve_163 rfl ?_
    refine wp_iconst (v := 4) hc dX4_solve_164 (by decide) ?_
    refine wp_iald hc hx (j := q1) hlq1 hjq1 hkq1 4 rfl (by rw [hnq1]; exact vin (by decide)) dX4_solve_165 ?_
    refine wp_iload hc 3 dX4_solve_166 rfl ?_
    refine wp_callSg (As := [.int (M.1 q1 4), .int (fX1_times (M.1 4 2) (M.1 4 1))]) (rest := [.int (fX1_times (M.1 4 0) (fX1_plus 10007 (fX1_times (M.1 4 3) (M.1 q1 7)))), .ref (z 8)]) (v := (fX1_times (M.1 q1 4) (fX1_times (M.1 4 2) (M.1 4 1)))) hc hNW (kX1_times l (M.1 q1 4) (fX1_times (M.1 4 2) (M.1 4 1))) cw156 rfl rfl (Nat.le_of_ble_eq_true rfl) dX4_solve_168 ?_
    refine wp_callSg (As := [.int (fX1_times (M.1 4 0) (fX1_plus 10007 (fX1_times (M.1 4 3) (M.1 q1 7)))), .int (fX1_times (M.1 q1 4) (fX1_times (M.1 4 2) (M.1 4 1)))]) (rest := [.ref (z 8)]) (v := (fX1_minus (fX1_times (M.1 4 0) (fX1_plus 10007 (fX1_times (M.1 4 3) (M.1 q1 7)))) (fX1_times (M.1 q1 4) (fX1_times (M.1 4 2) (M.1 4 1))))) hc hNW (kX1_minus l (fX1_times (M.1 4 0) (fX1_plus 10007 (fX1_times (M.1 4 3) (M.1 q1 7)))) (fX1_times (M.1 q1 4) (fX1_times (M.1 4 2) (M.1 4 1)))) cw159 rfl rfl (Nat.le_of_ble_eq_true rfl) dX4_solve_171 ?_
    refine wp_iload hc 1 dX4_solve_174 rfl ?_
    refine wp_aload_n hc 6 dX4_solve_176 rfl ?_
    refine wp_get hc hx hin4 (j := 1) (by decide) (by decide) (ce_3 rfl) rfl 2 (by decide) hf21 rfl dX4_solve_177 ?_
    refine wp_get hc hx hin0 (j := 4) (by decide) (by decide) (ce_0 rfl) rfl 1 (by decide) hf84 rfl dX4_solve_180 ?_
    refine wp_callSg (As := [.int x2, .int (M.1 4 1)]) (rest := [.int (fX1_minus (fX1_times (M.1 4 0) (fX1_plus 10007 (fX1_times (M.1 4 3) (M.1 q1 7)))) (fX1_times (M.1 q1 4) (fX1_times (M.1 4 2) (M.1 4 1)))), .ref (z 8)]) (v := (fX1_times x2 (M.1 4 1))) hc hNW (kX1_times l x2 (M.1 4 1)) cw156 rfl rfl (Nat.le_of_ble_eq_true rfl) dX4_solve_183 ?_
    refine wp_iload hc 0 dX4_solve_186 rfl ?_
    refine wp_aload_n hc 6 dX4_solve_188 rfl ?_
    refine wp_get hc hx hin4 (j := 1) (by decide) (by decide) (ce_3 rfl) rfl 2 (by decide) hf21 rfl dX4_solve_189 ?_
    refine wp_get hc hx hin0 (j := 4) (by decide) (by decide) (ce_0 rfl) rfl 2 (by decide) hf81 rfl dX4_solve_192 ?_
    refine wp_callSg (As := [.int x3, .int (M.1 4 2)]) (rest := [.int (fX1_times x2 (M.1 4 1)), .int (fX1_minus (fX1_times (M.1 4 0) (fX1_plus 10007 (fX1_times (M.1 4 3) (M.1 q1 7)))) (fX1_times (M.1 q1 4) (fX1_times (M.1 4 2) (M.1 4 1)))), .ref (z 8)]) (v := (fX1_times x3 (M.1 4 2))) hc hNW (kX1_times l x3 (M.1 4 2)) cw156 rfl rfl (Nat.le_of_ble_eq_true rfl) dX4_solve_195 ?_
    refine wp_aload_n hc 6 dX4_solve_198 rfl ?_
    refine wp_get hc hx hin4 (j := 1) (by decide) (by decide) (ce_3 rfl) rfl 2 (by decide) hf21 rfl dX4_solve_199 ?_
    refine wp_get hc hx hin0 (j := 4) (by decide) (by decide) (ce_0 rfl) rfl 3 (by decide) hf77 rfl dX4_solve_202 ?_
    refine wp_iload_n hc 5 dX4_solve_205 rfl ?_
    refine wp_callSg (As := [.int (M.1 4 3), .int (fX1_plus 10007 (fX1_times (M.1 4 0) (M.1 q1 1)))]) (rest := [.int (fX1_times x3 (M.1 4 2)), .int (fX1_times x2 (M.1 4 1)), .int (fX1_minus (fX1_times (M.1 4 0) (fX1_plus 10007 (fX1_times (M.1 4 3) (M.1 q1 7)))) (fX1_times (M.1 q1 4) (fX1_times (M.1 4 2) (M.1 4 1)))), .ref (z 8)]) (v := (fX1_times (M.1 4 3) (fX1_plus 10007 (fX1_times (M.1 4 0) (M.1 q1 1))))) hc hNW (kX1_times l (M.1 4 3) (fX1_plus 10007 (fX1_times (M.1 4 0) (M.1 q1 1)))) cw156 rfl rfl (Nat.le_of_ble_eq_true rfl) dX4_solve_206 ?_
    refine wp_aload_n hc 7 dX4_solve_209 rfl ?_
    refine wp_bipush (v := 10) hc dX4_solve_210 (by decide) ?_
    refine wp_iald hc hx (j := q1) hlq1 hjq1 hkq1 10 rfl (by rw [hnq1]; exact vin (by decide)) dX4_solve_212 ?_
    refine wp_iload hc 3 dX4_solve_213 rfl ?_
    refine wp_callSg (As := [.int (M.1 q1 10), .int (fX1_times (M.1 4 2) (M.1 4 1))]) (rest := [.int (fX1_times (M.1 4 3) (fX1_plus 10007 (fX1_times (M.1 4 0) (M.1 q1 1)))), .int (fX1_times x3 (M.1 4 2)), .int (fX1_times x2 (M.1 4 1)), .int (fX1_minus (fX1_times (M.1 4 0) (fX1_plus 10007 (fX1_times (M.1 4 3) (M.1 q1 7)))) (fX1_times (M.1 q1 4) (fX1_times (M.1 4 2) (M.1 4 1)))), .ref (z 8)]) (v := (fX1_times (M.1 q1 10) (fX1_times (M.1 4 2) (M.1 4 1)))) hc hNW (kX1_times l (M.1 q1 10) (fX1_times (M.1 4 2) (M.1 4 1))) cw156 rfl rfl (Nat.le_of_ble_eq_true rfl) dX4_solve_215 ?_
    refine wp_callSg (As := [.int (fX1_times (M.1 4 3) (fX1_plus 10007 (fX1_times (M.1 4 0) (M.1 q1 1)))), .int (fX1_times (M.1 q1 10) (fX1_times (M.1 4 2) (M.1 4 1)))]) (rest := [.int (fX1_times x3 (M.1 4 2)), .int (fX1_times x2 (M.1 4 1)), .int (fX1_minus (fX1_times (M.1 4 0) (fX1_plus 10007 (fX1_times (M.1 4 3) (M.1 q1 7)))) (fX1_times (M.1 q1 4) (fX1_times (M.1 4 2) (M.1 4 1)))), .ref (z 8)]) (v := (fX1_minus (fX1_times (M.1 4 3) (fX1_plus 10007 (fX1_times (M.1 4 0) (M.1 q1 1)))) (fX1_times (M.1 q1 10) (fX1_times (M.1 4 2) (M.1 4 1))))) hc hNW (kX1_minus l (fX1_times (M.1 4 3) (fX1_plus 10007 (fX1_times (M.1 4 0) (M.1 q1 1)))) (fX1_times (M.1 q1 10) (fX1_times (M.1 4 2) (M.1 4 1)))) cw159 rfl rfl (Nat.le_of_ble_eq_true rfl) dX4_solve_218 ?_
    refine wp_callVvw (As := [.int (fX1_minus (fX1_times (M.1 4 0) (fX1_plus 10007 (fX1_times (M.1 4 3) (M.1 q1 7)))) (fX1_times (M.1 q1 4) (fX1_times (M.1 4 2) (M.1 4 1)))), .int (fX1_times x2 (M.1 4 1)), .int (fX1_times x3 (M.1 4 2)), .int (fX1_minus (fX1_times (M.1 4 3) (fX1_plus 10007 (fX1_times (M.1 4 0) (M.1 q1 1)))) (fX1_times (M.1 q1 10) (fX1_times (M.1 4 2) (M.1 4 1))))]) (rest := []) (j := 8) (w := sX0_fill M 8 (fX1_minus (fX1_times (M.1 4 0) (fX1_plus 10007 (fX1_times (M.1 4 3) (M.1 q1 7)))) (fX1_times (M.1 q1 4) (fX1_times (M.1 4 2) (M.1 4 1)))) (fX1_times x2 (M.1 4 1)) (fX1_times x3 (M.1 4 2)) (fX1_minus (fX1_times (M.1 4 3) (fX1_plus 10007 (fX1_times (M.1 4 0) (M.1 q1 1)))) (fX1_times (M.1 q1 10) (fX1_times (M.1 4 2) (M.1 4 1))))) hc hx (kX0_fill l D cy z hz M 8 (fX1_minus (fX1_times (M.1 4 0) (fX1_plus 10007 (fX1_times (M.1 4 3) (M.1 q1 7)))) (fX1_times (M.1 q1 4) (fX1_times (M.1 4 2) (M.1 4 1)))) (fX1_times x2 (M.1 4 1)) (fX1_times x3 (M.1 4 2)) (fX1_minus (fX1_times (M.1 4 3) (fX1_plus 10007 (fX1_times (M.1 4 0) (M.1 q1 1)))) (fX1_times (M.1 q1 10) (fX1_times (M.1 4 2) (M.1 4 1)))) (by decide) rfl) cw40 (by decide) (by decide) (ce_0 rfl) rfl rfl rfl rfl (Nat.le_of_ble_eq_true rfl) dX4_solve_221 (fun M4 hM4 => ?_)
    refine wp_aload_n hc 6 dX4_solve_224 rfl ?_
    refine wp_get hc hx hin4 (j := 1) (by decide) (by decide) (ce_3 rfl) rfl 6 (by decide) hf33 rfl dX4_solve_225 ?_
    refine wp_iload hc 2 dX4_solve_228 rfl ?_
    refine wp_callVvw (As := [.int x1]) (rest := []) (j := 8) (w := sX0_divideBy M4 8 x1) hc hx (kX0_divideBy l D cy z hz M4 8 x1 (by decide) rfl) cw178 (by decide) (by decide) (ce_0 rfl) rfl rfl rfl rfl (Nat.le_of_ble_eq_true rfl) dX4_solve_230 (fun M5 hM5 => ?_)
    refine wp_iconst (v := 1) hc dX4_solve_233 (by decide) ?_
    refine wp_zret hc hr hk rfl ?_ dX4_solve_234
    show (1, M5) = sX4_solve M q1
    rw [sX4_solve, tk_eq hx1, if_neg c87, tk_eq hx2, tk_eq hx3, tk_eq hM4, tk_eq hM5]
  refine wp_iconst (v := 0) hc dX4_solve_90 (by decide) ?_
  refine wp_zret hc hr hk rfl ?_ dX4_solve_91
  show (0, M) = sX4_solve M q1
  rw [sX4_solve, tk_eq hx1, if_pos c87]
set_option maxRecDepth 10000 in
theorem kfX4_solve (M : Mem) (q1 : Nat) : KF2 (fun x => 2 ≤ x ∧ x ≤ 9) M (sX4_solve M q1) := by
  unfold sX4_solve
  refine tk_ind (P := KF2 (fun x => 2 ≤ x ∧ x ≤ 9) M) _ _ (fun x1 hx1 => ?_)
  refine ite_ind (P := KF2 (fun x => 2 ≤ x ∧ x ≤ 9) M) (fun c1 => ?_) (fun c1 => ?_)
  · exact (show KF (fun x => 2 ≤ x ∧ x ≤ 9) M M from KF.rf)
  · refine tk_ind (P := KF2 (fun x => 2 ≤ x ∧ x ≤ 9) M) _ _ (fun x2 hx2 => ?_)
    refine tk_ind (P := KF2 (fun x => 2 ≤ x ∧ x ≤ 9) M) _ _ (fun x3 hx3 => ?_)
    refine tk_ind (P := KF2 (fun x => 2 ≤ x ∧ x ≤ 9) M) _ _ (fun M4 hM4 => ?_)
    have k2 : KF (fun x => 2 ≤ x ∧ x ≤ 9) M M4 := by rw [hM4]; exact KF.mono (kfX0_fill _ _ _ _ _ _) (fun x h => by first | exact h | ((try dsimp only at h ⊢); omega))
    refine tk_ind (P := KF2 (fun x => 2 ≤ x ∧ x ≤ 9) M) _ _ (fun M5 hM5 => ?_)
    have k3 : KF (fun x => 2 ≤ x ∧ x ≤ 9) M4 M5 := by rw [hM5]; exact KF.mono (kfX0_divideBy _ _ _) (fun x h => by first | exact h | ((try dsimp only at h ⊢); omega))
    exact (show KF (fun x => 2 ≤ x ∧ x ≤ 9) M M5 from KF.trans k2 (k3))
theorem bX4_solve (M : Mem) (q1 : Nat) : B01 (sX4_solve M q1) := by
  unfold sX4_solve
  refine tk_ind (P := B01) _ _ (fun x1 hx1 => ?_)
  refine ite_ind (P := B01) (fun _ => ?_) (fun _ => ?_)
  · exact (show _ ∨ _ from Or.inl rfl)
  · refine tk_ind (P := B01) _ _ (fun x2 hx2 => ?_)
    refine tk_ind (P := B01) _ _ (fun x3 hx3 => ?_)
    refine tk_ind (P := B01) _ _ (fun M4 hM4 => ?_)
    refine tk_ind (P := B01) _ _ (fun M5 hM5 => ?_)
    exact (show _ ∨ _ from Or.inr rfl)
