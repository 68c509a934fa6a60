def fX6_in (i1 : Int32) (i2 : Int32) (i3 : Int32) : Int32 :=
  if i1 < i2 then
  0
  else
  if i3 < i1 then
  0
  else
  1
set_option maxHeartbeats 4000000 in
set_option maxRecDepth 100000 in
theorem kX6_in (l : Launch) (i1 : Int32) (i2 : Int32) (i3 : Int32) : KS l yX6_in wsX6_in { frames := 0, cells := 0, slots := 0, locals := 0 } [.int i1, .int i2, .int i3] (fun r => r = fX6_in i1 i2 i3) := by
  refine met_ws (lv := [(0, .int i1), (1, .int i2), (2, .int i3)]) ((fun _ _ => 0, fun _ => 0, 0) : Mem) (by decide) rfl rfl (Nat.le_of_ble_eq_true rfl) rfl ?_
  intro p e s m below meth c hc hNW hr hk
  generalize ((fun _ _ => 0, fun _ => 0, 0) : Mem) = M
  refine wp_iload_n hc 0 dX6_in_0 rfl ?_
  refine wp_iload_n hc 1 dX6_in_1 rfl ?_
  refine wp_icmp_lt (tgt := 14) hc dX6_in_2 (by decide) (fun c2 => ?_) (fun c2 => ?_)
  · refine wp_iconst (v := 0) hc dX6_in_14 (by decide) ?_
    refine ws_zret hc hr hk rfl ?_ dX6_in_15
    show 0 = fX6_in i1 i2 i3
    rw [fX6_in, if_pos c2]
  refine wp_iload_n hc 0 dX6_in_5 rfl ?_
  refine wp_iload_n hc 2 dX6_in_6 rfl ?_
  refine wp_icmp_gt (tgt := 14) hc dX6_in_7 (by decide) (fun c7 => ?_) (fun c7 => ?_)
  · refine wp_iconst (v := 0) hc dX6_in_14 (by decide) ?_
    refine ws_zret hc hr hk rfl ?_ dX6_in_15
    show 0 = fX6_in i1 i2 i3
    rw [fX6_in, if_neg c2, if_pos c7]
  refine wp_iconst (v := 1) hc dX6_in_10 (by decide) ?_
  refine wp_goto (tgt := 15) hc dX6_in_11 (by decide) ?_
  refine ws_zret hc hr hk rfl ?_ dX6_in_15
  show 1 = fX6_in i1 i2 i3
  rw [fX6_in, if_neg c2, if_neg c7]
theorem bX6_in (i1 : Int32) (i2 : Int32) (i3 : Int32) : fX6_in i1 i2 i3 = 0 ∨ fX6_in i1 i2 i3 = 1 := by
  unfold fX6_in
  (repeat' split) <;> first | exact Or.inl rfl | exact Or.inr rfl
def fX6_restOf (i1 : Int32) : Int32 :=
  if 0 ≤ (rem i1 10007) then
  (rem i1 10007)
  else
  ((rem i1 10007) + 10007)
set_option maxHeartbeats 4000000 in
set_option maxRecDepth 100000 in
theorem kX6_restOf (l : Launch) (i1 : Int32) : KS l yX6_restOf wsX6_restOf { frames := 0, cells := 0, slots := 0, locals := 0 } [.int i1] (fun r => r = fX6_restOf i1) := by
  refine met_ws (lv := [(0, .int i1)]) ((fun _ _ => 0, fun _ => 0, 0) : Mem) (by decide) rfl rfl (Nat.le_of_ble_eq_true rfl) rfl ?_
  intro p e s m below meth c hc hNW hr hk
  generalize ((fun _ _ => 0, fun _ => 0, 0) : Mem) = M
  refine wp_iload_n hc 0 dX6_restOf_0 rfl ?_
  refine wp_sipush (v := 10007) hc dX6_restOf_1 (by decide) ?_
  refine wp_iremR hc dX6_restOf_4 (by decide) ?_
  refine wp_istore_n (lv' := [(1, .int (rem i1 10007)), (0, .int i1)]) hc dX6_restOf_5 (by decide) rfl ?_
  refine wp_iload_n hc 0 dX6_restOf_6 rfl ?_
  refine wp_if_ge (tgt := 18) hc dX6_restOf_7 (by decide) (fun c7 => ?_) (fun c7 => ?_)
  · refine wp_iload_n hc 0 dX6_restOf_18 rfl ?_
    refine ws_iret hc hr hk ?_ dX6_restOf_19
    show (rem i1 10007) = fX6_restOf i1
    rw [fX6_restOf, if_pos c7]
  refine wp_iload_n hc 0 dX6_restOf_10 rfl ?_
  refine wp_sipush (v := 10007) hc dX6_restOf_11 (by decide) ?_
  refine wp_iadd hc dX6_restOf_14 ?_
  refine wp_goto (tgt := 19) hc dX6_restOf_15 (by decide) ?_
  refine ws_iret hc hr hk ?_ dX6_restOf_19
  show ((rem i1 10007) + 10007) = fX6_restOf i1
  rw [fX6_restOf, if_neg c7]
def fX6_number (i1 : Int32) (i2 : Int32) : Int32 :=
  ((10007 * (fX6_restOf i1)) + (fX6_restOf i2))
set_option maxHeartbeats 4000000 in
set_option maxRecDepth 100000 in
theorem kX6_number (l : Launch) (i1 : Int32) (i2 : Int32) : KS l yX6_number wsX6_number { frames := 1, cells := 0, slots := 0, locals := 21 } [.int i1, .int i2] (fun r => r = fX6_number i1 i2) := by
  refine met_ws (lv := [(0, .int i1), (1, .int i2)]) ((fun _ _ => 0, fun _ => 0, 0) : Mem) (by decide) rfl rfl (Nat.le_of_ble_eq_true rfl) rfl ?_
  intro p e s m below meth c hc hNW hr hk
  generalize ((fun _ _ => 0, fun _ => 0, 0) : Mem) = M
  have cw60 : CallB ({ frames := 1, cells := 0, slots := 0, locals := 21 }) s _ RX6 60 yX6_restOf cX6_restOf 2 (some .int) wsX6_restOf ({ frames := 0, cells := 0, slots := 0, locals := 0 }) 0 0 1 ∧ (Cond.static yX6_restOf).before _ s = true := va_cwS 1 hc.2.2.2.2 gX6_number_X6_restOf rfl rfl rfl (by decide +kernel) ⟨Nat.le_of_ble_eq_true rfl, Nat.le_of_ble_eq_true rfl⟩
  refine wp_sipush (v := 10007) hc dX6_number_0 (by decide) ?_
  refine wp_iload_n hc 0 dX6_number_3 rfl ?_
  refine wp_callSg (As := [.int i1]) (rest := [.int 10007]) (v := (fX6_restOf i1)) hc hNW (kX6_restOf l i1) cw60 rfl rfl (Nat.le_of_ble_eq_true rfl) dX6_number_4 ?_
  refine wp_imul hc dX6_number_7 ?_
  refine wp_iload_n hc 1 dX6_number_8 rfl ?_
  refine wp_callSg (As := [.int i2]) (rest := [.int (10007 * (fX6_restOf i1))]) (v := (fX6_restOf i2)) hc hNW (kX6_restOf l i2) cw60 rfl rfl (Nat.le_of_ble_eq_true rfl) dX6_number_9 ?_
  refine wp_iadd hc dX6_number_12 ?_
  refine ws_iret hc hr hk ?_ dX6_number_13
  show ((10007 * (fX6_restOf i1)) + (fX6_restOf i2)) = fX6_number i1 i2
  rw [fX6_number]
def fX6_plus (i1 : Int32) (i2 : Int32) : Int32 :=
  (fX6_number ((i1 / 10007) + (i2 / 10007)) ((rem i1 10007) + (rem i2 10007)))
set_option maxHeartbeats 4000000 in
set_option maxRecDepth 100000 in
theorem kX6_plus (l : Launch) (i1 : Int32) (i2 : Int32) : KS l yX6_plus wsX6_plus { frames := 2, cells := 0, slots := 0, locals := 42 } [.int i1, .int i2] (fun r => r = fX6_plus i1 i2) := by
  refine met_ws (lv := [(0, .int i1), (1, .int i2)]) ((fun _ _ => 0, fun _ => 0, 0) : Mem) (by decide) rfl rfl (Nat.le_of_ble_eq_true rfl) rfl ?_
  intro p e s m below meth c hc hNW hr hk
  generalize ((fun _ _ => 0, fun _ => 0, 0) : Mem) = M
  have cw64 : CallB ({ frames := 2, cells := 0, slots := 0, locals := 42 }) s _ RX6 64 yX6_number cX6_number 2 (some .int) wsX6_number ({ frames := 1, cells := 0, slots := 0, locals := 21 }) 0 0 2 ∧ (Cond.static yX6_number).before _ s = true := va_cwS 2 hc.2.2.2.2 gX6_plus_X6_number rfl rfl rfl (by decide +kernel) ⟨Nat.le_of_ble_eq_true rfl, Nat.le_of_ble_eq_true rfl⟩
  refine wp_iload_n hc 0 dX6_plus_0 rfl ?_
  refine wp_sipush (v := 10007) hc dX6_plus_1 (by decide) ?_
  refine wp_idiv hc dX6_plus_4 (by decide) ?_
  refine wp_iload_n hc 1 dX6_plus_5 rfl ?_
  refine wp_sipush (v := 10007) hc dX6_plus_6 (by decide) ?_
  refine wp_idiv hc dX6_plus_9 (by decide) ?_
  refine wp_iadd hc dX6_plus_10 ?_
  refine wp_iload_n hc 0 dX6_plus_11 rfl ?_
  refine wp_sipush (v := 10007) hc dX6_plus_12 (by decide) ?_
  refine wp_iremR hc dX6_plus_15 (by decide) ?_
  refine wp_iload_n hc 1 dX6_plus_16 rfl ?_
  refine wp_sipush (v := 10007) hc dX6_plus_17 (by decide) ?_
  refine wp_iremR hc dX6_plus_20 (by decide) ?_
  refine wp_iadd hc dX6_plus_21 ?_
  refine wp_callSg (As := [.int ((i1 / 10007) + (i2 / 10007)), .int ((rem i1 10007) + (rem i2 10007))]) (rest := []) (v := (fX6_number ((i1 / 10007) + (i2 / 10007)) ((rem i1 10007) + (rem i2 10007)))) hc hNW (kX6_number l ((i1 / 10007) + (i2 / 10007)) ((rem i1 10007) + (rem i2 10007))) cw64 rfl rfl (Nat.le_of_ble_eq_true rfl) dX6_plus_22 ?_
  refine ws_iret hc hr hk ?_ dX6_plus_25
  show (fX6_number ((i1 / 10007) + (i2 / 10007)) ((rem i1 10007) + (rem i2 10007))) = fX6_plus i1 i2
  rw [fX6_plus]
def fX6_less (i1 : Int32) (i2 : Int32) : Int32 :=
  (fX6_number ((i1 / 10007) - (i2 / 10007)) ((rem i1 10007) - (rem i2 10007)))
set_option maxHeartbeats 4000000 in
set_option maxRecDepth 100000 in
theorem kX6_less (l : Launch) (i1 : Int32) (i2 : Int32) : KS l yX6_less wsX6_less { frames := 2, cells := 0, slots := 0, locals := 42 } [.int i1, .int i2] (fun r => r = fX6_less i1 i2) := by
  refine met_ws (lv := [(0, .int i1), (1, .int i2)]) ((fun _ _ => 0, fun _ => 0, 0) : Mem) (by decide) rfl rfl (Nat.le_of_ble_eq_true rfl) rfl ?_
  intro p e s m below meth c hc hNW hr hk
  generalize ((fun _ _ => 0, fun _ => 0, 0) : Mem) = M
  have cw64 : CallB ({ frames := 2, cells := 0, slots := 0, locals := 42 }) s _ RX6 64 yX6_number cX6_number 2 (some .int) wsX6_number ({ frames := 1, cells := 0, slots := 0, locals := 21 }) 0 0 2 ∧ (Cond.static yX6_number).before _ s = true := va_cwS 2 hc.2.2.2.2 gX6_less_X6_number rfl rfl rfl (by decide +kernel) ⟨Nat.le_of_ble_eq_true rfl, Nat.le_of_ble_eq_true rfl⟩
  refine wp_iload_n hc 0 dX6_less_0 rfl ?_
  refine wp_sipush (v := 10007) hc dX6_less_1 (by decide) ?_
  refine wp_idiv hc dX6_less_4 (by decide) ?_
  refine wp_iload_n hc 1 dX6_less_5 rfl ?_
  refine wp_sipush (v := 10007) hc dX6_less_6 (by decide) ?_
  refine wp_idiv hc dX6_less_9 (by decide) ?_
  refine wp_isub hc dX6_less_10 ?_
  refine wp_iload_n hc 0 dX6_less_11 rfl ?_
  refine wp_sipush (v := 10007) hc dX6_less_12 (by decide) ?_
  refine wp_iremR hc dX6_less_15 (by decide) ?_
  refine wp_iload_n hc 1 dX6_less_16 rfl ?_
  refine wp_sipush (v := 10007) hc dX6_less_17 (by decide) ?_
  refine wp_iremR hc dX6_less_20 (by decide) ?_
  refine wp_isub hc dX6_less_21 ?_
  refine wp_callSg (As := [.int ((i1 / 10007) - (i2 / 10007)), .int ((rem i1 10007) - (rem i2 10007))]) (rest := []) (v := (fX6_number ((i1 / 10007) - (i2 / 10007)) ((rem i1 10007) - (rem i2 10007)))) hc hNW (kX6_number l ((i1 / 10007) - (i2 / 10007)) ((rem i1 10007) - (rem i2 10007))) cw64 rfl rfl (Nat.le_of_ble_eq_true rfl) dX6_less_22 ?_
  refine ws_iret hc hr hk ?_ dX6_less_25
  show (fX6_number ((i1 / 10007) - (i2 / 10007)) ((rem i1 10007) - (rem i2 10007))) = fX6_less i1 i2
  rw [fX6_less]
def fX6_by (i1 : Int32) (i2 : Int32) : Int32 :=
  (fX6_number ((rem ((i1 / 10007) * (i2 / 10007)) 10007) - (rem ((rem i1 10007) * (rem i2 10007)) 10007)) ((rem ((i1 / 10007) * (rem i2 10007)) 10007) + (rem ((rem i1 10007) * (i2 / 10007)) 10007)))
set_option maxHeartbeats 4000000 in
set_option maxRecDepth 100000 in
theorem kX6_by (l : Launch) (i1 : Int32) (i2 : Int32) : KS l yX6_by wsX6_by { frames := 2, cells := 0, slots := 0, locals := 42 } [.int i1, .int i2] (fun r => r = fX6_by i1 i2) := by
  refine met_ws (lv := [(0, .int i1), (1, .int i2)]) ((fun _ _ => 0, fun _ => 0, 0) : Mem) (by decide) rfl rfl (Nat.le_of_ble_eq_true rfl) rfl ?_
  intro p e s m below meth c hc hNW hr hk
  generalize ((fun _ _ => 0, fun _ => 0, 0) : Mem) = M
  have cw64 : CallB ({ frames := 2, cells := 0, slots := 0, locals := 42 }) s _ RX6 64 yX6_number cX6_number 2 (some .int) wsX6_number ({ frames := 1, cells := 0, slots := 0, locals := 21 }) 0 0 2 ∧ (Cond.static yX6_number).before _ s = true := va_cwS 2 hc.2.2.2.2 gX6_by_X6_number rfl rfl rfl (by decide +kernel) ⟨Nat.le_of_ble_eq_true rfl, Nat.le_of_ble_eq_true rfl⟩
  refine wp_iload_n hc 0 dX6_by_0 rfl ?_
  refine wp_sipush (v := 10007) hc dX6_by_1 (by decide) ?_
  refine wp_idiv hc dX6_by_4 (by decide) ?_
  refine wp_istore_n (lv' := [(2, .int (i1 / 10007)), (0, .int i1), (1, .int i2)]) hc dX6_by_5 (by decide) rfl ?_
  refine wp_iload_n hc 1 dX6_by_6 rfl ?_
  refine wp_sipush (v := 10007) hc dX6_by_7 (by decide) ?_
  refine wp_iremR hc dX6_by_10 (by decide) ?_
  refine wp_istore_n (lv' := [(3, .int (rem i1 10007)), (2, .int (i1 / 10007)), (0, .int i1), (1, .int i2)]) hc dX6_by_11 (by decide) rfl ?_
  refine wp_iload_n hc 3 dX6_by_12 rfl ?_
  refine wp_sipush (v := 10007) hc dX6_by_13 (by decide) ?_
  refine wp_idiv hc dX6_by_16 (by decide) ?_
  refine wp_istore (lv' := [(4, .int (i2 / 10007)), (3, .int (rem i1 10007)), (2, .int (i1 / 10007)), (0, .int i1), (1, .int i2)]) hc dX6_by_17 (by decide) rfl ?_
  refine wp_iload_n hc 4 dX6_by_19 rfl ?_
  refine wp_sipush (v := 10007) hc dX6_by_20 (by decide) ?_
  refine wp_iremR hc dX6_by_23 (by decide) ?_
  refine wp_istore (lv' := [(5, .int (rem i2 10007)), (4, .int (i2 / 10007)), (3, .int (rem i1 10007)), (2, .int (i1 / 10007)), (0, .int i1), (1, .int i2)]) hc dX6_by_24 (by decide) rfl ?_
  refine wp_iload_n hc 3 dX6_by_26 rfl ?_
  refine wp_iload hc 1 dX6_by_27 rfl ?_
  refine wp_imul hc dX6_by_29 ?_
  refine wp_sipush (v := 10007) hc dX6_by_30 (by decide) ?_
  refine wp_iremR hc dX6_by_33 (by decide) ?_
  refine wp_iload_n hc 2 dX6_by_34 rfl ?_
  refine wp_iload hc 0 dX6_by_35 rfl ?_
  refine wp_imul hc dX6_by_37 ?_
  refine wp_sipush (v := 10007) hc dX6_by_38 (by decide) ?_
  refine wp_iremR hc dX6_by_41 (by decide) ?_
  refine wp_isub hc dX6_by_42 ?_
  refine wp_iload_n hc 3 dX6_by_43 rfl ?_
  refine wp_iload hc 0 dX6_by_44 rfl ?_
  refine wp_imul hc dX6_by_46 ?_
  refine wp_sipush (v := 10007) hc dX6_by_47 (by decide) ?_
  refine wp_iremR hc dX6_by_50 (by decide) ?_
  refine wp_iload_n hc 2 dX6_by_51 rfl ?_
  refine wp_iload hc 1 dX6_by_52 rfl ?_
  refine wp_imul hc dX6_by_54 ?_
  refine wp_sipush (v := 10007) hc dX6_by_55 (by decide) ?_
  refine wp_iremR hc dX6_by_58 (by decide) ?_
  refine wp_iadd hc dX6_by_59 ?_
  refine wp_callSg (As := [.int ((rem ((i1 / 10007) * (i2 / 10007)) 10007) - (rem ((rem i1 10007) * (rem i2 10007)) 10007)), .int ((rem ((i1 / 10007) * (rem i2 10007)) 10007) + (rem ((rem i1 10007) * (i2 / 10007)) 10007))]) (rest := []) (v := (fX6_number ((rem ((i1 / 10007) * (i2 / 10007)) 10007) - (rem ((rem i1 10007) * (rem i2 10007)) 10007)) ((rem ((i1 / 10007) * (rem i2 10007)) 10007) + (rem ((rem i1 10007) * (i2 / 10007)) 10007)))) hc hNW (kX6_number l ((rem ((i1 / 10007) * (i2 / 10007)) 10007) - (rem ((rem i1 10007) * (rem i2 10007)) 10007)) ((rem ((i1 / 10007) * (rem i2 10007)) 10007) + (rem ((rem i1 10007) * (i2 / 10007)) 10007))) cw64 rfl rfl (Nat.le_of_ble_eq_true rfl) dX6_by_60 ?_
  refine ws_iret hc hr hk ?_ dX6_by_63
  show (fX6_number ((rem ((i1 / 10007) * (i2 / 10007)) 10007) - (rem ((rem i1 10007) * (rem i2 10007)) 10007)) ((rem ((i1 / 10007) * (rem i2 10007)) 10007) + (rem ((rem i1 10007) * (i2 / 10007)) 10007))) = fX6_by i1 i2
  rw [fX6_by]
def fX6_otherOf (i1 : Int32) : Int32 :=
  (fX6_number (i1 / 10007) (-(rem i1 10007)))
set_option maxHeartbeats 4000000 in
set_option maxRecDepth 100000 in
theorem kX6_otherOf (l : Launch) (i1 : Int32) : KS l yX6_otherOf wsX6_otherOf { frames := 2, cells := 0, slots := 0, locals := 42 } [.int i1] (fun r => r = fX6_otherOf i1) := by
  refine met_ws (lv := [(0, .int i1)]) ((fun _ _ => 0, fun _ => 0, 0) : Mem) (by decide) rfl rfl (Nat.le_of_ble_eq_true rfl) rfl ?_
  intro p e s m below meth c hc hNW hr hk
  generalize ((fun _ _ => 0, fun _ => 0, 0) : Mem) = M
  have cw64 : CallB ({ frames := 2, cells := 0, slots := 0, locals := 42 }) s _ RX6 64 yX6_number cX6_number 2 (some .int) wsX6_number ({ frames := 1, cells := 0, slots := 0, locals := 21 }) 0 0 2 ∧ (Cond.static yX6_number).before _ s = true := va_cwS 2 hc.2.2.2.2 gX6_otherOf_X6_number rfl rfl rfl (by decide +kernel) ⟨Nat.le_of_ble_eq_true rfl, Nat.le_of_ble_eq_true rfl⟩
  refine wp_iload_n hc 0 dX6_otherOf_0 rfl ?_
  refine wp_sipush (v := 10007) hc dX6_otherOf_1 (by decide) ?_
  refine wp_idiv hc dX6_otherOf_4 (by decide) ?_
  refine wp_iload_n hc 0 dX6_otherOf_5 rfl ?_
  refine wp_sipush (v := 10007) hc dX6_otherOf_6 (by decide) ?_
  refine wp_iremR hc dX6_otherOf_9 (by decide) ?_
  refine wp_ineg hc dX6_otherOf_10 ?_
  refine wp_callSg (As := [.int (i1 / 10007), .int (-(rem i1 10007))]) (rest := []) (v := (fX6_number (i1 / 10007) (-(rem i1 10007)))) hc hNW (kX6_number l (i1 / 10007) (-(rem i1 10007))) cw64 rfl rfl (Nat.le_of_ble_eq_true rfl) dX6_otherOf_11 ?_
  refine ws_iret hc hr hk ?_ dX6_otherOf_14
  show (fX6_number (i1 / 10007) (-(rem i1 10007))) = fX6_otherOf i1
  rw [fX6_otherOf]
def fX6_inverse (i1 : Int32) : Int32 :=
  tk ((rem ((rem (i1 * i1) 10007) * (rem (i1 * i1) 10007)) 10007)) fun x1 =>
  tk ((rem ((rem (1 * i1) 10007) * x1) 10007)) fun x2 =>
  tk ((rem ((rem (x1 * x1) 10007) * (rem (x1 * x1) 10007)) 10007)) fun x3 =>
  tk ((rem ((rem (x3 * x3) 10007) * (rem (x3 * x3) 10007)) 10007)) fun x4 =>
  tk ((rem ((rem (x4 * x4) 10007) * (rem (x4 * x4) 10007)) 10007)) fun x5 =>
  tk ((rem ((rem (x2 * x3) 10007) * x5) 10007)) fun x6 =>
  tk ((rem (x6 * (rem (x5 * x5) 10007)) 10007)) fun x7 =>
  tk ((rem ((rem (x5 * x5) 10007) * (rem (x5 * x5) 10007)) 10007)) fun x8 =>
  tk ((rem ((rem (x8 * x8) 10007) * (rem (x8 * x8) 10007)) 10007)) fun x9 =>
  tk ((rem ((rem (x7 * x8) 10007) * (rem (x9 * x9) 10007)) 10007)) fun x10 =>
  tk ((rem ((rem (x9 * x9) 10007) * (rem (x9 * x9) 10007)) 10007)) fun x11 =>
  x10
set_option maxHeartbeats 4000000 in
set_option maxRecDepth 100000 in
theorem kX6_inverse (l : Launch) (i1 : Int32) : KS l yX6_inverse wsX6_inverse { frames := 0, cells := 0, slots := 0, locals := 0 } [.int i1] (fun r => r = fX6_inverse i1) := by
  refine met_ws (lv := [(0, .int i1)]) ((fun _ _ => 0, fun _ => 0, 0) : Mem) (by decide) rfl rfl (Nat.le_of_ble_eq_true rfl) rfl ?_
  intro p e s m below meth c hc hNW hr hk
  generalize ((fun _ _ => 0, fun _ => 0, 0) : Mem) = M
  refine wp_iconst (v := 1) hc dX6_inverse_0 (by decide) ?_
  refine wp_istore_n (lv' := [(1, .int 1), (0, .int i1)]) hc dX6_inverse_1 (by decide) rfl ?_
  refine wp_iload_n hc 1 dX6_inverse_2 rfl ?_
  refine wp_istore_n (lv' := [(2, .int i1), (1, .int 1), (0, .int i1)]) hc dX6_inverse_3 (by decide) rfl ?_
  refine wp_sipush (v := 10005) hc dX6_inverse_4 (by decide) ?_
  refine wp_istore_n (lv' := [(3, .int 10005), (2, .int i1), (1, .int 1), (0, .int i1)]) hc dX6_inverse_7 (by decide) rfl ?_
  refine wp_iload_n hc 0 dX6_inverse_8 rfl ?_
  refine wp_if_le (tgt := 46) hc dX6_inverse_9 (by decide) (fun c => absurd c (by decide)) (fun _ => ?_)
  refine wp_iload_n hc 0 dX6_inverse_12 rfl ?_
  refine wp_iconst (v := 2) hc dX6_inverse_13 (by decide) ?_
  refine wp_iremR hc dX6_inverse_14 (by decide) ?_
  refine wp_cvt (v := 1) (by decide) ?_
  refine wp_iconst (v := 1) hc dX6_inverse_15 (by decide) ?_
  refine wp_icmp_ne (tgt := 29) hc dX6_inverse_16 (by decide) (fun c => absurd c (by decide)) (fun _ => ?_)
  refine wp_iload_n hc 2 dX6_inverse_19 rfl ?_
  refine wp_iload_n hc 1 dX6_inverse_20 rfl ?_
  refine wp_imul hc dX6_inverse_21 ?_
  refine wp_sipush (v := 10007) hc dX6_inverse_22 (by decide) ?_
  refine wp_iremR hc dX6_inverse_25 (by decide) ?_
  refine wp_goto (tgt := 30) hc dX6_inverse_26 (by decide) ?_
  refine wp_istore_n (lv' := [(1, .int (rem (1 * i1) 10007)), (3, .int 10005), (2, .int i1), (0, .int i1)]) hc dX6_inverse_30 (by decide) rfl ?_
  refine wp_iload_n hc 2 dX6_inverse_31 rfl ?_
  refine wp_iload_n hc 2 dX6_inverse_32 rfl ?_
  refine wp_imul hc dX6_inverse_33 ?_
  refine wp_sipush (v := 10007) hc dX6_inverse_34 (by decide) ?_
  refine wp_iremR hc dX6_inverse_37 (by decide) ?_
  refine wp_istore_n (lv' := [(2, .int (rem (i1 * i1) 10007)), (1, .int (rem (1 * i1) 10007)), (3, .int 10005), (0, .int i1)]) hc dX6_inverse_38 (by decide) rfl ?_
  refine wp_iload_n hc 2 dX6_inverse_39 rfl ?_
  refine wp_iconst (v := 2) hc dX6_inverse_40 (by decide) ?_
  refine wp_idiv hc dX6_inverse_41 (by decide) ?_
  refine wp_cvt (v := 5002) (by decide) ?_
  refine wp_istore_n (lv' := [(3, .int 5002), (2, .int (rem (i1 * i1) 10007)), (1, .int (rem (1 * i1) 10007)), (0, .int i1)]) hc dX6_inverse_42 (by decide) rfl ?_
  refine wp_goto (tgt := 8) hc dX6_inverse_43 (by decide) ?_
  refine wp_iload_n hc 0 dX6_inverse_8 rfl ?_
  refine wp_if_le (tgt := 46) hc dX6_inverse_9 (by decide) (fun c => absurd c (by decide)) (fun _ => ?_)
  refine wp_iload_n hc 0 dX6_inverse_12 rfl ?_
  refine wp_iconst (v := 2) hc dX6_inverse_13 (by decide) ?_
  refine wp_iremR hc dX6_inverse_14 (by decide) ?_
  refine wp_cvt (v := 0) (by decide) ?_
  refine wp_iconst (v := 1) hc dX6_inverse_15 (by decide) ?_
  refine wp_icmp_ne (tgt := 29) hc dX6_inverse_16 (by decide) (fun _ => ?_) (fun c => absurd c (by decide))
  refine wp_iload_n hc 2 dX6_inverse_29 rfl ?_
  refine wp_istore_n (lv' := [(1, .int (rem (1 * i1) 10007)), (3, .int 5002), (2, .int (rem (i1 * i1) 10007)), (0, .int i1)]) hc dX6_inverse_30 (by decide) rfl ?_
  refine wp_iload_n hc 2 dX6_inverse_31 rfl ?_
  refine wp_iload_n hc 2 dX6_inverse_32 rfl ?_
  refine wp_imul hc dX6_inverse_33 ?_
  refine wp_sipush (v := 10007) hc dX6_inverse_34 (by decide) ?_
  refine wp_iremR hc dX6_inverse_37 (by decide) ?_
  refine wp_topi (fun x1 hx1 => ?_)
  refine wp_istore_n (lv' := [(2, .int x1), (1, .int (rem (1 * i1) 10007)), (3, .int 5002), (0, .int i1)]) hc dX6_inverse_38 (by decide) rfl ?_
  refine wp_iload_n hc 2 dX6_inverse_39 rfl ?_
  refine wp_iconst (v := 2) hc dX6_inverse_40 (by decide) ?_
  refine wp_idiv hc dX6_inverse_41 (by decide) ?_
  refine wp_cvt (v := 2501) (by decide) ?_
  refine wp_istore_n (lv' := [(3, .int 2501), (2, .int x1), (1, .int (rem (1 * i1) 10007)), (0, .int i1)]) hc dX6_inverse_42 (by decide) rfl ?_
  refine wp_goto (tgt := 8) hc dX6_inverse_43 (by decide) ?_
  refine wp_iload_n hc 0 dX6_inverse_8 rfl ?_
  refine wp_if_le (tgt := 46) hc dX6_inverse_9 (by decide) (fun c => absurd c (by decide)) (fun _ => ?_)
  refine wp_iload_n hc 0 dX6_inverse_12 rfl ?_
  refine wp_iconst (v := 2) hc dX6_inverse_13 (by decide) ?_
  refine wp_iremR hc dX6_inverse_14 (by decide) ?_
  refine wp_cvt (v := 1) (by decide) ?_
  refine wp_iconst (v := 1) hc dX6_inverse_15 (by decide) ?_
  refine wp_icmp_ne (tgt := 29) hc dX6_inverse_16 (by decide) (fun c => absurd c (by decide)) (fun _ => ?_)
  refine wp_iload_n hc 2 dX6_inverse_19 rfl ?_
  refine wp_iload_n hc 1 dX6_inverse_20 rfl ?_
  refine wp_imul hc dX6_inverse_21 ?_
  refine wp_sipush (v := 10007) hc dX6_inverse_22 (by decide) ?_
  refine wp_iremR hc dX6_inverse_25 (by decide) ?_
  refine wp_goto (tgt := 30) hc dX6_inverse_26 (by decide) ?_
  refine wp_topi (fun x2 hx2 => ?_)
  refine wp_istore_n (lv' := [(1, .int x2), (3, .int 2501), (2, .int x1), (0, .int i1)]) hc dX6_inverse_30 (by decide) rfl ?_
  refine wp_iload_n hc 2 dX6_inverse_31 rfl ?_
  refine wp_iload_n hc 2 dX6_inverse_32 rfl ?_
  refine wp_imul hc dX6_inverse_33 ?_
  refine wp_sipush (v := 10007) hc dX6_inverse_34 (by decide) ?_
  refine wp_iremR hc dX6_inverse_37 (by decide) ?_
  refine wp_istore_n (lv' := [(2, .int (rem (x1 * x1) 10007)), (1, .int x2), (3, .int 2501), (0, .int i1)]) hc dX6_inverse_38 (by decide) rfl ?_
  refine wp_iload_n hc 2 dX6_inverse_39 rfl ?_
  refine wp_iconst (v := 2) hc dX6_inverse_40 (by decide) ?_
  refine wp_idiv hc dX6_inverse_41 (by decide) ?_
  refine wp_cvt (v := 1250) (by decide) ?_
  refine wp_istore_n (lv' := [(3, .int 1250), (2, .int (rem (x1 * x1) 10007)), (1, .int x2), (0, .int i1)]) hc dX6_inverse_42 (by decide) rfl ?_
  refine wp_goto (tgt := 8) hc dX6_inverse_43 (by decide) ?_
  refine wp_iload_n hc 0 dX6_inverse_8 rfl ?_
  refine wp_if_le (tgt := 46) hc dX6_inverse_9 (by decide) (fun c => absurd c (by decide)) (fun _ => ?_)
  refine wp_iload_n hc 0 dX6_inverse_12 rfl ?_
  refine wp_iconst (v := 2) hc dX6_inverse_13 (by decide) ?_
  refine wp_iremR hc dX6_inverse_14 (by decide) ?_
  refine wp_cvt (v := 0) (by decide) ?_
  refine wp_iconst (v := 1) hc dX6_inverse_15 (by decide) ?_
  refine wp_icmp_ne (tgt := 29) hc dX6_inverse_16 (by decide) (fun _ => ?_) (fun c => absurd c (by decide))
  refine wp_iload_n hc 2 dX6_inverse_29 rfl ?_
  refine wp_istore_n (lv' := [(1, .int x2), (3, .int 1250), (2, .int (rem (x1 * x1) 10007)), (0, .int i1)]) hc dX6_inverse_30 (by decide) rfl ?_
  refine wp_iload_n hc 2 dX6_inverse_31 rfl ?_
  refine wp_iload_n hc 2 dX6_inverse_32 rfl ?_
  refine wp_imul hc dX6_inverse_33 ?_
  refine wp_sipush (v := 10007) hc dX6_inverse_34 (by decide) ?_
  refine wp_iremR hc dX6_inverse_37 (by decide) ?_
  refine wp_topi (fun x3 hx3 => ?_)
  refine wp_istore_n (lv' := [(2, .int x3), (1, .int x2), (3, .int 1250), (0, .int i1)]) hc dX6_inverse_38 (by decide) rfl ?_
  refine wp_iload_n hc 2 dX6_inverse_39 rfl ?_
  refine wp_iconst (v := 2) hc dX6_inverse_40 (by decide) ?_
  refine wp_idiv hc dX6_inverse_41 (by decide) ?_
  refine wp_cvt (v := 625) (by decide) ?_
  refine wp_istore_n (lv' := [(3, .int 625), (2, .int x3), (1, .int x2), (0, .int i1)]) hc dX6_inverse_42 (by decide) rfl ?_
  refine wp_goto (tgt := 8) hc dX6_inverse_43 (by decide) ?_
  refine wp_iload_n hc 0 dX6_inverse_8 rfl ?_
  refine wp_if_le (tgt := 46) hc dX6_inverse_9 (by decide) (fun c => absurd c (by decide)) (fun _ => ?_)
  refine wp_iload_n hc 0 dX6_inverse_12 rfl ?_
  refine wp_iconst (v := 2) hc dX6_inverse_13 (by decide) ?_
  refine wp_iremR hc dX6_inverse_14 (by decide) ?_
  refine wp_cvt (v := 1) (by decide) ?_
  refine wp_iconst (v := 1) hc dX6_inverse_15 (by decide) ?_
  refine wp_icmp_ne (tgt := 29) hc dX6_inverse_16 (by decide) (fun c => absurd c (by decide)) (fun _ => ?_)
  refine wp_iload_n hc 2 dX6_inverse_19 rfl ?_
  refine wp_iload_n hc 1 dX6_inverse_20 rfl ?_
  refine wp_imul hc dX6_inverse_21 ?_
  refine wp_sipush (v := 10007) hc dX6_inverse_22 (by decide) ?_
  refine wp_iremR hc dX6_inverse_25 (by decide) ?_
  refine wp_goto (tgt := 30) hc dX6_inverse_26 (by decide) ?_
  refine wp_istore_n (lv' := [(1, .int (rem (x2 * x3) 10007)), (3, .int 625), (2, .int x3), (0, .int i1)]) hc dX6_inverse_30 (by decide) rfl ?_
  refine wp_iload_n hc 2 dX6_inverse_31 rfl ?_
  refine wp_iload_n hc 2 dX6_inverse_32 rfl ?_
  refine wp_imul hc dX6_inverse_33 ?_
  refine wp_sipush (v := 10007) hc dX6_inverse_34 (by decide) ?_
  refine wp_iremR hc dX6_inverse_37 (by decide) ?_
  refine wp_istore_n (lv' := [(2, .int (rem (x3 * x3) 10007)), (1, .int (rem (x2 * x3) 10007)), (3, .int 625), (0, .int i1)]) hc dX6_inverse_38 (by decide) rfl ?_
  refine wp_iload_n hc 2 dX6_inverse_39 rfl ?_
  refine wp_iconst (v := 2) hc dX6_inverse_40 (by decide) ?_
  refine wp_idiv hc dX6_inverse_41 (by decide) ?_
  refine wp_cvt (v := 312) (by decide) ?_
  refine wp_istore_n (lv' := [(3, .int 312), (2, .int (rem (x3 * x3) 10007)), (1, .int (rem (x2 * x3) 10007)), (0, .int i1)]) hc dX6_inverse_42 (by decide) rfl ?_
  refine wp_goto (tgt := 8) hc dX6_inverse_43 (by decide) ?_
  refine wp_iload_n hc 0 dX6_inverse_8 rfl ?_
  refine wp_if_le (tgt := 46) hc dX6_inverse_9 (by decide) (fun c => absurd c (by decide)) (fun _ => ?_)
  refine wp_iload_n hc 0 dX6_inverse_12 rfl ?_
  refine wp_iconst (v := 2) hc dX6_inverse_13 (by decide) ?_
  refine wp_iremR hc dX6_inverse_14 (by decide) ?_
  refine wp_cvt (v := 0) (by decide) ?_
  refine wp_iconst (v := 1) hc dX6_inverse_15 (by decide) ?_
  refine wp_icmp_ne (tgt := 29) hc dX6_inverse_16 (by decide) (fun _ => ?_) (fun c => absurd c (by decide))
  refine wp_iload_n hc 2 dX6_inverse_29 rfl ?_
  refine wp_istore_n (lv' := [(1, .int (rem (x2 * x3) 10007)), (3, .int 312), (2, .int (rem (x3 * x3) 10007)), (0, .int i1)]) hc dX6_inverse_30 (by decide) rfl ?_
  refine wp_iload_n hc 2 dX6_inverse_31 rfl ?_
  refine wp_iload_n hc 2 dX6_inverse_32 rfl ?_
  refine wp_imul hc dX6_inverse_33 ?_
  refine wp_sipush (v := 10007) hc dX6_inverse_34 (by decide) ?_
  refine wp_iremR hc dX6_inverse_37 (by decide) ?_
  refine wp_topi (fun x4 hx4 => ?_)
  refine wp_istore_n (lv' := [(2, .int x4), (1, .int (rem (x2 * x3) 10007)), (3, .int 312), (0, .int i1)]) hc dX6_inverse_38 (by decide) rfl ?_
  refine wp_iload_n hc 2 dX6_inverse_39 rfl ?_
  refine wp_iconst (v := 2) hc dX6_inverse_40 (by decide) ?_
  refine wp_idiv hc dX6_inverse_41 (by decide) ?_
  refine wp_cvt (v := 156) (by decide) ?_
  refine wp_istore_n (lv' := [(3, .int 156), (2, .int x4), (1, .int (rem (x2 * x3) 10007)), (0, .int i1)]) hc dX6_inverse_42 (by decide) rfl ?_
  refine wp_goto (tgt := 8) hc dX6_inverse_43 (by decide) ?_
  refine wp_iload_n hc 0 dX6_inverse_8 rfl ?_
  refine wp_if_le (tgt := 46) hc dX6_inverse_9 (by decide) (fun c => absurd c (by decide)) (fun _ => ?_)
  refine wp_iload_n hc 0 dX6_inverse_12 rfl ?_
  refine wp_iconst (v := 2) hc dX6_inverse_13 (by decide) ?_
  refine wp_iremR hc dX6_inverse_14 (by decide) ?_
  refine wp_cvt (v := 0) (by decide) ?_
  refine wp_iconst (v := 1) hc dX6_inverse_15 (by decide) ?_
  refine wp_icmp_ne (tgt := 29) hc dX6_inverse_16 (by decide) (fun _ => ?_) (fun c => absurd c (by decide))
  refine wp_iload_n hc 2 dX6_inverse_29 rfl ?_
  refine wp_istore_n (lv' := [(1, .int (rem (x2 * x3) 10007)), (3, .int 156), (2, .int x4), (0, .int i1)]) hc dX6_inverse_30 (by decide) rfl ?_
  refine wp_iload_n hc 2 dX6_inverse_31 rfl ?_
  refine wp_iload_n hc 2 dX6_inverse_32 rfl ?_
  refine wp_imul hc dX6_inverse_33 ?_
  refine wp_sipush (v := 10007) hc dX6_inverse_34 (by decide) ?_
  refine wp_iremR hc dX6_inverse_37 (by decide) ?_
  refine wp_istore_n (lv' := [(2, .int (rem (x4 * x4) 10007)), (1, .int (rem (x2 * x3) 10007)), (3, .int 156), (0, .int i1)]) hc dX6_inverse_38 (by decide) rfl ?_
  refine wp_iload_n hc 2 dX6_inverse_39 rfl ?_
  refine wp_iconst (v := 2) hc dX6_inverse_40 (by decide) ?_
  refine wp_idiv hc dX6_inverse_41 (by decide) ?_
  refine wp_cvt (v := 78) (by decide) ?_
  refine wp_istore_n (lv' := [(3, .int 78), (2, .int (rem (x4 * x4) 10007)), (1, .int (rem (x2 * x3) 10007)), (0, .int i1)]) hc dX6_inverse_42 (by decide) rfl ?_
  refine wp_goto (tgt := 8) hc dX6_inverse_43 (by decide) ?_
  refine wp_iload_n hc 0 dX6_inverse_8 rfl ?_
  refine wp_if_le (tgt := 46) hc dX6_inverse_9 (by decide) (fun c => absurd c (by decide)) (fun _ => ?_)
  refine wp_iload_n hc 0 dX6_inverse_12 rfl ?_
  refine wp_iconst (v := 2) hc dX6_inverse_13 (by decide) ?_
  refine wp_iremR hc dX6_inverse_14 (by decide) ?_
  refine wp_cvt (v := 0) (by decide) ?_
  refine wp_iconst (v := 1) hc dX6_inverse_15 (by decide) ?_
  refine wp_icmp_ne (tgt := 29) hc dX6_inverse_16 (by decide) (fun _ => ?_) (fun c => absurd c (by decide))
  refine wp_iload_n hc 2 dX6_inverse_29 rfl ?_
  refine wp_istore_n (lv' := [(1, .int (rem (x2 * x3) 10007)), (3, .int 78), (2, .int (rem (x4 * x4) 10007)), (0, .int i1)]) hc dX6_inverse_30 (by decide) rfl ?_
  refine wp_iload_n hc 2 dX6_inverse_31 rfl ?_
  refine wp_iload_n hc 2 dX6_inverse_32 rfl ?_
  refine wp_imul hc dX6_inverse_33 ?_
  refine wp_sipush (v := 10007) hc dX6_inverse_34 (by decide) ?_
  refine wp_iremR hc dX6_inverse_37 (by decide) ?_
  refine wp_topi (fun x5 hx5 => ?_)
  refine wp_istore_n (lv' := [(2, .int x5), (1, .int (rem (x2 * x3) 10007)), (3, .int 78), (0, .int i1)]) hc dX6_inverse_38 (by decide) rfl ?_
  refine wp_iload_n hc 2 dX6_inverse_39 rfl ?_
  refine wp_iconst (v := 2) hc dX6_inverse_40 (by decide) ?_
  refine wp_idiv hc dX6_inverse_41 (by decide) ?_
  refine wp_cvt (v := 39) (by decide) ?_
  refine wp_istore_n (lv' := [(3, .int 39), (2, .int x5), (1, .int (rem (x2 * x3) 10007)), (0, .int i1)]) hc dX6_inverse_42 (by decide) rfl ?_
  refine wp_goto (tgt := 8) hc dX6_inverse_43 (by decide) ?_
  refine wp_iload_n hc 0 dX6_inverse_8 rfl ?_
  refine wp_if_le (tgt := 46) hc dX6_inverse_9 (by decide) (fun c => absurd c (by decide)) (fun _ => ?_)
  refine wp_iload_n hc 0 dX6_inverse_12 rfl ?_
  refine wp_iconst (v := 2) hc dX6_inverse_13 (by decide) ?_
  refine wp_iremR hc dX6_inverse_14 (by decide) ?_
  refine wp_cvt (v := 1) (by decide) ?_
  refine wp_iconst (v := 1) hc dX6_inverse_15 (by decide) ?_
  refine wp_icmp_ne (tgt := 29) hc dX6_inverse_16 (by decide) (fun c => absurd c (by decide)) (fun _ => ?_)
  refine wp_iload_n hc 2 dX6_inverse_19 rfl ?_
  refine wp_iload_n hc 1 dX6_inverse_20 rfl ?_
  refine wp_imul hc dX6_inverse_21 ?_
  refine wp_sipush (v := 10007) hc dX6_inverse_22 (by decide) ?_
  refine wp_iremR hc dX6_inverse_25 (by decide) ?_
  refine wp_goto (tgt := 30) hc dX6_inverse_26 (by decide) ?_
  refine wp_topi (fun x6 hx6 => ?_)
  refine wp_istore_n (lv' := [(1, .int x6), (3, .int 39), (2, .int x5), (0, .int i1)]) hc dX6_inverse_30 (by decide) rfl ?_
  refine wp_iload_n hc 2 dX6_inverse_31 rfl ?_
  refine wp_iload_n hc 2 dX6_inverse_32 rfl ?_
  refine wp_imul hc dX6_inverse_33 ?_
  refine wp_sipush (v := 10007) hc dX6_inverse_34 (by decide) ?_
  refine wp_iremR hc dX6_inverse_37 (by decide) ?_
  refine wp_istore_n (lv' := [(2, .int (rem (x5 * x5) 10007)), (1, .int x6), (3, .int 39), (0, .int i1)]) hc dX6_inverse_38 (by decide) rfl ?_
  refine wp_iload_n hc 2 dX6_inverse_39 rfl ?_
  refine wp_iconst (v := 2) hc dX6_inverse_40 (by decide) ?_
  refine wp_idiv hc dX6_inverse_41 (by decide) ?_
  refine wp_cvt (v := 19) (by decide) ?_
  refine wp_istore_n (lv' := [(3, .int 19), (2, .int (rem (x5 * x5) 10007)), (1, .int x6), (0, .int i1)]) hc dX6_inverse_42 (by decide) rfl ?_
  refine wp_goto (tgt := 8) hc dX6_inverse_43 (by decide) ?_
  refine wp_iload_n hc 0 dX6_inverse_8 rfl ?_
  refine wp_if_le (tgt := 46) hc dX6_inverse_9 (by decide) (fun c => absurd c (by decide)) (fun _ => ?_)
  refine wp_iload_n hc 0 dX6_inverse_12 rfl ?_
  refine wp_iconst (v := 2) hc dX6_inverse_13 (by decide) ?_
  refine wp_iremR hc dX6_inverse_14 (by decide) ?_
  refine wp_cvt (v := 1) (by decide) ?_
  refine wp_iconst (v := 1) hc dX6_inverse_15 (by decide) ?_
  refine wp_icmp_ne (tgt := 29) hc dX6_inverse_16 (by decide) (fun c => absurd c (by decide)) (fun _ => ?_)
  refine wp_iload_n hc 2 dX6_inverse_19 rfl ?_
  refine wp_iload_n hc 1 dX6_inverse_20 rfl ?_
  refine wp_imul hc dX6_inverse_21 ?_
  refine wp_sipush (v := 10007) hc dX6_inverse_22 (by decide) ?_
  refine wp_iremR hc dX6_inverse_25 (by decide) ?_
  refine wp_goto (tgt := 30) hc dX6_inverse_26 (by decide) ?_
  refine wp_topi (fun x7 hx7 => ?_)
  refine wp_istore_n (lv' := [(1, .int x7), (3, .int 19), (2, .int (rem (x5 * x5) 10007)), (0, .int i1)]) hc dX6_inverse_30 (by decide) rfl ?_
  refine wp_iload_n hc 2 dX6_inverse_31 rfl ?_
  refine wp_iload_n hc 2 dX6_inverse_32 rfl ?_
  refine wp_imul hc dX6_inverse_33 ?_
  refine wp_sipush (v := 10007) hc dX6_inverse_34 (by decide) ?_
  refine wp_iremR hc dX6_inverse_37 (by decide) ?_
  refine wp_topi (fun x8 hx8 => ?_)
  refine wp_istore_n (lv' := [(2, .int x8), (1, .int x7), (3, .int 19), (0, .int i1)]) hc dX6_inverse_38 (by decide) rfl ?_
  refine wp_iload_n hc 2 dX6_inverse_39 rfl ?_
  refine wp_iconst (v := 2) hc dX6_inverse_40 (by decide) ?_
  refine wp_idiv hc dX6_inverse_41 (by decide) ?_
  refine wp_cvt (v := 9) (by decide) ?_
  refine wp_istore_n (lv' := [(3, .int 9), (2, .int x8), (1, .int x7), (0, .int i1)]) hc dX6_inverse_42 (by decide) rfl ?_
  refine wp_goto (tgt := 8) hc dX6_inverse_43 (by decide) ?_
  refine wp_iload_n hc 0 dX6_inverse_8 rfl ?_
  refine wp_if_le (tgt := 46) hc dX6_inverse_9 (by decide) (fun c => absurd c (by decide)) (fun _ => ?_)
  refine wp_iload_n hc 0 dX6_inverse_12 rfl ?_
  refine wp_iconst (v := 2) hc dX6_inverse_13 (by decide) ?_
  refine wp_iremR hc dX6_inverse_14 (by decide) ?_
  refine wp_cvt (v := 1) (by decide) ?_
  refine wp_iconst (v := 1) hc dX6_inverse_15 (by decide) ?_
  refine wp_icmp_ne (tgt := 29) hc dX6_inverse_16 (by decide) (fun c => absurd c (by decide)) (fun _ => ?_)
  refine wp_iload_n hc 2 dX6_inverse_19 rfl ?_
  refine wp_iload_n hc 1 dX6_inverse_20 rfl ?_
  refine wp_imul hc dX6_inverse_21 ?_
  refine wp_sipush (v := 10007) hc dX6_inverse_22 (by decide) ?_
  refine wp_iremR hc dX6_inverse_25 (by decide) ?_
  refine wp_goto (tgt := 30) hc dX6_inverse_26 (by decide) ?_
  refine wp_istore_n (lv' := [(1, .int (rem (x7 * x8) 10007)), (3, .int 9), (2, .int x8), (0, .int i1)]) hc dX6_inverse_30 (by decide) rfl ?_
  refine wp_iload_n hc 2 dX6_inverse_31 rfl ?_
  refine wp_iload_n hc 2 dX6_inverse_32 rfl ?_
  refine wp_imul hc dX6_inverse_33 ?_
  refine wp_sipush (v := 10007) hc dX6_inverse_34 (by decide) ?_
  refine wp_iremR hc dX6_inverse_37 (by decide) ?_
  refine wp_istore_n (lv' := [(2, .int (rem (x8 * x8) 10007)), (1, .int (rem (x7 * x8) 10007)), (3, .int 9), (0, .int i1)]) hc dX6_inverse_38 (by decide) rfl ?_
  refine wp_iload_n hc 2 dX6_inverse_39 rfl ?_
  refine wp_iconst (v := 2) hc dX6_inverse_40 (by decide) ?_
  refine wp_idiv hc dX6_inverse_41 (by decide) ?_
  refine wp_cvt (v := 4) (by decide) ?_
  refine wp_istore_n (lv' := [(3, .int 4), (2, .int (rem (x8 * x8) 10007)), (1, .int (rem (x7 * x8) 10007)), (0, .int i1)]) hc dX6_inverse_42 (by decide) rfl ?_
  refine wp_goto (tgt := 8) hc dX6_inverse_43 (by decide) ?_
  refine wp_iload_n hc 0 dX6_inverse_8 rfl ?_
  refine wp_if_le (tgt := 46) hc dX6_inverse_9 (by decide) (fun c => absurd c (by decide)) (fun _ => ?_)
  refine wp_iload_n hc 0 dX6_inverse_12 rfl ?_
  refine wp_iconst (v := 2) hc dX6_inverse_13 (by decide) ?_
  refine wp_iremR hc dX6_inverse_14 (by decide) ?_
  refine wp_cvt (v := 0) (by decide) ?_
  refine wp_iconst (v := 1) hc dX6_inverse_15 (by decide) ?_
  refine wp_icmp_ne (tgt := 29) hc dX6_inverse_16 (by decide) (fun _ => ?_) (fun c => absurd c (by decide))
  refine wp_iload_n hc 2 dX6_inverse_29 rfl ?_
  refine wp_istore_n (lv' := [(1, .int (rem (x7 * x8) 10007)), (3, .int 4), (2, .int (rem (x8 * x8) 10007)), (0, .int i1)]) hc dX6_inverse_30 (by decide) rfl ?_
  refine wp_iload_n hc 2 dX6_inverse_31 rfl ?_
  refine wp_iload_n hc 2 dX6_inverse_32 rfl ?_
  refine wp_imul hc dX6_inverse_33 ?_
  refine wp_sipush (v := 10007) hc dX6_inverse_34 (by decide) ?_
  refine wp_iremR hc dX6_inverse_37 (by decide) ?_
  refine wp_topi (fun x9 hx9 => ?_)
  refine wp_istore_n (lv' := [(2, .int x9), (1, .int (rem (x7 * x8) 10007)), (3, .int 4), (0, .int i1)]) hc dX6_inverse_38 (by decide) rfl ?_
  refine wp_iload_n hc 2 dX6_inverse_39 rfl ?_
  refine wp_iconst (v := 2) hc dX6_inverse_40 (by decide) ?_
  refine wp_idiv hc dX6_inverse_41 (by decide) ?_
  refine wp_cvt (v := 2) (by decide) ?_
  refine wp_istore_n (lv' := [(3, .int 2), (2, .int x9), (1, .int (rem (x7 * x8) 10007)), (0, .int i1)]) hc dX6_inverse_42 (by decide) rfl ?_
  refine wp_goto (tgt := 8) hc dX6_inverse_43 (by decide) ?_
  refine wp_iload_n hc 0 dX6_inverse_8 rfl ?_
  refine wp_if_le (tgt := 46) hc dX6_inverse_9 (by decide) (fun c => absurd c (by decide)) (fun _ => ?_)
  refine wp_iload_n hc 0 dX6_inverse_12 rfl ?_
  refine wp_iconst (v := 2) hc dX6_inverse_13 (by decide) ?_
  refine wp_iremR hc dX6_inverse_14 (by decide) ?_
  refine wp_cvt (v := 0) (by decide) ?_
  refine wp_iconst (v := 1) hc dX6_inverse_15 (by decide) ?_
  refine wp_icmp_ne (tgt := 29) hc dX6_inverse_16 (by decide) (fun _ => ?_) (fun c => absurd c (by decide))
  refine wp_iload_n hc 2 dX6_inverse_29 rfl ?_
  refine wp_istore_n (lv' := [(1, .int (rem (x7 * x8) 10007)), (3, .int 2), (2, .int x9), (0, .int i1)]) hc dX6_inverse_30 (by decide) rfl ?_
  refine wp_iload_n hc 2 dX6_inverse_31 rfl ?_
  refine wp_iload_n hc 2 dX6_inverse_32 rfl ?_
  refine wp_imul hc dX6_inverse_33 ?_
  refine wp_sipush (v := 10007) hc dX6_inverse_34 (by decide) ?_
  refine wp_iremR hc dX6_inverse_37 (by decide) ?_
  refine wp_istore_n (lv' := [(2, .int (rem (x9 * x9) 10007)), (1, .int (rem (x7 * x8) 10007)), (3, .int 2), (0, .int i1)]) hc dX6_inverse_38 (by decide) rfl ?_
  refine wp_iload_n hc 2 dX6_inverse_39 rfl ?_
  refine wp_iconst (v := 2) hc dX6_inverse_40 (by decide) ?_
  refine wp_idiv hc dX6_inverse_41 (by decide) ?_
  refine wp_cvt (v := 1) (by decide) ?_
  refine wp_istore_n (lv' := [(3, .int 1), (2, .int (rem (x9 * x9) 10007)), (1, .int (rem (x7 * x8) 10007)), (0, .int i1)]) hc dX6_inverse_42 (by decide) rfl ?_
  refine wp_goto (tgt := 8) hc dX6_inverse_43 (by decide) ?_
  refine wp_iload_n hc 0 dX6_inverse_8 rfl ?_
  refine wp_if_le (tgt := 46) hc dX6_inverse_9 (by decide) (fun c => absurd c (by decide)) (fun _ => ?_)
  refine wp_iload_n hc 0 dX6_inverse_12 rfl ?_
  refine wp_iconst (v := 2) hc dX6_inverse_13 (by decide) ?_
  refine wp_iremR hc dX6_inverse_14 (by decide) ?_
  refine wp_cvt (v := 1) (by decide) ?_
  refine wp_iconst (v := 1) hc dX6_inverse_15 (by decide) ?_
  refine wp_icmp_ne (tgt := 29) hc dX6_inverse_16 (by decide) (fun c => absurd c (by decide)) (fun _ => ?_)
  refine wp_iload_n hc 2 dX6_inverse_19 rfl ?_
  refine wp_iload_n hc 1 dX6_inverse_20 rfl ?_
  refine wp_imul hc dX6_inverse_21 ?_
  refine wp_sipush (v := 10007) hc dX6_inverse_22 (by decide) ?_
  refine wp_iremR hc dX6_inverse_25 (by decide) ?_
  refine wp_goto (tgt := 30) hc dX6_inverse_26 (by decide) ?_
  refine wp_topi (fun x10 hx10 => ?_)
  refine wp_istore_n (lv' := [(1, .int x10), (3, .int 1), (2, .int (rem (x9 * x9) 10007)), (0, .int i1)]) hc dX6_inverse_30 (by decide) rfl ?_
  refine wp_iload_n hc 2 dX6_inverse_31 rfl ?_
  refine wp_iload_n hc 2 dX6_inverse_32 rfl ?_
  refine wp_imul hc dX6_inverse_33 ?_
  refine wp_sipush (v := 10007) hc dX6_inverse_34 (by decide) ?_
  refine wp_iremR hc dX6_inverse_37 (by decide) ?_
  refine wp_topi (fun x11 hx11 => ?_)
  refine wp_istore_n (lv' := [(2, .int x11), (1, .int x10), (3, .int 1), (0, .int i1)]) hc dX6_inverse_38 (by decide) rfl ?_
  refine wp_iload_n hc 2 dX6_inverse_39 rfl ?_
  refine wp_iconst (v := 2) hc dX6_inverse_40 (by decide) ?_
  refine wp_idiv hc dX6_inverse_41 (by decide) ?_
  refine wp_cvt (v := 0) (by decide) ?_
  refine wp_istore_n (lv' := [(3, .int 0), (2, .int x11), (1, .int x10), (0, .int i1)]) hc dX6_inverse_42 (by decide) rfl ?_
  refine wp_goto (tgt := 8) hc dX6_inverse_43 (by decide) ?_
  refine wp_iload_n hc 0 dX6_inverse_8 rfl ?_
  refine wp_if_le (tgt := 46) hc dX6_inverse_9 (by decide) (fun _ => ?_) (fun c => absurd c (by decide))
  refine wp_iload_n hc 2 dX6_inverse_46 rfl ?_
  refine ws_iret hc hr hk ?_ dX6_inverse_47
  show x10 = fX6_inverse i1
  rw [fX6_inverse, tk_eq hx1, tk_eq hx2, tk_eq hx3, tk_eq hx4, tk_eq hx5, tk_eq hx6, tk_eq hx7, tk_eq hx8, tk_eq hx9, tk_eq hx10, tk_eq hx11]
def fX6_isPart (i1 : Int32) : Int32 :=
  (fX6_in i1 0 10006)
set_option maxHeartbeats 4000000 in
set_option maxRecDepth 100000 in
theorem kX6_isPart (l : Launch) (i1 : Int32) : KS l yX6_isPart wsX6_isPart { frames := 1, cells := 0, slots := 0, locals := 22 } [.int i1] (fun r => r = fX6_isPart i1) := by
  refine met_ws (lv := [(0, .int i1)]) ((fun _ _ => 0, fun _ => 0, 0) : Mem) (by decide) rfl rfl (Nat.le_of_ble_eq_true rfl) rfl ?_
  intro p e s m below meth c hc hNW hr hk
  generalize ((fun _ _ => 0, fun _ => 0, 0) : Mem) = M
  have cw81 : CallB ({ frames := 1, cells := 0, slots := 0, locals := 22 }) s _ RX6 81 yX6_in cX6_in 3 (some .boolean) wsX6_in ({ frames := 0, cells := 0, slots := 0, locals := 0 }) 0 0 3 ∧ (Cond.static yX6_in).before _ s = true := va_cwS 3 hc.2.2.2.2 gX6_isPart_X6_in rfl rfl rfl (by decide +kernel) ⟨Nat.le_of_ble_eq_true rfl, Nat.le_of_ble_eq_true rfl⟩
  refine wp_iload_n hc 0 dX6_isPart_0 rfl ?_
  refine wp_iconst (v := 0) hc dX6_isPart_1 (by decide) ?_
  refine wp_sipush (v := 10006) hc dX6_isPart_2 (by decide) ?_
  refine wp_callSg (As := [.int i1, .int 0, .int 10006]) (rest := []) (v := (fX6_in i1 0 10006)) hc hNW (kX6_in l i1 0 10006) cw81 rfl rfl (Nat.le_of_ble_eq_true rfl) dX6_isPart_5 ?_
  refine ws_zret hc hr hk (nz (bX6_in i1 0 10006)) ?_ dX6_isPart_8
  show (fX6_in i1 0 10006) = fX6_isPart i1
  rw [fX6_isPart]
theorem bX6_isPart (i1 : Int32) : fX6_isPart i1 = 0 ∨ fX6_isPart i1 = 1 := by
  unfold fX6_isPart
  (repeat' split) <;> first | exact Or.inl rfl | exact Or.inr rfl | apply bX6_in
def fX6_isError (i1 : Int32) : Int32 :=
  (fX6_in i1 0 11)
set_option maxHeartbeats 4000000 in
set_option maxRecDepth 100000 in
theorem kX6_isError (l : Launch) (i1 : Int32) : KS l yX6_isError wsX6_isError { frames := 1, cells := 0, slots := 0, locals := 22 } [.int i1] (fun r => r = fX6_isError i1) := by
  refine met_ws (lv := [(0, .int i1)]) ((fun _ _ => 0, fun _ => 0, 0) : Mem) (by decide) rfl rfl (Nat.le_of_ble_eq_true rfl) rfl ?_
  intro p e s m below meth c hc hNW hr hk
  generalize ((fun _ _ => 0, fun _ => 0, 0) : Mem) = M
  have cw81 : CallB ({ frames := 1, cells := 0, slots := 0, locals := 22 }) s _ RX6 81 yX6_in cX6_in 3 (some .boolean) wsX6_in ({ frames := 0, cells := 0, slots := 0, locals := 0 }) 0 0 3 ∧ (Cond.static yX6_in).before _ s = true := va_cwS 3 hc.2.2.2.2 gX6_isError_X6_in rfl rfl rfl (by decide +kernel) ⟨Nat.le_of_ble_eq_true rfl, Nat.le_of_ble_eq_true rfl⟩
  refine wp_iload_n hc 0 dX6_isError_0 rfl ?_
  refine wp_iconst (v := 0) hc dX6_isError_1 (by decide) ?_
  refine wp_bipush (v := 11) hc dX6_isError_2 (by decide) ?_
  refine wp_callSg (As := [.int i1, .int 0, .int 11]) (rest := []) (v := (fX6_in i1 0 11)) hc hNW (kX6_in l i1 0 11) cw81 rfl rfl (Nat.le_of_ble_eq_true rfl) dX6_isError_4 ?_
  refine ws_zret hc hr hk (nz (bX6_in i1 0 11)) ?_ dX6_isError_7
  show (fX6_in i1 0 11) = fX6_isError i1
  rw [fX6_isError]
theorem bX6_isError (i1 : Int32) : fX6_isError i1 = 0 ∨ fX6_isError i1 = 1 := by
  unfold fX6_isError
  (repeat' split) <;> first | exact Or.inl rfl | exact Or.inr rfl | apply bX6_in
def fX6_detOf (i1 : Int32) (i2 : Int32) (i3 : Int32) (i4 : Int32) : Int32 :=
  (fX6_less (fX6_by i1 i4) (fX6_by i2 i3))
set_option maxHeartbeats 4000000 in
set_option maxRecDepth 100000 in
theorem kX6_detOf (l : Launch) (i1 : Int32) (i2 : Int32) (i3 : Int32) (i4 : Int32) : KS l yX6_detOf wsX6_detOf { frames := 3, cells := 0, slots := 0, locals := 67 } [.int i1, .int i2, .int i3, .int i4] (fun r => r = fX6_detOf i1 i2 i3 i4) := by
  refine met_ws (lv := [(0, .int i1), (1, .int i2), (2, .int i3), (3, .int i4)]) ((fun _ _ => 0, fun _ => 0, 0) : Mem) (by decide) rfl rfl (Nat.le_of_ble_eq_true rfl) rfl ?_
  intro p e s m below meth c hc hNW hr hk
  generalize ((fun _ _ => 0, fun _ => 0, 0) : Mem) = M
  have cw78 : CallB ({ frames := 3, cells := 0, slots := 0, locals := 67 }) s _ RX6 78 yX6_by cX6_by 6 (some .int) wsX6_by ({ frames := 2, cells := 0, slots := 0, locals := 42 }) 0 0 2 ∧ (Cond.static yX6_by).before _ s = true := va_cwS 2 hc.2.2.2.2 gX6_detOf_X6_by rfl rfl rfl (by decide +kernel) ⟨Nat.le_of_ble_eq_true rfl, Nat.le_of_ble_eq_true rfl⟩
  have cw114 : CallB ({ frames := 3, cells := 0, slots := 0, locals := 67 }) s _ RX6 114 yX6_less cX6_less 2 (some .int) wsX6_less ({ frames := 2, cells := 0, slots := 0, locals := 42 }) 0 0 2 ∧ (Cond.static yX6_less).before _ s = true := va_cwS 2 hc.2.2.2.2 gX6_detOf_X6_less rfl rfl rfl (by decide +kernel) ⟨Nat.le_of_ble_eq_true rfl, Nat.le_of_ble_eq_true rfl⟩
  refine wp_iload_n hc 0 dX6_detOf_0 rfl ?_
  refine wp_iload_n hc 3 dX6_detOf_1 rfl ?_
  refine wp_callSg (As := [.int i1, .int i4]) (rest := []) (v := (fX6_by i1 i4)) hc hNW (kX6_by l i1 i4) cw78 rfl rfl (Nat.le_of_ble_eq_true rfl) dX6_detOf_2 ?_
  refine wp_iload_n hc 1 dX6_detOf_5 rfl ?_
  refine wp_iload_n hc 2 dX6_detOf_6 rfl ?_
  refine wp_callSg (As := [.int i2, .int i3]) (rest := [.int (fX6_by i1 i4)]) (v := (fX6_by i2 i3)) hc hNW (kX6_by l i2 i3) cw78 rfl rfl (Nat.le_of_ble_eq_true rfl) dX6_detOf_7 ?_
  refine wp_callSg (As := [.int (fX6_by i1 i4), .int (fX6_by i2 i3)]) (rest := []) (v := (fX6_less (fX6_by i1 i4) (fX6_by i2 i3))) hc hNW (kX6_less l (fX6_by i1 i4) (fX6_by i2 i3)) cw114 rfl rfl (Nat.le_of_ble_eq_true rfl) dX6_detOf_10 ?_
  refine ws_iret hc hr hk ?_ dX6_detOf_13
  show (fX6_less (fX6_by i1 i4) (fX6_by i2 i3)) = fX6_detOf i1 i2 i3 i4
  rw [fX6_detOf]
def fX6_belowOf (i1 : Int32) (i2 : Int32) (i3 : Int32) (i4 : Int32) (i5 : Int32) : Int32 :=
  (fX6_plus (fX6_less (fX6_less 10007 (fX6_by i1 i2)) (fX6_by i3 i4)) (fX6_by (fX6_by i1 i3) i5))
set_option maxHeartbeats 4000000 in
set_option maxRecDepth 100000 in
theorem kX6_belowOf (l : Launch) (i1 : Int32) (i2 : Int32) (i3 : Int32) (i4 : Int32) (i5 : Int32) : KS l yX6_belowOf wsX6_belowOf { frames := 3, cells := 0, slots := 0, locals := 67 } [.int i1, .int i2, .int i3, .int i4, .int i5] (fun r => r = fX6_belowOf i1 i2 i3 i4 i5) := by
  refine met_ws (lv := [(0, .int i1), (1, .int i2), (2, .int i3), (3, .int i4), (4, .int i5)]) ((fun _ _ => 0, fun _ => 0, 0) : Mem) (by decide) rfl rfl (Nat.le_of_ble_eq_true rfl) rfl ?_
  intro p e s m below meth c hc hNW hr hk
  generalize ((fun _ _ => 0, fun _ => 0, 0) : Mem) = M
  have cw78 : CallB ({ frames := 3, cells := 0, slots := 0, locals := 67 }) s _ RX6 78 yX6_by cX6_by 6 (some .int) wsX6_by ({ frames := 2, cells := 0, slots := 0, locals := 42 }) 0 0 2 ∧ (Cond.static yX6_by).before _ s = true := va_cwS 2 hc.2.2.2.2 gX6_belowOf_X6_by rfl rfl rfl (by decide +kernel) ⟨Nat.le_of_ble_eq_true rfl, Nat.le_of_ble_eq_true rfl⟩
  have cw114 : CallB ({ frames := 3, cells := 0, slots := 0, locals := 67 }) s _ RX6 114 yX6_less cX6_less 2 (some .int) wsX6_less ({ frames := 2, cells := 0, slots := 0, locals := 42 }) 0 0 2 ∧ (Cond.static yX6_less).before _ s = true := va_cwS 2 hc.2.2.2.2 gX6_belowOf_X6_less rfl rfl rfl (by decide +kernel) ⟨Nat.le_of_ble_eq_true rfl, Nat.le_of_ble_eq_true rfl⟩
  have cw117 : CallB ({ frames := 3, cells := 0, slots := 0, locals := 67 }) s _ RX6 117 yX6_plus cX6_plus 2 (some .int) wsX6_plus ({ frames := 2, cells := 0, slots := 0, locals := 42 }) 0 0 2 ∧ (Cond.static yX6_plus).before _ s = true := va_cwS 2 hc.2.2.2.2 gX6_belowOf_X6_plus rfl rfl rfl (by decide +kernel) ⟨Nat.le_of_ble_eq_true rfl, Nat.le_of_ble_eq_true rfl⟩
  refine wp_sipush (v := 10007) hc dX6_belowOf_0 (by decide) ?_
  refine wp_iload_n hc 0 dX6_belowOf_3 rfl ?_
  refine wp_iload_n hc 1 dX6_belowOf_4 rfl ?_
  refine wp_callSg (As := [.int i1, .int i2]) (rest := [.int 10007]) (v := (fX6_by i1 i2)) hc hNW (kX6_by l i1 i2) cw78 rfl rfl (Nat.le_of_ble_eq_true rfl) dX6_belowOf_5 ?_
  refine wp_callSg (As := [.int 10007, .int (fX6_by i1 i2)]) (rest := []) (v := (fX6_less 10007 (fX6_by i1 i2))) hc hNW (kX6_less l 10007 (fX6_by i1 i2)) cw114 rfl rfl (Nat.le_of_ble_eq_true rfl) dX6_belowOf_8 ?_
  refine wp_istore (lv' := [(5, .int (fX6_less 10007 (fX6_by i1 i2))), (0, .int i1), (1, .int i2), (2, .int i3), (3, .int i4), (4, .int i5)]) hc dX6_belowOf_11 (by decide) rfl ?_
  refine wp_iload hc 0 dX6_belowOf_13 rfl ?_
  refine wp_iload_n hc 3 dX6_belowOf_15 rfl ?_
  refine wp_iload_n hc 4 dX6_belowOf_16 rfl ?_
  refine wp_callSg (As := [.int i3, .int i4]) (rest := [.int (fX6_less 10007 (fX6_by i1 i2))]) (v := (fX6_by i3 i4)) hc hNW (kX6_by l i3 i4) cw78 rfl rfl (Nat.le_of_ble_eq_true rfl) dX6_belowOf_17 ?_
  refine wp_callSg (As := [.int (fX6_less 10007 (fX6_by i1 i2)), .int (fX6_by i3 i4)]) (rest := []) (v := (fX6_less (fX6_less 10007 (fX6_by i1 i2)) (fX6_by i3 i4))) hc hNW (kX6_less l (fX6_less 10007 (fX6_by i1 i2)) (fX6_by i3 i4)) cw114 rfl rfl (Nat.le_of_ble_eq_true rfl) dX6_belowOf_20 ?_
  refine wp_istore (lv' := [(5, .int (fX6_less (fX6_less 10007 (fX6_by i1 i2)) (fX6_by i3 i4))), (0, .int i1), (1, .int i2), (2, .int i3), (3, .int i4), (4, .int i5)]) hc dX6_belowOf_23 (by decide) rfl ?_
  refine wp_iload hc 0 dX6_belowOf_25 rfl ?_
  refine wp_iload_n hc 1 dX6_belowOf_27 rfl ?_
  refine wp_iload_n hc 3 dX6_belowOf_28 rfl ?_
  refine wp_callSg (As := [.int i1, .int i3]) (rest := [.int (fX6_less (fX6_less 10007 (fX6_by i1 i2)) (fX6_by i3 i4))]) (v := (fX6_by i1 i3)) hc hNW (kX6_by l i1 i3) cw78 rfl rfl (Nat.le_of_ble_eq_true rfl) dX6_belowOf_29 ?_
  refine wp_iload hc 5 dX6_belowOf_32 rfl ?_
  refine wp_callSg (As := [.int (fX6_by i1 i3), .int i5]) (rest := [.int (fX6_less (fX6_less 10007 (fX6_by i1 i2)) (fX6_by i3 i4))]) (v := (fX6_by (fX6_by i1 i3) i5)) hc hNW (kX6_by l (fX6_by i1 i3) i5) cw78 rfl rfl (Nat.le_of_ble_eq_true rfl) dX6_belowOf_34 ?_
  refine wp_callSg (As := [.int (fX6_less (fX6_less 10007 (fX6_by i1 i2)) (fX6_by i3 i4)), .int (fX6_by (fX6_by i1 i3) i5)]) (rest := []) (v := (fX6_plus (fX6_less (fX6_less 10007 (fX6_by i1 i2)) (fX6_by i3 i4)) (fX6_by (fX6_by i1 i3) i5))) hc hNW (kX6_plus l (fX6_less (fX6_less 10007 (fX6_by i1 i2)) (fX6_by i3 i4)) (fX6_by (fX6_by i1 i3) i5)) cw117 rfl rfl (Nat.le_of_ble_eq_true rfl) dX6_belowOf_37 ?_
  refine ws_iret hc hr hk ?_ dX6_belowOf_40
  show (fX6_plus (fX6_less (fX6_less 10007 (fX6_by i1 i2)) (fX6_by i3 i4)) (fX6_by (fX6_by i1 i3) i5)) = fX6_belowOf i1 i2 i3 i4 i5
  rw [fX6_belowOf]
def fX6_manyOf (i1 : Int32) : Int32 :=
  if i1 = 98 then
  8
  else
  if i1 = 101 then
  3
  else
  if i1 = 108 then
  0
  else
  if i1 = 114 then
  1
  else
  if i1 = 99 then
  2
  else
  (-1)
set_option maxHeartbeats 4000000 in
set_option maxRecDepth 100000 in
theorem kX6_manyOf (l : Launch) (i1 : Int32) : KS l yX6_manyOf wsX6_manyOf { frames := 0, cells := 0, slots := 0, locals := 0 } [.int i1] (fun r => r = fX6_manyOf i1) := by
  refine met_ws (lv := [(0, .int i1)]) ((fun _ _ => 0, fun _ => 0, 0) : Mem) (by decide) rfl rfl (Nat.le_of_ble_eq_true rfl) rfl ?_
  intro p e s m below meth c hc hNW hr hk
  generalize ((fun _ _ => 0, fun _ => 0, 0) : Mem) = M
  refine wp_iload_n hc 0 dX6_manyOf_0 rfl ?_
  refine wp_bipush (v := 98) hc dX6_manyOf_1 (by decide) ?_
  refine wp_icmp_ne (tgt := 11) hc dX6_manyOf_3 (by decide) (fun c3 => ?_) (fun c3 => ?_)
  · refine wp_iload_n hc 0 dX6_manyOf_11 rfl ?_
    refine wp_bipush (v := 101) hc dX6_manyOf_12 (by decide) ?_
    refine wp_icmp_ne (tgt := 21) hc dX6_manyOf_14 (by decide) (fun c14 => ?_) (fun c14 => ?_)
    · refine wp_iload_n hc 0 dX6_manyOf_21 rfl ?_
      refine wp_bipush (v := 108) hc dX6_manyOf_22 (by decide) ?_
      refine wp_icmp_ne (tgt := 31) hc dX6_manyOf_24 (by decide) (fun c24 => ?_) (fun c24 => ?_)
      · refine wp_iload_n hc 0 dX6_manyOf_31 rfl ?_
        refine wp_bipush (v := 114) hc dX6_manyOf_32 (by decide) ?_
        refine wp_icmp_ne (tgt := 41) hc dX6_manyOf_34 (by decide) (fun c34 => ?_) (fun c34 => ?_)
        · refine wp_iload_n hc 0 dX6_manyOf_41 rfl ?_
          refine wp_bipush (v := 99) hc dX6_manyOf_42 (by decide) ?_
          refine wp_icmp_ne (tgt := 51) hc dX6_manyOf_44 (by decide) (fun c44 => ?_) (fun c44 => ?_)
          · refine wp_iconst (v := (-1)) hc dX6_manyOf_51 (by decide) ?_
            refine ws_iret hc hr hk ?_ dX6_manyOf_52
            show (-1) = fX6_manyOf i1
            rw [fX6_manyOf, if_neg c3, if_neg c14, if_neg c24, if_neg c34, if_neg c44]
          refine wp_iconst (v := 2) hc dX6_manyOf_47 (by decide) ?_
          refine wp_goto (tgt := 52) hc dX6_manyOf_48 (by decide) ?_
          refine ws_iret hc hr hk ?_ dX6_manyOf_52
          show 2 = fX6_manyOf i1
          rw [fX6_manyOf, if_neg c3, if_neg c14, if_neg c24, if_neg c34, if_pos c44]
        refine wp_iconst (v := 1) hc dX6_manyOf_37 (by decide) ?_
        refine wp_goto (tgt := 52) hc dX6_manyOf_38 (by decide) ?_
        refine ws_iret hc hr hk ?_ dX6_manyOf_52
        show 1 = fX6_manyOf i1
        rw [fX6_manyOf, if_neg c3, if_neg c14, if_neg c24, if_pos c34]
      refine wp_iconst (v := 0) hc dX6_manyOf_27 (by decide) ?_
      refine wp_goto (tgt := 52) hc dX6_manyOf_28 (by decide) ?_
      refine ws_iret hc hr hk ?_ dX6_manyOf_52
      show 0 = fX6_manyOf i1
      rw [fX6_manyOf, if_neg c3, if_neg c14, if_pos c24]
    refine wp_iconst (v := 3) hc dX6_manyOf_17 (by decide) ?_
    refine wp_goto (tgt := 52) hc dX6_manyOf_18 (by decide) ?_
    refine ws_iret hc hr hk ?_ dX6_manyOf_52
    show 3 = fX6_manyOf i1
    rw [fX6_manyOf, if_neg c3, if_pos c14]
  refine wp_bipush (v := 8) hc dX6_manyOf_6 (by decide) ?_
  refine wp_goto (tgt := 52) hc dX6_manyOf_8 (by decide) ?_
  refine ws_iret hc hr hk ?_ dX6_manyOf_52
  show 8 = fX6_manyOf i1
  rw [fX6_manyOf, if_pos c3]
