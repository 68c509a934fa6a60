def fX5_isBelow (i1 : Int32) (i2 : Int32) : Int32 :=
  if i1 < 0 then
  0
  else
  if i2 ≤ i1 then
  0
  else
  1
set_option maxHeartbeats 4000000 in
set_option maxRecDepth 100000 in
theorem kX5_isBelow (l : Launch) (i1 : Int32) (i2 : Int32) : KS l yX5_isBelow wsX5_isBelow { frames := 0, cells := 0, slots := 0, locals := 0 } [.int i1, .int i2] (fun r => r = fX5_isBelow i1 i2) := by
  refine met_ws (lv := [(0, .int i1), (1, .int i2)]) ((fun _ _ => 0, fun _ => 0, 0) : Mem) (by decide) rfl rfl (Nat.le_of_ble_eq_true rfl) rfl ?_
  intro p e s m below meth c hc hNW hr hk
  generalize ((fun _ _ => 0, fun _ => 0, 0) : Mem) = M
  refine wp_iload_n hc 0 dX5_isBelow_0 rfl ?_
  refine wp_if_lt (tgt := 13) hc dX5_isBelow_1 (by decide) (fun c1 => ?_) (fun c1 => ?_)
  · refine wp_iconst (v := 0) hc dX5_isBelow_13 (by decide) ?_
    refine ws_zret hc hr hk rfl ?_ dX5_isBelow_14
    show 0 = fX5_isBelow i1 i2
    rw [fX5_isBelow, if_pos c1]
  refine wp_iload_n hc 0 dX5_isBelow_4 rfl ?_
  refine wp_iload_n hc 1 dX5_isBelow_5 rfl ?_
  refine wp_icmp_ge (tgt := 13) hc dX5_isBelow_6 (by decide) (fun c6 => ?_) (fun c6 => ?_)
  · refine wp_iconst (v := 0) hc dX5_isBelow_13 (by decide) ?_
    refine ws_zret hc hr hk rfl ?_ dX5_isBelow_14
    show 0 = fX5_isBelow i1 i2
    rw [fX5_isBelow, if_neg c1, if_pos c6]
  refine wp_iconst (v := 1) hc dX5_isBelow_9 (by decide) ?_
  refine wp_goto (tgt := 14) hc dX5_isBelow_10 (by decide) ?_
  refine ws_zret hc hr hk rfl ?_ dX5_isBelow_14
  show 1 = fX5_isBelow i1 i2
  rw [fX5_isBelow, if_neg c1, if_neg c6]
theorem bX5_isBelow (i1 : Int32) (i2 : Int32) : fX5_isBelow i1 i2 = 0 ∨ fX5_isBelow i1 i2 = 1 := by
  unfold fX5_isBelow
  (repeat' split) <;> first | exact Or.inl rfl | exact Or.inr rfl
def fX1_isGiven (i1 : Int32) (i2 : Int32) : Int32 :=
  if (fX5_isBelow i1 10007) = 0 then
  0
  else
  if (fX5_isBelow i2 10007) = 0 then
  0
  else
  1
set_option maxHeartbeats 4000000 in
set_option maxRecDepth 100000 in
theorem kX1_isGiven (l : Launch) (i1 : Int32) (i2 : Int32) : KS l yX1_isGiven wsX1_isGiven { frames := 1, cells := 0, slots := 0, locals := 21 } [.int i1, .int i2] (fun r => r = fX1_isGiven i1 i2) := by
  refine met_ws (lv := [(0, .int i1), (1, .int i2)]) ((fun _ _ => 0, fun _ => 0, 0) : Mem) (by decide) rfl rfl (Nat.le_of_ble_eq_true rfl) rfl ?_
  intro p e s m below meth c hc hNW hr hk
  generalize ((fun _ _ => 0, fun _ => 0, 0) : Mem) = M
  have cw9 : va_CN ({ frames := 1, cells := 0, slots := 0, locals := 21 }) s _ RX1 9 yX5_isBelow RX5 cX5_isBelow 2 (some .boolean) wsX5_isBelow ({ frames := 0, cells := 0, slots := 0, locals := 0 }) 0 0 2 ∧ (Cond.static yX5_isBelow).before _ s = true ∧ True := ⟨va_cnB 2 hc.2.2.2.2 gX1_isGiven_X5_isBelow_n9 rfl rfl rfl hNW.2.1 (hc.2.2.2.2 _ (by decide +kernel)) (by decide +kernel) ⟨Nat.le_of_ble_eq_true rfl, Nat.le_of_ble_eq_true rfl⟩, hc.2.2.2.2 _ (by decide +kernel), trivial⟩
  refine wp_iload_n hc 0 dX1_isGiven_0 rfl ?_
  refine wp_sipush (v := 10007) hc dX1_isGiven_1 (by decide) ?_
  refine wp_callNg (As := [.int i1, .int 10007]) (rest := []) (v := (fX5_isBelow i1 10007)) hc hNW (kX5_isBelow l i1 10007) cw9 rfl rfl (Nat.le_of_ble_eq_true rfl) dX1_isGiven_4 ?_
  refine wp_if_eq (tgt := 24) hc dX1_isGiven_7 (by decide) (fun c7 => ?_) (fun c7 => ?_)
  · refine wp_iconst (v := 0) hc dX1_isGiven_24 (by decide) ?_
    refine ws_zret hc hr hk rfl ?_ dX1_isGiven_25
    show 0 = fX1_isGiven i1 i2
    rw [fX1_isGiven, if_pos c7]
  refine wp_iload_n hc 1 dX1_isGiven_10 rfl ?_
  refine wp_sipush (v := 10007) hc dX1_isGiven_11 (by decide) ?_
  refine wp_callNg (As := [.int i2, .int 10007]) (rest := []) (v := (fX5_isBelow i2 10007)) hc hNW (kX5_isBelow l i2 10007) cw9 rfl rfl (Nat.le_of_ble_eq_true rfl) dX1_isGiven_14 ?_
  refine wp_if_eq (tgt := 24) hc dX1_isGiven_17 (by decide) (fun c17 => ?_) (fun c17 => ?_)
  · refine wp_iconst (v := 0) hc dX1_isGiven_24 (by decide) ?_
    refine ws_zret hc hr hk rfl ?_ dX1_isGiven_25
    show 0 = fX1_isGiven i1 i2
    rw [fX1_isGiven, if_neg c7, if_pos c17]
  refine wp_iconst (v := 1) hc dX1_isGiven_20 (by decide) ?_
  refine wp_goto (tgt := 25) hc dX1_isGiven_21 (by decide) ?_
  refine ws_zret hc hr hk rfl ?_ dX1_isGiven_25
  show 1 = fX1_isGiven i1 i2
  rw [fX1_isGiven, if_neg c7, if_neg c17]
theorem bX1_isGiven (i1 : Int32) (i2 : Int32) : fX1_isGiven i1 i2 = 0 ∨ fX1_isGiven i1 i2 = 1 := by
  unfold fX1_isGiven
  (repeat' split) <;> first | exact Or.inl rfl | exact Or.inr rfl
def fX1_made (i1 : Int32) (i2 : Int32) : Int32 :=
  if 0 ≤ (rem i1 10007) then
  if 0 ≤ (rem i2 10007) then
  ((10007 * (rem i1 10007)) + (rem i2 10007))
  else
  ((10007 * (rem i1 10007)) + ((rem i2 10007) + 10007))
  else
  if 0 ≤ (rem i2 10007) then
  ((10007 * ((rem i1 10007) + 10007)) + (rem i2 10007))
  else
  ((10007 * ((rem i1 10007) + 10007)) + ((rem i2 10007) + 10007))
set_option maxHeartbeats 4000000 in
set_option maxRecDepth 100000 in
theorem kX1_made (l : Launch) (i1 : Int32) (i2 : Int32) : KS l yX1_made wsX1_made { frames := 0, cells := 0, slots := 0, locals := 0 } [.int i1, .int i2] (fun r => r = fX1_made i1 i2) := by
  refine met_ws (lv := [(0, .int i1), (1, .int i2)]) ((fun _ _ => 0, fun _ => 0, 0) : Mem) (by decide) rfl rfl (Nat.le_of_ble_eq_true rfl) rfl ?_
  intro p e s m below meth c hc hNW hr hk
  generalize ((fun _ _ => 0, fun _ => 0, 0) : Mem) = M
  refine wp_iload_n hc 0 dX1_made_0 rfl ?_
  refine wp_sipush (v := 10007) hc dX1_made_1 (by decide) ?_
  refine wp_iremR hc dX1_made_4 (by decide) ?_
  refine wp_istore_n (lv' := [(2, .int (rem i1 10007)), (0, .int i1), (1, .int i2)]) hc dX1_made_5 (by decide) rfl ?_
  refine wp_iload_n hc 2 dX1_made_6 rfl ?_
  refine wp_sipush (v := 10007) hc dX1_made_7 (by decide) ?_
  refine wp_iremR hc dX1_made_10 (by decide) ?_
  refine wp_istore_n (lv' := [(3, .int (rem i2 10007)), (2, .int (rem i1 10007)), (0, .int i1), (1, .int i2)]) hc dX1_made_11 (by decide) rfl ?_
  refine wp_sipush (v := 10007) hc dX1_made_12 (by decide) ?_
  refine wp_iload_n hc 1 dX1_made_15 rfl ?_
  refine wp_if_ge (tgt := 27) hc dX1_made_16 (by decide) (fun c16 => ?_) (fun c16 => ?_)
  · refine wp_iload_n hc 1 dX1_made_27 rfl ?_
    refine wp_imul hc dX1_made_28 ?_
    refine wp_iload_n hc 0 dX1_made_29 rfl ?_
    refine wp_if_ge (tgt := 41) hc dX1_made_30 (by decide) (fun c30 => ?_) (fun c30 => ?_)
    · refine wp_iload_n hc 0 dX1_made_41 rfl ?_
      refine wp_iadd hc dX1_made_42 ?_
      refine ws_iret hc hr hk ?_ dX1_made_43
      show ((10007 * (rem i1 10007)) + (rem i2 10007)) = fX1_made i1 i2
      rw [fX1_made, if_pos c16, if_pos c30]
    refine wp_iload_n hc 0 dX1_made_33 rfl ?_
    refine wp_sipush (v := 10007) hc dX1_made_34 (by decide) ?_
    refine wp_iadd hc dX1_made_37 ?_
    refine wp_goto (tgt := 42) hc dX1_made_38 (by decide) ?_
    refine wp_iadd hc dX1_made_42 ?_
    refine ws_iret hc hr hk ?_ dX1_made_43
    show ((10007 * (rem i1 10007)) + ((rem i2 10007) + 10007)) = fX1_made i1 i2
    rw [fX1_made, if_pos c16, if_neg c30]
  refine wp_iload_n hc 1 dX1_made_19 rfl ?_
  refine wp_sipush (v := 10007) hc dX1_made_20 (by decide) ?_
  refine wp_iadd hc dX1_made_23 ?_
  refine wp_goto (tgt := 28) hc dX1_made_24 (by decide) ?_
  refine wp_imul hc dX1_made_28 ?_
  refine wp_iload_n hc 0 dX1_made_29 rfl ?_
  refine wp_if_ge (tgt := 41) hc dX1_made_30 (by decide) (fun c30 => ?_) (fun c30 => ?_)
  · refine wp_iload_n hc 0 dX1_made_41 rfl ?_
    refine wp_iadd hc dX1_made_42 ?_
    refine ws_iret hc hr hk ?_ dX1_made_43
    show ((10007 * ((rem i1 10007) + 10007)) + (rem i2 10007)) = fX1_made i1 i2
    rw [fX1_made, if_neg c16, if_pos c30]
  refine wp_iload_n hc 0 dX1_made_33 rfl ?_
  refine wp_sipush (v := 10007) hc dX1_made_34 (by decide) ?_
  refine wp_iadd hc dX1_made_37 ?_
  refine wp_goto (tgt := 42) hc dX1_made_38 (by decide) ?_
  refine wp_iadd hc dX1_made_42 ?_
  refine ws_iret hc hr hk ?_ dX1_made_43
  show ((10007 * ((rem i1 10007) + 10007)) + ((rem i2 10007) + 10007)) = fX1_made i1 i2
  rw [fX1_made, if_neg c16, if_neg c30]
def fX1_plus (i1 : Int32) (i2 : Int32) : Int32 :=
  (fX1_made ((i1 / 10007) + (i2 / 10007)) ((rem i1 10007) + (rem i2 10007)))
set_option maxHeartbeats 4000000 in
set_option maxRecDepth 100000 in
theorem kX1_plus (l : Launch) (i1 : Int32) (i2 : Int32) : KS l yX1_plus wsX1_plus { frames := 1, cells := 0, slots := 0, locals := 23 } [.int i1, .int i2] (fun r => r = fX1_plus i1 i2) := by
  refine met_ws (lv := [(0, .int i1), (1, .int i2)]) ((fun _ _ => 0, fun _ => 0, 0) : Mem) (by decide) rfl rfl (Nat.le_of_ble_eq_true rfl) rfl ?_
  intro p e s m below meth c hc hNW hr hk
  generalize ((fun _ _ => 0, fun _ => 0, 0) : Mem) = M
  have cw13 : CallB ({ frames := 1, cells := 0, slots := 0, locals := 23 }) s _ RX1 13 yX1_made cX1_made 4 (some .int) wsX1_made ({ frames := 0, cells := 0, slots := 0, locals := 0 }) 0 0 2 ∧ (Cond.static yX1_made).before _ s = true := va_cwS 2 hc.2.2.2.2 gX1_plus_X1_made rfl rfl rfl (by decide +kernel) ⟨Nat.le_of_ble_eq_true rfl, Nat.le_of_ble_eq_true rfl⟩
  refine wp_iload_n hc 0 dX1_plus_0 rfl ?_
  refine wp_sipush (v := 10007) hc dX1_plus_1 (by decide) ?_
  refine wp_idiv hc dX1_plus_4 (by decide) ?_
  refine wp_iload_n hc 1 dX1_plus_5 rfl ?_
  refine wp_sipush (v := 10007) hc dX1_plus_6 (by decide) ?_
  refine wp_idiv hc dX1_plus_9 (by decide) ?_
  refine wp_iadd hc dX1_plus_10 ?_
  refine wp_iload_n hc 0 dX1_plus_11 rfl ?_
  refine wp_sipush (v := 10007) hc dX1_plus_12 (by decide) ?_
  refine wp_iremR hc dX1_plus_15 (by decide) ?_
  refine wp_iload_n hc 1 dX1_plus_16 rfl ?_
  refine wp_sipush (v := 10007) hc dX1_plus_17 (by decide) ?_
  refine wp_iremR hc dX1_plus_20 (by decide) ?_
  refine wp_iadd hc dX1_plus_21 ?_
  refine wp_callSg (As := [.int ((i1 / 10007) + (i2 / 10007)), .int ((rem i1 10007) + (rem i2 10007))]) (rest := []) (v := (fX1_made ((i1 / 10007) + (i2 / 10007)) ((rem i1 10007) + (rem i2 10007)))) hc hNW (kX1_made l ((i1 / 10007) + (i2 / 10007)) ((rem i1 10007) + (rem i2 10007))) cw13 rfl rfl (Nat.le_of_ble_eq_true rfl) dX1_plus_22 ?_
  refine ws_iret hc hr hk ?_ dX1_plus_25
  show (fX1_made ((i1 / 10007) + (i2 / 10007)) ((rem i1 10007) + (rem i2 10007))) = fX1_plus i1 i2
  rw [fX1_plus]
def fX1_minus (i1 : Int32) (i2 : Int32) : Int32 :=
  (fX1_made ((i1 / 10007) - (i2 / 10007)) ((rem i1 10007) - (rem i2 10007)))
set_option maxHeartbeats 4000000 in
set_option maxRecDepth 100000 in
theorem kX1_minus (l : Launch) (i1 : Int32) (i2 : Int32) : KS l yX1_minus wsX1_minus { frames := 1, cells := 0, slots := 0, locals := 23 } [.int i1, .int i2] (fun r => r = fX1_minus i1 i2) := by
  refine met_ws (lv := [(0, .int i1), (1, .int i2)]) ((fun _ _ => 0, fun _ => 0, 0) : Mem) (by decide) rfl rfl (Nat.le_of_ble_eq_true rfl) rfl ?_
  intro p e s m below meth c hc hNW hr hk
  generalize ((fun _ _ => 0, fun _ => 0, 0) : Mem) = M
  have cw13 : CallB ({ frames := 1, cells := 0, slots := 0, locals := 23 }) s _ RX1 13 yX1_made cX1_made 4 (some .int) wsX1_made ({ frames := 0, cells := 0, slots := 0, locals := 0 }) 0 0 2 ∧ (Cond.static yX1_made).before _ s = true := va_cwS 2 hc.2.2.2.2 gX1_minus_X1_made rfl rfl rfl (by decide +kernel) ⟨Nat.le_of_ble_eq_true rfl, Nat.le_of_ble_eq_true rfl⟩
  refine wp_iload_n hc 0 dX1_minus_0 rfl ?_
  refine wp_sipush (v := 10007) hc dX1_minus_1 (by decide) ?_
  refine wp_idiv hc dX1_minus_4 (by decide) ?_
  refine wp_iload_n hc 1 dX1_minus_5 rfl ?_
  refine wp_sipush (v := 10007) hc dX1_minus_6 (by decide) ?_
  refine wp_idiv hc dX1_minus_9 (by decide) ?_
  refine wp_isub hc dX1_minus_10 ?_
  refine wp_iload_n hc 0 dX1_minus_11 rfl ?_
  refine wp_sipush (v := 10007) hc dX1_minus_12 (by decide) ?_
  refine wp_iremR hc dX1_minus_15 (by decide) ?_
  refine wp_iload_n hc 1 dX1_minus_16 rfl ?_
  refine wp_sipush (v := 10007) hc dX1_minus_17 (by decide) ?_
  refine wp_iremR hc dX1_minus_20 (by decide) ?_
  refine wp_isub hc dX1_minus_21 ?_
  refine wp_callSg (As := [.int ((i1 / 10007) - (i2 / 10007)), .int ((rem i1 10007) - (rem i2 10007))]) (rest := []) (v := (fX1_made ((i1 / 10007) - (i2 / 10007)) ((rem i1 10007) - (rem i2 10007)))) hc hNW (kX1_made l ((i1 / 10007) - (i2 / 10007)) ((rem i1 10007) - (rem i2 10007))) cw13 rfl rfl (Nat.le_of_ble_eq_true rfl) dX1_minus_22 ?_
  refine ws_iret hc hr hk ?_ dX1_minus_25
  show (fX1_made ((i1 / 10007) - (i2 / 10007)) ((rem i1 10007) - (rem i2 10007))) = fX1_minus i1 i2
  rw [fX1_minus]
def fX1_times (i1 : Int32) (i2 : Int32) : Int32 :=
  (fX1_made (((i1 / 10007) * (i2 / 10007)) - ((rem i1 10007) * (rem i2 10007))) (((i1 / 10007) * (rem i2 10007)) + ((rem i1 10007) * (i2 / 10007))))
set_option maxHeartbeats 4000000 in
set_option maxRecDepth 100000 in
theorem kX1_times (l : Launch) (i1 : Int32) (i2 : Int32) : KS l yX1_times wsX1_times { frames := 1, cells := 0, slots := 0, locals := 23 } [.int i1, .int i2] (fun r => r = fX1_times i1 i2) := by
  refine met_ws (lv := [(0, .int i1), (1, .int i2)]) ((fun _ _ => 0, fun _ => 0, 0) : Mem) (by decide) rfl rfl (Nat.le_of_ble_eq_true rfl) rfl ?_
  intro p e s m below meth c hc hNW hr hk
  generalize ((fun _ _ => 0, fun _ => 0, 0) : Mem) = M
  have cw13 : CallB ({ frames := 1, cells := 0, slots := 0, locals := 23 }) s _ RX1 13 yX1_made cX1_made 4 (some .int) wsX1_made ({ frames := 0, cells := 0, slots := 0, locals := 0 }) 0 0 2 ∧ (Cond.static yX1_made).before _ s = true := va_cwS 2 hc.2.2.2.2 gX1_times_X1_made rfl rfl rfl (by decide +kernel) ⟨Nat.le_of_ble_eq_true rfl, Nat.le_of_ble_eq_true rfl⟩
  refine wp_iload_n hc 0 dX1_times_0 rfl ?_
  refine wp_sipush (v := 10007) hc dX1_times_1 (by decide) ?_
  refine wp_idiv hc dX1_times_4 (by decide) ?_
  refine wp_istore_n (lv' := [(2, .int (i1 / 10007)), (0, .int i1), (1, .int i2)]) hc dX1_times_5 (by decide) rfl ?_
  refine wp_iload_n hc 1 dX1_times_6 rfl ?_
  refine wp_sipush (v := 10007) hc dX1_times_7 (by decide) ?_
  refine wp_iremR hc dX1_times_10 (by decide) ?_
  refine wp_istore_n (lv' := [(3, .int (rem i1 10007)), (2, .int (i1 / 10007)), (0, .int i1), (1, .int i2)]) hc dX1_times_11 (by decide) rfl ?_
  refine wp_iload_n hc 3 dX1_times_12 rfl ?_
  refine wp_sipush (v := 10007) hc dX1_times_13 (by decide) ?_
  refine wp_idiv hc dX1_times_16 (by decide) ?_
  refine wp_istore (lv' := [(4, .int (i2 / 10007)), (3, .int (rem i1 10007)), (2, .int (i1 / 10007)), (0, .int i1), (1, .int i2)]) hc dX1_times_17 (by decide) rfl ?_
  refine wp_iload_n hc 4 dX1_times_19 rfl ?_
  refine wp_sipush (v := 10007) hc dX1_times_20 (by decide) ?_
  refine wp_iremR hc dX1_times_23 (by decide) ?_
  refine wp_istore (lv' := [(5, .int (rem i2 10007)), (4, .int (i2 / 10007)), (3, .int (rem i1 10007)), (2, .int (i1 / 10007)), (0, .int i1), (1, .int i2)]) hc dX1_times_24 (by decide) rfl ?_
  refine wp_iload_n hc 3 dX1_times_26 rfl ?_
  refine wp_iload hc 1 dX1_times_27 rfl ?_
  refine wp_imul hc dX1_times_29 ?_
  refine wp_iload_n hc 2 dX1_times_30 rfl ?_
  refine wp_iload hc 0 dX1_times_31 rfl ?_
  refine wp_imul hc dX1_times_33 ?_
  refine wp_isub hc dX1_times_34 ?_
  refine wp_iload_n hc 3 dX1_times_35 rfl ?_
  refine wp_iload hc 0 dX1_times_36 rfl ?_
  refine wp_imul hc dX1_times_38 ?_
  refine wp_iload_n hc 2 dX1_times_39 rfl ?_
  refine wp_iload hc 1 dX1_times_40 rfl ?_
  refine wp_imul hc dX1_times_42 ?_
  refine wp_iadd hc dX1_times_43 ?_
  refine wp_callSg (As := [.int (((i1 / 10007) * (i2 / 10007)) - ((rem i1 10007) * (rem i2 10007))), .int (((i1 / 10007) * (rem i2 10007)) + ((rem i1 10007) * (i2 / 10007)))]) (rest := []) (v := (fX1_made (((i1 / 10007) * (i2 / 10007)) - ((rem i1 10007) * (rem i2 10007))) (((i1 / 10007) * (rem i2 10007)) + ((rem i1 10007) * (i2 / 10007))))) hc hNW (kX1_made l (((i1 / 10007) * (i2 / 10007)) - ((rem i1 10007) * (rem i2 10007))) (((i1 / 10007) * (rem i2 10007)) + ((rem i1 10007) * (i2 / 10007)))) cw13 rfl rfl (Nat.le_of_ble_eq_true rfl) dX1_times_44 ?_
  refine ws_iret hc hr hk ?_ dX1_times_47
  show (fX1_made (((i1 / 10007) * (i2 / 10007)) - ((rem i1 10007) * (rem i2 10007))) (((i1 / 10007) * (rem i2 10007)) + ((rem i1 10007) * (i2 / 10007)))) = fX1_times i1 i2
  rw [fX1_times]
def fX1_other (i1 : Int32) : Int32 :=
  (fX1_made (i1 / 10007) (-(rem i1 10007)))
set_option maxHeartbeats 4000000 in
set_option maxRecDepth 100000 in
theorem kX1_other (l : Launch) (i1 : Int32) : KS l yX1_other wsX1_other { frames := 1, cells := 0, slots := 0, locals := 23 } [.int i1] (fun r => r = fX1_other i1) := by
  refine met_ws (lv := [(0, .int i1)]) ((fun _ _ => 0, fun _ => 0, 0) : Mem) (by decide) rfl rfl (Nat.le_of_ble_eq_true rfl) rfl ?_
  intro p e s m below meth c hc hNW hr hk
  generalize ((fun _ _ => 0, fun _ => 0, 0) : Mem) = M
  have cw13 : CallB ({ frames := 1, cells := 0, slots := 0, locals := 23 }) s _ RX1 13 yX1_made cX1_made 4 (some .int) wsX1_made ({ frames := 0, cells := 0, slots := 0, locals := 0 }) 0 0 2 ∧ (Cond.static yX1_made).before _ s = true := va_cwS 2 hc.2.2.2.2 gX1_other_X1_made rfl rfl rfl (by decide +kernel) ⟨Nat.le_of_ble_eq_true rfl, Nat.le_of_ble_eq_true rfl⟩
  refine wp_iload_n hc 0 dX1_other_0 rfl ?_
  refine wp_sipush (v := 10007) hc dX1_other_1 (by decide) ?_
  refine wp_idiv hc dX1_other_4 (by decide) ?_
  refine wp_iload_n hc 0 dX1_other_5 rfl ?_
  refine wp_sipush (v := 10007) hc dX1_other_6 (by decide) ?_
  refine wp_iremR hc dX1_other_9 (by decide) ?_
  refine wp_ineg hc dX1_other_10 ?_
  refine wp_callSg (As := [.int (i1 / 10007), .int (-(rem i1 10007))]) (rest := []) (v := (fX1_made (i1 / 10007) (-(rem i1 10007)))) hc hNW (kX1_made l (i1 / 10007) (-(rem i1 10007))) cw13 rfl rfl (Nat.le_of_ble_eq_true rfl) dX1_other_11 ?_
  refine ws_iret hc hr hk ?_ dX1_other_14
  show (fX1_made (i1 / 10007) (-(rem i1 10007))) = fX1_other i1
  rw [fX1_other]
def fX1_pairs (i1 : Int32) (i2 : Int32) (i3 : Int32) (i4 : Int32) : Int32 :=
  (fX1_plus (fX1_times i1 i2) (fX1_times i3 i4))
set_option maxHeartbeats 4000000 in
set_option maxRecDepth 100000 in
theorem kX1_pairs (l : Launch) (i1 : Int32) (i2 : Int32) (i3 : Int32) (i4 : Int32) : KS l yX1_pairs wsX1_pairs { frames := 2, cells := 0, slots := 0, locals := 48 } [.int i1, .int i2, .int i3, .int i4] (fun r => r = fX1_pairs i1 i2 i3 i4) := by
  refine met_ws (lv := [(0, .int i1), (1, .int i2), (2, .int i3), (3, .int i4)]) ((fun _ _ => 0, fun _ => 0, 0) : Mem) (by decide) rfl rfl (Nat.le_of_ble_eq_true rfl) rfl ?_
  intro p e s m below meth c hc hNW hr hk
  generalize ((fun _ _ => 0, fun _ => 0, 0) : Mem) = M
  have cw19 : CallB ({ frames := 2, cells := 0, slots := 0, locals := 48 }) s _ RX1 19 yX1_times cX1_times 6 (some .int) wsX1_times ({ frames := 1, cells := 0, slots := 0, locals := 23 }) 0 0 2 ∧ (Cond.static yX1_times).before _ s = true := va_cwS 2 hc.2.2.2.2 gX1_pairs_X1_times rfl rfl rfl (by decide +kernel) ⟨Nat.le_of_ble_eq_true rfl, Nat.le_of_ble_eq_true rfl⟩
  have cw22 : CallB ({ frames := 2, cells := 0, slots := 0, locals := 48 }) s _ RX1 22 yX1_plus cX1_plus 2 (some .int) wsX1_plus ({ frames := 1, cells := 0, slots := 0, locals := 23 }) 0 0 2 ∧ (Cond.static yX1_plus).before _ s = true := va_cwS 2 hc.2.2.2.2 gX1_pairs_X1_plus rfl rfl rfl (by decide +kernel) ⟨Nat.le_of_ble_eq_true rfl, Nat.le_of_ble_eq_true rfl⟩
  refine wp_iload_n hc 0 dX1_pairs_0 rfl ?_
  refine wp_iload_n hc 1 dX1_pairs_1 rfl ?_
  refine wp_callSg (As := [.int i1, .int i2]) (rest := []) (v := (fX1_times i1 i2)) hc hNW (kX1_times l i1 i2) cw19 rfl rfl (Nat.le_of_ble_eq_true rfl) dX1_pairs_2 ?_
  refine wp_iload_n hc 2 dX1_pairs_5 rfl ?_
  refine wp_iload_n hc 3 dX1_pairs_6 rfl ?_
  refine wp_callSg (As := [.int i3, .int i4]) (rest := [.int (fX1_times i1 i2)]) (v := (fX1_times i3 i4)) hc hNW (kX1_times l i3 i4) cw19 rfl rfl (Nat.le_of_ble_eq_true rfl) dX1_pairs_7 ?_
  refine wp_callSg (As := [.int (fX1_times i1 i2), .int (fX1_times i3 i4)]) (rest := []) (v := (fX1_plus (fX1_times i1 i2) (fX1_times i3 i4))) hc hNW (kX1_plus l (fX1_times i1 i2) (fX1_times i3 i4)) cw22 rfl rfl (Nat.le_of_ble_eq_true rfl) dX1_pairs_10 ?_
  refine ws_iret hc hr hk ?_ dX1_pairs_13
  show (fX1_plus (fX1_times i1 i2) (fX1_times i3 i4)) = fX1_pairs i1 i2 i3 i4
  rw [fX1_pairs]
def fX1_inverted (i1 : Int32) : Int32 :=
  tk ((rem ((rem (i1 * i1) 10007) * (rem (i1 * i1) 10007)) 10007)) fun x1 =>
  tk ((rem ((rem (1 * i1) 10007) * x1) 10007)) fun x2 =>
  tk ((rem ((rem (x1 * x1) 10007) * (rem (x1 * x1) 10007)) 10007)) fun x3 =>
  tk ((rem ((rem (x3 * x3) 10007) * (rem (x3 * x3) 10007)) 10007)) fun x4 =>
  tk ((rem ((rem (x4 * x4) 10007) * (rem (x4 * x4) 10007)) 10007)) fun x5 =>
  tk ((rem ((rem (x2 * x3) 10007) * x5) 10007)) fun x6 =>
  tk ((rem (x6 * (rem (x5 * x5) 10007)) 10007)) fun x7 =>
  tk ((rem ((rem (x5 * x5) 10007) * (rem (x5 * x5) 10007)) 10007)) fun x8 =>
  tk ((rem ((rem (x8 * x8) 10007) * (rem (x8 * x8) 10007)) 10007)) fun x9 =>
  tk ((rem ((rem (x7 * x8) 10007) * (rem (x9 * x9) 10007)) 10007)) fun x10 =>
  tk ((rem ((rem (x9 * x9) 10007) * (rem (x9 * x9) 10007)) 10007)) fun x11 =>
  x10
set_option maxHeartbeats 4000000 in
set_option maxRecDepth 100000 in
theorem kX1_inverted (l : Launch) (i1 : Int32) : KS l yX1_inverted wsX1_inverted { frames := 0, cells := 0, slots := 0, locals := 0 } [.int i1] (fun r => r = fX1_inverted i1) := by
  refine met_ws (lv := [(0, .int i1)]) ((fun _ _ => 0, fun _ => 0, 0) : Mem) (by decide) rfl rfl (Nat.le_of_ble_eq_true rfl) rfl ?_
  intro p e s m below meth c hc hNW hr hk
  generalize ((fun _ _ => 0, fun _ => 0, 0) : Mem) = M
  refine wp_iload_n hc 0 dX1_inverted_0 rfl ?_
  refine wp_istore_n (lv' := [(1, .int i1), (0, .int i1)]) hc dX1_inverted_1 (by decide) rfl ?_
  refine wp_iconst (v := 1) hc dX1_inverted_2 (by decide) ?_
  refine wp_istore_n (lv' := [(2, .int 1), (1, .int i1), (0, .int i1)]) hc dX1_inverted_3 (by decide) rfl ?_
  refine wp_sipush (v := 10005) hc dX1_inverted_4 (by decide) ?_
  refine wp_istore_n (lv' := [(3, .int 10005), (2, .int 1), (1, .int i1), (0, .int i1)]) hc dX1_inverted_7 (by decide) rfl ?_
  refine wp_iload_n hc 0 dX1_inverted_8 rfl ?_
  refine wp_if_le (tgt := 42) hc dX1_inverted_9 (by decide) (fun c => absurd c (by decide)) (fun _ => ?_)
  refine wp_iload_n hc 0 dX1_inverted_12 rfl ?_
  refine wp_iconst (v := 2) hc dX1_inverted_13 (by decide) ?_
  refine wp_iremR hc dX1_inverted_14 (by decide) ?_
  refine wp_cvt (v := 1) (by decide) ?_
  refine wp_iconst (v := 1) hc dX1_inverted_15 (by decide) ?_
  refine wp_icmp_ne (tgt := 27) hc dX1_inverted_16 (by decide) (fun c => absurd c (by decide)) (fun _ => ?_)
  refine wp_iload_n hc 1 dX1_inverted_19 rfl ?_
  refine wp_iload_n hc 2 dX1_inverted_20 rfl ?_
  refine wp_imul hc dX1_inverted_21 ?_
  refine wp_sipush (v := 10007) hc dX1_inverted_22 (by decide) ?_
  refine wp_iremR hc dX1_inverted_25 (by decide) ?_
  refine wp_istore_n (lv' := [(2, .int (rem (1 * i1) 10007)), (3, .int 10005), (1, .int i1), (0, .int i1)]) hc dX1_inverted_26 (by decide) rfl ?_
  refine wp_iload_n hc 2 dX1_inverted_27 rfl ?_
  refine wp_iload_n hc 2 dX1_inverted_28 rfl ?_
  refine wp_imul hc dX1_inverted_29 ?_
  refine wp_sipush (v := 10007) hc dX1_inverted_30 (by decide) ?_
  refine wp_iremR hc dX1_inverted_33 (by decide) ?_
  refine wp_istore_n (lv' := [(1, .int (rem (i1 * i1) 10007)), (2, .int (rem (1 * i1) 10007)), (3, .int 10005), (0, .int i1)]) hc dX1_inverted_34 (by decide) rfl ?_
  refine wp_iload_n hc 2 dX1_inverted_35 rfl ?_
  refine wp_iconst (v := 2) hc dX1_inverted_36 (by decide) ?_
  refine wp_idiv hc dX1_inverted_37 (by decide) ?_
  refine wp_cvt (v := 5002) (by decide) ?_
  refine wp_istore_n (lv' := [(3, .int 5002), (1, .int (rem (i1 * i1) 10007)), (2, .int (rem (1 * i1) 10007)), (0, .int i1)]) hc dX1_inverted_38 (by decide) rfl ?_
  refine wp_goto (tgt := 8) hc dX1_inverted_39 (by decide) ?_
  refine wp_iload_n hc 0 dX1_inverted_8 rfl ?_
  refine wp_if_le (tgt := 42) hc dX1_inverted_9 (by decide) (fun c => absurd c (by decide)) (fun _ => ?_)
  refine wp_iload_n hc 0 dX1_inverted_12 rfl ?_
  refine wp_iconst (v := 2) hc dX1_inverted_13 (by decide) ?_
  refine wp_iremR hc dX1_inverted_14 (by decide) ?_
  refine wp_cvt (v := 0) (by decide) ?_
  refine wp_iconst (v := 1) hc dX1_inverted_15 (by decide) ?_
  refine wp_icmp_ne (tgt := 27) hc dX1_inverted_16 (by decide) (fun _ => ?_) (fun c => absurd c (by decide))
  refine wp_iload_n hc 1 dX1_inverted_27 rfl ?_
  refine wp_iload_n hc 1 dX1_inverted_28 rfl ?_
  refine wp_imul hc dX1_inverted_29 ?_
  refine wp_sipush (v := 10007) hc dX1_inverted_30 (by decide) ?_
  refine wp_iremR hc dX1_inverted_33 (by decide) ?_
  refine wp_topi (fun x1 hx1 => ?_)
  refine wp_istore_n (lv' := [(1, .int x1), (3, .int 5002), (2, .int (rem (1 * i1) 10007)), (0, .int i1)]) hc dX1_inverted_34 (by decide) rfl ?_
  refine wp_iload_n hc 1 dX1_inverted_35 rfl ?_
  refine wp_iconst (v := 2) hc dX1_inverted_36 (by decide) ?_
  refine wp_idiv hc dX1_inverted_37 (by decide) ?_
  refine wp_cvt (v := 2501) (by decide) ?_
  refine wp_istore_n (lv' := [(3, .int 2501), (1, .int x1), (2, .int (rem (1 * i1) 10007)), (0, .int i1)]) hc dX1_inverted_38 (by decide) rfl ?_
  refine wp_goto (tgt := 8) hc dX1_inverted_39 (by decide) ?_
  refine wp_iload_n hc 0 dX1_inverted_8 rfl ?_
  refine wp_if_le (tgt := 42) hc dX1_inverted_9 (by decide) (fun c => absurd c (by decide)) (fun _ => ?_)
  refine wp_iload_n hc 0 dX1_inverted_12 rfl ?_
  refine wp_iconst (v := 2) hc dX1_inverted_13 (by decide) ?_
  refine wp_iremR hc dX1_inverted_14 (by decide) ?_
  refine wp_cvt (v := 1) (by decide) ?_
  refine wp_iconst (v := 1) hc dX1_inverted_15 (by decide) ?_
  refine wp_icmp_ne (tgt := 27) hc dX1_inverted_16 (by decide) (fun c => absurd c (by decide)) (fun _ => ?_)
  refine wp_iload_n hc 2 dX1_inverted_19 rfl ?_
  refine wp_iload_n hc 1 dX1_inverted_20 rfl ?_
  refine wp_imul hc dX1_inverted_21 ?_
  refine wp_sipush (v := 10007) hc dX1_inverted_22 (by decide) ?_
  refine wp_iremR hc dX1_inverted_25 (by decide) ?_
  refine wp_topi (fun x2 hx2 => ?_)
  refine wp_istore_n (lv' := [(2, .int x2), (3, .int 2501), (1, .int x1), (0, .int i1)]) hc dX1_inverted_26 (by decide) rfl ?_
  refine wp_iload_n hc 2 dX1_inverted_27 rfl ?_
  refine wp_iload_n hc 2 dX1_inverted_28 rfl ?_
  refine wp_imul hc dX1_inverted_29 ?_
  refine wp_sipush (v := 10007) hc dX1_inverted_30 (by decide) ?_
  refine wp_iremR hc dX1_inverted_33 (by decide) ?_
  refine wp_istore_n (lv' := [(1, .int (rem (x1 * x1) 10007)), (2, .int x2), (3, .int 2501), (0, .int i1)]) hc dX1_inverted_34 (by decide) rfl ?_
  refine wp_iload_n hc 2 dX1_inverted_35 rfl ?_
  refine wp_iconst (v := 2) hc dX1_inverted_36 (by decide) ?_
  refine wp_idiv hc dX1_inverted_37 (by decide) ?_
  refine wp_cvt (v := 1250) (by decide) ?_
  refine wp_istore_n (lv' := [(3, .int 1250), (1, .int (rem (x1 * x1) 10007)), (2, .int x2), (0, .int i1)]) hc dX1_inverted_38 (by decide) rfl ?_
  refine wp_goto (tgt := 8) hc dX1_inverted_39 (by decide) ?_
  refine wp_iload_n hc 0 dX1_inverted_8 rfl ?_
  refine wp_if_le (tgt := 42) hc dX1_inverted_9 (by decide) (fun c => absurd c (by decide)) (fun _ => ?_)
  refine wp_iload_n hc 0 dX1_inverted_12 rfl ?_
  refine wp_iconst (v := 2) hc dX1_inverted_13 (by decide) ?_
  refine wp_iremR hc dX1_inverted_14 (by decide) ?_
  refine wp_cvt (v := 0) (by decide) ?_
  refine wp_iconst (v := 1) hc dX1_inverted_15 (by decide) ?_
  refine wp_icmp_ne (tgt := 27) hc dX1_inverted_16 (by decide) (fun _ => ?_) (fun c => absurd c (by decide))
  refine wp_iload_n hc 1 dX1_inverted_27 rfl ?_
  refine wp_iload_n hc 1 dX1_inverted_28 rfl ?_
  refine wp_imul hc dX1_inverted_29 ?_
  refine wp_sipush (v := 10007) hc dX1_inverted_30 (by decide) ?_
  refine wp_iremR hc dX1_inverted_33 (by decide) ?_
  refine wp_topi (fun x3 hx3 => ?_)
  refine wp_istore_n (lv' := [(1, .int x3), (3, .int 1250), (2, .int x2), (0, .int i1)]) hc dX1_inverted_34 (by decide) rfl ?_
  refine wp_iload_n hc 1 dX1_inverted_35 rfl ?_
  refine wp_iconst (v := 2) hc dX1_inverted_36 (by decide) ?_
  refine wp_idiv hc dX1_inverted_37 (by decide) ?_
  refine wp_cvt (v := 625) (by decide) ?_
  refine wp_istore_n (lv' := [(3, .int 625), (1, .int x3), (2, .int x2), (0, .int i1)]) hc dX1_inverted_38 (by decide) rfl ?_
  refine wp_goto (tgt := 8) hc dX1_inverted_39 (by decide) ?_
  refine wp_iload_n hc 0 dX1_inverted_8 rfl ?_
  refine wp_if_le (tgt := 42) hc dX1_inverted_9 (by decide) (fun c => absurd c (by decide)) (fun _ => ?_)
  refine wp_iload_n hc 0 dX1_inverted_12 rfl ?_
  refine wp_iconst (v := 2) hc dX1_inverted_13 (by decide) ?_
  refine wp_iremR hc dX1_inverted_14 (by decide) ?_
  refine wp_cvt (v := 1) (by decide) ?_
  refine wp_iconst (v := 1) hc dX1_inverted_15 (by decide) ?_
  refine wp_icmp_ne (tgt := 27) hc dX1_inverted_16 (by decide) (fun c => absurd c (by decide)) (fun _ => ?_)
  refine wp_iload_n hc 2 dX1_inverted_19 rfl ?_
  refine wp_iload_n hc 1 dX1_inverted_20 rfl ?_
  refine wp_imul hc dX1_inverted_21 ?_
  refine wp_sipush (v := 10007) hc dX1_inverted_22 (by decide) ?_
  refine wp_iremR hc dX1_inverted_25 (by decide) ?_
  refine wp_istore_n (lv' := [(2, .int (rem (x2 * x3) 10007)), (3, .int 625), (1, .int x3), (0, .int i1)]) hc dX1_inverted_26 (by decide) rfl ?_
  refine wp_iload_n hc 2 dX1_inverted_27 rfl ?_
  refine wp_iload_n hc 2 dX1_inverted_28 rfl ?_
  refine wp_imul hc dX1_inverted_29 ?_
  refine wp_sipush (v := 10007) hc dX1_inverted_30 (by decide) ?_
  refine wp_iremR hc dX1_inverted_33 (by decide) ?_
  refine wp_istore_n (lv' := [(1, .int (rem (x3 * x3) 10007)), (2, .int (rem (x2 * x3) 10007)), (3, .int 625), (0, .int i1)]) hc dX1_inverted_34 (by decide) rfl ?_
  refine wp_iload_n hc 2 dX1_inverted_35 rfl ?_
  refine wp_iconst (v := 2) hc dX1_inverted_36 (by decide) ?_
  refine wp_idiv hc dX1_inverted_37 (by decide) ?_
  refine wp_cvt (v := 312) (by decide) ?_
  refine wp_istore_n (lv' := [(3, .int 312), (1, .int (rem (x3 * x3) 10007)), (2, .int (rem (x2 * x3) 10007)), (0, .int i1)]) hc dX1_inverted_38 (by decide) rfl ?_
  refine wp_goto (tgt := 8) hc dX1_inverted_39 (by decide) ?_
  refine wp_iload_n hc 0 dX1_inverted_8 rfl ?_
  refine wp_if_le (tgt := 42) hc dX1_inverted_9 (by decide) (fun c => absurd c (by decide)) (fun _ => ?_)
  refine wp_iload_n hc 0 dX1_inverted_12 rfl ?_
  refine wp_iconst (v := 2) hc dX1_inverted_13 (by decide) ?_
  refine wp_iremR hc dX1_inverted_14 (by decide) ?_
  refine wp_cvt (v := 0) (by decide) ?_
  refine wp_iconst (v := 1) hc dX1_inverted_15 (by decide) ?_
  refine wp_icmp_ne (tgt := 27) hc dX1_inverted_16 (by decide) (fun _ => ?_) (fun c => absurd c (by decide))
  refine wp_iload_n hc 1 dX1_inverted_27 rfl ?_
  refine wp_iload_n hc 1 dX1_inverted_28 rfl ?_
  refine wp_imul hc dX1_inverted_29 ?_
  refine wp_sipush (v := 10007) hc dX1_inverted_30 (by decide) ?_
  refine wp_iremR hc dX1_inverted_33 (by decide) ?_
  refine wp_topi (fun x4 hx4 => ?_)
  refine wp_istore_n (lv' := [(1, .int x4), (3, .int 312), (2, .int (rem (x2 * x3) 10007)), (0, .int i1)]) hc dX1_inverted_34 (by decide) rfl ?_
  refine wp_iload_n hc 1 dX1_inverted_35 rfl ?_
  refine wp_iconst (v := 2) hc dX1_inverted_36 (by decide) ?_
  refine wp_idiv hc dX1_inverted_37 (by decide) ?_
  refine wp_cvt (v := 156) (by decide) ?_
  refine wp_istore_n (lv' := [(3, .int 156), (1, .int x4), (2, .int (rem (x2 * x3) 10007)), (0, .int i1)]) hc dX1_inverted_38 (by decide) rfl ?_
  refine wp_goto (tgt := 8) hc dX1_inverted_39 (by decide) ?_
  refine wp_iload_n hc 0 dX1_inverted_8 rfl ?_
  refine wp_if_le (tgt := 42) hc dX1_inverted_9 (by decide) (fun c => absurd c (by decide)) (fun _ => ?_)
  refine wp_iload_n hc 0 dX1_inverted_12 rfl ?_
  refine wp_iconst (v := 2) hc dX1_inverted_13 (by decide) ?_
  refine wp_iremR hc dX1_inverted_14 (by decide) ?_
  refine wp_cvt (v := 0) (by decide) ?_
  refine wp_iconst (v := 1) hc dX1_inverted_15 (by decide) ?_
  refine wp_icmp_ne (tgt := 27) hc dX1_inverted_16 (by decide) (fun _ => ?_) (fun c => absurd c (by decide))
  refine wp_iload_n hc 1 dX1_inverted_27 rfl ?_
  refine wp_iload_n hc 1 dX1_inverted_28 rfl ?_
  refine wp_imul hc dX1_inverted_29 ?_
  refine wp_sipush (v := 10007) hc dX1_inverted_30 (by decide) ?_
  refine wp_iremR hc dX1_inverted_33 (by decide) ?_
  refine wp_istore_n (lv' := [(1, .int (rem (x4 * x4) 10007)), (3, .int 156), (2, .int (rem (x2 * x3) 10007)), (0, .int i1)]) hc dX1_inverted_34 (by decide) rfl ?_
  refine wp_iload_n hc 1 dX1_inverted_35 rfl ?_
  refine wp_iconst (v := 2) hc dX1_inverted_36 (by decide) ?_
  refine wp_idiv hc dX1_inverted_37 (by decide) ?_
  refine wp_cvt (v := 78) (by decide) ?_
  refine wp_istore_n (lv' := [(3, .int 78), (1, .int (rem (x4 * x4) 10007)), (2, .int (rem (x2 * x3) 10007)), (0, .int i1)]) hc dX1_inverted_38 (by decide) rfl ?_
  refine wp_goto (tgt := 8) hc dX1_inverted_39 (by decide) ?_
  refine wp_iload_n hc 0 dX1_inverted_8 rfl ?_
  refine wp_if_le (tgt := 42) hc dX1_inverted_9 (by decide) (fun c => absurd c (by decide)) (fun _ => ?_)
  refine wp_iload_n hc 0 dX1_inverted_12 rfl ?_
  refine wp_iconst (v := 2) hc dX1_inverted_13 (by decide) ?_
  refine wp_iremR hc dX1_inverted_14 (by decide) ?_
  refine wp_cvt (v := 0) (by decide) ?_
  refine wp_iconst (v := 1) hc dX1_inverted_15 (by decide) ?_
  refine wp_icmp_ne (tgt := 27) hc dX1_inverted_16 (by decide) (fun _ => ?_) (fun c => absurd c (by decide))
  refine wp_iload_n hc 1 dX1_inverted_27 rfl ?_
  refine wp_iload_n hc 1 dX1_inverted_28 rfl ?_
  refine wp_imul hc dX1_inverted_29 ?_
  refine wp_sipush (v := 10007) hc dX1_inverted_30 (by decide) ?_
  refine wp_iremR hc dX1_inverted_33 (by decide) ?_
  refine wp_topi (fun x5 hx5 => ?_)
  refine wp_istore_n (lv' := [(1, .int x5), (3, .int 78), (2, .int (rem (x2 * x3) 10007)), (0, .int i1)]) hc dX1_inverted_34 (by decide) rfl ?_
  refine wp_iload_n hc 1 dX1_inverted_35 rfl ?_
  refine wp_iconst (v := 2) hc dX1_inverted_36 (by decide) ?_
  refine wp_idiv hc dX1_inverted_37 (by decide) ?_
  refine wp_cvt (v := 39) (by decide) ?_
  refine wp_istore_n (lv' := [(3, .int 39), (1, .int x5), (2, .int (rem (x2 * x3) 10007)), (0, .int i1)]) hc dX1_inverted_38 (by decide) rfl ?_
  refine wp_goto (tgt := 8) hc dX1_inverted_39 (by decide) ?_
  refine wp_iload_n hc 0 dX1_inverted_8 rfl ?_
  refine wp_if_le (tgt := 42) hc dX1_inverted_9 (by decide) (fun c => absurd c (by decide)) (fun _ => ?_)
  refine wp_iload_n hc 0 dX1_inverted_12 rfl ?_
  refine wp_iconst (v := 2) hc dX1_inverted_13 (by decide) ?_
  refine wp_iremR hc dX1_inverted_14 (by decide) ?_
  refine wp_cvt (v := 1) (by decide) ?_
  refine wp_iconst (v := 1) hc dX1_inverted_15 (by decide) ?_
  refine wp_icmp_ne (tgt := 27) hc dX1_inverted_16 (by decide) (fun c => absurd c (by decide)) (fun _ => ?_)
  refine wp_iload_n hc 2 dX1_inverted_19 rfl ?_
  refine wp_iload_n hc 1 dX1_inverted_20 rfl ?_
  refine wp_imul hc dX1_inverted_21 ?_
  refine wp_sipush (v := 10007) hc dX1_inverted_22 (by decide) ?_
  refine wp_iremR hc dX1_inverted_25 (by decide) ?_
  refine wp_topi (fun x6 hx6 => ?_)
  refine wp_istore_n (lv' := [(2, .int x6), (3, .int 39), (1, .int x5), (0, .int i1)]) hc dX1_inverted_26 (by decide) rfl ?_
  refine wp_iload_n hc 2 dX1_inverted_27 rfl ?_
  refine wp_iload_n hc 2 dX1_inverted_28 rfl ?_
  refine wp_imul hc dX1_inverted_29 ?_
  refine wp_sipush (v := 10007) hc dX1_inverted_30 (by decide) ?_
  refine wp_iremR hc dX1_inverted_33 (by decide) ?_
  refine wp_istore_n (lv' := [(1, .int (rem (x5 * x5) 10007)), (2, .int x6), (3, .int 39), (0, .int i1)]) hc dX1_inverted_34 (by decide) rfl ?_
  refine wp_iload_n hc 2 dX1_inverted_35 rfl ?_
  refine wp_iconst (v := 2) hc dX1_inverted_36 (by decide) ?_
  refine wp_idiv hc dX1_inverted_37 (by decide) ?_
  refine wp_cvt (v := 19) (by decide) ?_
  refine wp_istore_n (lv' := [(3, .int 19), (1, .int (rem (x5 * x5) 10007)), (2, .int x6), (0, .int i1)]) hc dX1_inverted_38 (by decide) rfl ?_
  refine wp_goto (tgt := 8) hc dX1_inverted_39 (by decide) ?_
  refine wp_iload_n hc 0 dX1_inverted_8 rfl ?_
  refine wp_if_le (tgt := 42) hc dX1_inverted_9 (by decide) (fun c => absurd c (by decide)) (fun _ => ?_)
  refine wp_iload_n hc 0 dX1_inverted_12 rfl ?_
  refine wp_iconst (v := 2) hc dX1_inverted_13 (by decide) ?_
  refine wp_iremR hc dX1_inverted_14 (by decide) ?_
  refine wp_cvt (v := 1) (by decide) ?_
  refine wp_iconst (v := 1) hc dX1_inverted_15 (by decide) ?_
  refine wp_icmp_ne (tgt := 27) hc dX1_inverted_16 (by decide) (fun c => absurd c (by decide)) (fun _ => ?_)
  refine wp_iload_n hc 2 dX1_inverted_19 rfl ?_
  refine wp_iload_n hc 1 dX1_inverted_20 rfl ?_
  refine wp_imul hc dX1_inverted_21 ?_
  refine wp_sipush (v := 10007) hc dX1_inverted_22 (by decide) ?_
  refine wp_iremR hc dX1_inverted_25 (by decide) ?_
  refine wp_topi (fun x7 hx7 => ?_)
  refine wp_istore_n (lv' := [(2, .int x7), (3, .int 19), (1, .int (rem (x5 * x5) 10007)), (0, .int i1)]) hc dX1_inverted_26 (by decide) rfl ?_
  refine wp_iload_n hc 2 dX1_inverted_27 rfl ?_
  refine wp_iload_n hc 2 dX1_inverted_28 rfl ?_
  refine wp_imul hc dX1_inverted_29 ?_
  refine wp_sipush (v := 10007) hc dX1_inverted_30 (by decide) ?_
  refine wp_iremR hc dX1_inverted_33 (by decide) ?_
  refine wp_topi (fun x8 hx8 => ?_)
  refine wp_istore_n (lv' := [(1, .int x8), (2, .int x7), (3, .int 19), (0, .int i1)]) hc dX1_inverted_34 (by decide) rfl ?_
  refine wp_iload_n hc 2 dX1_inverted_35 rfl ?_
  refine wp_iconst (v := 2) hc dX1_inverted_36 (by decide) ?_
  refine wp_idiv hc dX1_inverted_37 (by decide) ?_
  refine wp_cvt (v := 9) (by decide) ?_
  refine wp_istore_n (lv' := [(3, .int 9), (1, .int x8), (2, .int x7), (0, .int i1)]) hc dX1_inverted_38 (by decide) rfl ?_
  refine wp_goto (tgt := 8) hc dX1_inverted_39 (by decide) ?_
  refine wp_iload_n hc 0 dX1_inverted_8 rfl ?_
  refine wp_if_le (tgt := 42) hc dX1_inverted_9 (by decide) (fun c => absurd c (by decide)) (fun _ => ?_)
  refine wp_iload_n hc 0 dX1_inverted_12 rfl ?_
  refine wp_iconst (v := 2) hc dX1_inverted_13 (by decide) ?_
  refine wp_iremR hc dX1_inverted_14 (by decide) ?_
  refine wp_cvt (v := 1) (by decide) ?_
  refine wp_iconst (v := 1) hc dX1_inverted_15 (by decide) ?_
  refine wp_icmp_ne (tgt := 27) hc dX1_inverted_16 (by decide) (fun c => absurd c (by decide)) (fun _ => ?_)
  refine wp_iload_n hc 2 dX1_inverted_19 rfl ?_
  refine wp_iload_n hc 1 dX1_inverted_20 rfl ?_
  refine wp_imul hc dX1_inverted_21 ?_
  refine wp_sipush (v := 10007) hc dX1_inverted_22 (by decide) ?_
  refine wp_iremR hc dX1_inverted_25 (by decide) ?_
  refine wp_istore_n (lv' := [(2, .int (rem (x7 * x8) 10007)), (3, .int 9), (1, .int x8), (0, .int i1)]) hc dX1_inverted_26 (by decide) rfl ?_
  refine wp_iload_n hc 2 dX1_inverted_27 rfl ?_
  refine wp_iload_n hc 2 dX1_inverted_28 rfl ?_
  refine wp_imul hc dX1_inverted_29 ?_
  refine wp_sipush (v := 10007) hc dX1_inverted_30 (by decide) ?_
  refine wp_iremR hc dX1_inverted_33 (by decide) ?_
  refine wp_istore_n (lv' := [(1, .int (rem (x8 * x8) 10007)), (2, .int (rem (x7 * x8) 10007)), (3, .int 9), (0, .int i1)]) hc dX1_inverted_34 (by decide) rfl ?_
  refine wp_iload_n hc 2 dX1_inverted_35 rfl ?_
  refine wp_iconst (v := 2) hc dX1_inverted_36 (by decide) ?_
  refine wp_idiv hc dX1_inverted_37 (by decide) ?_
  refine wp_cvt (v := 4) (by decide) ?_
  refine wp_istore_n (lv' := [(3, .int 4), (1, .int (rem (x8 * x8) 10007)), (2, .int (rem (x7 * x8) 10007)), (0, .int i1)]) hc dX1_inverted_38 (by decide) rfl ?_
  refine wp_goto (tgt := 8) hc dX1_inverted_39 (by decide) ?_
  refine wp_iload_n hc 0 dX1_inverted_8 rfl ?_
  refine wp_if_le (tgt := 42) hc dX1_inverted_9 (by decide) (fun c => absurd c (by decide)) (fun _ => ?_)
  refine wp_iload_n hc 0 dX1_inverted_12 rfl ?_
  refine wp_iconst (v := 2) hc dX1_inverted_13 (by decide) ?_
  refine wp_iremR hc dX1_inverted_14 (by decide) ?_
  refine wp_cvt (v := 0) (by decide) ?_
  refine wp_iconst (v := 1) hc dX1_inverted_15 (by decide) ?_
  refine wp_icmp_ne (tgt := 27) hc dX1_inverted_16 (by decide) (fun _ => ?_) (fun c => absurd c (by decide))
  refine wp_iload_n hc 1 dX1_inverted_27 rfl ?_
  refine wp_iload_n hc 1 dX1_inverted_28 rfl ?_
  refine wp_imul hc dX1_inverted_29 ?_
  refine wp_sipush (v := 10007) hc dX1_inverted_30 (by decide) ?_
  refine wp_iremR hc dX1_inverted_33 (by decide) ?_
  refine wp_topi (fun x9 hx9 => ?_)
  refine wp_istore_n (lv' := [(1, .int x9), (3, .int 4), (2, .int (rem (x7 * x8) 10007)), (0, .int i1)]) hc dX1_inverted_34 (by decide) rfl ?_
  refine wp_iload_n hc 1 dX1_inverted_35 rfl ?_
  refine wp_iconst (v := 2) hc dX1_inverted_36 (by decide) ?_
  refine wp_idiv hc dX1_inverted_37 (by decide) ?_
  refine wp_cvt (v := 2) (by decide) ?_
  refine wp_istore_n (lv' := [(3, .int 2), (1, .int x9), (2, .int (rem (x7 * x8) 10007)), (0, .int i1)]) hc dX1_inverted_38 (by decide) rfl ?_
  refine wp_goto (tgt := 8) hc dX1_inverted_39 (by decide) ?_
  refine wp_iload_n hc 0 dX1_inverted_8 rfl ?_
  refine wp_if_le (tgt := 42) hc dX1_inverted_9 (by decide) (fun c => absurd c (by decide)) (fun _ => ?_)
  refine wp_iload_n hc 0 dX1_inverted_12 rfl ?_
  refine wp_iconst (v := 2) hc dX1_inverted_13 (by decide) ?_
  refine wp_iremR hc dX1_inverted_14 (by decide) ?_
  refine wp_cvt (v := 0) (by decide) ?_
  refine wp_iconst (v := 1) hc dX1_inverted_15 (by decide) ?_
  refine wp_icmp_ne (tgt := 27) hc dX1_inverted_16 (by decide) (fun _ => ?_) (fun c => absurd c (by decide))
  refine wp_iload_n hc 1 dX1_inverted_27 rfl ?_
  refine wp_iload_n hc 1 dX1_inverted_28 rfl ?_
  refine wp_imul hc dX1_inverted_29 ?_
  refine wp_sipush (v := 10007) hc dX1_inverted_30 (by decide) ?_
  refine wp_iremR hc dX1_inverted_33 (by decide) ?_
  refine wp_istore_n (lv' := [(1, .int (rem (x9 * x9) 10007)), (3, .int 2), (2, .int (rem (x7 * x8) 10007)), (0, .int i1)]) hc dX1_inverted_34 (by decide) rfl ?_
  refine wp_iload_n hc 1 dX1_inverted_35 rfl ?_
  refine wp_iconst (v := 2) hc dX1_inverted_36 (by decide) ?_
  refine wp_idiv hc dX1_inverted_37 (by decide) ?_
  refine wp_cvt (v := 1) (by decide) ?_
  refine wp_istore_n (lv' := [(3, .int 1), (1, .int (rem (x9 * x9) 10007)), (2, .int (rem (x7 * x8) 10007)), (0, .int i1)]) hc dX1_inverted_38 (by decide) rfl ?_
  refine wp_goto (tgt := 8) hc dX1_inverted_39 (by decide) ?_
  refine wp_iload_n hc 0 dX1_inverted_8 rfl ?_
  refine wp_if_le (tgt := 42) hc dX1_inverted_9 (by decide) (fun c => absurd c (by decide)) (fun _ => ?_)
  refine wp_iload_n hc 0 dX1_inverted_12 rfl ?_
  refine wp_iconst (v := 2) hc dX1_inverted_13 (by decide) ?_
  refine wp_iremR hc dX1_inverted_14 (by decide) ?_
  refine wp_cvt (v := 1) (by decide) ?_
  refine wp_iconst (v := 1) hc dX1_inverted_15 (by decide) ?_
  refine wp_icmp_ne (tgt := 27) hc dX1_inverted_16 (by decide) (fun c => absurd c (by decide)) (fun _ => ?_)
  refine wp_iload_n hc 2 dX1_inverted_19 rfl ?_
  refine wp_iload_n hc 1 dX1_inverted_20 rfl ?_
  refine wp_imul hc dX1_inverted_21 ?_
  refine wp_sipush (v := 10007) hc dX1_inverted_22 (by decide) ?_
  refine wp_iremR hc dX1_inverted_25 (by decide) ?_
  refine wp_topi (fun x10 hx10 => ?_)
  refine wp_istore_n (lv' := [(2, .int x10), (3, .int 1), (1, .int (rem (x9 * x9) 10007)), (0, .int i1)]) hc dX1_inverted_26 (by decide) rfl ?_
  refine wp_iload_n hc 2 dX1_inverted_27 rfl ?_
  refine wp_iload_n hc 2 dX1_inverted_28 rfl ?_
  refine wp_imul hc dX1_inverted_29 ?_
  refine wp_sipush (v := 10007) hc dX1_inverted_30 (by decide) ?_
  refine wp_iremR hc dX1_inverted_33 (by decide) ?_
  refine wp_topi (fun x11 hx11 => ?_)
  refine wp_istore_n (lv' := [(1, .int x11), (2, .int x10), (3, .int 1), (0, .int i1)]) hc dX1_inverted_34 (by decide) rfl ?_
  refine wp_iload_n hc 2 dX1_inverted_35 rfl ?_
  refine wp_iconst (v := 2) hc dX1_inverted_36 (by decide) ?_
  refine wp_idiv hc dX1_inverted_37 (by decide) ?_
  refine wp_cvt (v := 0) (by decide) ?_
  refine wp_istore_n (lv' := [(3, .int 0), (1, .int x11), (2, .int x10), (0, .int i1)]) hc dX1_inverted_38 (by decide) rfl ?_
  refine wp_goto (tgt := 8) hc dX1_inverted_39 (by decide) ?_
  refine wp_iload_n hc 0 dX1_inverted_8 rfl ?_
  refine wp_if_le (tgt := 42) hc dX1_inverted_9 (by decide) (fun _ => ?_) (fun c => absurd c (by decide))
  refine wp_iload_n hc 2 dX1_inverted_42 rfl ?_
  refine ws_iret hc hr hk ?_ dX1_inverted_43
  show x10 = fX1_inverted i1
  rw [fX1_inverted, tk_eq hx1, tk_eq hx2, tk_eq hx3, tk_eq hx4, tk_eq hx5, tk_eq hx6, tk_eq hx7, tk_eq hx8, tk_eq hx9, tk_eq hx10, tk_eq hx11]
def fX1_over (i1 : Int32) (i2 : Int32) : Int32 :=
  tk ((fX1_inverted (rem (((i2 / 10007) * (i2 / 10007)) + ((rem i2 10007) * (rem i2 10007))) 10007))) fun x1 =>
  (fX1_made (((i1 / 10007) * (rem ((i2 / 10007) * x1) 10007)) + ((rem i1 10007) * (rem ((rem i2 10007) * x1) 10007))) (((rem i1 10007) * (rem ((i2 / 10007) * x1) 10007)) - ((i1 / 10007) * (rem ((rem i2 10007) * x1) 10007))))
set_option maxHeartbeats 4000000 in
set_option maxRecDepth 100000 in
theorem kX1_over (l : Launch) (i1 : Int32) (i2 : Int32) : KS l yX1_over wsX1_over { frames := 1, cells := 0, slots := 0, locals := 23 } [.int i1, .int i2] (fun r => r = fX1_over i1 i2) := by
  refine met_ws (lv := [(0, .int i1), (1, .int i2)]) ((fun _ _ => 0, fun _ => 0, 0) : Mem) (by decide) rfl rfl (Nat.le_of_ble_eq_true rfl) rfl ?_
  intro p e s m below meth c hc hNW hr hk
  generalize ((fun _ _ => 0, fun _ => 0, 0) : Mem) = M
  have cw13 : CallB ({ frames := 1, cells := 0, slots := 0, locals := 23 }) s _ RX1 13 yX1_made cX1_made 4 (some .int) wsX1_made ({ frames := 0, cells := 0, slots := 0, locals := 0 }) 0 0 2 ∧ (Cond.static yX1_made).before _ s = true := va_cwS 2 hc.2.2.2.2 gX1_over_X1_made rfl rfl rfl (by decide +kernel) ⟨Nat.le_of_ble_eq_true rfl, Nat.le_of_ble_eq_true rfl⟩
  have cw25 : CallB ({ frames := 1, cells := 0, slots := 0, locals := 23 }) s _ RX1 25 yX1_inverted cX1_inverted 4 (some .int) wsX1_inverted ({ frames := 0, cells := 0, slots := 0, locals := 0 }) 0 0 1 ∧ (Cond.static yX1_inverted).before _ s = true := va_cwS 1 hc.2.2.2.2 gX1_over_X1_inverted rfl rfl rfl (by decide +kernel) ⟨Nat.le_of_ble_eq_true rfl, Nat.le_of_ble_eq_true rfl⟩
  refine wp_iload_n hc 1 dX1_over_0 rfl ?_
  refine wp_sipush (v := 10007) hc dX1_over_1 (by decide) ?_
  refine wp_idiv hc dX1_over_4 (by decide) ?_
  refine wp_istore_n (lv' := [(2, .int (i2 / 10007)), (0, .int i1), (1, .int i2)]) hc dX1_over_5 (by decide) rfl ?_
  refine wp_iload_n hc 2 dX1_over_6 rfl ?_
  refine wp_sipush (v := 10007) hc dX1_over_7 (by decide) ?_
  refine wp_iremR hc dX1_over_10 (by decide) ?_
  refine wp_istore_n (lv' := [(3, .int (rem i2 10007)), (2, .int (i2 / 10007)), (0, .int i1), (1, .int i2)]) hc dX1_over_11 (by decide) rfl ?_
  refine wp_iload_n hc 1 dX1_over_12 rfl ?_
  refine wp_iload_n hc 1 dX1_over_13 rfl ?_
  refine wp_imul hc dX1_over_14 ?_
  refine wp_iload_n hc 0 dX1_over_15 rfl ?_
  refine wp_iload_n hc 0 dX1_over_16 rfl ?_
  refine wp_imul hc dX1_over_17 ?_
  refine wp_iadd hc dX1_over_18 ?_
  refine wp_sipush (v := 10007) hc dX1_over_19 (by decide) ?_
  refine wp_iremR hc dX1_over_22 (by decide) ?_
  refine wp_callSg (As := [.int (rem (((i2 / 10007) * (i2 / 10007)) + ((rem i2 10007) * (rem i2 10007))) 10007)]) (rest := []) (v := (fX1_inverted (rem (((i2 / 10007) * (i2 / 10007)) + ((rem i2 10007) * (rem i2 10007))) 10007))) hc hNW (kX1_inverted l (rem (((i2 / 10007) * (i2 / 10007)) + ((rem i2 10007) * (rem i2 10007))) 10007)) cw25 rfl rfl (Nat.le_of_ble_eq_true rfl) dX1_over_23 ?_
  refine wp_topi (fun x1 hx1 => ?_)
  refine wp_istore (lv' := [(4, .int x1), (3, .int (rem i2 10007)), (2, .int (i2 / 10007)), (0, .int i1), (1, .int i2)]) hc dX1_over_26 (by decide) rfl ?_
  refine wp_iload_n hc 2 dX1_over_28 rfl ?_
  refine wp_iload hc 0 dX1_over_29 rfl ?_
  refine wp_imul hc dX1_over_31 ?_
  refine wp_sipush (v := 10007) hc dX1_over_32 (by decide) ?_
  refine wp_iremR hc dX1_over_35 (by decide) ?_
  refine wp_istore (lv' := [(5, .int (rem ((i2 / 10007) * x1) 10007)), (4, .int x1), (3, .int (rem i2 10007)), (2, .int (i2 / 10007)), (0, .int i1), (1, .int i2)]) hc dX1_over_36 (by decide) rfl ?_
  refine wp_iload_n hc 2 dX1_over_38 rfl ?_
  refine wp_iload hc 1 dX1_over_39 rfl ?_
  refine wp_imul hc dX1_over_41 ?_
  refine wp_sipush (v := 10007) hc dX1_over_42 (by decide) ?_
  refine wp_iremR hc dX1_over_45 (by decide) ?_
  refine wp_istore (lv' := [(6, .int (rem ((rem i2 10007) * x1) 10007)), (5, .int (rem ((i2 / 10007) * x1) 10007)), (4, .int x1), (3, .int (rem i2 10007)), (2, .int (i2 / 10007)), (0, .int i1), (1, .int i2)]) hc dX1_over_46 (by decide) rfl ?_
  refine wp_iload_n hc 5 dX1_over_48 rfl ?_
  refine wp_sipush (v := 10007) hc dX1_over_49 (by decide) ?_
  refine wp_idiv hc dX1_over_52 (by decide) ?_
  refine wp_istore (lv' := [(7, .int (i1 / 10007)), (6, .int (rem ((rem i2 10007) * x1) 10007)), (5, .int (rem ((i2 / 10007) * x1) 10007)), (4, .int x1), (3, .int (rem i2 10007)), (2, .int (i2 / 10007)), (0, .int i1), (1, .int i2)]) hc dX1_over_53 (by decide) rfl ?_
  refine wp_iload_n hc 6 dX1_over_55 rfl ?_
  refine wp_sipush (v := 10007) hc dX1_over_56 (by decide) ?_
  refine wp_iremR hc dX1_over_59 (by decide) ?_
  refine wp_istore (lv' := [(8, .int (rem i1 10007)), (7, .int (i1 / 10007)), (6, .int (rem ((rem i2 10007) * x1) 10007)), (5, .int (rem ((i2 / 10007) * x1) 10007)), (4, .int x1), (3, .int (rem i2 10007)), (2, .int (i2 / 10007)), (0, .int i1), (1, .int i2)]) hc dX1_over_60 (by decide) rfl ?_
  refine wp_iload hc 1 dX1_over_62 rfl ?_
  refine wp_iload hc 3 dX1_over_64 rfl ?_
  refine wp_imul hc dX1_over_66 ?_
  refine wp_iload hc 0 dX1_over_67 rfl ?_
  refine wp_iload hc 2 dX1_over_69 rfl ?_
  refine wp_imul hc dX1_over_71 ?_
  refine wp_iadd hc dX1_over_72 ?_
  refine wp_iload hc 0 dX1_over_73 rfl ?_
  refine wp_iload hc 3 dX1_over_75 rfl ?_
  refine wp_imul hc dX1_over_77 ?_
  refine wp_iload hc 1 dX1_over_78 rfl ?_
  refine wp_iload hc 2 dX1_over_80 rfl ?_
  refine wp_imul hc dX1_over_82 ?_
  refine wp_isub hc dX1_over_83 ?_
  refine wp_callSg (As := [.int (((i1 / 10007) * (rem ((i2 / 10007) * x1) 10007)) + ((rem i1 10007) * (rem ((rem i2 10007) * x1) 10007))), .int (((rem i1 10007) * (rem ((i2 / 10007) * x1) 10007)) - ((i1 / 10007) * (rem ((rem i2 10007) * x1) 10007)))]) (rest := []) (v := (fX1_made (((i1 / 10007) * (rem ((i2 / 10007) * x1) 10007)) + ((rem i1 10007) * (rem ((rem i2 10007) * x1) 10007))) (((rem i1 10007) * (rem ((i2 / 10007) * x1) 10007)) - ((i1 / 10007) * (rem ((rem i2 10007) * x1) 10007))))) hc hNW (kX1_made l (((i1 / 10007) * (rem ((i2 / 10007) * x1) 10007)) + ((rem i1 10007) * (rem ((rem i2 10007) * x1) 10007))) (((rem i1 10007) * (rem ((i2 / 10007) * x1) 10007)) - ((i1 / 10007) * (rem ((rem i2 10007) * x1) 10007)))) cw13 rfl rfl (Nat.le_of_ble_eq_true rfl) dX1_over_84 ?_
  refine ws_iret hc hr hk ?_ dX1_over_87
  show (fX1_made (((i1 / 10007) * (rem ((i2 / 10007) * x1) 10007)) + ((rem i1 10007) * (rem ((rem i2 10007) * x1) 10007))) (((rem i1 10007) * (rem ((i2 / 10007) * x1) 10007)) - ((i1 / 10007) * (rem ((rem i2 10007) * x1) 10007)))) = fX1_over i1 i2
  rw [fX1_over, tk_eq hx1]
def fX3_isFigure (i1 : Int32) : Int32 :=
  if i1 < 48 then
  0
  else
  if 57 < i1 then
  0
  else
  1
set_option maxHeartbeats 4000000 in
set_option maxRecDepth 100000 in
theorem kX3_isFigure (l : Launch) (i1 : Int32) : KS l yX3_isFigure wsX3_isFigure { frames := 0, cells := 0, slots := 0, locals := 0 } [.int i1] (fun r => r = fX3_isFigure i1) := by
  refine met_ws (lv := [(0, .int i1)]) ((fun _ _ => 0, fun _ => 0, 0) : Mem) (by decide) rfl rfl (Nat.le_of_ble_eq_true rfl) rfl ?_
  intro p e s m below meth c hc hNW hr hk
  generalize ((fun _ _ => 0, fun _ => 0, 0) : Mem) = M
  refine wp_iload_n hc 0 dX3_isFigure_0 rfl ?_
  refine wp_bipush (v := 48) hc dX3_isFigure_1 (by decide) ?_
  refine wp_icmp_lt (tgt := 16) hc dX3_isFigure_3 (by decide) (fun c3 => ?_) (fun c3 => ?_)
  · refine wp_iconst (v := 0) hc dX3_isFigure_16 (by decide) ?_
    refine ws_zret hc hr hk rfl ?_ dX3_isFigure_17
    show 0 = fX3_isFigure i1
    rw [fX3_isFigure, if_pos c3]
  refine wp_iload_n hc 0 dX3_isFigure_6 rfl ?_
  refine wp_bipush (v := 57) hc dX3_isFigure_7 (by decide) ?_
  refine wp_icmp_gt (tgt := 16) hc dX3_isFigure_9 (by decide) (fun c9 => ?_) (fun c9 => ?_)
  · refine wp_iconst (v := 0) hc dX3_isFigure_16 (by decide) ?_
    refine ws_zret hc hr hk rfl ?_ dX3_isFigure_17
    show 0 = fX3_isFigure i1
    rw [fX3_isFigure, if_neg c3, if_pos c9]
  refine wp_iconst (v := 1) hc dX3_isFigure_12 (by decide) ?_
  refine wp_goto (tgt := 17) hc dX3_isFigure_13 (by decide) ?_
  refine ws_zret hc hr hk rfl ?_ dX3_isFigure_17
  show 1 = fX3_isFigure i1
  rw [fX3_isFigure, if_neg c3, if_neg c9]
theorem bX3_isFigure (i1 : Int32) : fX3_isFigure i1 = 0 ∨ fX3_isFigure i1 = 1 := by
  unfold fX3_isFigure
  (repeat' split) <;> first | exact Or.inl rfl | exact Or.inr rfl
def fX3_numbersWanted (i1 : Int32) : Int32 :=
  if i1 = 98 then
  8
  else
  if i1 = 99 then
  2
  else
  if i1 = 101 then
  3
  else
  if i1 = 108 then
  0
  else
  if i1 = 114 then
  1
  else
  (-1)
set_option maxHeartbeats 4000000 in
set_option maxRecDepth 100000 in
theorem kX3_numbersWanted (l : Launch) (i1 : Int32) : KS l yX3_numbersWanted wsX3_numbersWanted { frames := 0, cells := 0, slots := 0, locals := 0 } [.int i1] (fun r => r = fX3_numbersWanted i1) := by
  refine met_ws (lv := [(0, .int i1)]) ((fun _ _ => 0, fun _ => 0, 0) : Mem) (by decide) rfl rfl (Nat.le_of_ble_eq_true rfl) rfl ?_
  intro p e s m below meth c hc hNW hr hk
  generalize ((fun _ _ => 0, fun _ => 0, 0) : Mem) = M
  refine wp_iload_n hc 0 dX3_numbersWanted_0 rfl ?_
  by_cases c1_98 : i1 = 98
  · refine wp_cvt c1_98 ?_
    refine wp_lookup (tgt := 52) (off := 51) hc dX3_numbersWanted_1 (by decide) (by decide) (by decide) ?_
    refine wp_bipush (v := 8) hc dX3_numbersWanted_52 (by decide) ?_
    refine ws_iret hc hr hk ?_ dX3_numbersWanted_54
    show 8 = fX3_numbersWanted i1
    rw [fX3_numbersWanted, if_pos c1_98]
  by_cases c1_99 : i1 = 99
  · refine wp_cvt c1_99 ?_
    refine wp_lookup (tgt := 61) (off := 60) hc dX3_numbersWanted_1 (by decide) (by decide) (by decide) ?_
    refine wp_iconst (v := 2) hc dX3_numbersWanted_61 (by decide) ?_
    refine ws_iret hc hr hk ?_ dX3_numbersWanted_62
    show 2 = fX3_numbersWanted i1
    rw [fX3_numbersWanted, if_neg c1_98, if_pos c1_99]
  by_cases c1_101 : i1 = 101
  · refine wp_cvt c1_101 ?_
    refine wp_lookup (tgt := 55) (off := 54) hc dX3_numbersWanted_1 (by decide) (by decide) (by decide) ?_
    refine wp_iconst (v := 3) hc dX3_numbersWanted_55 (by decide) ?_
    refine ws_iret hc hr hk ?_ dX3_numbersWanted_56
    show 3 = fX3_numbersWanted i1
    rw [fX3_numbersWanted, if_neg c1_98, if_neg c1_99, if_pos c1_101]
  by_cases c1_108 : i1 = 108
  · refine wp_cvt c1_108 ?_
    refine wp_lookup (tgt := 57) (off := 56) hc dX3_numbersWanted_1 (by decide) (by decide) (by decide) ?_
    refine wp_iconst (v := 0) hc dX3_numbersWanted_57 (by decide) ?_
    refine ws_iret hc hr hk ?_ dX3_numbersWanted_58
    show 0 = fX3_numbersWanted i1
    rw [fX3_numbersWanted, if_neg c1_98, if_neg c1_99, if_neg c1_101, if_pos c1_108]
  by_cases c1_114 : i1 = 114
  · refine wp_cvt c1_114 ?_
    refine wp_lookup (tgt := 59) (off := 58) hc dX3_numbersWanted_1 (by decide) (by decide) (by decide) ?_
    refine wp_iconst (v := 1) hc dX3_numbersWanted_59 (by decide) ?_
    refine ws_iret hc hr hk ?_ dX3_numbersWanted_60
    show 1 = fX3_numbersWanted i1
    rw [fX3_numbersWanted, if_neg c1_98, if_neg c1_99, if_neg c1_101, if_neg c1_108, if_pos c1_114]
  refine wp_lookup (tgt := 63) (off := 62) hc dX3_numbersWanted_1 (by decide) (by rw [lv_osw c1_98 (by decide), lv_osw c1_99 (by decide), lv_osw c1_101 (by decide), lv_osw c1_108 (by decide), lv_osw c1_114 (by decide)]; rfl) (by decide) ?_
  refine wp_iconst (v := (-1)) hc dX3_numbersWanted_63 (by decide) ?_
  refine ws_iret hc hr hk ?_ dX3_numbersWanted_64
  show (-1) = fX3_numbersWanted i1
  rw [fX3_numbersWanted, if_neg c1_98, if_neg c1_99, if_neg c1_101, if_neg c1_108, if_neg c1_114]
