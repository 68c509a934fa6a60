theorem wp_join {p : Program} {l : Launch} {e : Env} {R : Room} {s : State} {m : MethodId} {args : Array Value} {below : List Frame} {meth : Method} {c : Code} {Q : State → Prop} {Om : Mem → Heap → List Loc → Prop} {nL : Nat} {M : Mem} {lv : List (Nat × Value)} {pc pcJ : Nat} (k : WP p l e R s m args below meth c Q Om nL M lv pcJ []) (f : WP p l e R s m args below meth c Q Om nL M lv pcJ [] → WP p l e R s m args below meth c Q Om nL M lv pc []) : WP p l e R s m args below meth c Q Om nL M lv pc [] := f k
theorem below_ne {v n : Int32} (h : 0 ≤ v.toInt ∧ v.toInt < n.toInt) : ¬ fX5_isBelow v n = 0 := by
  unfold fX5_isBelow
  have e0 : (0 : Int32).toInt = 0 := rfl
  rw [if_neg (by rw [fa_lt, e0]; omega), if_neg (by rw [fa_le]; omega)]
  decide
def fX5_count_0 (M : Mem)  : Int32 :=
  (M.1 (16 + 12 * (M.2.1 0)) 3)
set_option maxHeartbeats 4000000 in
set_option maxRecDepth 100000 in
theorem kX5_count_0 (l : Launch) (D : va_G) (cy : Nat → ClassId) (z : Nat → Nat) (hz : zI z) (M : Mem)  (hR : RK M) : KI l yX5_count wsX5_count { frames := 0, cells := 0, slots := 0, locals := 0 } D cy z 0 100 [.ref (z 0), .int 0] M (fun r u => r = fX5_count_0 M ∧ u = M) := by
  refine met_wp (lv := [(0, .ref (z 0)), (1, .int 0)]) hz (by decide) (by decide) rfl rfl (Nat.le_of_ble_eq_true rfl) rfl ?_
  intro p e s m below meth c hc hx hr hk
  have hNW := hx.2.1
  have hin2 : ∀ w ∈ wsX20, w ∈ wsX5_count := by decide +kernel
  have hin5 : ∀ w ∈ wsX50, w ∈ wsX5_count := by decide +kernel
  have hf26 : Cond.fieldLink RX5 26 (TX5 3).1 (TX5 3).2.1 (TX5 3).2.2.1 ∈ wsX5_count := by decide +kernel
  have hf161 : Cond.fieldLink RX5 161 (TX2 3).1 (TX2 3).2.1 (TX2 3).2.2.1 ∈ wsX5_count := by decide +kernel
  refine wp_iload_n hc 1 dX5_count_0 rfl ?_
  refine wp_tableIn (tgt := 44) (off := 43) hc dX5_count_1 (by decide) (by decide) rfl (by decide) ?_
  refine wp_aload_n hc 0 dX5_count_44 rfl ?_
  refine wp_get hc hx hin5 (j := 0) (by decide) (by decide) (ce_4 rfl) rfl 3 (by decide) hf26 rfl dX5_count_45 ?_
  refine wp_get hc hx hin2 (j := (16 + 12 * (M.2.1 0))) (Nat.zero_le _) (by have := (hR.1 0 (by decide)); omega) (ce_1 (kd_st (hR.1 0 (by decide)))) rfl 3 (by decide) hf161 rfl dX5_count_48 ?_
  refine wp_iret hc hr hk ?_ dX5_count_51
  show (M.1 (16 + 12 * (M.2.1 0)) 3) = fX5_count_0 M ∧ M = M
  exact ⟨by rw [fX5_count_0], rfl⟩
def fX5_count_1 (M : Mem)  : Int32 :=
  if (M.1 (16 + 12 * (M.2.1 0)) 4) = 0 then
  0
  else
  1
set_option maxHeartbeats 4000000 in
set_option maxRecDepth 100000 in
theorem kX5_count_1 (l : Launch) (D : va_G) (cy : Nat → ClassId) (z : Nat → Nat) (hz : zI z) (M : Mem)  (hR : RK M) : KI l yX5_count wsX5_count { frames := 0, cells := 0, slots := 0, locals := 0 } D cy z 0 100 [.ref (z 0), .int 1] M (fun r u => r = fX5_count_1 M ∧ u = M) := by
  refine met_wp (lv := [(0, .ref (z 0)), (1, .int 1)]) hz (by decide) (by decide) rfl rfl (Nat.le_of_ble_eq_true rfl) rfl ?_
  intro p e s m below meth c hc hx hr hk
  have hNW := hx.2.1
  have hin2 : ∀ w ∈ wsX20, w ∈ wsX5_count := by decide +kernel
  have hin5 : ∀ w ∈ wsX50, w ∈ wsX5_count := by decide +kernel
  have hf26 : Cond.fieldLink RX5 26 (TX5 3).1 (TX5 3).2.1 (TX5 3).2.2.1 ∈ wsX5_count := by decide +kernel
  have hf91 : Cond.fieldLink RX5 91 (TX2 4).1 (TX2 4).2.1 (TX2 4).2.2.1 ∈ wsX5_count := by decide +kernel
  refine wp_iload_n hc 1 dX5_count_0 rfl ?_
  refine wp_tableIn (tgt := 52) (off := 51) hc dX5_count_1 (by decide) (by decide) rfl (by decide) ?_
  refine wp_aload_n hc 0 dX5_count_52 rfl ?_
  refine wp_get hc hx hin5 (j := 0) (by decide) (by decide) (ce_4 rfl) rfl 3 (by decide) hf26 rfl dX5_count_53 ?_
  refine wp_get hc hx hin2 (j := (16 + 12 * (M.2.1 0))) (Nat.zero_le _) (by have := (hR.1 0 (by decide)); omega) (ce_1 (kd_st (hR.1 0 (by decide)))) rfl 4 (by decide) hf91 rfl dX5_count_56 ?_
  refine wp_if_eq (tgt := 66) hc dX5_count_59 (by decide) (fun c59 => ?_) (fun c59 => ?_)
  · refine wp_iconst (v := 0) hc dX5_count_66 (by decide) ?_
    refine wp_iret hc hr hk ?_ dX5_count_67
    show 0 = fX5_count_1 M ∧ M = M
    exact ⟨by rw [fX5_count_1, if_pos c59], rfl⟩
  refine wp_iconst (v := 1) hc dX5_count_62 (by decide) ?_
  refine wp_goto (tgt := 67) hc dX5_count_63 (by decide) ?_
  refine wp_iret hc hr hk ?_ dX5_count_67
  show 1 = fX5_count_1 M ∧ M = M
  exact ⟨by rw [fX5_count_1, if_neg c59], rfl⟩
def fX5_count_2 (M : Mem)  : Int32 :=
  (M.1 0 6)
set_option maxHeartbeats 4000000 in
set_option maxRecDepth 100000 in
theorem kX5_count_2 (l : Launch) (D : va_G) (cy : Nat → ClassId) (z : Nat → Nat) (hz : zI z) (M : Mem)  (hR : RK M) : KI l yX5_count wsX5_count { frames := 0, cells := 0, slots := 0, locals := 0 } D cy z 0 100 [.ref (z 0), .int 2] M (fun r u => r = fX5_count_2 M ∧ u = M) := by
  refine met_wp (lv := [(0, .ref (z 0)), (1, .int 2)]) hz (by decide) (by decide) rfl rfl (Nat.le_of_ble_eq_true rfl) rfl ?_
  intro p e s m below meth c hc hx hr hk
  have hNW := hx.2.1
  have hin5 : ∀ w ∈ wsX50, w ∈ wsX5_count := by decide +kernel
  have hf164 : Cond.fieldLink RX5 164 (TX5 6).1 (TX5 6).2.1 (TX5 6).2.2.1 ∈ wsX5_count := by decide +kernel
  refine wp_iload_n hc 1 dX5_count_0 rfl ?_
  refine wp_tableIn (tgt := 68) (off := 67) hc dX5_count_1 (by decide) (by decide) rfl (by decide) ?_
  refine wp_aload_n hc 0 dX5_count_68 rfl ?_
  refine wp_get hc hx hin5 (j := 0) (by decide) (by decide) (ce_4 rfl) rfl 6 (by decide) hf164 rfl dX5_count_69 ?_
  refine wp_iret hc hr hk ?_ dX5_count_72
  show (M.1 0 6) = fX5_count_2 M ∧ M = M
  exact ⟨by rw [fX5_count_2], rfl⟩
def fX5_count_3 (M : Mem)  : Int32 :=
  (M.1 0 7)
set_option maxHeartbeats 4000000 in
set_option maxRecDepth 100000 in
theorem kX5_count_3 (l : Launch) (D : va_G) (cy : Nat → ClassId) (z : Nat → Nat) (hz : zI z) (M : Mem)  (hR : RK M) : KI l yX5_count wsX5_count { frames := 0, cells := 0, slots := 0, locals := 0 } D cy z 0 100 [.ref (z 0), .int 3] M (fun r u => r = fX5_count_3 M ∧ u = M) := by
  refine met_wp (lv := [(0, .ref (z 0)), (1, .int 3)]) hz (by decide) (by decide) rfl rfl (Nat.le_of_ble_eq_true rfl) rfl ?_
  intro p e s m below meth c hc hx hr hk
  have hNW := hx.2.1
  have hin5 : ∀ w ∈ wsX50, w ∈ wsX5_count := by decide +kernel
  have hf167 : Cond.fieldLink RX5 167 (TX5 7).1 (TX5 7).2.1 (TX5 7).2.2.1 ∈ wsX5_count := by decide +kernel
  refine wp_iload_n hc 1 dX5_count_0 rfl ?_
  refine wp_tableIn (tgt := 73) (off := 72) hc dX5_count_1 (by decide) (by decide) rfl (by decide) ?_
  refine wp_aload_n hc 0 dX5_count_73 rfl ?_
  refine wp_get hc hx hin5 (j := 0) (by decide) (by decide) (ce_4 rfl) rfl 7 (by decide) hf167 rfl dX5_count_74 ?_
  refine wp_iret hc hr hk ?_ dX5_count_77
  show (M.1 0 7) = fX5_count_3 M ∧ M = M
  exact ⟨by rw [fX5_count_3], rfl⟩
def fX5_count_4 (M : Mem)  : Int32 :=
  (M.1 0 8)
set_option maxHeartbeats 4000000 in
set_option maxRecDepth 100000 in
theorem kX5_count_4 (l : Launch) (D : va_G) (cy : Nat → ClassId) (z : Nat → Nat) (hz : zI z) (M : Mem)  (hR : RK M) : KI l yX5_count wsX5_count { frames := 0, cells := 0, slots := 0, locals := 0 } D cy z 0 100 [.ref (z 0), .int 4] M (fun r u => r = fX5_count_4 M ∧ u = M) := by
  refine met_wp (lv := [(0, .ref (z 0)), (1, .int 4)]) hz (by decide) (by decide) rfl rfl (Nat.le_of_ble_eq_true rfl) rfl ?_
  intro p e s m below meth c hc hx hr hk
  have hNW := hx.2.1
  have hin5 : ∀ w ∈ wsX50, w ∈ wsX5_count := by decide +kernel
  have hf170 : Cond.fieldLink RX5 170 (TX5 8).1 (TX5 8).2.1 (TX5 8).2.2.1 ∈ wsX5_count := by decide +kernel
  refine wp_iload_n hc 1 dX5_count_0 rfl ?_
  refine wp_tableIn (tgt := 78) (off := 77) hc dX5_count_1 (by decide) (by decide) rfl (by decide) ?_
  refine wp_aload_n hc 0 dX5_count_78 rfl ?_
  refine wp_get hc hx hin5 (j := 0) (by decide) (by decide) (ce_4 rfl) rfl 8 (by decide) hf170 rfl dX5_count_79 ?_
  refine wp_iret hc hr hk ?_ dX5_count_82
  show (M.1 0 8) = fX5_count_4 M ∧ M = M
  exact ⟨by rw [fX5_count_4], rfl⟩
def fX5_count_5 (M : Mem)  : Int32 :=
  (M.1 10 4)
set_option maxHeartbeats 4000000 in
set_option maxRecDepth 100000 in
theorem kX5_count_5 (l : Launch) (D : va_G) (cy : Nat → ClassId) (z : Nat → Nat) (hz : zI z) (M : Mem)  (hR : RK M) : KI l yX5_count wsX5_count { frames := 0, cells := 0, slots := 0, locals := 0 } D cy z 0 100 [.ref (z 0), .int 5] M (fun r u => r = fX5_count_5 M ∧ u = M) := by
  refine met_wp (lv := [(0, .ref (z 0)), (1, .int 5)]) hz (by decide) (by decide) rfl rfl (Nat.le_of_ble_eq_true rfl) rfl ?_
  intro p e s m below meth c hc hx hr hk
  have hNW := hx.2.1
  have hin3 : ∀ w ∈ wsX30, w ∈ wsX5_count := by decide +kernel
  have hin5 : ∀ w ∈ wsX50, w ∈ wsX5_count := by decide +kernel
  have hf19 : Cond.fieldLink RX5 19 (TX5 1).1 (TX5 1).2.1 (TX5 1).2.2.1 ∈ wsX5_count := by decide +kernel
  have hf173 : Cond.fieldLink RX5 173 (TX3 4).1 (TX3 4).2.1 (TX3 4).2.2.1 ∈ wsX5_count := by decide +kernel
  refine wp_iload_n hc 1 dX5_count_0 rfl ?_
  refine wp_tableIn (tgt := 83) (off := 82) hc dX5_count_1 (by decide) (by decide) rfl (by decide) ?_
  refine wp_aload_n hc 0 dX5_count_83 rfl ?_
  refine wp_get hc hx hin5 (j := 0) (by decide) (by decide) (ce_4 rfl) rfl 1 (by decide) hf19 rfl dX5_count_84 ?_
  refine wp_get hc hx hin3 (j := 10) (by decide) (by decide) (ce_2 rfl) rfl 4 (by decide) hf173 rfl dX5_count_87 ?_
  refine wp_iret hc hr hk ?_ dX5_count_90
  show (M.1 10 4) = fX5_count_5 M ∧ M = M
  exact ⟨by rw [fX5_count_5], rfl⟩
def fX5_count_6 (M : Mem)  : Int32 :=
  (M.1 0 5)
set_option maxHeartbeats 4000000 in
set_option maxRecDepth 100000 in
theorem kX5_count_6 (l : Launch) (D : va_G) (cy : Nat → ClassId) (z : Nat → Nat) (hz : zI z) (M : Mem)  (hR : RK M) : KI l yX5_count wsX5_count { frames := 0, cells := 0, slots := 0, locals := 0 } D cy z 0 100 [.ref (z 0), .int 6] M (fun r u => r = fX5_count_6 M ∧ u = M) := by
  refine met_wp (lv := [(0, .ref (z 0)), (1, .int 6)]) hz (by decide) (by decide) rfl rfl (Nat.le_of_ble_eq_true rfl) rfl ?_
  intro p e s m below meth c hc hx hr hk
  have hNW := hx.2.1
  have hin5 : ∀ w ∈ wsX50, w ∈ wsX5_count := by decide +kernel
  have hf158 : Cond.fieldLink RX5 158 (TX5 5).1 (TX5 5).2.1 (TX5 5).2.2.1 ∈ wsX5_count := by decide +kernel
  refine wp_iload_n hc 1 dX5_count_0 rfl ?_
  refine wp_tableIn (tgt := 91) (off := 90) hc dX5_count_1 (by decide) (by decide) rfl (by decide) ?_
  refine wp_aload_n hc 0 dX5_count_91 rfl ?_
  refine wp_get hc hx hin5 (j := 0) (by decide) (by decide) (ce_4 rfl) rfl 5 (by decide) hf158 rfl dX5_count_92 ?_
  refine wp_iret hc hr hk ?_ dX5_count_95
  show (M.1 0 5) = fX5_count_6 M ∧ M = M
  exact ⟨by rw [fX5_count_6], rfl⟩
def fX5_error_r (M : Mem) (i1 : Int32) : Int32 :=
  (M.1 (16 + 12 * (M.2.1 0) + 2) i1.toNatClampNeg)
set_option maxHeartbeats 4000000 in
set_option maxRecDepth 100000 in
theorem kX5_error_r (l : Launch) (D : va_G) (cy : Nat → ClassId) (z : Nat → Nat) (hz : zI z) (M : Mem) (i1 : Int32) (hR : RK M) (hk12 : 0 ≤ i1.toInt ∧ i1.toInt < 12) : KI l yX5_error wsX5_error { frames := 1, cells := 0, slots := 0, locals := 21 } D cy z 0 100 [.ref (z 0), .int i1] M (fun r u => r = fX5_error_r M i1 ∧ u = M) := by
  refine met_wp (lv := [(0, .ref (z 0)), (1, .int i1)]) hz (by decide) (by decide) rfl rfl (Nat.le_of_ble_eq_true rfl) rfl ?_
  intro p e s m below meth c hc hx hr hk
  have hNW := hx.2.1
  have hin2 : ∀ w ∈ wsX20, w ∈ wsX5_error := by decide +kernel
  have hin5 : ∀ w ∈ wsX50, w ∈ wsX5_error := by decide +kernel
  have hf26 : Cond.fieldLink RX5 26 (TX5 3).1 (TX5 3).2.1 (TX5 3).2.2.1 ∈ wsX5_error := by decide +kernel
  have hf80 : Cond.fieldLink RX5 80 (TX2 1).1 (TX2 1).2.1 (TX2 1).2.2.1 ∈ wsX5_error := by decide +kernel
  have cw64 : CallB ({ frames := 1, cells := 0, slots := 0, locals := 21 }) s _ RX5 64 yX5_isBelow cX5_isBelow 2 (some .boolean) wsX5_isBelow ({ frames := 0, cells := 0, slots := 0, locals := 0 }) 0 0 2 ∧ (Cond.static yX5_isBelow).before _ s = true := va_cwS 2 hc.2.2.2.2 gX5_error_X5_isBelow rfl rfl rfl (by decide +kernel) ⟨Nat.le_of_ble_eq_true rfl, Nat.le_of_ble_eq_true rfl⟩
  refine wp_iload_n hc 1 dX5_error_0 rfl ?_
  refine wp_bipush (v := 12) hc dX5_error_1 (by decide) ?_
  refine wp_callSg (As := [.int i1, .int 12]) (rest := []) (v := (fX5_isBelow i1 12)) hc hNW (kX5_isBelow l i1 12) cw64 rfl rfl (Nat.le_of_ble_eq_true rfl) dX5_error_3 ?_
  refine wp_if_ne (tgt := 16) hc dX5_error_6 (by decide) (fun _ => ?_) (fun c => absurd c (below_ne hk12))
  refine wp_aload_n hc 0 dX5_error_16 rfl ?_
  refine wp_get hc hx hin5 (j := 0) (by decide) (by decide) (ce_4 rfl) rfl 3 (by decide) hf26 rfl dX5_error_17 ?_
  refine wp_get hc hx hin2 (j := (16 + 12 * (M.2.1 0))) (Nat.zero_le _) (by have := (hR.1 0 (by decide)); omega) (ce_1 (kd_st (hR.1 0 (by decide)))) rfl 1 (by decide) hf80 rfl dX5_error_20 ?_
  refine wp_iload_n hc 1 dX5_error_23 rfl ?_
  refine wp_iald hc hx (j := (16 + 12 * (M.2.1 0) + 2)) (Nat.zero_le _) (by have := (hR.1 0 (by decide)); omega) (kd_er (hR.1 0 (by decide))) i1.toNatClampNeg rfl (by rw [ln_er (hR.1 0 (by decide))]; exact vin8 hk12) dX5_error_24 ?_
  refine wp_iret hc hr hk ?_ dX5_error_25
  show (M.1 (16 + 12 * (M.2.1 0) + 2) i1.toNatClampNeg) = fX5_error_r M i1 ∧ M = M
  exact ⟨by rw [fX5_error_r], rfl⟩
def fX5_learnt_r (M : Mem) (i1 : Int32) : Int32 :=
  if (M.1 (16 + 12 * (M.2.1 0)) 4) = 0 then
  (-1)
  else
  (M.1 (16 + 12 * (M.2.1 0) + 3) i1.toNatClampNeg)
set_option maxHeartbeats 4000000 in
set_option maxRecDepth 100000 in
theorem kX5_learnt_r (l : Launch) (D : va_G) (cy : Nat → ClassId) (z : Nat → Nat) (hz : zI z) (M : Mem) (i1 : Int32) (hR : RK M) (hk12 : 0 ≤ i1.toInt ∧ i1.toInt < 12) : KI l yX5_learnt wsX5_learnt { frames := 1, cells := 0, slots := 0, locals := 21 } D cy z 0 100 [.ref (z 0), .int i1] M (fun r u => r = fX5_learnt_r M i1 ∧ u = M) := by
  refine met_wp (lv := [(0, .ref (z 0)), (1, .int i1)]) hz (by decide) (by decide) rfl rfl (Nat.le_of_ble_eq_true rfl) rfl ?_
  intro p e s m below meth c hc hx hr hk
  have hNW := hx.2.1
  have hin2 : ∀ w ∈ wsX20, w ∈ wsX5_learnt := by decide +kernel
  have hin5 : ∀ w ∈ wsX50, w ∈ wsX5_learnt := by decide +kernel
  have hf26 : Cond.fieldLink RX5 26 (TX5 3).1 (TX5 3).2.1 (TX5 3).2.2.1 ∈ wsX5_learnt := by decide +kernel
  have hf91 : Cond.fieldLink RX5 91 (TX2 4).1 (TX2 4).2.1 (TX2 4).2.2.1 ∈ wsX5_learnt := by decide +kernel
  have hf95 : Cond.fieldLink RX5 95 (TX2 2).1 (TX2 2).2.1 (TX2 2).2.2.1 ∈ wsX5_learnt := by decide +kernel
  have cw64 : CallB ({ frames := 1, cells := 0, slots := 0, locals := 21 }) s _ RX5 64 yX5_isBelow cX5_isBelow 2 (some .boolean) wsX5_isBelow ({ frames := 0, cells := 0, slots := 0, locals := 0 }) 0 0 2 ∧ (Cond.static yX5_isBelow).before _ s = true := va_cwS 2 hc.2.2.2.2 gX5_learnt_X5_isBelow rfl rfl rfl (by decide +kernel) ⟨Nat.le_of_ble_eq_true rfl, Nat.le_of_ble_eq_true rfl⟩
  refine wp_iload_n hc 1 dX5_learnt_0 rfl ?_
  refine wp_bipush (v := 12) hc dX5_learnt_1 (by decide) ?_
  refine wp_callSg (As := [.int i1, .int 12]) (rest := []) (v := (fX5_isBelow i1 12)) hc hNW (kX5_isBelow l i1 12) cw64 rfl rfl (Nat.le_of_ble_eq_true rfl) dX5_learnt_3 ?_
  refine wp_if_ne (tgt := 16) hc dX5_learnt_6 (by decide) (fun _ => ?_) (fun c => absurd c (below_ne hk12))
  refine wp_aload_n hc 0 dX5_learnt_16 rfl ?_
  refine wp_get hc hx hin5 (j := 0) (by decide) (by decide) (ce_4 rfl) rfl 3 (by decide) hf26 rfl dX5_learnt_17 ?_
  refine wp_get hc hx hin2 (j := (16 + 12 * (M.2.1 0))) (Nat.zero_le _) (by have := (hR.1 0 (by decide)); omega) (ce_1 (kd_st (hR.1 0 (by decide)))) rfl 4 (by decide) hf91 rfl dX5_learnt_20 ?_
  refine wp_if_eq (tgt := 38) hc dX5_learnt_23 (by decide) (fun c23 => ?_) (fun c23 => ?_)
  · refine wp_iconst (v := (-1)) hc dX5_learnt_38 (by decide) ?_
    refine wp_iret hc hr hk ?_ dX5_learnt_39
    show (-1) = fX5_learnt_r M i1 ∧ M = M
    exact ⟨by rw [fX5_learnt_r, if_pos c23], rfl⟩
  refine wp_aload_n hc 0 dX5_learnt_26 rfl ?_
  refine wp_get hc hx hin5 (j := 0) (by decide) (by decide) (ce_4 rfl) rfl 3 (by decide) hf26 rfl dX5_learnt_27 ?_
  refine wp_get hc hx hin2 (j := (16 + 12 * (M.2.1 0))) (Nat.zero_le _) (by have := (hR.1 0 (by decide)); omega) (ce_1 (kd_st (hR.1 0 (by decide)))) rfl 2 (by decide) hf95 rfl dX5_learnt_30 ?_
  refine wp_iload_n hc 1 dX5_learnt_33 rfl ?_
  refine wp_iald hc hx (j := (16 + 12 * (M.2.1 0) + 3)) (Nat.zero_le _) (by have := (hR.1 0 (by decide)); omega) (kd_kn (hR.1 0 (by decide))) i1.toNatClampNeg rfl (by rw [ln_kn (hR.1 0 (by decide))]; exact vin8 hk12) dX5_learnt_34 ?_
  refine wp_goto (tgt := 39) hc dX5_learnt_35 (by decide) ?_
  refine wp_iret hc hr hk ?_ dX5_learnt_39
  show (M.1 (16 + 12 * (M.2.1 0) + 3) i1.toNatClampNeg) = fX5_learnt_r M i1 ∧ M = M
  exact ⟨by rw [fX5_learnt_r, if_neg c23], rfl⟩
def fX5_boxDigest (M : Mem) (i1 : Int64) (i2 : Int32) : Int64 :=
  tk (((31 * i1) + (fX0_at M (16 + 12 * (M.2.1 0) + 1 + 3 + i2.toNatClampNeg) 0).toInt64)) fun x1 =>
  tk (((31 * x1) + (fX0_at M (16 + 12 * (M.2.1 0) + 1 + 3 + i2.toNatClampNeg) 1).toInt64)) fun x2 =>
  tk (((31 * x2) + (fX0_at M (16 + 12 * (M.2.1 0) + 1 + 3 + i2.toNatClampNeg) 2).toInt64)) fun x3 =>
  tk (((31 * x3) + (fX0_at M (16 + 12 * (M.2.1 0) + 1 + 3 + i2.toNatClampNeg) 3).toInt64)) fun x4 =>
  tk (((31 * x4) + (fX0_determinant M (16 + 12 * (M.2.1 0) + 1 + 3 + i2.toNatClampNeg)).toInt64)) fun x5 =>
  tk (((31 * x5) + (fX5_passed M (16 + 12 * (M.2.1 0) + 1 + 3 + i2.toNatClampNeg) 0).toInt64)) fun x6 =>
  tk (((31 * x6) + (fX5_passed M (16 + 12 * (M.2.1 0) + 1 + 3 + i2.toNatClampNeg) 1).toInt64)) fun x7 =>
  tk (((31 * x7) + (fX5_passed M (16 + 12 * (M.2.1 0) + 1 + 3 + i2.toNatClampNeg) 2).toInt64)) fun x8 =>
  tk (((31 * x8) + (fX5_passed M (16 + 12 * (M.2.1 0) + 1 + 3 + i2.toNatClampNeg) 3).toInt64)) fun x9 =>
  ((31 * x9) + (fX2_leastAlike M (M.2.1 0) i2).toInt64)
set_option maxHeartbeats 4000000 in
set_option maxRecDepth 100000 in
theorem kX5_boxDigest (l : Launch) (D : va_G) (cy : Nat → ClassId) (z : Nat → Nat) (hz : zI z) (M : Mem) (i1 : Int64) (i2 : Int32) (hR : RK M) (hb : 0 ≤ i2.toInt ∧ i2.toInt < 8) : KL l yX5_boxDigest wsX5_boxDigest { frames := 5, cells := 0, slots := 0, locals := 116 } D cy z 0 100 [.ref (z 0), .long i1, .int i2] M (fun r u => r = fX5_boxDigest M i1 i2 ∧ u = M) := by
  refine met_wp (lv := [(0, .ref (z 0)), (1, .long i1), (3, .int i2)]) hz (by decide) (by decide) rfl rfl (Nat.le_of_ble_eq_true rfl) rfl ?_
  intro p e s m below meth c hc hx hr hk
  have hNW := hx.2.1
  have hin2 : ∀ w ∈ wsX20, w ∈ wsX5_boxDigest := by decide +kernel
  have hin5 : ∀ w ∈ wsX50, w ∈ wsX5_boxDigest := by decide +kernel
  have hf26 : Cond.fieldLink RX5 26 (TX5 3).1 (TX5 3).2.1 (TX5 3).2.2.1 ∈ wsX5_boxDigest := by decide +kernel
  have hf71 : Cond.fieldLink RX5 71 (TX2 0).1 (TX2 0).2.1 (TX2 0).2.2.1 ∈ wsX5_boxDigest := by decide +kernel
  have cw75 : CallW ({ frames := 5, cells := 0, slots := 0, locals := 116 }) s _ RX5 RX0 75 yX0_at cX0_at 2 (some .int) wsX0_at ({ frames := 0, cells := 0, slots := 0, locals := 0 }) 0 0 1 := cwV 1 hc.2.2.2.2 gX5_boxDigest_X0_at rfl rfl rfl (by decide +kernel) ⟨Nat.le_of_ble_eq_true rfl, Nat.le_of_ble_eq_true rfl⟩
  have cw115 : CallW ({ frames := 5, cells := 0, slots := 0, locals := 116 }) s _ RX5 RX0 115 yX0_determinant cX0_determinant 1 (some .int) wsX0_determinant ({ frames := 2, cells := 0, slots := 0, locals := 48 }) 0 0 0 := cwV 0 hc.2.2.2.2 gX5_boxDigest_X0_determinant rfl rfl rfl (by decide +kernel) ⟨Nat.le_of_ble_eq_true rfl, Nat.le_of_ble_eq_true rfl⟩
  have cw132 : CallB ({ frames := 5, cells := 0, slots := 0, locals := 116 }) s _ RX5 132 yX5_passed cX5_passed 2 (some .int) wsX5_passed ({ frames := 4, cells := 0, slots := 0, locals := 95 }) 0 0 2 ∧ (Cond.static yX5_passed).before _ s = true := va_cwS 2 hc.2.2.2.2 gX5_boxDigest_X5_passed rfl rfl rfl (by decide +kernel) ⟨Nat.le_of_ble_eq_true rfl, Nat.le_of_ble_eq_true rfl⟩
  have cw136 : CallW ({ frames := 5, cells := 0, slots := 0, locals := 116 }) s _ RX5 RX2 136 yX2_leastAlike cX2_leastAlike 3 (some .int) wsX2_leastAlike ({ frames := 1, cells := 0, slots := 0, locals := 21 }) 0 0 1 := cwV 1 hc.2.2.2.2 gX5_boxDigest_X2_leastAlike rfl rfl rfl (by decide +kernel) ⟨Nat.le_of_ble_eq_true rfl, Nat.le_of_ble_eq_true rfl⟩
  refine wp_aload_n hc 0 dX5_boxDigest_0 rfl ?_
  refine wp_get hc hx hin5 (j := 0) (by decide) (by decide) (ce_4 rfl) rfl 3 (by decide) hf26 rfl dX5_boxDigest_1 ?_
  refine wp_get hc hx hin2 (j := (16 + 12 * (M.2.1 0))) (Nat.zero_le _) (by have := (hR.1 0 (by decide)); omega) (ce_1 (kd_st (hR.1 0 (by decide)))) rfl 0 (by decide) hf71 rfl dX5_boxDigest_4 ?_
  refine wp_iload_n hc 2 dX5_boxDigest_7 rfl ?_
  refine wp_aald8 hc hx (j := (16 + 12 * (M.2.1 0) + 1)) (Nat.zero_le _) (by have := (hR.1 0 (by decide)); omega) (kd_bx (hR.1 0 (by decide))) i2.toNatClampNeg rfl (vin8 hb) dX5_boxDigest_8 ?_
  refine wp_astore (lv' := [(4, .ref (z (16 + 12 * (M.2.1 0) + 1 + 3 + i2.toNatClampNeg))), (0, .ref (z 0)), (1, .long i1), (3, .int i2)]) hc dX5_boxDigest_9 (by decide) rfl ?_
  refine wp_lload_n hc 2 dX5_boxDigest_11 rfl ?_
  refine wp_lstore (lv' := [(5, .long i1), (4, .ref (z (16 + 12 * (M.2.1 0) + 1 + 3 + i2.toNatClampNeg))), (0, .ref (z 0)), (1, .long i1), (3, .int i2)]) hc dX5_boxDigest_12 (by decide) rfl ?_
  refine wp_iconst (v := 0) hc dX5_boxDigest_14 (by decide) ?_
  refine wp_istore (lv' := [(7, .int 0), (5, .long i1), (4, .ref (z (16 + 12 * (M.2.1 0) + 1 + 3 + i2.toNatClampNeg))), (0, .ref (z 0)), (1, .long i1), (3, .int i2)]) hc dX5_boxDigest_15 (by decide) rfl ?_
  refine wp_iload hc 0 dX5_boxDigest_17 rfl ?_
  refine wp_iconst (v := 4) hc dX5_boxDigest_19 (by decide) ?_
  refine wp_icmp_ge (tgt := 46) hc dX5_boxDigest_20 (by decide) (fun c => absurd c (by decide)) (fun _ => ?_)
  refine wp_ldc2 (v := 31) hc (by decide +kernel) dX5_boxDigest_23 ?_
  refine wp_lload hc 1 dX5_boxDigest_26 rfl ?_
  refine wp_lmul hc dX5_boxDigest_28 ?_
  refine wp_aload hc 2 dX5_boxDigest_29 rfl ?_
  refine wp_iload hc 0 dX5_boxDigest_31 rfl ?_
  refine wp_callVf (As := [.int 0]) (rest := [.long (31 * i1)]) (j := (16 + 12 * (M.2.1 0) + 1 + 3 + i2.toNatClampNeg)) (v := (fX0_at M (16 + 12 * (M.2.1 0) + 1 + 3 + i2.toNatClampNeg) 0)) hc hx (kX0_at l D cy z hz M (16 + 12 * (M.2.1 0) + 1 + 3 + i2.toNatClampNeg) 0 (by have := (hR.1 0 (by decide)); have : i2.toNatClampNeg < 8 := (cl8 (n := 8) hb); omega) (kd_fo (hR.1 0 (by decide)) (cl8 (n := 8) hb))) cw75 (Nat.zero_le _) (by have := (hR.1 0 (by decide)); have : i2.toNatClampNeg < 8 := (cl8 (n := 8) hb); omega) (ce_0 (kd_fo (hR.1 0 (by decide)) (cl8 (n := 8) hb))) rfl rfl rfl rfl (Nat.le_of_ble_eq_true rfl) dX5_boxDigest_33 ?_
  refine wp_i2l hc dX5_boxDigest_36 ?_
  refine wp_ladd hc dX5_boxDigest_37 ?_
  refine wp_topl (fun x1 hx1 => ?_)
  refine wp_lstore (lv' := [(5, .long x1), (7, .int 0), (4, .ref (z (16 + 12 * (M.2.1 0) + 1 + 3 + i2.toNatClampNeg))), (0, .ref (z 0)), (1, .long i1), (3, .int i2)]) hc dX5_boxDigest_38 (by decide) rfl ?_
  refine wp_iinc (v := 1) (lv' := [(7, .int 1), (5, .long x1), (4, .ref (z (16 + 12 * (M.2.1 0) + 1 + 3 + i2.toNatClampNeg))), (0, .ref (z 0)), (1, .long i1), (3, .int i2)]) hc 1 dX5_boxDigest_40 rfl (by decide) (by decide) rfl ?_
  refine wp_goto (tgt := 17) hc dX5_boxDigest_43 (by decide) ?_
  refine wp_iload hc 0 dX5_boxDigest_17 rfl ?_
  refine wp_iconst (v := 4) hc dX5_boxDigest_19 (by decide) ?_
  refine wp_icmp_ge (tgt := 46) hc dX5_boxDigest_20 (by decide) (fun c => absurd c (by decide)) (fun _ => ?_)
  refine wp_ldc2 (v := 31) hc (by decide +kernel) dX5_boxDigest_23 ?_
  refine wp_lload hc 1 dX5_boxDigest_26 rfl ?_
  refine wp_lmul hc dX5_boxDigest_28 ?_
  refine wp_aload hc 2 dX5_boxDigest_29 rfl ?_
  refine wp_iload hc 0 dX5_boxDigest_31 rfl ?_
  refine wp_callVf (As := [.int 1]) (rest := [.long (31 * x1)]) (j := (16 + 12 * (M.2.1 0) + 1 + 3 + i2.toNatClampNeg)) (v := (fX0_at M (16 + 12 * (M.2.1 0) + 1 + 3 + i2.toNatClampNeg) 1)) hc hx (kX0_at l D cy z hz M (16 + 12 * (M.2.1 0) + 1 + 3 + i2.toNatClampNeg) 1 (by have := (hR.1 0 (by decide)); have : i2.toNatClampNeg < 8 := (cl8 (n := 8) hb); omega) (kd_fo (hR.1 0 (by decide)) (cl8 (n := 8) hb))) cw75 (Nat.zero_le _) (by have := (hR.1 0 (by decide)); have : i2.toNatClampNeg < 8 := (cl8 (n := 8) hb); omega) (ce_0 (kd_fo (hR.1 0 (by decide)) (cl8 (n := 8) hb))) rfl rfl rfl rfl (Nat.le_of_ble_eq_true rfl) dX5_boxDigest_33 ?_
  refine wp_i2l hc dX5_boxDigest_36 ?_
  refine wp_ladd hc dX5_boxDigest_37 ?_
  refine wp_topl (fun x2 hx2 => ?_)
  refine wp_lstore (lv' := [(5, .long x2), (7, .int 1), (4, .ref (z (16 + 12 * (M.2.1 0) + 1 + 3 + i2.toNatClampNeg))), (0, .ref (z 0)), (1, .long i1), (3, .int i2)]) hc dX5_boxDigest_38 (by decide) rfl ?_
  refine wp_iinc (v := 2) (lv' := [(7, .int 2), (5, .long x2), (4, .ref (z (16 + 12 * (M.2.1 0) + 1 + 3 + i2.toNatClampNeg))), (0, .ref (z 0)), (1, .long i1), (3, .int i2)]) hc 1 dX5_boxDigest_40 rfl (by decide) (by decide) rfl ?_
  refine wp_goto (tgt := 17) hc dX5_boxDigest_43 (by decide) ?_
  refine wp_iload hc 0 dX5_boxDigest_17 rfl ?_
  refine wp_iconst (v := 4) hc dX5_boxDigest_19 (by decide) ?_
  refine wp_icmp_ge (tgt := 46) hc dX5_boxDigest_20 (by decide) (fun c => absurd c (by decide)) (fun _ => ?_)
  refine wp_ldc2 (v := 31) hc (by decide +kernel) dX5_boxDigest_23 ?_
  refine wp_lload hc 1 dX5_boxDigest_26 rfl ?_
  refine wp_lmul hc dX5_boxDigest_28 ?_
  refine wp_aload hc 2 dX5_boxDigest_29 rfl ?_
  refine wp_iload hc 0 dX5_boxDigest_31 rfl ?_
  refine wp_callVf (As := [.int 2]) (rest := [.long (31 * x2)]) (j := (16 + 12 * (M.2.1 0) + 1 + 3 + i2.toNatClampNeg)) (v := (fX0_at M (16 + 12 * (M.2.1 0) + 1 + 3 + i2.toNatClampNeg) 2)) hc hx (kX0_at l D cy z hz M (16 + 12 * (M.2.1 0) + 1 + 3 + i2.toNatClampNeg) 2 (by have := (hR.1 0 (by decide)); have : i2.toNatClampNeg < 8 := (cl8 (n := 8) hb); omega) (kd_fo (hR.1 0 (by decide)) (cl8 (n := 8) hb))) cw75 (Nat.zero_le _) (by have := (hR.1 0 (by decide)); have : i2.toNatClampNeg < 8 := (cl8 (n := 8) hb); omega) (ce_0 (kd_fo (hR.1 0 (by decide)) (cl8 (n := 8) hb))) rfl rfl rfl rfl (Nat.le_of_ble_eq_true rfl) dX5_boxDigest_33 ?_
  refine wp_i2l hc dX5_boxDigest_36 ?_
  refine wp_ladd hc dX5_boxDigest_37 ?_
  refine wp_topl (fun x3 hx3 => ?_)
  refine wp_lstore (lv' := [(5, .long x3), (7, .int 2), (4, .ref (z (16 + 12 * (M.2.1 0) + 1 + 3 + i2.toNatClampNeg))), (0, .ref (z 0)), (1, .long i1), (3, .int i2)]) hc dX5_boxDigest_38 (by decide) rfl ?_
  refine wp_iinc (v := 3) (lv' := [(7, .int 3), (5, .long x3), (4, .ref (z (16 + 12 * (M.2.1 0) + 1 + 3 + i2.toNatClampNeg))), (0, .ref (z 0)), (1, .long i1), (3, .int i2)]) hc 1 dX5_boxDigest_40 rfl (by decide) (by decide) rfl ?_
  refine wp_goto (tgt := 17) hc dX5_boxDigest_43 (by decide) ?_
  refine wp_iload hc 0 dX5_boxDigest_17 rfl ?_
  refine wp_iconst (v := 4) hc dX5_boxDigest_19 (by decide) ?_
  refine wp_icmp_ge (tgt := 46) hc dX5_boxDigest_20 (by decide) (fun c => absurd c (by decide)) (fun _ => ?_)
  refine wp_ldc2 (v := 31) hc (by decide +kernel) dX5_boxDigest_23 ?_
  refine wp_lload hc 1 dX5_boxDigest_26 rfl ?_
  refine wp_lmul hc dX5_boxDigest_28 ?_
  refine wp_aload hc 2 dX5_boxDigest_29 rfl ?_
  refine wp_iload hc 0 dX5_boxDigest_31 rfl ?_
  refine wp_callVf (As := [.int 3]) (rest := [.long (31 * x3)]) (j := (16 + 12 * (M.2.1 0) + 1 + 3 + i2.toNatClampNeg)) (v := (fX0_at M (16 + 12 * (M.2.1 0) + 1 + 3 + i2.toNatClampNeg) 3)) hc hx (kX0_at l D cy z hz M (16 + 12 * (M.2.1 0) + 1 + 3 + i2.toNatClampNeg) 3 (by have := (hR.1 0 (by decide)); have : i2.toNatClampNeg < 8 := (cl8 (n := 8) hb); omega) (kd_fo (hR.1 0 (by decide)) (cl8 (n := 8) hb))) cw75 (Nat.zero_le _) (by have := (hR.1 0 (by decide)); have : i2.toNatClampNeg < 8 := (cl8 (n := 8) hb); omega) (ce_0 (kd_fo (hR.1 0 (by decide)) (cl8 (n := 8) hb))) rfl rfl rfl rfl (Nat.le_of_ble_eq_true rfl) dX5_boxDigest_33 ?_
  refine wp_i2l hc dX5_boxDigest_36 ?_
  refine wp_ladd hc dX5_boxDigest_37 ?_
  refine wp_topl (fun x4 hx4 => ?_)
  refine wp_lstore (lv' := [(5, .long x4), (7, .int 3), (4, .ref (z (16 + 12 * (M.2.1 0) + 1 + 3 + i2.toNatClampNeg))), (0, .ref (z 0)), (1, .long i1), (3, .int i2)]) hc dX5_boxDigest_38 (by decide) rfl ?_
  refine wp_iinc (v := 4) (lv' := [(7, .int 4), (5, .long x4), (4, .ref (z (16 + 12 * (M.2.1 0) + 1 + 3 + i2.toNatClampNeg))), (0, .ref (z 0)), (1, .long i1), (3, .int i2)]) hc 1 dX5_boxDigest_40 rfl (by decide) (by decide) rfl ?_
  refine wp_goto (tgt := 17) hc dX5_boxDigest_43 (by decide) ?_
  refine wp_iload hc 0 dX5_boxDigest_17 rfl ?_
  refine wp_iconst (v := 4) hc dX5_boxDigest_19 (by decide) ?_
  refine wp_icmp_ge (tgt := 46) hc dX5_boxDigest_20 (by decide) (fun _ => ?_) (fun c => absurd c (by decide))
  refine wp_ldc2 (v := 31) hc (by decide +kernel) dX5_boxDigest_46 ?_
  refine wp_lload hc 1 dX5_boxDigest_49 rfl ?_
  refine wp_lmul hc dX5_boxDigest_51 ?_
  refine wp_aload hc 2 dX5_boxDigest_52 rfl ?_
  refine wp_callVf (As := []) (rest := [.long (31 * x4)]) (j := (16 + 12 * (M.2.1 0) + 1 + 3 + i2.toNatClampNeg)) (v := (fX0_determinant M (16 + 12 * (M.2.1 0) + 1 + 3 + i2.toNatClampNeg))) hc hx (kX0_determinant l D cy z hz M (16 + 12 * (M.2.1 0) + 1 + 3 + i2.toNatClampNeg) (by have := (hR.1 0 (by decide)); have : i2.toNatClampNeg < 8 := (cl8 (n := 8) hb); omega) (kd_fo (hR.1 0 (by decide)) (cl8 (n := 8) hb))) cw115 (Nat.zero_le _) (by have := (hR.1 0 (by decide)); have : i2.toNatClampNeg < 8 := (cl8 (n := 8) hb); omega) (ce_0 (kd_fo (hR.1 0 (by decide)) (cl8 (n := 8) hb))) rfl rfl rfl rfl (Nat.le_of_ble_eq_true rfl) dX5_boxDigest_54 ?_
  refine wp_i2l hc dX5_boxDigest_57 ?_
  refine wp_ladd hc dX5_boxDigest_58 ?_
  refine wp_topl (fun x5 hx5 => ?_)
  refine wp_lstore (lv' := [(5, .long x5), (7, .int 4), (4, .ref (z (16 + 12 * (M.2.1 0) + 1 + 3 + i2.toNatClampNeg))), (0, .ref (z 0)), (1, .long i1), (3, .int i2)]) hc dX5_boxDigest_59 (by decide) rfl ?_
  refine wp_iconst (v := 0) hc dX5_boxDigest_61 (by decide) ?_
  refine wp_istore (lv' := [(7, .int 0), (5, .long x5), (4, .ref (z (16 + 12 * (M.2.1 0) + 1 + 3 + i2.toNatClampNeg))), (0, .ref (z 0)), (1, .long i1), (3, .int i2)]) hc dX5_boxDigest_62 (by decide) rfl ?_
  refine wp_iload hc 0 dX5_boxDigest_64 rfl ?_
  refine wp_iconst (v := 4) hc dX5_boxDigest_66 (by decide) ?_
  refine wp_icmp_ge (tgt := 93) hc dX5_boxDigest_67 (by decide) (fun c => absurd c (by decide)) (fun _ => ?_)
  refine wp_ldc2 (v := 31) hc (by decide +kernel) dX5_boxDigest_70 ?_
  refine wp_lload hc 1 dX5_boxDigest_73 rfl ?_
  refine wp_lmul hc dX5_boxDigest_75 ?_
  refine wp_aload hc 2 dX5_boxDigest_76 rfl ?_
  refine wp_iload hc 0 dX5_boxDigest_78 rfl ?_
  refine wp_callSf (As := [.ref (z (16 + 12 * (M.2.1 0) + 1 + 3 + i2.toNatClampNeg)), .int 0]) (rest := [.long (31 * x5)]) (v := (fX5_passed M (16 + 12 * (M.2.1 0) + 1 + 3 + i2.toNatClampNeg) 0)) hc hx (kX5_passed l D cy z hz M (16 + 12 * (M.2.1 0) + 1 + 3 + i2.toNatClampNeg) 0 (by have := (hR.1 0 (by decide)); have : i2.toNatClampNeg < 8 := (cl8 (n := 8) hb); omega) (kd_fo (hR.1 0 (by decide)) (cl8 (n := 8) hb))) cw132 rfl rfl (Nat.le_of_ble_eq_true rfl) dX5_boxDigest_80 ?_
  refine wp_i2l hc dX5_boxDigest_83 ?_
  refine wp_ladd hc dX5_boxDigest_84 ?_
  refine wp_topl (fun x6 hx6 => ?_)
  refine wp_lstore (lv' := [(5, .long x6), (7, .int 0), (4, .ref (z (16 + 12 * (M.2.1 0) + 1 + 3 + i2.toNatClampNeg))), (0, .ref (z 0)), (1, .long i1), (3, .int i2)]) hc dX5_boxDigest_85 (by decide) rfl ?_
  refine wp_iinc (v := 1) (lv' := [(7, .int 1), (5, .long x6), (4, .ref (z (16 + 12 * (M.2.1 0) + 1 + 3 + i2.toNatClampNeg))), (0, .ref (z 0)), (1, .long i1), (3, .int i2)]) hc 1 dX5_boxDigest_87 rfl (by decide) (by decide) rfl ?_
  refine wp_goto (tgt := 64) hc dX5_boxDigest_90 (by decide) ?_
  refine wp_iload hc 0 dX5_boxDigest_64 rfl ?_
  refine wp_iconst (v := 4) hc dX5_boxDigest_66 (by decide) ?_
  refine wp_icmp_ge (tgt := 93) hc dX5_boxDigest_67 (by decide) (fun c => absurd c (by decide)) (fun _ => ?_)
  refine wp_ldc2 (v := 31) hc (by decide +kernel) dX5_boxDigest_70 ?_
  refine wp_lload hc 1 dX5_boxDigest_73 rfl ?_
  refine wp_lmul hc dX5_boxDigest_75 ?_
  refine wp_aload hc 2 dX5_boxDigest_76 rfl ?_
  refine wp_iload hc 0 dX5_boxDigest_78 rfl ?_
  refine wp_callSf (As := [.ref (z (16 + 12 * (M.2.1 0) + 1 + 3 + i2.toNatClampNeg)), .int 1]) (rest := [.long (31 * x6)]) (v := (fX5_passed M (16 + 12 * (M.2.1 0) + 1 + 3 + i2.toNatClampNeg) 1)) hc hx (kX5_passed l D cy z hz M (16 + 12 * (M.2.1 0) + 1 + 3 + i2.toNatClampNeg) 1 (by have := (hR.1 0 (by decide)); have : i2.toNatClampNeg < 8 := (cl8 (n := 8) hb); omega) (kd_fo (hR.1 0 (by decide)) (cl8 (n := 8) hb))) cw132 rfl rfl (Nat.le_of_ble_eq_true rfl) dX5_boxDigest_80 ?_
  refine wp_i2l hc dX5_boxDigest_83 ?_
  refine wp_ladd hc dX5_boxDigest_84 ?_
  refine wp_topl (fun x7 hx7 => ?_)
  refine wp_lstore (lv' := [(5, .long x7), (7, .int 1), (4, .ref (z (16 + 12 * (M.2.1 0) + 1 + 3 + i2.toNatClampNeg))), (0, .ref (z 0)), (1, .long i1), (3, .int i2)]) hc dX5_boxDigest_85 (by decide) rfl ?_
  refine wp_iinc (v := 2) (lv' := [(7, .int 2), (5, .long x7), (4, .ref (z (16 + 12 * (M.2.1 0) + 1 + 3 + i2.toNatClampNeg))), (0, .ref (z 0)), (1, .long i1), (3, .int i2)]) hc 1 dX5_boxDigest_87 rfl (by decide) (by decide) rfl ?_
  refine wp_goto (tgt := 64) hc dX5_boxDigest_90 (by decide) ?_
  refine wp_iload hc 0 dX5_boxDigest_64 rfl ?_
  refine wp_iconst (v := 4) hc dX5_boxDigest_66 (by decide) ?_
  refine wp_icmp_ge (tgt := 93) hc dX5_boxDigest_67 (by decide) (fun c => absurd c (by decide)) (fun _ => ?_)
  refine wp_ldc2 (v := 31) hc (by decide +kernel) dX5_boxDigest_70 ?_
  refine wp_lload hc 1 dX5_boxDigest_73 rfl ?_
  refine wp_lmul hc dX5_boxDigest_75 ?_
  refine wp_aload hc 2 dX5_boxDigest_76 rfl ?_
  refine wp_iload hc 0 dX5_boxDigest_78 rfl ?_
  refine wp_callSf (As := [.ref (z (16 + 12 * (M.2.1 0) + 1 + 3 + i2.toNatClampNeg)), .int 2]) (rest := [.long (31 * x7)]) (v := (fX5_passed M (16 + 12 * (M.2.1 0) + 1 + 3 + i2.toNatClampNeg) 2)) hc hx (kX5_passed l D cy z hz M (16 + 12 * (M.2.1 0) + 1 + 3 + i2.toNatClampNeg) 2 (by have := (hR.1 0 (by decide)); have : i2.toNatClampNeg < 8 := (cl8 (n := 8) hb); omega) (kd_fo (hR.1 0 (by decide)) (cl8 (n := 8) hb))) cw132 rfl rfl (Nat.le_of_ble_eq_true rfl) dX5_boxDigest_80 ?_
  refine wp_i2l hc dX5_boxDigest_83 ?_
  refine wp_ladd hc dX5_boxDigest_84 ?_
  refine wp_topl (fun x8 hx8 => ?_)
  refine wp_lstore (lv' := [(5, .long x8), (7, .int 2), (4, .ref (z (16 + 12 * (M.2.1 0) + 1 + 3 + i2.toNatClampNeg))), (0, .ref (z 0)), (1, .long i1), (3, .int i2)]) hc dX5_boxDigest_85 (by decide) rfl ?_
  refine wp_iinc (v := 3) (lv' := [(7, .int 3), (5, .long x8), (4, .ref (z (16 + 12 * (M.2.1 0) + 1 + 3 + i2.toNatClampNeg))), (0, .ref (z 0)), (1, .long i1), (3, .int i2)]) hc 1 dX5_boxDigest_87 rfl (by decide) (by decide) rfl ?_
  refine wp_goto (tgt := 64) hc dX5_boxDigest_90 (by decide) ?_
  refine wp_iload hc 0 dX5_boxDigest_64 rfl ?_
  refine wp_iconst (v := 4) hc dX5_boxDigest_66 (by decide) ?_
  refine wp_icmp_ge (tgt := 93) hc dX5_boxDigest_67 (by decide) (fun c => absurd c (by decide)) (fun _ => ?_)
  refine wp_ldc2 (v := 31) hc (by decide +kernel) dX5_boxDigest_70 ?_
  refine wp_lload hc 1 dX5_boxDigest_73 rfl ?_
  refine wp_lmul hc dX5_boxDigest_75 ?_
  refine wp_aload hc 2 dX5_boxDigest_76 rfl ?_
  refine wp_iload hc 0 dX5_boxDigest_78 rfl ?_
  refine wp_callSf (As := [.ref (z (16 + 12 * (M.2.1 0) + 1 + 3 + i2.toNatClampNeg)), .int 3]) (rest := [.long (31 * x8)]) (v := (fX5_passed M (16 + 12 * (M.2.1 0) + 1 + 3 + i2.toNatClampNeg) 3)) hc hx (kX5_passed l D cy z hz M (16 + 12 * (M.2.1 0) + 1 + 3 + i2.toNatClampNeg) 3 (by have := (hR.1 0 (by decide)); have : i2.toNatClampNeg < 8 := (cl8 (n := 8) hb); omega) (kd_fo (hR.1 0 (by decide)) (cl8 (n := 8) hb))) cw132 rfl rfl (Nat.le_of_ble_eq_true rfl) dX5_boxDigest_80 ?_
  refine wp_i2l hc dX5_boxDigest_83 ?_
  refine wp_ladd hc dX5_boxDigest_84 ?_
  refine wp_topl (fun x9 hx9 => ?_)
  refine wp_lstore (lv' := [(5, .long x9), (7, .int 3), (4, .ref (z (16 + 12 * (M.2.1 0) + 1 + 3 + i2.toNatClampNeg))), (0, .ref (z 0)), (1, .long i1), (3, .int i2)]) hc dX5_boxDigest_85 (by decide) rfl ?_
  refine wp_iinc (v := 4) (lv' := [(7, .int 4), (5, .long x9), (4, .ref (z (16 + 12 * (M.2.1 0) + 1 + 3 + i2.toNatClampNeg))), (0, .ref (z 0)), (1, .long i1), (3, .int i2)]) hc 1 dX5_boxDigest_87 rfl (by decide) (by decide) rfl ?_
  refine wp_goto (tgt := 64) hc dX5_boxDigest_90 (by decide) ?_
  refine wp_iload hc 0 dX5_boxDigest_64 rfl ?_
  refine wp_iconst (v := 4) hc dX5_boxDigest_66 (by decide) ?_
  refine wp_icmp_ge (tgt := 93) hc dX5_boxDigest_67 (by decide) (fun _ => ?_) (fun c => absurd c (by decide))
  refine wp_ldc2 (v := 31) hc (by decide +kernel) dX5_boxDigest_93 ?_
  refine wp_lload hc 1 dX5_boxDigest_96 rfl ?_
  refine wp_lmul hc dX5_boxDigest_98 ?_
  refine wp_aload_n hc 3 dX5_boxDigest_99 rfl ?_
  refine wp_get hc hx hin5 (j := 0) (by decide) (by decide) (ce_4 rfl) rfl 3 (by decide) hf26 rfl dX5_boxDigest_100 ?_
  refine wp_iload_n hc 5 dX5_boxDigest_103 rfl ?_
  refine wp_callVf (As := [.int i2]) (rest := [.long (31 * x9)]) (j := (16 + 12 * (M.2.1 0))) (v := (fX2_leastAlike M (M.2.1 0) i2)) hc hx (kX2_leastAlike l D cy z hz M (M.2.1 0) i2 (hR.1 0 (by decide)) hb) cw136 (Nat.zero_le _) (by have := (hR.1 0 (by decide)); omega) (ce_1 (kd_st (hR.1 0 (by decide)))) rfl rfl rfl rfl (Nat.le_of_ble_eq_true rfl) dX5_boxDigest_104 ?_
  refine wp_i2l hc dX5_boxDigest_107 ?_
  refine wp_ladd hc dX5_boxDigest_108 ?_
  refine wp_lret hc hr hk ?_ dX5_boxDigest_109
  show ((31 * x9) + (fX2_leastAlike M (M.2.1 0) i2).toInt64) = fX5_boxDigest M i1 i2 ∧ M = M
  exact ⟨by rw [fX5_boxDigest, tk_eq hx1, tk_eq hx2, tk_eq hx3, tk_eq hx4, tk_eq hx5, tk_eq hx6, tk_eq hx7, tk_eq hx8, tk_eq hx9], rfl⟩
def dcB (M : Mem) (h : Int64) : Nat → Int64
  | 0 => h
  | i + 1 => fX5_boxDigest M (dcB M h i) (nI i)
def dcE (M : Mem) (h : Int64) : Nat → Int64
  | 0 => h
  | i + 1 => 31 * dcE M h i + (fX5_error_r M (nI i)).toInt64
def dcL (M : Mem) (h : Int64) : Nat → Int64
  | 0 => h
  | i + 1 => 31 * dcL M h i + (fX5_learnt_r M (nI i)).toInt64
theorem r12 {i : Nat} (h : i < 12) : 0 ≤ (nI i).toInt ∧ (nI i).toInt < 12 := by rw [nI_T (by omega)]; omega
theorem r8 {i : Nat} (h : i < 8) : 0 ≤ (nI i).toInt ∧ (nI i).toInt < 8 := by rw [nI_T (by omega)]; omega
def fX5_digest (M : Mem)  : Int64 :=
  tk (((31 * ((31 * 2693) + (fX5_count_0 M).toInt64)) + (fX5_count_1 M).toInt64)) fun x1 =>
  tk (((31 * ((31 * x1) + (fX5_count_2 M).toInt64)) + (fX5_count_3 M).toInt64)) fun x2 =>
  tk (((31 * ((31 * x2) + (fX5_count_4 M).toInt64)) + (fX5_count_5 M).toInt64)) fun x3 =>
  (dcL M (dcE M (dcB M ((31 * x3) + (fX5_count_6 M).toInt64) ((M.1 (16 + 12 * M.2.1 0) 3).toNatClampNeg)) (12)) (12))
set_option maxHeartbeats 4000000 in
set_option maxRecDepth 100000 in
theorem kX5_digest (l : Launch) (D : va_G) (cy : Nat → ClassId) (z : Nat → Nat) (hz : zI z) (M : Mem)  (hR : RK M) (hbc : 0 ≤ (M.1 (16 + 12 * M.2.1 0) 3).toInt ∧ (M.1 (16 + 12 * M.2.1 0) 3).toInt ≤ 8) : KL l yX5_digest wsX5_digest { frames := 6, cells := 0, slots := 0, locals := 143 } D cy z 0 100 [.ref (z 0)] M (fun r u => r = fX5_digest M ∧ u = M) := by
  refine met_wp (lv := [(0, .ref (z 0))]) hz (by decide) (by decide) rfl rfl (Nat.le_of_ble_eq_true rfl) rfl ?_
  intro p e s m below meth c hc hx hr hk
  have hNW := hx.2.1
  have hin2 : ∀ w ∈ wsX20, w ∈ wsX5_digest := by decide +kernel
  have hin5 : ∀ w ∈ wsX50, w ∈ wsX5_digest := by decide +kernel
  have hf26 : Cond.fieldLink RX5 26 (TX5 3).1 (TX5 3).2.1 (TX5 3).2.2.1 ∈ wsX5_digest := by decide +kernel
  have hf161 : Cond.fieldLink RX5 161 (TX2 3).1 (TX2 3).2.1 (TX2 3).2.2.1 ∈ wsX5_digest := by decide +kernel
  have cw180 : CallW ({ frames := 6, cells := 0, slots := 0, locals := 143 }) s _ RX5 RX5 180 yX5_count cX5_count 2 (some .int) wsX5_count ({ frames := 0, cells := 0, slots := 0, locals := 0 }) 0 0 1 := cwV 1 hc.2.2.2.2 gX5_digest_X5_count rfl rfl rfl (by decide +kernel) ⟨Nat.le_of_ble_eq_true rfl, Nat.le_of_ble_eq_true rfl⟩
  have cw183 : CallW ({ frames := 6, cells := 0, slots := 0, locals := 143 }) s _ RX5 RX5 183 yX5_boxDigest cX5_boxDigest 8 (some .long) wsX5_boxDigest ({ frames := 5, cells := 0, slots := 0, locals := 116 }) 0 0 2 := cwV 2 hc.2.2.2.2 gX5_digest_X5_boxDigest rfl rfl rfl (by decide +kernel) ⟨Nat.le_of_ble_eq_true rfl, Nat.le_of_ble_eq_true rfl⟩
  have cw187 : CallW ({ frames := 6, cells := 0, slots := 0, locals := 143 }) s _ RX5 RX5 187 yX5_error cX5_error 2 (some .int) wsX5_error ({ frames := 1, cells := 0, slots := 0, locals := 21 }) 0 0 1 := cwV 1 hc.2.2.2.2 gX5_digest_X5_error rfl rfl rfl (by decide +kernel) ⟨Nat.le_of_ble_eq_true rfl, Nat.le_of_ble_eq_true rfl⟩
  have cw190 : CallW ({ frames := 6, cells := 0, slots := 0, locals := 143 }) s _ RX5 RX5 190 yX5_learnt cX5_learnt 2 (some .int) wsX5_learnt ({ frames := 1, cells := 0, slots := 0, locals := 21 }) 0 0 1 := cwV 1 hc.2.2.2.2 gX5_digest_X5_learnt rfl rfl rfl (by decide +kernel) ⟨Nat.le_of_ble_eq_true rfl, Nat.le_of_ble_eq_true rfl⟩
  refine wp_ldc2 (v := 2693) hc (by decide +kernel) dX5_digest_0 ?_
  refine wp_lstore_n (lv' := [(1, .long 2693), (0, .ref (z 0))]) hc dX5_digest_3 (by decide) rfl ?_
  refine wp_iconst (v := 0) hc dX5_digest_4 (by decide) ?_
  refine wp_istore_n (lv' := [(3, .int 0), (1, .long 2693), (0, .ref (z 0))]) hc dX5_digest_5 (by decide) rfl ?_
  refine wp_iload_n hc 0 dX5_digest_6 rfl ?_
  refine wp_bipush (v := 7) hc dX5_digest_7 (by decide) ?_
  refine wp_icmp_ge (tgt := 31) hc dX5_digest_9 (by decide) (fun c => absurd c (by decide)) (fun _ => ?_)
  refine wp_ldc2 (v := 31) hc (by decide +kernel) dX5_digest_12 ?_
  refine wp_lload_n hc 1 dX5_digest_15 rfl ?_
  refine wp_lmul hc dX5_digest_16 ?_
  refine wp_aload_n hc 2 dX5_digest_17 rfl ?_
  refine wp_iload_n hc 0 dX5_digest_18 rfl ?_
  refine wp_callVf (As := [.int 0]) (rest := [.long (31 * 2693)]) (j := 0) (v := (fX5_count_0 M)) hc hx (kX5_count_0 l D cy z hz M hR) cw180 (by decide) (by decide) (ce_4 rfl) rfl rfl rfl rfl (Nat.le_of_ble_eq_true rfl) dX5_digest_19 ?_
  refine wp_i2l hc dX5_digest_22 ?_
  refine wp_ladd hc dX5_digest_23 ?_
  refine wp_lstore_n (lv' := [(1, .long ((31 * 2693) + (fX5_count_0 M).toInt64)), (3, .int 0), (0, .ref (z 0))]) hc dX5_digest_24 (by decide) rfl ?_
  refine wp_iinc (v := 1) (lv' := [(3, .int 1), (1, .long ((31 * 2693) + (fX5_count_0 M).toInt64)), (0, .ref (z 0))]) hc 1 dX5_digest_25 rfl (by decide) (by decide) rfl ?_
  refine wp_goto (tgt := 6) hc dX5_digest_28 (by decide) ?_
  refine wp_iload_n hc 0 dX5_digest_6 rfl ?_
  refine wp_bipush (v := 7) hc dX5_digest_7 (by decide) ?_
  refine wp_icmp_ge (tgt := 31) hc dX5_digest_9 (by decide) (fun c => absurd c (by decide)) (fun _ => ?_)
  refine wp_ldc2 (v := 31) hc (by decide +kernel) dX5_digest_12 ?_
  refine wp_lload_n hc 1 dX5_digest_15 rfl ?_
  refine wp_lmul hc dX5_digest_16 ?_
  refine wp_aload_n hc 2 dX5_digest_17 rfl ?_
  refine wp_iload_n hc 0 dX5_digest_18 rfl ?_
  refine wp_callVf (As := [.int 1]) (rest := [.long (31 * ((31 * 2693) + (fX5_count_0 M).toInt64))]) (j := 0) (v := (fX5_count_1 M)) hc hx (kX5_count_1 l D cy z hz M hR) cw180 (by decide) (by decide) (ce_4 rfl) rfl rfl rfl rfl (Nat.le_of_ble_eq_true rfl) dX5_digest_19 ?_
  refine wp_i2l hc dX5_digest_22 ?_
  refine wp_ladd hc dX5_digest_23 ?_
  refine wp_topl (fun x1 hx1 => ?_)
  refine wp_lstore_n (lv' := [(1, .long x1), (3, .int 1), (0, .ref (z 0))]) hc dX5_digest_24 (by decide) rfl ?_
  refine wp_iinc (v := 2) (lv' := [(3, .int 2), (1, .long x1), (0, .ref (z 0))]) hc 1 dX5_digest_25 rfl (by decide) (by decide) rfl ?_
  refine wp_goto (tgt := 6) hc dX5_digest_28 (by decide) ?_
  refine wp_iload_n hc 0 dX5_digest_6 rfl ?_
  refine wp_bipush (v := 7) hc dX5_digest_7 (by decide) ?_
  refine wp_icmp_ge (tgt := 31) hc dX5_digest_9 (by decide) (fun c => absurd c (by decide)) (fun _ => ?_)
  refine wp_ldc2 (v := 31) hc (by decide +kernel) dX5_digest_12 ?_
  refine wp_lload_n hc 1 dX5_digest_15 rfl ?_
  refine wp_lmul hc dX5_digest_16 ?_
  refine wp_aload_n hc 2 dX5_digest_17 rfl ?_
  refine wp_iload_n hc 0 dX5_digest_18 rfl ?_
  refine wp_callVf (As := [.int 2]) (rest := [.long (31 * x1)]) (j := 0) (v := (fX5_count_2 M)) hc hx (kX5_count_2 l D cy z hz M hR) cw180 (by decide) (by decide) (ce_4 rfl) rfl rfl rfl rfl (Nat.le_of_ble_eq_true rfl) dX5_digest_19 ?_
  refine wp_i2l hc dX5_digest_22 ?_
  refine wp_ladd hc dX5_digest_23 ?_
  refine wp_lstore_n (lv' := [(1, .long ((31 * x1) + (fX5_count_2 M).toInt64)), (3, .int 2), (0, .ref (z 0))]) hc dX5_digest_24 (by decide) rfl ?_
  refine wp_iinc (v := 3) (lv' := [(3, .int 3), (1, .long ((31 * x1) + (fX5_count_2 M).toInt64)), (0, .ref (z 0))]) hc 1 dX5_digest_25 rfl (by decide) (by decide) rfl ?_
  refine wp_goto (tgt := 6) hc dX5_digest_28 (by decide) ?_
  refine wp_iload_n hc 0 dX5_digest_6 rfl ?_
  refine wp_bipush (v := 7) hc dX5_digest_7 (by decide) ?_
  refine wp_icmp_ge (tgt := 31) hc dX5_digest_9 (by decide) (fun c => absurd c (by decide)) (fun _ => ?_)
  refine wp_ldc2 (v := 31) hc (by decide +kernel) dX5_digest_12 ?_
  refine wp_lload_n hc 1 dX5_digest_15 rfl ?_
  refine wp_lmul hc dX5_digest_16 ?_
  refine wp_aload_n hc 2 dX5_digest_17 rfl ?_
  refine wp_iload_n hc 0 dX5_digest_18 rfl ?_
  refine wp_callVf (As := [.int 3]) (rest := [.long (31 * ((31 * x1) + (fX5_count_2 M).toInt64))]) (j := 0) (v := (fX5_count_3 M)) hc hx (kX5_count_3 l D cy z hz M hR) cw180 (by decide) (by decide) (ce_4 rfl) rfl rfl rfl rfl (Nat.le_of_ble_eq_true rfl) dX5_digest_19 ?_
  refine wp_i2l hc dX5_digest_22 ?_
  refine wp_ladd hc dX5_digest_23 ?_
  refine wp_topl (fun x2 hx2 => ?_)
  refine wp_lstore_n (lv' := [(1, .long x2), (3, .int 3), (0, .ref (z 0))]) hc dX5_digest_24 (by decide) rfl ?_
  refine wp_iinc (v := 4) (lv' := [(3, .int 4), (1, .long x2), (0, .ref (z 0))]) hc 1 dX5_digest_25 rfl (by decide) (by decide) rfl ?_
  refine wp_goto (tgt := 6) hc dX5_digest_28 (by decide) ?_
  refine wp_iload_n hc 0 dX5_digest_6 rfl ?_
  refine wp_bipush (v := 7) hc dX5_digest_7 (by decide) ?_
  refine wp_icmp_ge (tgt := 31) hc dX5_digest_9 (by decide) (fun c => absurd c (by decide)) (fun _ => ?_)
  refine wp_ldc2 (v := 31) hc (by decide +kernel) dX5_digest_12 ?_
  refine wp_lload_n hc 1 dX5_digest_15 rfl ?_
  refine wp_lmul hc dX5_digest_16 ?_
  refine wp_aload_n hc 2 dX5_digest_17 rfl ?_
  refine wp_iload_n hc 0 dX5_digest_18 rfl ?_
  refine wp_callVf (As := [.int 4]) (rest := [.long (31 * x2)]) (j := 0) (v := (fX5_count_4 M)) hc hx (kX5_count_4 l D cy z hz M hR) cw180 (by decide) (by decide) (ce_4 rfl) rfl rfl rfl rfl (Nat.le_of_ble_eq_true rfl) dX5_digest_19 ?_
  refine wp_i2l hc dX5_digest_22 ?_
  refine wp_ladd hc dX5_digest_23 ?_
  refine wp_lstore_n (lv' := [(1, .long ((31 * x2) + (fX5_count_4 M).toInt64)), (3, .int 4), (0, .ref (z 0))]) hc dX5_digest_24 (by decide) rfl ?_
  refine wp_iinc (v := 5) (lv' := [(3, .int 5), (1, .long ((31 * x2) + (fX5_count_4 M).toInt64)), (0, .ref (z 0))]) hc 1 dX5_digest_25 rfl (by decide) (by decide) rfl ?_
  refine wp_goto (tgt := 6) hc dX5_digest_28 (by decide) ?_
  refine wp_iload_n hc 0 dX5_digest_6 rfl ?_
  refine wp_bipush (v := 7) hc dX5_digest_7 (by decide) ?_
  refine wp_icmp_ge (tgt := 31) hc dX5_digest_9 (by decide) (fun c => absurd c (by decide)) (fun _ => ?_)
  refine wp_ldc2 (v := 31) hc (by decide +kernel) dX5_digest_12 ?_
  refine wp_lload_n hc 1 dX5_digest_15 rfl ?_
  refine wp_lmul hc dX5_digest_16 ?_
  refine wp_aload_n hc 2 dX5_digest_17 rfl ?_
  refine wp_iload_n hc 0 dX5_digest_18 rfl ?_
  refine wp_callVf (As := [.int 5]) (rest := [.long (31 * ((31 * x2) + (fX5_count_4 M).toInt64))]) (j := 0) (v := (fX5_count_5 M)) hc hx (kX5_count_5 l D cy z hz M hR) cw180 (by decide) (by decide) (ce_4 rfl) rfl rfl rfl rfl (Nat.le_of_ble_eq_true rfl) dX5_digest_19 ?_
  refine wp_i2l hc dX5_digest_22 ?_
  refine wp_ladd hc dX5_digest_23 ?_
  refine wp_topl (fun x3 hx3 => ?_)
  refine wp_lstore_n (lv' := [(1, .long x3), (3, .int 5), (0, .ref (z 0))]) hc dX5_digest_24 (by decide) rfl ?_
  refine wp_iinc (v := 6) (lv' := [(3, .int 6), (1, .long x3), (0, .ref (z 0))]) hc 1 dX5_digest_25 rfl (by decide) (by decide) rfl ?_
  refine wp_goto (tgt := 6) hc dX5_digest_28 (by decide) ?_
  refine wp_iload_n hc 0 dX5_digest_6 rfl ?_
  refine wp_bipush (v := 7) hc dX5_digest_7 (by decide) ?_
  refine wp_icmp_ge (tgt := 31) hc dX5_digest_9 (by decide) (fun c => absurd c (by decide)) (fun _ => ?_)
  refine wp_ldc2 (v := 31) hc (by decide +kernel) dX5_digest_12 ?_
  refine wp_lload_n hc 1 dX5_digest_15 rfl ?_
  refine wp_lmul hc dX5_digest_16 ?_
  refine wp_aload_n hc 2 dX5_digest_17 rfl ?_
  refine wp_iload_n hc 0 dX5_digest_18 rfl ?_
  refine wp_callVf (As := [.int 6]) (rest := [.long (31 * x3)]) (j := 0) (v := (fX5_count_6 M)) hc hx (kX5_count_6 l D cy z hz M hR) cw180 (by decide) (by decide) (ce_4 rfl) rfl rfl rfl rfl (Nat.le_of_ble_eq_true rfl) dX5_digest_19 ?_
  refine wp_i2l hc dX5_digest_22 ?_
  refine wp_ladd hc dX5_digest_23 ?_
  refine wp_lstore_n (lv' := [(1, .long ((31 * x3) + (fX5_count_6 M).toInt64)), (3, .int 6), (0, .ref (z 0))]) hc dX5_digest_24 (by decide) rfl ?_
  refine wp_iinc (v := 7) (lv' := [(3, .int 7), (1, .long ((31 * x3) + (fX5_count_6 M).toInt64)), (0, .ref (z 0))]) hc 1 dX5_digest_25 rfl (by decide) (by decide) rfl ?_
  refine wp_goto (tgt := 6) hc dX5_digest_28 (by decide) ?_
  refine wp_iload_n hc 0 dX5_digest_6 rfl ?_
  refine wp_bipush (v := 7) hc dX5_digest_7 (by decide) ?_
  refine wp_icmp_ge (tgt := 31) hc dX5_digest_9 (by decide) (fun _ => ?_) (fun c => absurd c (by decide))
  refine wp_iconst (v := 0) hc dX5_digest_31 (by decide) ?_
  refine wp_istore_n (lv' := [(3, .int 0), (1, .long ((31 * x3) + (fX5_count_6 M).toInt64)), (0, .ref (z 0))]) hc dX5_digest_32 (by decide) rfl ?_
  have n7 := cl_T hbc.1
  refine wp_lv (lv' := [(0, .ref (z 0)), (1, .long (dcB M ((31 * x3) + (fX5_count_6 M).toInt64) (0))), (3, .int (nI (0)))]) [2, 1, 0] rfl ?_
  refine wp_loop ((M.1 (16 + 12 * M.2.1 0) 3).toNatClampNeg) (fun i => M) (fun i => [(0, .ref (z 0)), (1, .long (dcB M ((31 * x3) + (fX5_count_6 M).toInt64) (i))), (3, .int (nI (i)))]) ?_ ?_ 0 (by omega)
  · show WP _ _ _ _ _ _ _ _ _ _ _ _ _ (M) [(0, .ref (z 0)), (1, .long (dcB M ((31 * x3) + (fX5_count_6 M).toInt64) ((M.1 (16 + 12 * M.2.1 0) 3).toNatClampNeg))), (3, .int (nI ((M.1 (16 + 12 * M.2.1 0) 3).toNatClampNeg)))] _ _
    refine wp_join (pcJ := 63) ?_ (fun hJ => ?_)
    · refine wp_iconst (v := 0) hc dX5_digest_63 (by decide) ?_
      refine wp_istore_n (lv' := [(3, .int 0), (0, .ref (z 0)), (1, .long (dcB M ((31 * x3) + (fX5_count_6 M).toInt64) ((M.1 (16 + 12 * M.2.1 0) 3).toNatClampNeg)))]) hc dX5_digest_64 (by decide) rfl ?_
      refine wp_lv (lv' := [(0, .ref (z 0)), (1, .long (dcE M (dcB M ((31 * x3) + (fX5_count_6 M).toInt64) ((M.1 (16 + 12 * M.2.1 0) 3).toNatClampNeg)) (0))), (3, .int (nI (0)))]) [1, 2, 0] rfl ?_
      refine wp_loop (12) (fun i => M) (fun i => [(0, .ref (z 0)), (1, .long (dcE M (dcB M ((31 * x3) + (fX5_count_6 M).toInt64) ((M.1 (16 + 12 * M.2.1 0) 3).toNatClampNeg)) (i))), (3, .int (nI (i)))]) ?_ ?_ 0 (by omega)
      · show WP _ _ _ _ _ _ _ _ _ _ _ _ _ (M) [(0, .ref (z 0)), (1, .long (dcE M (dcB M ((31 * x3) + (fX5_count_6 M).toInt64) ((M.1 (16 + 12 * M.2.1 0) 3).toNatClampNeg)) (12))), (3, .int (nI (12)))] _ _
        refine wp_iload_n hc 2 dX5_digest_65 rfl ?_
        refine wp_bipush (v := 12) hc dX5_digest_66 (by decide) ?_
        refine wp_icmp_ge (tgt := 90) hc dX5_digest_68 (by decide) (fun _ => ?_) (fun c => absurd c (by decide))
        refine wp_iconst (v := 0) hc dX5_digest_90 (by decide) ?_
        refine wp_istore_n (lv' := [(3, .int 0), (0, .ref (z 0)), (1, .long (dcE M (dcB M ((31 * x3) + (fX5_count_6 M).toInt64) ((M.1 (16 + 12 * M.2.1 0) 3).toNatClampNeg)) (12)))]) hc dX5_digest_91 (by decide) rfl ?_
        refine wp_lv (lv' := [(0, .ref (z 0)), (1, .long (dcL M (dcE M (dcB M ((31 * x3) + (fX5_count_6 M).toInt64) ((M.1 (16 + 12 * M.2.1 0) 3).toNatClampNeg)) (12)) (0))), (3, .int (nI (0)))]) [1, 2, 0] rfl ?_
        refine wp_loop (12) (fun i => M) (fun i => [(0, .ref (z 0)), (1, .long (dcL M (dcE M (dcB M ((31 * x3) + (fX5_count_6 M).toInt64) ((M.1 (16 + 12 * M.2.1 0) 3).toNatClampNeg)) (12)) (i))), (3, .int (nI (i)))]) ?_ ?_ 0 (by omega)
        · show WP _ _ _ _ _ _ _ _ _ _ _ _ _ (M) [(0, .ref (z 0)), (1, .long (dcL M (dcE M (dcB M ((31 * x3) + (fX5_count_6 M).toInt64) ((M.1 (16 + 12 * M.2.1 0) 3).toNatClampNeg)) (12)) (12))), (3, .int (nI (12)))] _ _
          refine wp_iload_n hc 2 dX5_digest_92 rfl ?_
          refine wp_bipush (v := 12) hc dX5_digest_93 (by decide) ?_
          refine wp_icmp_ge (tgt := 117) hc dX5_digest_95 (by decide) (fun _ => ?_) (fun c => absurd c (by decide))
          refine wp_lload_n hc 1 dX5_digest_117 rfl ?_
          refine wp_lret hc hr hk ?_ dX5_digest_118
          show (dcL M (dcE M (dcB M ((31 * x3) + (fX5_count_6 M).toInt64) ((M.1 (16 + 12 * M.2.1 0) 3).toNatClampNeg)) (12)) (12)) = fX5_digest M ∧ M = M
          exact ⟨by rw [fX5_digest, tk_eq hx1, tk_eq hx2, tk_eq hx3], rfl⟩
        · intro i hi ih
          show WP _ _ _ _ _ _ _ _ _ _ _ _ _ (M) [(0, .ref (z 0)), (1, .long (dcL M (dcE M (dcB M ((31 * x3) + (fX5_count_6 M).toInt64) ((M.1 (16 + 12 * M.2.1 0) 3).toNatClampNeg)) (12)) (i))), (3, .int (nI (i)))] _ _
          refine wp_iload_n hc 2 dX5_digest_92 rfl ?_
          refine wp_bipush (v := 12) hc dX5_digest_93 (by decide) ?_
          refine wp_icmp_ge (tgt := 117) hc dX5_digest_95 (by decide) (fun c => absurd c (nIlt hi (by decide))) (fun _ => ?_)
          refine wp_ldc2 (v := 31) hc (by decide +kernel) dX5_digest_98 ?_
          refine wp_lload_n hc 1 dX5_digest_101 rfl ?_
          refine wp_lmul hc dX5_digest_102 ?_
          refine wp_aload_n hc 0 dX5_digest_103 rfl ?_
          refine wp_iload_n hc 2 dX5_digest_104 rfl ?_
          refine wp_callVf (As := [.int (nI (i))]) (rest := [.long (31 * (dcL M (dcE M (dcB M ((31 * x3) + (fX5_count_6 M).toInt64) ((M.1 (16 + 12 * M.2.1 0) 3).toNatClampNeg)) (12)) (i)))]) (j := 0) (v := (fX5_learnt_r M (nI (i)))) hc hx (kX5_learnt_r l D cy z hz M (nI (i)) hR (r12 hi)) cw190 (by decide) (by decide) (ce_4 rfl) rfl rfl rfl rfl (Nat.le_of_ble_eq_true rfl) dX5_digest_105 ?_
          refine wp_i2l hc dX5_digest_108 ?_
          refine wp_ladd hc dX5_digest_109 ?_
          refine wp_topl (fun x4 hx4 => ?_)
          refine wp_lstore_n (lv' := [(1, .long x4), (0, .ref (z 0)), (3, .int (nI (i)))]) hc dX5_digest_110 (by decide) rfl ?_
          refine wp_iinc (v := ((nI (i)) + 1)) (lv' := [(3, .int ((nI (i)) + 1)), (1, .long x4), (0, .ref (z 0))]) hc 2 dX5_digest_111 rfl rfl (by decide) rfl ?_
          refine wp_goto (tgt := 92) hc dX5_digest_114 (by decide) ?_
          rw [nI_1]
          have hL : x4 = dcL M (dcE M (dcB M ((31 * x3) + (fX5_count_6 M).toInt64) ((M.1 (16 + 12 * M.2.1 0) 3).toNatClampNeg)) (12)) (i + 1) := by first | rfl | (rw [hx4]; rfl)
          rw [hL]
          exact wp_lv [2, 1, 0] rfl ih
      · intro i hi ih
        show WP _ _ _ _ _ _ _ _ _ _ _ _ _ (M) [(0, .ref (z 0)), (1, .long (dcE M (dcB M ((31 * x3) + (fX5_count_6 M).toInt64) ((M.1 (16 + 12 * M.2.1 0) 3).toNatClampNeg)) (i))), (3, .int (nI (i)))] _ _
        refine wp_iload_n hc 2 dX5_digest_65 rfl ?_
        refine wp_bipush (v := 12) hc dX5_digest_66 (by decide) ?_
        refine wp_icmp_ge (tgt := 90) hc dX5_digest_68 (by decide) (fun c => absurd c (nIlt hi (by decide))) (fun _ => ?_)
        refine wp_ldc2 (v := 31) hc (by decide +kernel) dX5_digest_71 ?_
        refine wp_lload_n hc 1 dX5_digest_74 rfl ?_
        refine wp_lmul hc dX5_digest_75 ?_
        refine wp_aload_n hc 0 dX5_digest_76 rfl ?_
        refine wp_iload_n hc 2 dX5_digest_77 rfl ?_
        refine wp_callVf (As := [.int (nI (i))]) (rest := [.long (31 * (dcE M (dcB M ((31 * x3) + (fX5_count_6 M).toInt64) ((M.1 (16 + 12 * M.2.1 0) 3).toNatClampNeg)) (i)))]) (j := 0) (v := (fX5_error_r M (nI (i)))) hc hx (kX5_error_r l D cy z hz M (nI (i)) hR (r12 hi)) cw187 (by decide) (by decide) (ce_4 rfl) rfl rfl rfl rfl (Nat.le_of_ble_eq_true rfl) dX5_digest_78 ?_
        refine wp_i2l hc dX5_digest_81 ?_
        refine wp_ladd hc dX5_digest_82 ?_
        refine wp_topl (fun x5 hx5 => ?_)
        refine wp_lstore_n (lv' := [(1, .long x5), (0, .ref (z 0)), (3, .int (nI (i)))]) hc dX5_digest_83 (by decide) rfl ?_
        refine wp_iinc (v := ((nI (i)) + 1)) (lv' := [(3, .int ((nI (i)) + 1)), (1, .long x5), (0, .ref (z 0))]) hc 2 dX5_digest_84 rfl rfl (by decide) rfl ?_
        refine wp_goto (tgt := 65) hc dX5_digest_87 (by decide) ?_
        rw [nI_1]
        have hL : x5 = dcE M (dcB M ((31 * x3) + (fX5_count_6 M).toInt64) ((M.1 (16 + 12 * M.2.1 0) 3).toNatClampNeg)) (i + 1) := by first | rfl | (rw [hx5]; rfl)
        rw [hL]
        exact wp_lv [2, 1, 0] rfl ih
    refine wp_iload_n hc 2 dX5_digest_33 rfl ?_
    refine wp_bipush (v := 8) hc dX5_digest_34 (by decide) ?_
    refine wp_icmp_ge (tgt := 63) hc dX5_digest_36 (by decide) (fun c36 => ?_) (fun c36 => ?_)
    · exact hJ
    refine wp_iload_n hc 2 dX5_digest_39 rfl ?_
    refine wp_aload_n hc 0 dX5_digest_40 rfl ?_
    refine wp_get hc hx hin5 (j := 0) (by decide) (by decide) (ce_4 rfl) rfl 3 (by decide) hf26 rfl dX5_digest_41 ?_
    refine wp_get hc hx hin2 (j := (16 + 12 * (M.2.1 0))) (Nat.zero_le _) (by have := (hR.1 0 (by decide)); omega) (ce_1 (kd_st (hR.1 0 (by decide)))) rfl 3 (by decide) hf161 rfl dX5_digest_44 ?_
    refine wp_icmp_ge (tgt := 63) hc dX5_digest_47 (by decide) (fun _ => ?_) (fun c => absurd c (fun q => q (by rw [← nI_cl hbc.1]; exact Int32.le_refl _)))
    exact hJ
  · intro i hi ih
    show WP _ _ _ _ _ _ _ _ _ _ _ _ _ (M) [(0, .ref (z 0)), (1, .long (dcB M ((31 * x3) + (fX5_count_6 M).toInt64) (i))), (3, .int (nI (i)))] _ _
    refine wp_iload_n hc 2 dX5_digest_33 rfl ?_
    refine wp_bipush (v := 8) hc dX5_digest_34 (by decide) ?_
    refine wp_icmp_ge (tgt := 63) hc dX5_digest_36 (by decide) (fun c => absurd c (nIlt (show i < 8 by omega) (by decide))) (fun _ => ?_)
    refine wp_iload_n hc 2 dX5_digest_39 rfl ?_
    refine wp_aload_n hc 0 dX5_digest_40 rfl ?_
    refine wp_get hc hx hin5 (j := 0) (by decide) (by decide) (ce_4 rfl) rfl 3 (by decide) hf26 rfl dX5_digest_41 ?_
    refine wp_get hc hx hin2 (j := (16 + 12 * (M.2.1 0))) (Nat.zero_le _) (by have := (hR.1 0 (by decide)); omega) (ce_1 (kd_st (hR.1 0 (by decide)))) rfl 3 (by decide) hf161 rfl dX5_digest_44 ?_
    refine wp_icmp_ge (tgt := 63) hc dX5_digest_47 (by decide) (fun c => absurd c (by have h := nI_ge hi (show (M.1 (16 + 12 * M.2.1 0) 3).toNatClampNeg < 2 ^ 31 by omega); rw [← nI_cl hbc.1] at h; exact h)) (fun _ => ?_)
    refine wp_aload_n hc 0 dX5_digest_50 rfl ?_
    refine wp_lload_n hc 1 dX5_digest_51 rfl ?_
    refine wp_iload_n hc 2 dX5_digest_52 rfl ?_
    refine wp_callVlf (As := [.long (dcB M ((31 * x3) + (fX5_count_6 M).toInt64) (i)), .int (nI (i))]) (rest := []) (j := 0) (v := (fX5_boxDigest M (dcB M ((31 * x3) + (fX5_count_6 M).toInt64) (i)) (nI (i)))) hc hx (kX5_boxDigest l D cy z hz M (dcB M ((31 * x3) + (fX5_count_6 M).toInt64) (i)) (nI (i)) hR (r8 (by omega))) cw183 (by decide) (by decide) (ce_4 rfl) rfl rfl rfl rfl (Nat.le_of_ble_eq_true rfl) dX5_digest_53 ?_
    refine wp_topl (fun x6 hx6 => ?_)
    refine wp_lstore_n (lv' := [(1, .long x6), (0, .ref (z 0)), (3, .int (nI (i)))]) hc dX5_digest_56 (by decide) rfl ?_
    refine wp_iinc (v := ((nI (i)) + 1)) (lv' := [(3, .int ((nI (i)) + 1)), (1, .long x6), (0, .ref (z 0))]) hc 2 dX5_digest_57 rfl rfl (by decide) rfl ?_
    refine wp_goto (tgt := 33) hc dX5_digest_60 (by decide) ?_
    rw [nI_1]
    have hL : x6 = dcB M ((31 * x3) + (fX5_count_6 M).toInt64) (i + 1) := by first | rfl | (rw [hx6]; rfl)
    rw [hL]
    exact wp_lv [2, 1, 0] rfl ih
