def sX5_drafted (M : Mem)  : Mem :=
  tk (sX2_copyFrom M (M.2.1 1) (M.2.1 0)) fun M1 =>
  M1
set_option maxHeartbeats 4000000 in
set_option maxRecDepth 100000 in
theorem kX5_drafted (l : Launch) (D : va_G) (cy : Nat → ClassId) (z : Nat → Nat) (hz : zI z) (M : Mem)  (hR : RK M) (hk4 : M.1 (16 + 12 * M.2.1 0) 4 = 0 ∨ M.1 (16 + 12 * M.2.1 0) 4 = 1) : KR l yX5_drafted wsX5_drafted { frames := 3, cells := 0, slots := 0, locals := 86 } D cy z 0 100 [.ref (z 0)] M (fun u => u = sX5_drafted M) (z (16 + 12 * M.2.1 1)) := by
  refine met_wp (lv := [(0, .ref (z 0))]) hz (by decide) (by decide) rfl rfl (Nat.le_of_ble_eq_true rfl) rfl ?_
  intro p e s m below meth c hc hx hr hk
  have hNW := hx.2.1
  have hin5 : ∀ w ∈ wsX50, w ∈ wsX5_drafted := by decide +kernel
  have hf26 : Cond.fieldLink RX5 26 (TX5 3).1 (TX5 3).2.1 (TX5 3).2.2.1 ∈ wsX5_drafted := by decide +kernel
  have hf30 : Cond.fieldLink RX5 30 (TX5 4).1 (TX5 4).2.1 (TX5 4).2.2.1 ∈ wsX5_drafted := by decide +kernel
  have cw193 : CallW ({ frames := 3, cells := 0, slots := 0, locals := 86 }) s _ RX5 RX2 193 yX2_copyFrom cX2_copyFrom 3 none wsX2_copyFrom ({ frames := 2, cells := 0, slots := 0, locals := 64 }) 0 0 1 := cwV 1 hc.2.2.2.2 gX5_drafted_X2_copyFrom rfl rfl rfl (by decide +kernel) ⟨Nat.le_of_ble_eq_true rfl, Nat.le_of_ble_eq_true rfl⟩
  refine wp_aload_n hc 0 dX5_drafted_0 rfl ?_
  refine wp_get hc hx hin5 (j := 0) (by decide) (by decide) (ce_4 rfl) rfl 4 (by decide) hf30 rfl dX5_drafted_1 ?_
  refine wp_aload_n hc 0 dX5_drafted_4 rfl ?_
  refine wp_get hc hx hin5 (j := 0) (by decide) (by decide) (ce_4 rfl) rfl 3 (by decide) hf26 rfl dX5_drafted_5 ?_
  refine wp_callVvw (As := [.ref (z (16 + 12 * (M.2.1 0)))]) (rest := []) (j := (16 + 12 * (M.2.1 1))) (w := sX2_copyFrom M (M.2.1 1) (M.2.1 0)) hc hx (kX2_copyFrom l D cy z hz M (M.2.1 1) (M.2.1 0) (hR.1 1 (by decide)) (hR.1 0 (by decide)) (fun q => by have := hR.2 1 0 (by decide) (by decide) q; omega) hk4) cw193 (Nat.zero_le _) (by have := (hR.1 1 (by decide)); omega) (ce_1 (kd_st (hR.1 1 (by decide)))) rfl rfl rfl rfl (Nat.le_of_ble_eq_true rfl) dX5_drafted_8 (fun M1 hM1 => ?_)
  have kM1 : KF (fun x => 16 + 12 * M.2.1 1 ≤ x ∧ x < 28 + 12 * M.2.1 1) M M1 := KF.trans KF.rf (show KF (fun x => 16 + 12 * M.2.1 1 ≤ x ∧ x < 28 + 12 * M.2.1 1) M M1 from by rw [hM1]; exact KF.mono (kfX2_copyFrom _ _ _) (fun x h => by first | exact h | ((try dsimp only at h ⊢); omega)))
  have rM1 : RH M1 := RH.kf kM1 hR.1
  refine wp_aload_n hc 0 dX5_drafted_11 rfl ?_
  refine wp_get hc hx hin5 (j := 0) (by decide) (by decide) (ce_4 rfl) rfl 4 (by decide) hf30 rfl dX5_drafted_12 ?_
  rw [show M1.2.1 1 = M.2.1 1 from by rw [kM1.2]]
  refine wp_aret (C := RX2) hc hr hk ?_ dX5_drafted_15
  show M1 = sX5_drafted M
  rw [sX5_drafted, tk_eq hM1]
set_option maxRecDepth 10000 in
theorem kfX5_drafted (M : Mem)  : KF (fun x => 16 + 12 * M.2.1 1 ≤ x ∧ x < 28 + 12 * M.2.1 1) M (sX5_drafted M) := by
  unfold sX5_drafted
  refine tk_ind (P := KF (fun x => 16 + 12 * M.2.1 1 ≤ x ∧ x < 28 + 12 * M.2.1 1) M) _ _ (fun M1 hM1 => ?_)
  have k1 : KF (fun x => 16 + 12 * M.2.1 1 ≤ x ∧ x < 28 + 12 * M.2.1 1) M M1 := by rw [hM1]; exact KF.mono (kfX2_copyFrom _ _ _) (fun x h => by first | exact h | ((try dsimp only at h ⊢); omega))
  exact (show KF (fun x => 16 + 12 * M.2.1 1 ≤ x ∧ x < 28 + 12 * M.2.1 1) M M1 from k1)
def sX5_settled (M : Mem) (i1 : Int32) : Int32 × Mem :=
  if 0 ≤ i1 then
  tk (sX5_keepDraft M) fun M1 =>
  (i1, M1)
  else
  tk (sX5_noted M i1) fun x2 =>
  (x2.1, x2.2)
set_option maxHeartbeats 4000000 in
set_option maxRecDepth 100000 in
theorem kX5_settled (l : Launch) (D : va_G) (cy : Nat → ClassId) (z : Nat → Nat) (hz : zI z) (M : Mem) (i1 : Int32) (hR : RK M) (hp : 0 ≤ (M.1 0 5).toInt ∧ (M.1 0 5).toInt ≤ 5) : KI l yX5_settled wsX5_settled { frames := 1, cells := 0, slots := 0, locals := 22 } D cy z 0 100 [.ref (z 0), .int i1] M (fun r u => (r, u) = sX5_settled M i1) := by
  refine met_wp (lv := [(0, .ref (z 0)), (1, .int i1)]) hz (by decide) (by decide) rfl rfl (Nat.le_of_ble_eq_true rfl) rfl ?_
  intro p e s m below meth c hc hx hr hk
  have hNW := hx.2.1
  have cw68 : CallW ({ frames := 1, cells := 0, slots := 0, locals := 22 }) s _ RX5 RX5 68 yX5_noted cX5_noted 2 (some .int) wsX5_noted ({ frames := 0, cells := 0, slots := 0, locals := 0 }) 0 0 1 := cwV 1 hc.2.2.2.2 gX5_settled_X5_noted rfl rfl rfl (by decide +kernel) ⟨Nat.le_of_ble_eq_true rfl, Nat.le_of_ble_eq_true rfl⟩
  have cw155 : CallW ({ frames := 1, cells := 0, slots := 0, locals := 22 }) s _ RX5 RX5 155 yX5_keepDraft cX5_keepDraft 3 none wsX5_keepDraft ({ frames := 0, cells := 0, slots := 0, locals := 0 }) 0 0 0 := cwV 0 hc.2.2.2.2 gX5_settled_X5_keepDraft rfl rfl rfl (by decide +kernel) ⟨Nat.le_of_ble_eq_true rfl, Nat.le_of_ble_eq_true rfl⟩
  refine wp_iload_n hc 1 dX5_settled_0 rfl ?_
  refine wp_if_ge (tgt := 10) hc dX5_settled_1 (by decide) (fun c1 => ?_) (fun c1 => ?_)
  · refine wp_aload_n hc 0 dX5_settled_10 rfl ?_
    refine wp_callVvw (As := []) (rest := []) (j := 0) (w := sX5_keepDraft M) hc hx (kX5_keepDraft l D cy z hz M hR hp) cw155 (by decide) (by decide) (ce_4 rfl) rfl rfl rfl rfl (Nat.le_of_ble_eq_true rfl) dX5_settled_11 (fun M1 hM1 => ?_)
    refine wp_iload_n hc 1 dX5_settled_14 rfl ?_
    refine wp_iret hc hr hk ?_ dX5_settled_15
    show (i1, M1) = sX5_settled M i1
    rw [sX5_settled, if_pos c1, tk_eq hM1]
  refine wp_aload_n hc 0 dX5_settled_4 rfl ?_
  refine wp_iload_n hc 1 dX5_settled_5 rfl ?_
  refine wp_callVw (As := [.int i1]) (rest := []) (j := 0) (w := sX5_noted M i1) hc hx (kX5_noted l D cy z hz M i1) cw68 (by decide) (by decide) (ce_4 rfl) rfl rfl rfl rfl (Nat.le_of_ble_eq_true rfl) dX5_settled_6 (fun x2 hx2 => ?_)
  refine wp_iret hc hr hk ?_ dX5_settled_9
  show (x2.1, x2.2) = sX5_settled M i1
  rw [sX5_settled, if_neg c1, tk_eq hx2]
theorem RK.kf {S : Nat → Prop} {M M' : Mem} (k : KF S M M') (h : RK M) : RK M' := ⟨RH.kf k h.1, fun i j hi hj => by rw [k.2]; exact h.2 i j hi hj⟩
/-- the boxes that close up change their own state's cells alone -/
theorem kf_rmB (M : Mem) (a b : Nat) : ∀ n, b + n < 8 → KF (fun x => 16 + 12 * a ≤ x ∧ x < 28 + 12 * a) M (rmB M a b n)
  | 0, _ => KF.rf
  | n + 1, h => KF.trans (kf_rmB M a b n (by omega)) (KF.mono (kfX0_copyFrom _ _ _) (fun x q => by omega))
theorem kfX2_removeBox (M : Mem) (a : Nat) (i1 : Int32) : KF2 (fun x => 16 + 12 * a ≤ x ∧ x < 28 + 12 * a) M (sX2_removeBox M a i1) := by
  unfold sX2_removeBox
  refine ite_ind (P := KF2 (fun x => 16 + 12 * a ≤ x ∧ x < 28 + 12 * a) M) (fun _ => ?_) (fun c => ?_)
  · exact (show KF _ M M from KF.rf)
  · have hb := hasBox_8 c
    have hb8 := cl8 (n := 8) (b := i1) ⟨hb.1, hb.2.1⟩
    refine tk_ind (P := KF2 (fun x => 16 + 12 * a ≤ x ∧ x < 28 + 12 * a) M) _ _ (fun M1 h1 => ?_)
    refine tk_ind (P := KF2 (fun x => 16 + 12 * a ≤ x ∧ x < 28 + 12 * a) M) _ _ (fun M2 h2 => ?_)
    have k1 : KF (fun x => 16 + 12 * a ≤ x ∧ x < 28 + 12 * a) M M1 := by rw [h1]; exact kf_rmB _ _ _ _ (by omega)
    have k2 : KF (fun x => 16 + 12 * a ≤ x ∧ x < 28 + 12 * a) M1 M2 := by rw [h2]; exact kf_st (by omega)
    exact (show KF _ M M2 from KF.trans k1 k2)
def sX5_box (M : Mem)  : Int32 × Mem :=
  tk (sX5_drafted M) fun M1 =>
  tk (sX4_addThrough M1 (M.2.1 1)) fun x2 =>
  tk (sX5_settled x2.2 x2.1) fun x3 =>
  (x3.1, x3.2)
set_option maxHeartbeats 4000000 in
set_option maxRecDepth 100000 in
theorem kX5_box (l : Launch) (D : va_G) (cy : Nat → ClassId) (z : Nat → Nat) (hz : zI z) (M : Mem)  (hR : RK M) (hp : 0 ≤ (M.1 0 5).toInt ∧ (M.1 0 5).toInt ≤ 5) (hk4 : M.1 (16 + 12 * M.2.1 0) 4 = 0 ∨ M.1 (16 + 12 * M.2.1 0) 4 = 1) : KI l yX5_box wsX5_box { frames := 4, cells := 0, slots := 0, locals := 106 } D cy z 0 100 [.ref (z 0)] M (fun r u => (r, u) = sX5_box M) := by
  refine met_wp (lv := [(0, .ref (z 0))]) hz (by decide) (by decide) rfl rfl (Nat.le_of_ble_eq_true rfl) rfl ?_
  intro p e s m below meth c hc hx hr hk
  have hNW := hx.2.1
  have hin5 : ∀ w ∈ wsX50, w ∈ wsX5_box := by decide +kernel
  have hf12 : Cond.fieldLink RX5 12 (TX5 0).1 (TX5 0).2.1 (TX5 0).2.2.1 ∈ wsX5_box := by decide +kernel
  have cw37 : CallW ({ frames := 4, cells := 0, slots := 0, locals := 106 }) s _ RX5 RX5 37 yX5_drafted cX5_drafted 1 (some (.object "PortBench$State")) wsX5_drafted ({ frames := 3, cells := 0, slots := 0, locals := 86 }) 0 0 0 := cwV 0 hc.2.2.2.2 gX5_box_X5_drafted rfl rfl rfl (by decide +kernel) ⟨Nat.le_of_ble_eq_true rfl, Nat.le_of_ble_eq_true rfl⟩
  have cw41 : CallW ({ frames := 4, cells := 0, slots := 0, locals := 106 }) s _ RX5 RX4 41 yX4_addThrough cX4_addThrough 2 (some .int) wsX4_addThrough ({ frames := 3, cells := 0, slots := 0, locals := 66 }) 0 0 1 := cwV 1 hc.2.2.2.2 gX5_box_X4_addThrough rfl rfl rfl (by decide +kernel) ⟨Nat.le_of_ble_eq_true rfl, Nat.le_of_ble_eq_true rfl⟩
  have cw45 : CallW ({ frames := 4, cells := 0, slots := 0, locals := 106 }) s _ RX5 RX5 45 yX5_settled cX5_settled 2 (some .int) wsX5_settled ({ frames := 1, cells := 0, slots := 0, locals := 22 }) 0 0 1 := cwV 1 hc.2.2.2.2 gX5_box_X5_settled rfl rfl rfl (by decide +kernel) ⟨Nat.le_of_ble_eq_true rfl, Nat.le_of_ble_eq_true rfl⟩
  refine wp_aload_n hc 0 dX5_box_0 rfl ?_
  refine wp_aload_n hc 0 dX5_box_1 rfl ?_
  refine wp_get hc hx hin5 (j := 0) (by decide) (by decide) (ce_4 rfl) rfl 0 (by decide) hf12 rfl dX5_box_2 ?_
  refine wp_aload_n hc 0 dX5_box_5 rfl ?_
  refine wp_callVr (As := []) (rest := [.ref (z 1), .ref (z 0)]) (j := 0) hc hx (kX5_drafted l D cy z hz M hR hk4) cw37 (by decide) (by decide) (ce_4 rfl) rfl rfl rfl rfl (Nat.le_of_ble_eq_true rfl) dX5_box_6 (fun M1 hM1 => ?_)
  have kM1 : KF (fun x => (1 ≤ x ∧ x ≤ 14) ∨ (16 + 12 * M.2.1 1 ≤ x ∧ x < 28 + 12 * M.2.1 1)) M M1 := KF.trans KF.rf (show KF (fun x => (1 ≤ x ∧ x ≤ 14) ∨ (16 + 12 * M.2.1 1 ≤ x ∧ x < 28 + 12 * M.2.1 1)) M M1 from by rw [hM1]; exact KF.mono (kfX5_drafted _) (fun x h => by first | exact h | ((try dsimp only at h ⊢); omega)))
  have rM1 : RH M1 := RH.kf kM1 hR.1
  refine wp_callVw (As := [.ref (z (16 + 12 * (M.2.1 1)))]) (rest := [.ref (z 0)]) (j := 1) (w := sX4_addThrough M1 (M.2.1 1)) hc hx (kX4_addThrough l D cy z hz M1 (M.2.1 1) (hR.1 1 (by decide))) cw41 (by decide) (by decide) (ce_3 rfl) rfl rfl rfl rfl (Nat.le_of_ble_eq_true rfl) dX5_box_9 (fun x2 hx2 => ?_)
  have kx2 : KF (fun x => (1 ≤ x ∧ x ≤ 14) ∨ (16 + 12 * M.2.1 1 ≤ x ∧ x < 28 + 12 * M.2.1 1)) M x2.2 := KF.trans kM1 (show KF2 (fun x => (1 ≤ x ∧ x ≤ 14) ∨ (16 + 12 * M.2.1 1 ≤ x ∧ x < 28 + 12 * M.2.1 1)) M1 x2 from by rw [hx2]; exact KF2.mono (kfX4_addThrough _ _) (fun x h => by first | exact h | ((try dsimp only at h ⊢); omega)))
  have rx2 : RH x2.2 := RH.kf kx2 hR.1
  refine wp_callVw (As := [.int x2.1]) (rest := []) (j := 0) (w := sX5_settled x2.2 x2.1) hc hx (kX5_settled l D cy z hz x2.2 x2.1 (RK.kf kx2 hR) (by rw [kx2.1 0 (by show ¬ _; omega)]; exact hp)) cw45 (by decide) (by decide) (ce_4 rfl) rfl rfl rfl rfl (Nat.le_of_ble_eq_true rfl) dX5_box_12 (fun x3 hx3 => ?_)
  refine wp_iret hc hr hk ?_ dX5_box_15
  show (x3.1, x3.2) = sX5_box M
  rw [sX5_box, tk_eq hM1, tk_eq hx2, tk_eq hx3]
def sX5_sets (M : Mem) (i1 : Int32) (i2 : Int32) (i3 : Int32) (i4 : Int32) : Int32 × Mem :=
  tk (sX5_drafted M) fun M1 =>
  tk (sX2_putNumber M1 (M.2.1 1) i1 i2 i3 i4) fun x2 =>
  tk (sX5_settled x2.2 x2.1) fun x3 =>
  (x3.1, x3.2)
set_option maxHeartbeats 4000000 in
set_option maxRecDepth 100000 in
theorem kX5_sets (l : Launch) (D : va_G) (cy : Nat → ClassId) (z : Nat → Nat) (hz : zI z) (M : Mem) (i1 : Int32) (i2 : Int32) (i3 : Int32) (i4 : Int32) (hR : RK M) (hp : 0 ≤ (M.1 0 5).toInt ∧ (M.1 0 5).toInt ≤ 5) (hk4 : M.1 (16 + 12 * M.2.1 0) 4 = 0 ∨ M.1 (16 + 12 * M.2.1 0) 4 = 1) : KI l yX5_sets wsX5_sets { frames := 4, cells := 0, slots := 0, locals := 106 } D cy z 0 100 [.ref (z 0), .int i1, .int i2, .int i3, .int i4] M (fun r u => (r, u) = sX5_sets M i1 i2 i3 i4) := by
  refine met_wp (lv := [(0, .ref (z 0)), (1, .int i1), (2, .int i2), (3, .int i3), (4, .int i4)]) hz (by decide) (by decide) rfl rfl (Nat.le_of_ble_eq_true rfl) rfl ?_
  intro p e s m below meth c hc hx hr hk
  have hNW := hx.2.1
  have cw37 : CallW ({ frames := 4, cells := 0, slots := 0, locals := 106 }) s _ RX5 RX5 37 yX5_drafted cX5_drafted 1 (some (.object "PortBench$State")) wsX5_drafted ({ frames := 3, cells := 0, slots := 0, locals := 86 }) 0 0 0 := cwV 0 hc.2.2.2.2 gX5_sets_X5_drafted rfl rfl rfl (by decide +kernel) ⟨Nat.le_of_ble_eq_true rfl, Nat.le_of_ble_eq_true rfl⟩
  have cw45 : CallW ({ frames := 4, cells := 0, slots := 0, locals := 106 }) s _ RX5 RX5 45 yX5_settled cX5_settled 2 (some .int) wsX5_settled ({ frames := 1, cells := 0, slots := 0, locals := 22 }) 0 0 1 := cwV 1 hc.2.2.2.2 gX5_sets_X5_settled rfl rfl rfl (by decide +kernel) ⟨Nat.le_of_ble_eq_true rfl, Nat.le_of_ble_eq_true rfl⟩
  have cw49 : CallW ({ frames := 4, cells := 0, slots := 0, locals := 106 }) s _ RX5 RX2 49 yX2_putNumber cX2_putNumber 6 (some .int) wsX2_putNumber ({ frames := 2, cells := 0, slots := 0, locals := 42 }) 0 0 4 := cwV 4 hc.2.2.2.2 gX5_sets_X2_putNumber rfl rfl rfl (by decide +kernel) ⟨Nat.le_of_ble_eq_true rfl, Nat.le_of_ble_eq_true rfl⟩
  refine wp_aload_n hc 0 dX5_sets_0 rfl ?_
  refine wp_aload_n hc 0 dX5_sets_1 rfl ?_
  refine wp_callVr (As := []) (rest := [.ref (z 0)]) (j := 0) hc hx (kX5_drafted l D cy z hz M hR hk4) cw37 (by decide) (by decide) (ce_4 rfl) rfl rfl rfl rfl (Nat.le_of_ble_eq_true rfl) dX5_sets_2 (fun M1 hM1 => ?_)
  have kM1 : KF (fun x => (1 ≤ x ∧ x ≤ 14) ∨ (16 + 12 * M.2.1 1 ≤ x ∧ x < 28 + 12 * M.2.1 1)) M M1 := KF.trans KF.rf (show KF (fun x => (1 ≤ x ∧ x ≤ 14) ∨ (16 + 12 * M.2.1 1 ≤ x ∧ x < 28 + 12 * M.2.1 1)) M M1 from by rw [hM1]; exact KF.mono (kfX5_drafted _) (fun x h => by first | exact h | ((try dsimp only at h ⊢); omega)))
  have rM1 : RH M1 := RH.kf kM1 hR.1
  refine wp_iload_n hc 1 dX5_sets_5 rfl ?_
  refine wp_iload_n hc 2 dX5_sets_6 rfl ?_
  refine wp_iload_n hc 3 dX5_sets_7 rfl ?_
  refine wp_iload hc 4 dX5_sets_8 rfl ?_
  refine wp_callVw (As := [.int i1, .int i2, .int i3, .int i4]) (rest := [.ref (z 0)]) (j := (16 + 12 * (M.2.1 1))) (w := sX2_putNumber M1 (M.2.1 1) i1 i2 i3 i4) hc hx (kX2_putNumber l D cy z hz M1 (M.2.1 1) i1 i2 i3 i4 (hR.1 1 (by decide))) cw49 (Nat.zero_le _) (by have := (hR.1 1 (by decide)); omega) (ce_1 (kd_st (hR.1 1 (by decide)))) rfl rfl rfl rfl (Nat.le_of_ble_eq_true rfl) dX5_sets_10 (fun x2 hx2 => ?_)
  have kx2 : KF (fun x => (1 ≤ x ∧ x ≤ 14) ∨ (16 + 12 * M.2.1 1 ≤ x ∧ x < 28 + 12 * M.2.1 1)) M x2.2 := KF.trans kM1 (show KF2 (fun x => (1 ≤ x ∧ x ≤ 14) ∨ (16 + 12 * M.2.1 1 ≤ x ∧ x < 28 + 12 * M.2.1 1)) M1 x2 from by rw [hx2]; exact KF2.mono (kfX2_putNumber _ _ _ _ _ _) (fun x h => by first | exact h | ((try dsimp only at h ⊢); omega)))
  have rx2 : RH x2.2 := RH.kf kx2 hR.1
  refine wp_callVw (As := [.int x2.1]) (rest := []) (j := 0) (w := sX5_settled x2.2 x2.1) hc hx (kX5_settled l D cy z hz x2.2 x2.1 (RK.kf kx2 hR) (by rw [kx2.1 0 (by show ¬ _; omega)]; exact hp)) cw45 (by decide) (by decide) (ce_4 rfl) rfl rfl rfl rfl (Nat.le_of_ble_eq_true rfl) dX5_sets_13 (fun x3 hx3 => ?_)
  refine wp_iret hc hr hk ?_ dX5_sets_16
  show (x3.1, x3.2) = sX5_sets M i1 i2 i3 i4
  rw [sX5_sets, tk_eq hM1, tk_eq hx2, tk_eq hx3]
def sX5_errs (M : Mem) (i1 : Int32) (i2 : Int32) (i3 : Int32) : Int32 × Mem :=
  tk (sX5_drafted M) fun M1 =>
  tk (sX2_putError M1 (M.2.1 1) i1 i2 i3) fun x2 =>
  tk (sX5_settled x2.2 x2.1) fun x3 =>
  (x3.1, x3.2)
set_option maxHeartbeats 4000000 in
set_option maxRecDepth 100000 in
theorem kX5_errs (l : Launch) (D : va_G) (cy : Nat → ClassId) (z : Nat → Nat) (hz : zI z) (M : Mem) (i1 : Int32) (i2 : Int32) (i3 : Int32) (hR : RK M) (hp : 0 ≤ (M.1 0 5).toInt ∧ (M.1 0 5).toInt ≤ 5) (hk4 : M.1 (16 + 12 * M.2.1 0) 4 = 0 ∨ M.1 (16 + 12 * M.2.1 0) 4 = 1) : KI l yX5_errs wsX5_errs { frames := 4, cells := 0, slots := 0, locals := 106 } D cy z 0 100 [.ref (z 0), .int i1, .int i2, .int i3] M (fun r u => (r, u) = sX5_errs M i1 i2 i3) := by
  refine met_wp (lv := [(0, .ref (z 0)), (1, .int i1), (2, .int i2), (3, .int i3)]) hz (by decide) (by decide) rfl rfl (Nat.le_of_ble_eq_true rfl) rfl ?_
  intro p e s m below meth c hc hx hr hk
  have hNW := hx.2.1
  have cw37 : CallW ({ frames := 4, cells := 0, slots := 0, locals := 106 }) s _ RX5 RX5 37 yX5_drafted cX5_drafted 1 (some (.object "PortBench$State")) wsX5_drafted ({ frames := 3, cells := 0, slots := 0, locals := 86 }) 0 0 0 := cwV 0 hc.2.2.2.2 gX5_errs_X5_drafted rfl rfl rfl (by decide +kernel) ⟨Nat.le_of_ble_eq_true rfl, Nat.le_of_ble_eq_true rfl⟩
  have cw45 : CallW ({ frames := 4, cells := 0, slots := 0, locals := 106 }) s _ RX5 RX5 45 yX5_settled cX5_settled 2 (some .int) wsX5_settled ({ frames := 1, cells := 0, slots := 0, locals := 22 }) 0 0 1 := cwV 1 hc.2.2.2.2 gX5_errs_X5_settled rfl rfl rfl (by decide +kernel) ⟨Nat.le_of_ble_eq_true rfl, Nat.le_of_ble_eq_true rfl⟩
  have cw53 : CallW ({ frames := 4, cells := 0, slots := 0, locals := 106 }) s _ RX5 RX2 53 yX2_putError cX2_putError 5 (some .int) wsX2_putError ({ frames := 2, cells := 0, slots := 0, locals := 42 }) 0 0 3 := cwV 3 hc.2.2.2.2 gX5_errs_X2_putError rfl rfl rfl (by decide +kernel) ⟨Nat.le_of_ble_eq_true rfl, Nat.le_of_ble_eq_true rfl⟩
  refine wp_aload_n hc 0 dX5_errs_0 rfl ?_
  refine wp_aload_n hc 0 dX5_errs_1 rfl ?_
  refine wp_callVr (As := []) (rest := [.ref (z 0)]) (j := 0) hc hx (kX5_drafted l D cy z hz M hR hk4) cw37 (by decide) (by decide) (ce_4 rfl) rfl rfl rfl rfl (Nat.le_of_ble_eq_true rfl) dX5_errs_2 (fun M1 hM1 => ?_)
  have kM1 : KF (fun x => (1 ≤ x ∧ x ≤ 14) ∨ (16 + 12 * M.2.1 1 ≤ x ∧ x < 28 + 12 * M.2.1 1)) M M1 := KF.trans KF.rf (show KF (fun x => (1 ≤ x ∧ x ≤ 14) ∨ (16 + 12 * M.2.1 1 ≤ x ∧ x < 28 + 12 * M.2.1 1)) M M1 from by rw [hM1]; exact KF.mono (kfX5_drafted _) (fun x h => by first | exact h | ((try dsimp only at h ⊢); omega)))
  have rM1 : RH M1 := RH.kf kM1 hR.1
  refine wp_iload_n hc 1 dX5_errs_5 rfl ?_
  refine wp_iload_n hc 2 dX5_errs_6 rfl ?_
  refine wp_iload_n hc 3 dX5_errs_7 rfl ?_
  refine wp_callVw (As := [.int i1, .int i2, .int i3]) (rest := [.ref (z 0)]) (j := (16 + 12 * (M.2.1 1))) (w := sX2_putError M1 (M.2.1 1) i1 i2 i3) hc hx (kX2_putError l D cy z hz M1 (M.2.1 1) i1 i2 i3 (hR.1 1 (by decide))) cw53 (Nat.zero_le _) (by have := (hR.1 1 (by decide)); omega) (ce_1 (kd_st (hR.1 1 (by decide)))) rfl rfl rfl rfl (Nat.le_of_ble_eq_true rfl) dX5_errs_8 (fun x2 hx2 => ?_)
  have kx2 : KF (fun x => (1 ≤ x ∧ x ≤ 14) ∨ (16 + 12 * M.2.1 1 ≤ x ∧ x < 28 + 12 * M.2.1 1)) M x2.2 := KF.trans kM1 (show KF2 (fun x => (1 ≤ x ∧ x ≤ 14) ∨ (16 + 12 * M.2.1 1 ≤ x ∧ x < 28 + 12 * M.2.1 1)) M1 x2 from by rw [hx2]; exact KF2.mono (kfX2_putError _ _ _ _ _) (fun x h => by first | exact h | ((try dsimp only at h ⊢); omega)))
  have rx2 : RH x2.2 := RH.kf kx2 hR.1
  refine wp_callVw (As := [.int x2.1]) (rest := []) (j := 0) (w := sX5_settled x2.2 x2.1) hc hx (kX5_settled l D cy z hz x2.2 x2.1 (RK.kf kx2 hR) (by rw [kx2.1 0 (by show ¬ _; omega)]; exact hp)) cw45 (by decide) (by decide) (ce_4 rfl) rfl rfl rfl rfl (Nat.le_of_ble_eq_true rfl) dX5_errs_11 (fun x3 hx3 => ?_)
  refine wp_iret hc hr hk ?_ dX5_errs_14
  show (x3.1, x3.2) = sX5_errs M i1 i2 i3
  rw [sX5_errs, tk_eq hM1, tk_eq hx2, tk_eq hx3]
def sX5_drops (M : Mem) (i1 : Int32) : Int32 × Mem :=
  tk (sX5_drafted M) fun M1 =>
  tk (sX2_removeBox M1 (M.2.1 1) i1) fun x2 =>
  tk (sX5_settled x2.2 x2.1) fun x3 =>
  (x3.1, x3.2)
set_option maxHeartbeats 4000000 in
set_option maxRecDepth 100000 in
theorem kX5_drops (l : Launch) (D : va_G) (cy : Nat → ClassId) (z : Nat → Nat) (hz : zI z) (M : Mem) (i1 : Int32) (hR : RK M) (hp : 0 ≤ (M.1 0 5).toInt ∧ (M.1 0 5).toInt ≤ 5) (hk4 : M.1 (16 + 12 * M.2.1 0) 4 = 0 ∨ M.1 (16 + 12 * M.2.1 0) 4 = 1) : KI l yX5_drops wsX5_drops { frames := 4, cells := 0, slots := 0, locals := 106 } D cy z 0 100 [.ref (z 0), .int i1] M (fun r u => (r, u) = sX5_drops M i1) := by
  refine met_wp (lv := [(0, .ref (z 0)), (1, .int i1)]) hz (by decide) (by decide) rfl rfl (Nat.le_of_ble_eq_true rfl) rfl ?_
  intro p e s m below meth c hc hx hr hk
  have hNW := hx.2.1
  have cw37 : CallW ({ frames := 4, cells := 0, slots := 0, locals := 106 }) s _ RX5 RX5 37 yX5_drafted cX5_drafted 1 (some (.object "PortBench$State")) wsX5_drafted ({ frames := 3, cells := 0, slots := 0, locals := 86 }) 0 0 0 := cwV 0 hc.2.2.2.2 gX5_drops_X5_drafted rfl rfl rfl (by decide +kernel) ⟨Nat.le_of_ble_eq_true rfl, Nat.le_of_ble_eq_true rfl⟩
  have cw45 : CallW ({ frames := 4, cells := 0, slots := 0, locals := 106 }) s _ RX5 RX5 45 yX5_settled cX5_settled 2 (some .int) wsX5_settled ({ frames := 1, cells := 0, slots := 0, locals := 22 }) 0 0 1 := cwV 1 hc.2.2.2.2 gX5_drops_X5_settled rfl rfl rfl (by decide +kernel) ⟨Nat.le_of_ble_eq_true rfl, Nat.le_of_ble_eq_true rfl⟩
  have cw57 : CallW ({ frames := 4, cells := 0, slots := 0, locals := 106 }) s _ RX5 RX2 57 yX2_removeBox cX2_removeBox 3 (some .int) wsX2_removeBox ({ frames := 2, cells := 0, slots := 0, locals := 45 }) 0 0 1 := cwV 1 hc.2.2.2.2 gX5_drops_X2_removeBox rfl rfl rfl (by decide +kernel) ⟨Nat.le_of_ble_eq_true rfl, Nat.le_of_ble_eq_true rfl⟩
  refine wp_aload_n hc 0 dX5_drops_0 rfl ?_
  refine wp_aload_n hc 0 dX5_drops_1 rfl ?_
  refine wp_callVr (As := []) (rest := [.ref (z 0)]) (j := 0) hc hx (kX5_drafted l D cy z hz M hR hk4) cw37 (by decide) (by decide) (ce_4 rfl) rfl rfl rfl rfl (Nat.le_of_ble_eq_true rfl) dX5_drops_2 (fun M1 hM1 => ?_)
  have kM1 : KF (fun x => (1 ≤ x ∧ x ≤ 14) ∨ (16 + 12 * M.2.1 1 ≤ x ∧ x < 28 + 12 * M.2.1 1)) M M1 := KF.trans KF.rf (show KF (fun x => (1 ≤ x ∧ x ≤ 14) ∨ (16 + 12 * M.2.1 1 ≤ x ∧ x < 28 + 12 * M.2.1 1)) M M1 from by rw [hM1]; exact KF.mono (kfX5_drafted _) (fun x h => by first | exact h | ((try dsimp only at h ⊢); omega)))
  have rM1 : RH M1 := RH.kf kM1 hR.1
  refine wp_iload_n hc 1 dX5_drops_5 rfl ?_
  refine wp_callVw (As := [.int i1]) (rest := [.ref (z 0)]) (j := (16 + 12 * (M.2.1 1))) (w := sX2_removeBox M1 (M.2.1 1) i1) hc hx (kX2_removeBox l D cy z hz M1 (M.2.1 1) i1 (hR.1 1 (by decide))) cw57 (Nat.zero_le _) (by have := (hR.1 1 (by decide)); omega) (ce_1 (kd_st (hR.1 1 (by decide)))) rfl rfl rfl rfl (Nat.le_of_ble_eq_true rfl) dX5_drops_6 (fun x2 hx2 => ?_)
  have kx2 : KF (fun x => (1 ≤ x ∧ x ≤ 14) ∨ (16 + 12 * M.2.1 1 ≤ x ∧ x < 28 + 12 * M.2.1 1)) M x2.2 := KF.trans kM1 (show KF2 (fun x => (1 ≤ x ∧ x ≤ 14) ∨ (16 + 12 * M.2.1 1 ≤ x ∧ x < 28 + 12 * M.2.1 1)) M1 x2 from by rw [hx2]; exact KF2.mono (kfX2_removeBox _ _ _) (fun x h => by first | exact h | ((try dsimp only at h ⊢); omega)))
  have rx2 : RH x2.2 := RH.kf kx2 hR.1
  refine wp_callVw (As := [.int x2.1]) (rest := []) (j := 0) (w := sX5_settled x2.2 x2.1) hc hx (kX5_settled l D cy z hz x2.2 x2.1 (RK.kf kx2 hR) (by rw [kx2.1 0 (by show ¬ _; omega)]; exact hp)) cw45 (by decide) (by decide) (ce_4 rfl) rfl rfl rfl rfl (Nat.le_of_ble_eq_true rfl) dX5_drops_9 (fun x3 hx3 => ?_)
  refine wp_iret hc hr hk ?_ dX5_drops_12
  show (x3.1, x3.2) = sX5_drops M i1
  rw [sX5_drops, tk_eq hM1, tk_eq hx2, tk_eq hx3]
def sX5_learns (M : Mem)  : Int32 × Mem :=
  tk (sX5_drafted M) fun M1 =>
  tk (sX4_learnErrors M1 (M.2.1 1)) fun x2 =>
  tk (sX5_settled x2.2 x2.1) fun x3 =>
  (x3.1, x3.2)
set_option maxHeartbeats 4000000 in
set_option maxRecDepth 100000 in
theorem kX5_learns (l : Launch) (D : va_G) (cy : Nat → ClassId) (z : Nat → Nat) (hz : zI z) (M : Mem)  (hR : RK M) (hp : 0 ≤ (M.1 0 5).toInt ∧ (M.1 0 5).toInt ≤ 5) (hk4 : M.1 (16 + 12 * M.2.1 0) 4 = 0 ∨ M.1 (16 + 12 * M.2.1 0) 4 = 1) : KI l yX5_learns wsX5_learns { frames := 6, cells := 0, slots := 0, locals := 146 } D cy z 0 100 [.ref (z 0)] M (fun r u => (r, u) = sX5_learns M) := by
  refine met_wp (lv := [(0, .ref (z 0))]) hz (by decide) (by decide) rfl rfl (Nat.le_of_ble_eq_true rfl) rfl ?_
  intro p e s m below meth c hc hx hr hk
  have hNW := hx.2.1
  have hin5 : ∀ w ∈ wsX50, w ∈ wsX5_learns := by decide +kernel
  have hf12 : Cond.fieldLink RX5 12 (TX5 0).1 (TX5 0).2.1 (TX5 0).2.2.1 ∈ wsX5_learns := by decide +kernel
  have cw37 : CallW ({ frames := 6, cells := 0, slots := 0, locals := 146 }) s _ RX5 RX5 37 yX5_drafted cX5_drafted 1 (some (.object "PortBench$State")) wsX5_drafted ({ frames := 3, cells := 0, slots := 0, locals := 86 }) 0 0 0 := cwV 0 hc.2.2.2.2 gX5_learns_X5_drafted rfl rfl rfl (by decide +kernel) ⟨Nat.le_of_ble_eq_true rfl, Nat.le_of_ble_eq_true rfl⟩
  have cw45 : CallW ({ frames := 6, cells := 0, slots := 0, locals := 146 }) s _ RX5 RX5 45 yX5_settled cX5_settled 2 (some .int) wsX5_settled ({ frames := 1, cells := 0, slots := 0, locals := 22 }) 0 0 1 := cwV 1 hc.2.2.2.2 gX5_learns_X5_settled rfl rfl rfl (by decide +kernel) ⟨Nat.le_of_ble_eq_true rfl, Nat.le_of_ble_eq_true rfl⟩
  have cw88 : CallW ({ frames := 6, cells := 0, slots := 0, locals := 146 }) s _ RX5 RX4 88 yX4_learnErrors cX4_learnErrors 4 (some .int) wsX4_learnErrors ({ frames := 5, cells := 0, slots := 0, locals := 123 }) 0 0 1 := cwV 1 hc.2.2.2.2 gX5_learns_X4_learnErrors rfl rfl rfl (by decide +kernel) ⟨Nat.le_of_ble_eq_true rfl, Nat.le_of_ble_eq_true rfl⟩
  refine wp_aload_n hc 0 dX5_learns_0 rfl ?_
  refine wp_aload_n hc 0 dX5_learns_1 rfl ?_
  refine wp_get hc hx hin5 (j := 0) (by decide) (by decide) (ce_4 rfl) rfl 0 (by decide) hf12 rfl dX5_learns_2 ?_
  refine wp_aload_n hc 0 dX5_learns_5 rfl ?_
  refine wp_callVr (As := []) (rest := [.ref (z 1), .ref (z 0)]) (j := 0) hc hx (kX5_drafted l D cy z hz M hR hk4) cw37 (by decide) (by decide) (ce_4 rfl) rfl rfl rfl rfl (Nat.le_of_ble_eq_true rfl) dX5_learns_6 (fun M1 hM1 => ?_)
  have kM1 : KF (fun x => (1 ≤ x ∧ x ≤ 14) ∨ (16 + 12 * M.2.1 1 ≤ x ∧ x < 28 + 12 * M.2.1 1)) M M1 := KF.trans KF.rf (show KF (fun x => (1 ≤ x ∧ x ≤ 14) ∨ (16 + 12 * M.2.1 1 ≤ x ∧ x < 28 + 12 * M.2.1 1)) M M1 from by rw [hM1]; exact KF.mono (kfX5_drafted _) (fun x h => by first | exact h | ((try dsimp only at h ⊢); omega)))
  have rM1 : RH M1 := RH.kf kM1 hR.1
  refine wp_callVw (As := [.ref (z (16 + 12 * (M.2.1 1)))]) (rest := [.ref (z 0)]) (j := 1) (w := sX4_learnErrors M1 (M.2.1 1)) hc hx (kX4_learnErrors l D cy z hz M1 (M.2.1 1) (hR.1 1 (by decide))) cw88 (by decide) (by decide) (ce_3 rfl) rfl rfl rfl rfl (Nat.le_of_ble_eq_true rfl) dX5_learns_9 (fun x2 hx2 => ?_)
  have kx2 : KF (fun x => (1 ≤ x ∧ x ≤ 14) ∨ (16 + 12 * M.2.1 1 ≤ x ∧ x < 28 + 12 * M.2.1 1)) M x2.2 := KF.trans kM1 (show KF2 (fun x => (1 ≤ x ∧ x ≤ 14) ∨ (16 + 12 * M.2.1 1 ≤ x ∧ x < 28 + 12 * M.2.1 1)) M1 x2 from by rw [hx2]; exact KF2.mono (kfX4_learnErrors _ _) (fun x h => by first | exact h | ((try dsimp only at h ⊢); omega)))
  have rx2 : RH x2.2 := RH.kf kx2 hR.1
  refine wp_callVw (As := [.int x2.1]) (rest := []) (j := 0) (w := sX5_settled x2.2 x2.1) hc hx (kX5_settled l D cy z hz x2.2 x2.1 (RK.kf kx2 hR) (by rw [kx2.1 0 (by show ¬ _; omega)]; exact hp)) cw45 (by decide) (by decide) (ce_4 rfl) rfl rfl rfl rfl (Nat.le_of_ble_eq_true rfl) dX5_learns_12 (fun x3 hx3 => ?_)
  refine wp_iret hc hr hk ?_ dX5_learns_15
  show (x3.1, x3.2) = sX5_learns M
  rw [sX5_learns, tk_eq hM1, tk_eq hx2, tk_eq hx3]
def sX5_reads (M : Mem) (i1 : Int32) : Int32 × Mem :=
  tk (sX5_drafted M) fun M1 =>
  tk (sX4_addReading M1 (M.2.1 1) i1) fun x2 =>
  tk (sX5_settled x2.2 x2.1) fun x3 =>
  (x3.1, x3.2)
set_option maxHeartbeats 4000000 in
set_option maxRecDepth 100000 in
theorem kX5_reads (l : Launch) (D : va_G) (cy : Nat → ClassId) (z : Nat → Nat) (hz : zI z) (M : Mem) (i1 : Int32) (hR : RK M) (hp : 0 ≤ (M.1 0 5).toInt ∧ (M.1 0 5).toInt ≤ 5) (hk4 : M.1 (16 + 12 * M.2.1 0) 4 = 0 ∨ M.1 (16 + 12 * M.2.1 0) 4 = 1) : KI l yX5_reads wsX5_reads { frames := 5, cells := 0, slots := 0, locals := 122 } D cy z 0 100 [.ref (z 0), .int i1] M (fun r u => (r, u) = sX5_reads M i1) := by
  refine met_wp (lv := [(0, .ref (z 0)), (1, .int i1)]) hz (by decide) (by decide) rfl rfl (Nat.le_of_ble_eq_true rfl) rfl ?_
  intro p e s m below meth c hc hx hr hk
  have hNW := hx.2.1
  have hin5 : ∀ w ∈ wsX50, w ∈ wsX5_reads := by decide +kernel
  have hf12 : Cond.fieldLink RX5 12 (TX5 0).1 (TX5 0).2.1 (TX5 0).2.2.1 ∈ wsX5_reads := by decide +kernel
  have cw37 : CallW ({ frames := 5, cells := 0, slots := 0, locals := 122 }) s _ RX5 RX5 37 yX5_drafted cX5_drafted 1 (some (.object "PortBench$State")) wsX5_drafted ({ frames := 3, cells := 0, slots := 0, locals := 86 }) 0 0 0 := cwV 0 hc.2.2.2.2 gX5_reads_X5_drafted rfl rfl rfl (by decide +kernel) ⟨Nat.le_of_ble_eq_true rfl, Nat.le_of_ble_eq_true rfl⟩
  have cw45 : CallW ({ frames := 5, cells := 0, slots := 0, locals := 122 }) s _ RX5 RX5 45 yX5_settled cX5_settled 2 (some .int) wsX5_settled ({ frames := 1, cells := 0, slots := 0, locals := 22 }) 0 0 1 := cwV 1 hc.2.2.2.2 gX5_reads_X5_settled rfl rfl rfl (by decide +kernel) ⟨Nat.le_of_ble_eq_true rfl, Nat.le_of_ble_eq_true rfl⟩
  have cw98 : CallW ({ frames := 5, cells := 0, slots := 0, locals := 122 }) s _ RX5 RX4 98 yX4_addReading cX4_addReading 3 (some .int) wsX4_addReading ({ frames := 4, cells := 0, slots := 0, locals := 100 }) 0 0 2 := cwV 2 hc.2.2.2.2 gX5_reads_X4_addReading rfl rfl rfl (by decide +kernel) ⟨Nat.le_of_ble_eq_true rfl, Nat.le_of_ble_eq_true rfl⟩
  refine wp_aload_n hc 0 dX5_reads_0 rfl ?_
  refine wp_aload_n hc 0 dX5_reads_1 rfl ?_
  refine wp_get hc hx hin5 (j := 0) (by decide) (by decide) (ce_4 rfl) rfl 0 (by decide) hf12 rfl dX5_reads_2 ?_
  refine wp_aload_n hc 0 dX5_reads_5 rfl ?_
  refine wp_callVr (As := []) (rest := [.ref (z 1), .ref (z 0)]) (j := 0) hc hx (kX5_drafted l D cy z hz M hR hk4) cw37 (by decide) (by decide) (ce_4 rfl) rfl rfl rfl rfl (Nat.le_of_ble_eq_true rfl) dX5_reads_6 (fun M1 hM1 => ?_)
  have kM1 : KF (fun x => (1 ≤ x ∧ x ≤ 14) ∨ (16 + 12 * M.2.1 1 ≤ x ∧ x < 28 + 12 * M.2.1 1)) M M1 := KF.trans KF.rf (show KF (fun x => (1 ≤ x ∧ x ≤ 14) ∨ (16 + 12 * M.2.1 1 ≤ x ∧ x < 28 + 12 * M.2.1 1)) M M1 from by rw [hM1]; exact KF.mono (kfX5_drafted _) (fun x h => by first | exact h | ((try dsimp only at h ⊢); omega)))
  have rM1 : RH M1 := RH.kf kM1 hR.1
  refine wp_iload_n hc 1 dX5_reads_9 rfl ?_
  refine wp_callVw (As := [.ref (z (16 + 12 * (M.2.1 1))), .int i1]) (rest := [.ref (z 0)]) (j := 1) (w := sX4_addReading M1 (M.2.1 1) i1) hc hx (kX4_addReading l D cy z hz M1 (M.2.1 1) i1 (hR.1 1 (by decide))) cw98 (by decide) (by decide) (ce_3 rfl) rfl rfl rfl rfl (Nat.le_of_ble_eq_true rfl) dX5_reads_10 (fun x2 hx2 => ?_)
  have kx2 : KF (fun x => (1 ≤ x ∧ x ≤ 14) ∨ (16 + 12 * M.2.1 1 ≤ x ∧ x < 28 + 12 * M.2.1 1)) M x2.2 := KF.trans kM1 (show KF2 (fun x => (1 ≤ x ∧ x ≤ 14) ∨ (16 + 12 * M.2.1 1 ≤ x ∧ x < 28 + 12 * M.2.1 1)) M1 x2 from by rw [hx2]; exact KF2.mono (kfX4_addReading _ _ _) (fun x h => by first | exact h | ((try dsimp only at h ⊢); omega)))
  have rx2 : RH x2.2 := RH.kf kx2 hR.1
  refine wp_callVw (As := [.int x2.1]) (rest := []) (j := 0) (w := sX5_settled x2.2 x2.1) hc hx (kX5_settled l D cy z hz x2.2 x2.1 (RK.kf kx2 hR) (by rw [kx2.1 0 (by show ¬ _; omega)]; exact hp)) cw45 (by decide) (by decide) (ce_4 rfl) rfl rfl rfl rfl (Nat.le_of_ble_eq_true rfl) dX5_reads_13 (fun x3 hx3 => ?_)
  refine wp_iret hc hr hk ?_ dX5_reads_16
  show (x3.1, x3.2) = sX5_reads M i1
  rw [sX5_reads, tk_eq hM1, tk_eq hx2, tk_eq hx3]
def sX5_chains (M : Mem) (i1 : Int32) (i2 : Int32) : Int32 × Mem :=
  tk (sX5_drafted M) fun M1 =>
  tk (sX4_addChain M1 (M.2.1 1) i1 i2) fun x2 =>
  tk (sX5_settled x2.2 x2.1) fun x3 =>
  (x3.1, x3.2)
set_option maxHeartbeats 4000000 in
set_option maxRecDepth 100000 in
theorem kX5_chains (l : Launch) (D : va_G) (cy : Nat → ClassId) (z : Nat → Nat) (hz : zI z) (M : Mem) (i1 : Int32) (i2 : Int32) (hR : RK M) (hp : 0 ≤ (M.1 0 5).toInt ∧ (M.1 0 5).toInt ≤ 5) (hk4 : M.1 (16 + 12 * M.2.1 0) 4 = 0 ∨ M.1 (16 + 12 * M.2.1 0) 4 = 1) : KI l yX5_chains wsX5_chains { frames := 5, cells := 0, slots := 0, locals := 118 } D cy z 0 100 [.ref (z 0), .int i1, .int i2] M (fun r u => (r, u) = sX5_chains M i1 i2) := by
  refine met_wp (lv := [(0, .ref (z 0)), (1, .int i1), (2, .int i2)]) hz (by decide) (by decide) rfl rfl (Nat.le_of_ble_eq_true rfl) rfl ?_
  intro p e s m below meth c hc hx hr hk
  have hNW := hx.2.1
  have hin5 : ∀ w ∈ wsX50, w ∈ wsX5_chains := by decide +kernel
  have hf12 : Cond.fieldLink RX5 12 (TX5 0).1 (TX5 0).2.1 (TX5 0).2.2.1 ∈ wsX5_chains := by decide +kernel
  have cw37 : CallW ({ frames := 5, cells := 0, slots := 0, locals := 118 }) s _ RX5 RX5 37 yX5_drafted cX5_drafted 1 (some (.object "PortBench$State")) wsX5_drafted ({ frames := 3, cells := 0, slots := 0, locals := 86 }) 0 0 0 := cwV 0 hc.2.2.2.2 gX5_chains_X5_drafted rfl rfl rfl (by decide +kernel) ⟨Nat.le_of_ble_eq_true rfl, Nat.le_of_ble_eq_true rfl⟩
  have cw45 : CallW ({ frames := 5, cells := 0, slots := 0, locals := 118 }) s _ RX5 RX5 45 yX5_settled cX5_settled 2 (some .int) wsX5_settled ({ frames := 1, cells := 0, slots := 0, locals := 22 }) 0 0 1 := cwV 1 hc.2.2.2.2 gX5_chains_X5_settled rfl rfl rfl (by decide +kernel) ⟨Nat.le_of_ble_eq_true rfl, Nat.le_of_ble_eq_true rfl⟩
  have cw102 : CallW ({ frames := 5, cells := 0, slots := 0, locals := 118 }) s _ RX5 RX4 102 yX4_addChain cX4_addChain 4 (some .int) wsX4_addChain ({ frames := 4, cells := 0, slots := 0, locals := 95 }) 0 0 3 := cwV 3 hc.2.2.2.2 gX5_chains_X4_addChain rfl rfl rfl (by decide +kernel) ⟨Nat.le_of_ble_eq_true rfl, Nat.le_of_ble_eq_true rfl⟩
  refine wp_aload_n hc 0 dX5_chains_0 rfl ?_
  refine wp_aload_n hc 0 dX5_chains_1 rfl ?_
  refine wp_get hc hx hin5 (j := 0) (by decide) (by decide) (ce_4 rfl) rfl 0 (by decide) hf12 rfl dX5_chains_2 ?_
  refine wp_aload_n hc 0 dX5_chains_5 rfl ?_
  refine wp_callVr (As := []) (rest := [.ref (z 1), .ref (z 0)]) (j := 0) hc hx (kX5_drafted l D cy z hz M hR hk4) cw37 (by decide) (by decide) (ce_4 rfl) rfl rfl rfl rfl (Nat.le_of_ble_eq_true rfl) dX5_chains_6 (fun M1 hM1 => ?_)
  have kM1 : KF (fun x => (1 ≤ x ∧ x ≤ 14) ∨ (16 + 12 * M.2.1 1 ≤ x ∧ x < 28 + 12 * M.2.1 1)) M M1 := KF.trans KF.rf (show KF (fun x => (1 ≤ x ∧ x ≤ 14) ∨ (16 + 12 * M.2.1 1 ≤ x ∧ x < 28 + 12 * M.2.1 1)) M M1 from by rw [hM1]; exact KF.mono (kfX5_drafted _) (fun x h => by first | exact h | ((try dsimp only at h ⊢); omega)))
  have rM1 : RH M1 := RH.kf kM1 hR.1
  refine wp_iload_n hc 1 dX5_chains_9 rfl ?_
  refine wp_iload_n hc 2 dX5_chains_10 rfl ?_
  refine wp_callVw (As := [.ref (z (16 + 12 * (M.2.1 1))), .int i1, .int i2]) (rest := [.ref (z 0)]) (j := 1) (w := sX4_addChain M1 (M.2.1 1) i1 i2) hc hx (kX4_addChain l D cy z hz M1 (M.2.1 1) i1 i2 (hR.1 1 (by decide))) cw102 (by decide) (by decide) (ce_3 rfl) rfl rfl rfl rfl (Nat.le_of_ble_eq_true rfl) dX5_chains_11 (fun x2 hx2 => ?_)
  have kx2 : KF (fun x => (1 ≤ x ∧ x ≤ 14) ∨ (16 + 12 * M.2.1 1 ≤ x ∧ x < 28 + 12 * M.2.1 1)) M x2.2 := KF.trans kM1 (show KF2 (fun x => (1 ≤ x ∧ x ≤ 14) ∨ (16 + 12 * M.2.1 1 ≤ x ∧ x < 28 + 12 * M.2.1 1)) M1 x2 from by rw [hx2]; exact KF2.mono (kfX4_addChain _ _ _ _) (fun x h => by first | exact h | ((try dsimp only at h ⊢); omega)))
  have rx2 : RH x2.2 := RH.kf kx2 hR.1
  refine wp_callVw (As := [.int x2.1]) (rest := []) (j := 0) (w := sX5_settled x2.2 x2.1) hc hx (kX5_settled l D cy z hz x2.2 x2.1 (RK.kf kx2 hR) (by rw [kx2.1 0 (by show ¬ _; omega)]; exact hp)) cw45 (by decide) (by decide) (ce_4 rfl) rfl rfl rfl rfl (Nat.le_of_ble_eq_true rfl) dX5_chains_14 (fun x3 hx3 => ?_)
  refine wp_iret hc hr hk ?_ dX5_chains_17
  show (x3.1, x3.2) = sX5_chains M i1 i2
  rw [sX5_chains, tk_eq hM1, tk_eq hx2, tk_eq hx3]
def sX5_peels (M : Mem) (i1 : Int32) (i2 : Int32) (i3 : Int32) : Int32 × Mem :=
  tk (sX5_drafted M) fun M1 =>
  tk (sX4_addPeeled M1 (M.2.1 1) i1 i2 i3) fun x2 =>
  tk (sX5_settled x2.2 x2.1) fun x3 =>
  (x3.1, x3.2)
set_option maxHeartbeats 4000000 in
set_option maxRecDepth 100000 in
theorem kX5_peels (l : Launch) (D : va_G) (cy : Nat → ClassId) (z : Nat → Nat) (hz : zI z) (M : Mem) (i1 : Int32) (i2 : Int32) (i3 : Int32) (hR : RK M) (hp : 0 ≤ (M.1 0 5).toInt ∧ (M.1 0 5).toInt ≤ 5) (hk4 : M.1 (16 + 12 * M.2.1 0) 4 = 0 ∨ M.1 (16 + 12 * M.2.1 0) 4 = 1) : KI l yX5_peels wsX5_peels { frames := 5, cells := 0, slots := 0, locals := 119 } D cy z 0 100 [.ref (z 0), .int i1, .int i2, .int i3] M (fun r u => (r, u) = sX5_peels M i1 i2 i3) := by
  refine met_wp (lv := [(0, .ref (z 0)), (1, .int i1), (2, .int i2), (3, .int i3)]) hz (by decide) (by decide) rfl rfl (Nat.le_of_ble_eq_true rfl) rfl ?_
  intro p e s m below meth c hc hx hr hk
  have hNW := hx.2.1
  have hin5 : ∀ w ∈ wsX50, w ∈ wsX5_peels := by decide +kernel
  have hf12 : Cond.fieldLink RX5 12 (TX5 0).1 (TX5 0).2.1 (TX5 0).2.2.1 ∈ wsX5_peels := by decide +kernel
  have cw37 : CallW ({ frames := 5, cells := 0, slots := 0, locals := 119 }) s _ RX5 RX5 37 yX5_drafted cX5_drafted 1 (some (.object "PortBench$State")) wsX5_drafted ({ frames := 3, cells := 0, slots := 0, locals := 86 }) 0 0 0 := cwV 0 hc.2.2.2.2 gX5_peels_X5_drafted rfl rfl rfl (by decide +kernel) ⟨Nat.le_of_ble_eq_true rfl, Nat.le_of_ble_eq_true rfl⟩
  have cw45 : CallW ({ frames := 5, cells := 0, slots := 0, locals := 119 }) s _ RX5 RX5 45 yX5_settled cX5_settled 2 (some .int) wsX5_settled ({ frames := 1, cells := 0, slots := 0, locals := 22 }) 0 0 1 := cwV 1 hc.2.2.2.2 gX5_peels_X5_settled rfl rfl rfl (by decide +kernel) ⟨Nat.le_of_ble_eq_true rfl, Nat.le_of_ble_eq_true rfl⟩
  have cw105 : CallW ({ frames := 5, cells := 0, slots := 0, locals := 119 }) s _ RX5 RX4 105 yX4_addPeeled cX4_addPeeled 5 (some .int) wsX4_addPeeled ({ frames := 4, cells := 0, slots := 0, locals := 95 }) 0 0 4 := cwV 4 hc.2.2.2.2 gX5_peels_X4_addPeeled rfl rfl rfl (by decide +kernel) ⟨Nat.le_of_ble_eq_true rfl, Nat.le_of_ble_eq_true rfl⟩
  refine wp_aload_n hc 0 dX5_peels_0 rfl ?_
  refine wp_aload_n hc 0 dX5_peels_1 rfl ?_
  refine wp_get hc hx hin5 (j := 0) (by decide) (by decide) (ce_4 rfl) rfl 0 (by decide) hf12 rfl dX5_peels_2 ?_
  refine wp_aload_n hc 0 dX5_peels_5 rfl ?_
  refine wp_callVr (As := []) (rest := [.ref (z 1), .ref (z 0)]) (j := 0) hc hx (kX5_drafted l D cy z hz M hR hk4) cw37 (by decide) (by decide) (ce_4 rfl) rfl rfl rfl rfl (Nat.le_of_ble_eq_true rfl) dX5_peels_6 (fun M1 hM1 => ?_)
  have kM1 : KF (fun x => (1 ≤ x ∧ x ≤ 14) ∨ (16 + 12 * M.2.1 1 ≤ x ∧ x < 28 + 12 * M.2.1 1)) M M1 := KF.trans KF.rf (show KF (fun x => (1 ≤ x ∧ x ≤ 14) ∨ (16 + 12 * M.2.1 1 ≤ x ∧ x < 28 + 12 * M.2.1 1)) M M1 from by rw [hM1]; exact KF.mono (kfX5_drafted _) (fun x h => by first | exact h | ((try dsimp only at h ⊢); omega)))
  have rM1 : RH M1 := RH.kf kM1 hR.1
  refine wp_iload_n hc 1 dX5_peels_9 rfl ?_
  refine wp_iload_n hc 2 dX5_peels_10 rfl ?_
  refine wp_iload_n hc 3 dX5_peels_11 rfl ?_
  refine wp_callVw (As := [.ref (z (16 + 12 * (M.2.1 1))), .int i1, .int i2, .int i3]) (rest := [.ref (z 0)]) (j := 1) (w := sX4_addPeeled M1 (M.2.1 1) i1 i2 i3) hc hx (kX4_addPeeled l D cy z hz M1 (M.2.1 1) i1 i2 i3 (hR.1 1 (by decide))) cw105 (by decide) (by decide) (ce_3 rfl) rfl rfl rfl rfl (Nat.le_of_ble_eq_true rfl) dX5_peels_12 (fun x2 hx2 => ?_)
  have kx2 : KF (fun x => (1 ≤ x ∧ x ≤ 14) ∨ (16 + 12 * M.2.1 1 ≤ x ∧ x < 28 + 12 * M.2.1 1)) M x2.2 := KF.trans kM1 (show KF2 (fun x => (1 ≤ x ∧ x ≤ 14) ∨ (16 + 12 * M.2.1 1 ≤ x ∧ x < 28 + 12 * M.2.1 1)) M1 x2 from by rw [hx2]; exact KF2.mono (kfX4_addPeeled _ _ _ _ _) (fun x h => by first | exact h | ((try dsimp only at h ⊢); omega)))
  have rx2 : RH x2.2 := RH.kf kx2 hR.1
  refine wp_callVw (As := [.int x2.1]) (rest := []) (j := 0) (w := sX5_settled x2.2 x2.1) hc hx (kX5_settled l D cy z hz x2.2 x2.1 (RK.kf kx2 hR) (by rw [kx2.1 0 (by show ¬ _; omega)]; exact hp)) cw45 (by decide) (by decide) (ce_4 rfl) rfl rfl rfl rfl (Nat.le_of_ble_eq_true rfl) dX5_peels_15 (fun x3 hx3 => ?_)
  refine wp_iret hc hr hk ?_ dX5_peels_18
  show (x3.1, x3.2) = sX5_peels M i1 i2 i3
  rw [sX5_peels, tk_eq hM1, tk_eq hx2, tk_eq hx3]
def sX5_turns (M : Mem) (i1 : Int32) : Int32 × Mem :=
  tk (sX5_drafted M) fun M1 =>
  tk (sX4_addTurned M1 (M.2.1 1) i1) fun x2 =>
  tk (sX5_settled x2.2 x2.1) fun x3 =>
  (x3.1, x3.2)
set_option maxHeartbeats 4000000 in
set_option maxRecDepth 100000 in
theorem kX5_turns (l : Launch) (D : va_G) (cy : Nat → ClassId) (z : Nat → Nat) (hz : zI z) (M : Mem) (i1 : Int32) (hR : RK M) (hp : 0 ≤ (M.1 0 5).toInt ∧ (M.1 0 5).toInt ≤ 5) (hk4 : M.1 (16 + 12 * M.2.1 0) 4 = 0 ∨ M.1 (16 + 12 * M.2.1 0) 4 = 1) : KI l yX5_turns wsX5_turns { frames := 4, cells := 0, slots := 0, locals := 106 } D cy z 0 100 [.ref (z 0), .int i1] M (fun r u => (r, u) = sX5_turns M i1) := by
  refine met_wp (lv := [(0, .ref (z 0)), (1, .int i1)]) hz (by decide) (by decide) rfl rfl (Nat.le_of_ble_eq_true rfl) rfl ?_
  intro p e s m below meth c hc hx hr hk
  have hNW := hx.2.1
  have hin5 : ∀ w ∈ wsX50, w ∈ wsX5_turns := by decide +kernel
  have hf12 : Cond.fieldLink RX5 12 (TX5 0).1 (TX5 0).2.1 (TX5 0).2.2.1 ∈ wsX5_turns := by decide +kernel
  have cw37 : CallW ({ frames := 4, cells := 0, slots := 0, locals := 106 }) s _ RX5 RX5 37 yX5_drafted cX5_drafted 1 (some (.object "PortBench$State")) wsX5_drafted ({ frames := 3, cells := 0, slots := 0, locals := 86 }) 0 0 0 := cwV 0 hc.2.2.2.2 gX5_turns_X5_drafted rfl rfl rfl (by decide +kernel) ⟨Nat.le_of_ble_eq_true rfl, Nat.le_of_ble_eq_true rfl⟩
  have cw45 : CallW ({ frames := 4, cells := 0, slots := 0, locals := 106 }) s _ RX5 RX5 45 yX5_settled cX5_settled 2 (some .int) wsX5_settled ({ frames := 1, cells := 0, slots := 0, locals := 22 }) 0 0 1 := cwV 1 hc.2.2.2.2 gX5_turns_X5_settled rfl rfl rfl (by decide +kernel) ⟨Nat.le_of_ble_eq_true rfl, Nat.le_of_ble_eq_true rfl⟩
  have cw109 : CallW ({ frames := 4, cells := 0, slots := 0, locals := 106 }) s _ RX5 RX4 109 yX4_addTurned cX4_addTurned 4 (some .int) wsX4_addTurned ({ frames := 3, cells := 0, slots := 0, locals := 66 }) 0 0 2 := cwV 2 hc.2.2.2.2 gX5_turns_X4_addTurned rfl rfl rfl (by decide +kernel) ⟨Nat.le_of_ble_eq_true rfl, Nat.le_of_ble_eq_true rfl⟩
  refine wp_aload_n hc 0 dX5_turns_0 rfl ?_
  refine wp_aload_n hc 0 dX5_turns_1 rfl ?_
  refine wp_get hc hx hin5 (j := 0) (by decide) (by decide) (ce_4 rfl) rfl 0 (by decide) hf12 rfl dX5_turns_2 ?_
  refine wp_aload_n hc 0 dX5_turns_5 rfl ?_
  refine wp_callVr (As := []) (rest := [.ref (z 1), .ref (z 0)]) (j := 0) hc hx (kX5_drafted l D cy z hz M hR hk4) cw37 (by decide) (by decide) (ce_4 rfl) rfl rfl rfl rfl (Nat.le_of_ble_eq_true rfl) dX5_turns_6 (fun M1 hM1 => ?_)
  have kM1 : KF (fun x => (1 ≤ x ∧ x ≤ 14) ∨ (16 + 12 * M.2.1 1 ≤ x ∧ x < 28 + 12 * M.2.1 1)) M M1 := KF.trans KF.rf (show KF (fun x => (1 ≤ x ∧ x ≤ 14) ∨ (16 + 12 * M.2.1 1 ≤ x ∧ x < 28 + 12 * M.2.1 1)) M M1 from by rw [hM1]; exact KF.mono (kfX5_drafted _) (fun x h => by first | exact h | ((try dsimp only at h ⊢); omega)))
  have rM1 : RH M1 := RH.kf kM1 hR.1
  refine wp_iload_n hc 1 dX5_turns_9 rfl ?_
  refine wp_callVw (As := [.ref (z (16 + 12 * (M.2.1 1))), .int i1]) (rest := [.ref (z 0)]) (j := 1) (w := sX4_addTurned M1 (M.2.1 1) i1) hc hx (kX4_addTurned l D cy z hz M1 (M.2.1 1) i1 (hR.1 1 (by decide))) cw109 (by decide) (by decide) (ce_3 rfl) rfl rfl rfl rfl (Nat.le_of_ble_eq_true rfl) dX5_turns_10 (fun x2 hx2 => ?_)
  have kx2 : KF (fun x => (1 ≤ x ∧ x ≤ 14) ∨ (16 + 12 * M.2.1 1 ≤ x ∧ x < 28 + 12 * M.2.1 1)) M x2.2 := KF.trans kM1 (show KF2 (fun x => (1 ≤ x ∧ x ≤ 14) ∨ (16 + 12 * M.2.1 1 ≤ x ∧ x < 28 + 12 * M.2.1 1)) M1 x2 from by rw [hx2]; exact KF2.mono (kfX4_addTurned _ _ _) (fun x h => by first | exact h | ((try dsimp only at h ⊢); omega)))
  have rx2 : RH x2.2 := RH.kf kx2 hR.1
  refine wp_callVw (As := [.int x2.1]) (rest := []) (j := 0) (w := sX5_settled x2.2 x2.1) hc hx (kX5_settled l D cy z hz x2.2 x2.1 (RK.kf kx2 hR) (by rw [kx2.1 0 (by show ¬ _; omega)]; exact hp)) cw45 (by decide) (by decide) (ce_4 rfl) rfl rfl rfl rfl (Nat.le_of_ble_eq_true rfl) dX5_turns_13 (fun x3 hx3 => ?_)
  refine wp_iret hc hr hk ?_ dX5_turns_16
  show (x3.1, x3.2) = sX5_turns M i1
  rw [sX5_turns, tk_eq hM1, tk_eq hx2, tk_eq hx3]
