/-- what changes nothing outside its own cells -/
def KF (S : Nat → Prop) (M M' : Mem) : Prop := (∀ j, ¬ S j → M'.1 j = M.1 j) ∧ M'.2 = M.2
def KF2 (S : Nat → Prop) (M : Mem) (u : Int32 × Mem) : Prop := KF S M u.2
theorem KF.rf {S : Nat → Prop} {M : Mem} : KF S M M := ⟨fun _ _ => rfl, rfl⟩
theorem KF.trans {S : Nat → Prop} {A B C : Mem} (h : KF S A B) (g : KF S B C) : KF S A C := ⟨fun j hj => (g.1 j hj).trans (h.1 j hj), g.2.trans h.2⟩
theorem KF.mono {S T : Nat → Prop} {M M' : Mem} (h : KF S M M') (hs : ∀ x, S x → T x) : KF T M M' := ⟨fun j hj => h.1 j (fun q => hj (hs j q)), h.2⟩
theorem KF2.mono {S T : Nat → Prop} {M : Mem} {u : Int32 × Mem} (h : KF2 S M u) (hs : ∀ x, S x → T x) : KF2 T M u := KF.mono h hs
theorem kf_st {S : Nat → Prop} {M : Mem} {j k : Nat} {v : Int32} (h : S j) : KF S M (st M j k v) := ⟨fun i hi => st_ne _ _ _ (fun e => hi (e ▸ h)), rfl⟩
theorem kf_sr {S : Nat → Prop} {M : Mem} {j : Nat} {f : Nat → Int32} (h : S j) : KF S M (sr M j f) := ⟨fun i hi => sr_ne _ _ (fun e => hi (e ▸ h)), rfl⟩
def sX0_fill (M : Mem) (j : Nat) (i1 : Int32) (i2 : Int32) (i3 : Int32) (i4 : Int32) : Mem :=
  tk (st M j 0 i1) fun M1 =>
  tk (st M1 j 1 i2) fun M2 =>
  tk (st M2 j 2 i3) fun M3 =>
  tk (st M3 j 3 i4) fun M4 =>
  M4
set_option maxHeartbeats 4000000 in
set_option maxRecDepth 100000 in
theorem kX0_fill (l : Launch) (D : va_G) (cy : Nat → ClassId) (z : Nat → Nat) (hz : zI z) (M : Mem) (j : Nat) (i1 : Int32) (i2 : Int32) (i3 : Int32) (i4 : Int32) (hj : j < 0 + 100) (hkj : kd j = 0) : KV l yX0_fill wsX0_fill { frames := 0, cells := 0, slots := 0, locals := 0 } D cy z 0 100 [.ref (z j), .int i1, .int i2, .int i3, .int i4] M (fun u => u = sX0_fill M j i1 i2 i3 i4) := by
  refine met_wp (lv := [(0, .ref (z j)), (1, .int i1), (2, .int i2), (3, .int i3), (4, .int i4)]) hz (by decide) (by decide) rfl rfl (Nat.le_of_ble_eq_true rfl) rfl ?_
  intro p e s m below meth c hc hx hr hk
  have hNW := hx.2.1
  have hin0 : ∀ w ∈ wsX00, w ∈ wsX0_fill := by decide +kernel
  have hf9 : Cond.fieldLink RX0 9 (TX0 0).1 (TX0 0).2.1 (TX0 0).2.2.1 ∈ wsX0_fill := by decide +kernel
  have hf15 : Cond.fieldLink RX0 15 (TX0 1).1 (TX0 1).2.1 (TX0 1).2.2.1 ∈ wsX0_fill := by decide +kernel
  have hf18 : Cond.fieldLink RX0 18 (TX0 2).1 (TX0 2).2.1 (TX0 2).2.2.1 ∈ wsX0_fill := by decide +kernel
  have hf21 : Cond.fieldLink RX0 21 (TX0 3).1 (TX0 3).2.1 (TX0 3).2.2.1 ∈ wsX0_fill := by decide +kernel
  refine wp_aload_n hc 0 dX0_fill_0 rfl ?_
  refine wp_iload_n hc 1 dX0_fill_1 rfl ?_
  refine wp_put (M' := st M j 0 i1) hc hx hin0 tyX0 tyX0_ok nmX0 (j := j) (Nat.zero_le _) hj (ce_0 hkj) rfl 0 (by decide) hf9 rfl rfl rfl (Nat.le_of_ble_eq_true rfl) (by rw [ce_0 hkj]; exact ce_stF0 _ _ _) (fun i hi => ce_row (va_up_ne _ _ hi) rfl) dX0_fill_2 ?_
  refine wp_nm (fun M1 hM1 => ?_)
  refine wp_aload_n hc 0 dX0_fill_5 rfl ?_
  refine wp_iload_n hc 2 dX0_fill_6 rfl ?_
  refine wp_put (M' := st M1 j 1 i2) hc hx hin0 tyX0 tyX0_ok nmX0 (j := j) (Nat.zero_le _) hj (ce_0 hkj) rfl 1 (by decide) hf15 rfl rfl rfl (Nat.le_of_ble_eq_true rfl) (by rw [ce_0 hkj]; exact ce_stF1 _ _ _) (fun i hi => ce_row (va_up_ne _ _ hi) rfl) dX0_fill_7 ?_
  refine wp_nm (fun M2 hM2 => ?_)
  refine wp_aload_n hc 0 dX0_fill_10 rfl ?_
  refine wp_iload_n hc 3 dX0_fill_11 rfl ?_
  refine wp_put (M' := st M2 j 2 i3) hc hx hin0 tyX0 tyX0_ok nmX0 (j := j) (Nat.zero_le _) hj (ce_0 hkj) rfl 2 (by decide) hf18 rfl rfl rfl (Nat.le_of_ble_eq_true rfl) (by rw [ce_0 hkj]; exact ce_stF2 _ _ _) (fun i hi => ce_row (va_up_ne _ _ hi) rfl) dX0_fill_12 ?_
  refine wp_nm (fun M3 hM3 => ?_)
  refine wp_aload_n hc 0 dX0_fill_15 rfl ?_
  refine wp_iload hc 4 dX0_fill_16 rfl ?_
  refine wp_put (M' := st M3 j 3 i4) hc hx hin0 tyX0 tyX0_ok nmX0 (j := j) (Nat.zero_le _) hj (ce_0 hkj) rfl 3 (by decide) hf21 rfl rfl rfl (Nat.le_of_ble_eq_true rfl) (by rw [ce_0 hkj]; exact ce_stF3 _ _ _) (fun i hi => ce_row (va_up_ne _ _ hi) rfl) dX0_fill_18 ?_
  refine wp_nm (fun M4 hM4 => ?_)
  refine wp_vret hc hr hk ?_ dX0_fill_21
  show M4 = sX0_fill M j i1 i2 i3 i4
  rw [sX0_fill, tk_eq hM1, tk_eq hM2, tk_eq hM3, tk_eq hM4]
set_option maxRecDepth 10000 in
theorem kfX0_fill (M : Mem) (j : Nat) (i1 : Int32) (i2 : Int32) (i3 : Int32) (i4 : Int32) : KF (fun x => x = j) M (sX0_fill M j i1 i2 i3 i4) := by
  unfold sX0_fill
  refine tk_ind (P := KF (fun x => x = j) M) _ _ (fun M1 hM1 => ?_)
  have k1 : KF (fun x => x = j) M M1 := by rw [hM1]; first | exact kf_st (by show _; omega) | exact kf_sr (by show _; omega)
  refine tk_ind (P := KF (fun x => x = j) M) _ _ (fun M2 hM2 => ?_)
  have k2 : KF (fun x => x = j) M1 M2 := by rw [hM2]; first | exact kf_st (by show _; omega) | exact kf_sr (by show _; omega)
  refine tk_ind (P := KF (fun x => x = j) M) _ _ (fun M3 hM3 => ?_)
  have k3 : KF (fun x => x = j) M2 M3 := by rw [hM3]; first | exact kf_st (by show _; omega) | exact kf_sr (by show _; omega)
  refine tk_ind (P := KF (fun x => x = j) M) _ _ (fun M4 hM4 => ?_)
  have k4 : KF (fun x => x = j) M3 M4 := by rw [hM4]; first | exact kf_st (by show _; omega) | exact kf_sr (by show _; omega)
  exact (show KF (fun x => x = j) M M4 from KF.trans k1 (KF.trans k2 (KF.trans k3 (k4))))
def sX0_copyFrom (M : Mem) (j : Nat) (q1 : Nat) : Mem :=
  tk (sX0_fill M j (M.1 q1 0) (M.1 q1 1) (M.1 q1 2) (M.1 q1 3)) fun M1 =>
  M1
set_option maxHeartbeats 4000000 in
set_option maxRecDepth 100000 in
theorem kX0_copyFrom (l : Launch) (D : va_G) (cy : Nat → ClassId) (z : Nat → Nat) (hz : zI z) (M : Mem) (j : Nat) (q1 : Nat) (hj : j < 0 + 100) (hkj : kd j = 0) (hjq1 : q1 < 0 + 100) (hkq1 : kd q1 = 0) : KV l yX0_copyFrom wsX0_copyFrom { frames := 1, cells := 0, slots := 0, locals := 24 } D cy z 0 100 [.ref (z j), .ref (z q1)] M (fun u => u = sX0_copyFrom M j q1) := by
  refine met_wp (lv := [(0, .ref (z j)), (1, .ref (z q1))]) hz (by decide) (by decide) rfl rfl (Nat.le_of_ble_eq_true rfl) rfl ?_
  intro p e s m below meth c hc hx hr hk
  have hNW := hx.2.1
  have hin0 : ∀ w ∈ wsX00, w ∈ wsX0_copyFrom := by decide +kernel
  have hf9 : Cond.fieldLink RX0 9 (TX0 0).1 (TX0 0).2.1 (TX0 0).2.2.1 ∈ wsX0_copyFrom := by decide +kernel
  have hf15 : Cond.fieldLink RX0 15 (TX0 1).1 (TX0 1).2.1 (TX0 1).2.2.1 ∈ wsX0_copyFrom := by decide +kernel
  have hf18 : Cond.fieldLink RX0 18 (TX0 2).1 (TX0 2).2.1 (TX0 2).2.2.1 ∈ wsX0_copyFrom := by decide +kernel
  have hf21 : Cond.fieldLink RX0 21 (TX0 3).1 (TX0 3).2.1 (TX0 3).2.2.1 ∈ wsX0_copyFrom := by decide +kernel
  have cw24 : CallW ({ frames := 1, cells := 0, slots := 0, locals := 24 }) s _ RX0 RX0 24 yX0_fill cX0_fill 5 none wsX0_fill ({ frames := 0, cells := 0, slots := 0, locals := 0 }) 0 0 4 := cwV 4 hc.2.2.2.2 gX0_copyFrom_X0_fill rfl rfl rfl (by decide +kernel) ⟨Nat.le_of_ble_eq_true rfl, Nat.le_of_ble_eq_true rfl⟩
  refine wp_aload_n hc 0 dX0_copyFrom_0 rfl ?_
  refine wp_aload_n hc 1 dX0_copyFrom_1 rfl ?_
  refine wp_get hc hx hin0 (j := q1) (Nat.zero_le _) hjq1 (ce_0 hkq1) rfl 0 (by decide) hf9 rfl dX0_copyFrom_2 ?_
  refine wp_aload_n hc 1 dX0_copyFrom_5 rfl ?_
  refine wp_get hc hx hin0 (j := q1) (Nat.zero_le _) hjq1 (ce_0 hkq1) rfl 1 (by decide) hf15 rfl dX0_copyFrom_6 ?_
  refine wp_aload_n hc 1 dX0_copyFrom_9 rfl ?_
  refine wp_get hc hx hin0 (j := q1) (Nat.zero_le _) hjq1 (ce_0 hkq1) rfl 2 (by decide) hf18 rfl dX0_copyFrom_10 ?_
  refine wp_aload_n hc 1 dX0_copyFrom_13 rfl ?_
  refine wp_get hc hx hin0 (j := q1) (Nat.zero_le _) hjq1 (ce_0 hkq1) rfl 3 (by decide) hf21 rfl dX0_copyFrom_14 ?_
  refine wp_callVvw (As := [.int (M.1 q1 0), .int (M.1 q1 1), .int (M.1 q1 2), .int (M.1 q1 3)]) (rest := []) (j := j) (w := sX0_fill M j (M.1 q1 0) (M.1 q1 1) (M.1 q1 2) (M.1 q1 3)) hc hx (kX0_fill l D cy z hz M j (M.1 q1 0) (M.1 q1 1) (M.1 q1 2) (M.1 q1 3) hj hkj) cw24 (Nat.zero_le _) hj (ce_0 hkj) rfl rfl rfl rfl (Nat.le_of_ble_eq_true rfl) dX0_copyFrom_17 (fun M1 hM1 => ?_)
  refine wp_vret hc hr hk ?_ dX0_copyFrom_20
  show M1 = sX0_copyFrom M j q1
  rw [sX0_copyFrom, tk_eq hM1]
set_option maxRecDepth 10000 in
theorem kfX0_copyFrom (M : Mem) (j : Nat) (q1 : Nat) : KF (fun x => x = j) M (sX0_copyFrom M j q1) := by
  unfold sX0_copyFrom
  refine tk_ind (P := KF (fun x => x = j) M) _ _ (fun M1 hM1 => ?_)
  have k1 : KF (fun x => x = j) M M1 := by rw [hM1]; exact KF.mono (kfX0_fill _ _ _ _ _ _) (fun x h => by first | exact h | ((try dsimp only at h ⊢); omega))
  exact (show KF (fun x => x = j) M M1 from k1)
def fX0_at (M : Mem) (j : Nat) (i1 : Int32) : Int32 :=
  if i1 = 0 then
  (M.1 j 0)
  else
  if i1 = 1 then
  (M.1 j 1)
  else
  if i1 = 2 then
  (M.1 j 2)
  else
  (M.1 j 3)
set_option maxHeartbeats 4000000 in
set_option maxRecDepth 100000 in
theorem kX0_at (l : Launch) (D : va_G) (cy : Nat → ClassId) (z : Nat → Nat) (hz : zI z) (M : Mem) (j : Nat) (i1 : Int32) (hj : j < 0 + 100) (hkj : kd j = 0) : KI l yX0_at wsX0_at { frames := 0, cells := 0, slots := 0, locals := 0 } D cy z 0 100 [.ref (z j), .int i1] M (fun r u => r = fX0_at M j i1 ∧ u = M) := by
  refine met_wp (lv := [(0, .ref (z j)), (1, .int i1)]) hz (by decide) (by decide) rfl rfl (Nat.le_of_ble_eq_true rfl) rfl ?_
  intro p e s m below meth c hc hx hr hk
  have hNW := hx.2.1
  have hin0 : ∀ w ∈ wsX00, w ∈ wsX0_at := by decide +kernel
  have hf9 : Cond.fieldLink RX0 9 (TX0 0).1 (TX0 0).2.1 (TX0 0).2.2.1 ∈ wsX0_at := by decide +kernel
  have hf15 : Cond.fieldLink RX0 15 (TX0 1).1 (TX0 1).2.1 (TX0 1).2.2.1 ∈ wsX0_at := by decide +kernel
  have hf18 : Cond.fieldLink RX0 18 (TX0 2).1 (TX0 2).2.1 (TX0 2).2.2.1 ∈ wsX0_at := by decide +kernel
  have hf21 : Cond.fieldLink RX0 21 (TX0 3).1 (TX0 3).2.1 (TX0 3).2.2.1 ∈ wsX0_at := by decide +kernel
  refine wp_iload_n hc 1 dX0_at_0 rfl ?_
  by_cases c1_0 : i1 = 0
  · refine wp_cvt c1_0 ?_
    refine wp_tableIn (tgt := 28) (off := 27) hc dX0_at_1 (by decide) (by decide) rfl (by decide) ?_
    refine wp_aload_n hc 0 dX0_at_28 rfl ?_
    refine wp_get hc hx hin0 (j := j) (Nat.zero_le _) hj (ce_0 hkj) rfl 0 (by decide) hf9 rfl dX0_at_29 ?_
    refine wp_iret hc hr hk ?_ dX0_at_32
    show (M.1 j 0) = fX0_at M j i1 ∧ M = M
    exact ⟨by rw [fX0_at, if_pos c1_0], rfl⟩
  by_cases c1_1 : i1 = 1
  · refine wp_cvt c1_1 ?_
    refine wp_tableIn (tgt := 33) (off := 32) hc dX0_at_1 (by decide) (by decide) rfl (by decide) ?_
    refine wp_aload_n hc 0 dX0_at_33 rfl ?_
    refine wp_get hc hx hin0 (j := j) (Nat.zero_le _) hj (ce_0 hkj) rfl 1 (by decide) hf15 rfl dX0_at_34 ?_
    refine wp_iret hc hr hk ?_ dX0_at_37
    show (M.1 j 1) = fX0_at M j i1 ∧ M = M
    exact ⟨by rw [fX0_at, if_neg c1_0, if_pos c1_1], rfl⟩
  by_cases c1_2 : i1 = 2
  · refine wp_cvt c1_2 ?_
    refine wp_tableIn (tgt := 38) (off := 37) hc dX0_at_1 (by decide) (by decide) rfl (by decide) ?_
    refine wp_aload_n hc 0 dX0_at_38 rfl ?_
    refine wp_get hc hx hin0 (j := j) (Nat.zero_le _) hj (ce_0 hkj) rfl 2 (by decide) hf18 rfl dX0_at_39 ?_
    refine wp_iret hc hr hk ?_ dX0_at_42
    show (M.1 j 2) = fX0_at M j i1 ∧ M = M
    exact ⟨by rw [fX0_at, if_neg c1_0, if_neg c1_1, if_pos c1_2], rfl⟩
  refine wp_tableOut (tgt := 43) hc dX0_at_1 (by have q0 := lv_neT (a := 0) c1_0 (by decide); have q1 := lv_neT (a := 1) c1_1 (by decide); have q2 := lv_neT (a := 2) c1_2 (by decide); omega) (by decide) ?_
  refine wp_aload_n hc 0 dX0_at_43 rfl ?_
  refine wp_get hc hx hin0 (j := j) (Nat.zero_le _) hj (ce_0 hkj) rfl 3 (by decide) hf21 rfl dX0_at_44 ?_
  refine wp_iret hc hr hk ?_ dX0_at_47
  show (M.1 j 3) = fX0_at M j i1 ∧ M = M
  exact ⟨by rw [fX0_at, if_neg c1_0, if_neg c1_1, if_neg c1_2], rfl⟩
def sX0_put (M : Mem) (j : Nat) (i1 : Int32) (i2 : Int32) : Mem :=
  if i1 = 0 then
  tk (st M j 0 i2) fun M1 =>
  M1
  else
  if i1 = 1 then
  tk (st M j 1 i2) fun M2 =>
  M2
  else
  if i1 = 2 then
  tk (st M j 2 i2) fun M3 =>
  M3
  else
  tk (st M j 3 i2) fun M4 =>
  M4
set_option maxHeartbeats 4000000 in
set_option maxRecDepth 100000 in
theorem kX0_put (l : Launch) (D : va_G) (cy : Nat → ClassId) (z : Nat → Nat) (hz : zI z) (M : Mem) (j : Nat) (i1 : Int32) (i2 : Int32) (hj : j < 0 + 100) (hkj : kd j = 0) : KV l yX0_put wsX0_put { frames := 0, cells := 0, slots := 0, locals := 0 } D cy z 0 100 [.ref (z j), .int i1, .int i2] M (fun u => u = sX0_put M j i1 i2) := by
  refine met_wp (lv := [(0, .ref (z j)), (1, .int i1), (2, .int i2)]) hz (by decide) (by decide) rfl rfl (Nat.le_of_ble_eq_true rfl) rfl ?_
  intro p e s m below meth c hc hx hr hk
  have hNW := hx.2.1
  have hin0 : ∀ w ∈ wsX00, w ∈ wsX0_put := by decide +kernel
  have hf9 : Cond.fieldLink RX0 9 (TX0 0).1 (TX0 0).2.1 (TX0 0).2.2.1 ∈ wsX0_put := by decide +kernel
  have hf15 : Cond.fieldLink RX0 15 (TX0 1).1 (TX0 1).2.1 (TX0 1).2.2.1 ∈ wsX0_put := by decide +kernel
  have hf18 : Cond.fieldLink RX0 18 (TX0 2).1 (TX0 2).2.1 (TX0 2).2.2.1 ∈ wsX0_put := by decide +kernel
  have hf21 : Cond.fieldLink RX0 21 (TX0 3).1 (TX0 3).2.1 (TX0 3).2.2.1 ∈ wsX0_put := by decide +kernel
  refine wp_iload_n hc 1 dX0_put_0 rfl ?_
  by_cases c1_0 : i1 = 0
  · refine wp_cvt c1_0 ?_
    refine wp_tableIn (tgt := 28) (off := 27) hc dX0_put_1 (by decide) (by decide) rfl (by decide) ?_
    refine wp_aload_n hc 0 dX0_put_28 rfl ?_
    refine wp_iload_n hc 2 dX0_put_29 rfl ?_
    refine wp_put (M' := st M j 0 i2) hc hx hin0 tyX0 tyX0_ok nmX0 (j := j) (Nat.zero_le _) hj (ce_0 hkj) rfl 0 (by decide) hf9 rfl rfl rfl (Nat.le_of_ble_eq_true rfl) (by rw [ce_0 hkj]; exact ce_stF0 _ _ _) (fun i hi => ce_row (va_up_ne _ _ hi) rfl) dX0_put_30 ?_
    refine wp_nm (fun M1 hM1 => ?_)
    refine wp_goto (tgt := 57) hc dX0_put_33 (by decide) ?_
    refine wp_vret hc hr hk ?_ dX0_put_57
    show M1 = sX0_put M j i1 i2
    rw [sX0_put, if_pos c1_0, tk_eq hM1]
  by_cases c1_1 : i1 = 1
  · refine wp_cvt c1_1 ?_
    refine wp_tableIn (tgt := 36) (off := 35) hc dX0_put_1 (by decide) (by decide) rfl (by decide) ?_
    refine wp_aload_n hc 0 dX0_put_36 rfl ?_
    refine wp_iload_n hc 2 dX0_put_37 rfl ?_
    refine wp_put (M' := st M j 1 i2) hc hx hin0 tyX0 tyX0_ok nmX0 (j := j) (Nat.zero_le _) hj (ce_0 hkj) rfl 1 (by decide) hf15 rfl rfl rfl (Nat.le_of_ble_eq_true rfl) (by rw [ce_0 hkj]; exact ce_stF1 _ _ _) (fun i hi => ce_row (va_up_ne _ _ hi) rfl) dX0_put_38 ?_
    refine wp_nm (fun M2 hM2 => ?_)
    refine wp_goto (tgt := 57) hc dX0_put_41 (by decide) ?_
    refine wp_vret hc hr hk ?_ dX0_put_57
    show M2 = sX0_put M j i1 i2
    rw [sX0_put, if_neg c1_0, if_pos c1_1, tk_eq hM2]
  by_cases c1_2 : i1 = 2
  · refine wp_cvt c1_2 ?_
    refine wp_tableIn (tgt := 44) (off := 43) hc dX0_put_1 (by decide) (by decide) rfl (by decide) ?_
    refine wp_aload_n hc 0 dX0_put_44 rfl ?_
    refine wp_iload_n hc 2 dX0_put_45 rfl ?_
    refine wp_put (M' := st M j 2 i2) hc hx hin0 tyX0 tyX0_ok nmX0 (j := j) (Nat.zero_le _) hj (ce_0 hkj) rfl 2 (by decide) hf18 rfl rfl rfl (Nat.le_of_ble_eq_true rfl) (by rw [ce_0 hkj]; exact ce_stF2 _ _ _) (fun i hi => ce_row (va_up_ne _ _ hi) rfl) dX0_put_46 ?_
    refine wp_nm (fun M3 hM3 => ?_)
    refine wp_goto (tgt := 57) hc dX0_put_49 (by decide) ?_
    refine wp_vret hc hr hk ?_ dX0_put_57
    show M3 = sX0_put M j i1 i2
    rw [sX0_put, if_neg c1_0, if_neg c1_1, if_pos c1_2, tk_eq hM3]
  refine wp_tableOut (tgt := 52) hc dX0_put_1 (by have q0 := lv_neT (a := 0) c1_0 (by decide); have q1 := lv_neT (a := 1) c1_1 (by decide); have q2 := lv_neT (a := 2) c1_2 (by decide); omega) (by decide) ?_
  refine wp_aload_n hc 0 dX0_put_52 rfl ?_
  refine wp_iload_n hc 2 dX0_put_53 rfl ?_
  refine wp_put (M' := st M j 3 i2) hc hx hin0 tyX0 tyX0_ok nmX0 (j := j) (Nat.zero_le _) hj (ce_0 hkj) rfl 3 (by decide) hf21 rfl rfl rfl (Nat.le_of_ble_eq_true rfl) (by rw [ce_0 hkj]; exact ce_stF3 _ _ _) (fun i hi => ce_row (va_up_ne _ _ hi) rfl) dX0_put_54 ?_
  refine wp_nm (fun M4 hM4 => ?_)
  refine wp_vret hc hr hk ?_ dX0_put_57
  show M4 = sX0_put M j i1 i2
  rw [sX0_put, if_neg c1_0, if_neg c1_1, if_neg c1_2, tk_eq hM4]
set_option maxRecDepth 10000 in
theorem kfX0_put (M : Mem) (j : Nat) (i1 : Int32) (i2 : Int32) : KF (fun x => x = j) M (sX0_put M j i1 i2) := by
  unfold sX0_put
  refine ite_ind (P := KF (fun x => x = j) M) (fun c1 => ?_) (fun c1 => ?_)
  · refine tk_ind (P := KF (fun x => x = j) M) _ _ (fun M1 hM1 => ?_)
    have k2 : KF (fun x => x = j) M M1 := by rw [hM1]; first | exact kf_st (by show _; omega) | exact kf_sr (by show _; omega)
    exact (show KF (fun x => x = j) M M1 from k2)
  · refine ite_ind (P := KF (fun x => x = j) M) (fun c3 => ?_) (fun c3 => ?_)
    · refine tk_ind (P := KF (fun x => x = j) M) _ _ (fun M2 hM2 => ?_)
      have k4 : KF (fun x => x = j) M M2 := by rw [hM2]; first | exact kf_st (by show _; omega) | exact kf_sr (by show _; omega)
      exact (show KF (fun x => x = j) M M2 from k4)
    · refine ite_ind (P := KF (fun x => x = j) M) (fun c5 => ?_) (fun c5 => ?_)
      · refine tk_ind (P := KF (fun x => x = j) M) _ _ (fun M3 hM3 => ?_)
        have k6 : KF (fun x => x = j) M M3 := by rw [hM3]; first | exact kf_st (by show _; omega) | exact kf_sr (by show _; omega)
        exact (show KF (fun x => x = j) M M3 from k6)
      · refine tk_ind (P := KF (fun x => x = j) M) _ _ (fun M4 hM4 => ?_)
        have k7 : KF (fun x => x = j) M M4 := by rw [hM4]; first | exact kf_st (by show _; omega) | exact kf_sr (by show _; omega)
        exact (show KF (fun x => x = j) M M4 from k7)
def fX0_isAs (M : Mem) (j : Nat) (q1 : Nat) : Int32 :=
  if (M.1 j 0) = (M.1 q1 0) then
  if (M.1 j 1) = (M.1 q1 1) then
  if (M.1 j 2) = (M.1 q1 2) then
  if (M.1 j 3) = (M.1 q1 3) then
  1
  else
  0
  else
  0
  else
  0
  else
  0
set_option maxHeartbeats 4000000 in
set_option maxRecDepth 100000 in
theorem kX0_isAs (l : Launch) (D : va_G) (cy : Nat → ClassId) (z : Nat → Nat) (hz : zI z) (M : Mem) (j : Nat) (q1 : Nat) (hj : j < 0 + 100) (hkj : kd j = 0) (hjq1 : q1 < 0 + 100) (hkq1 : kd q1 = 0) : KI l yX0_isAs wsX0_isAs { frames := 0, cells := 0, slots := 0, locals := 0 } D cy z 0 100 [.ref (z j), .ref (z q1)] M (fun r u => r = fX0_isAs M j q1 ∧ u = M) := by
  refine met_wp (lv := [(0, .ref (z j)), (1, .ref (z q1))]) hz (by decide) (by decide) rfl rfl (Nat.le_of_ble_eq_true rfl) rfl ?_
  intro p e s m below meth c hc hx hr hk
  have hNW := hx.2.1
  have hin0 : ∀ w ∈ wsX00, w ∈ wsX0_isAs := by decide +kernel
  have hf9 : Cond.fieldLink RX0 9 (TX0 0).1 (TX0 0).2.1 (TX0 0).2.2.1 ∈ wsX0_isAs := by decide +kernel
  have hf15 : Cond.fieldLink RX0 15 (TX0 1).1 (TX0 1).2.1 (TX0 1).2.2.1 ∈ wsX0_isAs := by decide +kernel
  have hf18 : Cond.fieldLink RX0 18 (TX0 2).1 (TX0 2).2.1 (TX0 2).2.2.1 ∈ wsX0_isAs := by decide +kernel
  have hf21 : Cond.fieldLink RX0 21 (TX0 3).1 (TX0 3).2.1 (TX0 3).2.2.1 ∈ wsX0_isAs := by decide +kernel
  refine wp_aload_n hc 0 dX0_isAs_0 rfl ?_
  refine wp_get hc hx hin0 (j := j) (Nat.zero_le _) hj (ce_0 hkj) rfl 0 (by decide) hf9 rfl dX0_isAs_1 ?_
  refine wp_aload_n hc 1 dX0_isAs_4 rfl ?_
  refine wp_get hc hx hin0 (j := q1) (Nat.zero_le _) hjq1 (ce_0 hkq1) rfl 0 (by decide) hf9 rfl dX0_isAs_5 ?_
  refine wp_icmp_ne (tgt := 48) hc dX0_isAs_8 (by decide) (fun c8 => ?_) (fun c8 => ?_)
  · refine wp_iconst (v := 0) hc dX0_isAs_48 (by decide) ?_
    refine wp_zret hc hr hk rfl ?_ dX0_isAs_49
    show 0 = fX0_isAs M j q1 ∧ M = M
    exact ⟨by rw [fX0_isAs, if_neg c8], rfl⟩
  refine wp_aload_n hc 0 dX0_isAs_11 rfl ?_
  refine wp_get hc hx hin0 (j := j) (Nat.zero_le _) hj (ce_0 hkj) rfl 1 (by decide) hf15 rfl dX0_isAs_12 ?_
  refine wp_aload_n hc 1 dX0_isAs_15 rfl ?_
  refine wp_get hc hx hin0 (j := q1) (Nat.zero_le _) hjq1 (ce_0 hkq1) rfl 1 (by decide) hf15 rfl dX0_isAs_16 ?_
  refine wp_icmp_ne (tgt := 48) hc dX0_isAs_19 (by decide) (fun c19 => ?_) (fun c19 => ?_)
  · refine wp_iconst (v := 0) hc dX0_isAs_48 (by decide) ?_
    refine wp_zret hc hr hk rfl ?_ dX0_isAs_49
    show 0 = fX0_isAs M j q1 ∧ M = M
    exact ⟨by rw [fX0_isAs, if_pos c8, if_neg c19], rfl⟩
  refine wp_aload_n hc 0 dX0_isAs_22 rfl ?_
  refine wp_get hc hx hin0 (j := j) (Nat.zero_le _) hj (ce_0 hkj) rfl 2 (by decide) hf18 rfl dX0_isAs_23 ?_
  refine wp_aload_n hc 1 dX0_isAs_26 rfl ?_
  refine wp_get hc hx hin0 (j := q1) (Nat.zero_le _) hjq1 (ce_0 hkq1) rfl 2 (by decide) hf18 rfl dX0_isAs_27 ?_
  refine wp_icmp_ne (tgt := 48) hc dX0_isAs_30 (by decide) (fun c30 => ?_) (fun c30 => ?_)
  · refine wp_iconst (v := 0) hc dX0_isAs_48 (by decide) ?_
    refine wp_zret hc hr hk rfl ?_ dX0_isAs_49
    show 0 = fX0_isAs M j q1 ∧ M = M
    exact ⟨by rw [fX0_isAs, if_pos c8, if_pos c19, if_neg c30], rfl⟩
  refine wp_aload_n hc 0 dX0_isAs_33 rfl ?_
  refine wp_get hc hx hin0 (j := j) (Nat.zero_le _) hj (ce_0 hkj) rfl 3 (by decide) hf21 rfl dX0_isAs_34 ?_
  refine wp_aload_n hc 1 dX0_isAs_37 rfl ?_
  refine wp_get hc hx hin0 (j := q1) (Nat.zero_le _) hjq1 (ce_0 hkq1) rfl 3 (by decide) hf21 rfl dX0_isAs_38 ?_
  refine wp_icmp_ne (tgt := 48) hc dX0_isAs_41 (by decide) (fun c41 => ?_) (fun c41 => ?_)
  · refine wp_iconst (v := 0) hc dX0_isAs_48 (by decide) ?_
    refine wp_zret hc hr hk rfl ?_ dX0_isAs_49
    show 0 = fX0_isAs M j q1 ∧ M = M
    exact ⟨by rw [fX0_isAs, if_pos c8, if_pos c19, if_pos c30, if_neg c41], rfl⟩
  refine wp_iconst (v := 1) hc dX0_isAs_44 (by decide) ?_
  refine wp_goto (tgt := 49) hc dX0_isAs_45 (by decide) ?_
  refine wp_zret hc hr hk rfl ?_ dX0_isAs_49
  show 1 = fX0_isAs M j q1 ∧ M = M
  exact ⟨by rw [fX0_isAs, if_pos c8, if_pos c19, if_pos c30, if_pos c41], rfl⟩
theorem bX0_isAs (M : Mem) (j : Nat) (q1 : Nat) : fX0_isAs M j q1 = 0 ∨ fX0_isAs M j q1 = 1 := by
  unfold fX0_isAs
  (repeat' split) <;> first | exact Or.inl rfl | exact Or.inr rfl
def fX0_determinant (M : Mem) (j : Nat) : Int32 :=
  (fX1_minus (fX1_times (M.1 j 0) (M.1 j 3)) (fX1_times (M.1 j 1) (M.1 j 2)))
set_option maxHeartbeats 4000000 in
set_option maxRecDepth 100000 in
theorem kX0_determinant (l : Launch) (D : va_G) (cy : Nat → ClassId) (z : Nat → Nat) (hz : zI z) (M : Mem) (j : Nat) (hj : j < 0 + 100) (hkj : kd j = 0) : KI l yX0_determinant wsX0_determinant { frames := 2, cells := 0, slots := 0, locals := 48 } D cy z 0 100 [.ref (z j)] M (fun r u => r = fX0_determinant M j ∧ u = M) := by
  refine met_wp (lv := [(0, .ref (z j))]) hz (by decide) (by decide) rfl rfl (Nat.le_of_ble_eq_true rfl) rfl ?_
  intro p e s m below meth c hc hx hr hk
  have hNW := hx.2.1
  have hin0 : ∀ w ∈ wsX00, w ∈ wsX0_determinant := by decide +kernel
  have hf9 : Cond.fieldLink RX0 9 (TX0 0).1 (TX0 0).2.1 (TX0 0).2.2.1 ∈ wsX0_determinant := by decide +kernel
  have hf15 : Cond.fieldLink RX0 15 (TX0 1).1 (TX0 1).2.1 (TX0 1).2.2.1 ∈ wsX0_determinant := by decide +kernel
  have hf18 : Cond.fieldLink RX0 18 (TX0 2).1 (TX0 2).2.1 (TX0 2).2.2.1 ∈ wsX0_determinant := by decide +kernel
  have hf21 : Cond.fieldLink RX0 21 (TX0 3).1 (TX0 3).2.1 (TX0 3).2.2.1 ∈ wsX0_determinant := by decide +kernel
  have cw28 : CallB ({ frames := 2, cells := 0, slots := 0, locals := 48 }) s _ RX0 28 yX1_times cX1_times 6 (some .int) wsX1_times ({ frames := 1, cells := 0, slots := 0, locals := 23 }) 0 0 2 ∧ (Cond.static yX1_times).before _ s = true := va_cwS 2 hc.2.2.2.2 gX0_determinant_X1_times rfl rfl rfl (by decide +kernel) ⟨Nat.le_of_ble_eq_true rfl, Nat.le_of_ble_eq_true rfl⟩
  have cw34 : CallB ({ frames := 2, cells := 0, slots := 0, locals := 48 }) s _ RX0 34 yX1_minus cX1_minus 2 (some .int) wsX1_minus ({ frames := 1, cells := 0, slots := 0, locals := 23 }) 0 0 2 ∧ (Cond.static yX1_minus).before _ s = true := va_cwS 2 hc.2.2.2.2 gX0_determinant_X1_minus rfl rfl rfl (by decide +kernel) ⟨Nat.le_of_ble_eq_true rfl, Nat.le_of_ble_eq_true rfl⟩
  refine wp_aload_n hc 0 dX0_determinant_0 rfl ?_
  refine wp_get hc hx hin0 (j := j) (Nat.zero_le _) hj (ce_0 hkj) rfl 0 (by decide) hf9 rfl dX0_determinant_1 ?_
  refine wp_aload_n hc 0 dX0_determinant_4 rfl ?_
  refine wp_get hc hx hin0 (j := j) (Nat.zero_le _) hj (ce_0 hkj) rfl 3 (by decide) hf21 rfl dX0_determinant_5 ?_
  refine wp_callSg (As := [.int (M.1 j 0), .int (M.1 j 3)]) (rest := []) (v := (fX1_times (M.1 j 0) (M.1 j 3))) hc hNW (kX1_times l (M.1 j 0) (M.1 j 3)) cw28 rfl rfl (Nat.le_of_ble_eq_true rfl) dX0_determinant_8 ?_
  refine wp_aload_n hc 0 dX0_determinant_11 rfl ?_
  refine wp_get hc hx hin0 (j := j) (Nat.zero_le _) hj (ce_0 hkj) rfl 1 (by decide) hf15 rfl dX0_determinant_12 ?_
  refine wp_aload_n hc 0 dX0_determinant_15 rfl ?_
  refine wp_get hc hx hin0 (j := j) (Nat.zero_le _) hj (ce_0 hkj) rfl 2 (by decide) hf18 rfl dX0_determinant_16 ?_
  refine wp_callSg (As := [.int (M.1 j 1), .int (M.1 j 2)]) (rest := [.int (fX1_times (M.1 j 0) (M.1 j 3))]) (v := (fX1_times (M.1 j 1) (M.1 j 2))) hc hNW (kX1_times l (M.1 j 1) (M.1 j 2)) cw28 rfl rfl (Nat.le_of_ble_eq_true rfl) dX0_determinant_19 ?_
  refine wp_callSg (As := [.int (fX1_times (M.1 j 0) (M.1 j 3)), .int (fX1_times (M.1 j 1) (M.1 j 2))]) (rest := []) (v := (fX1_minus (fX1_times (M.1 j 0) (M.1 j 3)) (fX1_times (M.1 j 1) (M.1 j 2)))) hc hNW (kX1_minus l (fX1_times (M.1 j 0) (M.1 j 3)) (fX1_times (M.1 j 1) (M.1 j 2))) cw34 rfl rfl (Nat.le_of_ble_eq_true rfl) dX0_determinant_22 ?_
  refine wp_iret hc hr hk ?_ dX0_determinant_25
  show (fX1_minus (fX1_times (M.1 j 0) (M.1 j 3)) (fX1_times (M.1 j 1) (M.1 j 2))) = fX0_determinant M j ∧ M = M
  exact ⟨by rw [fX0_determinant], rfl⟩
def sX0_divideBy (M : Mem) (j : Nat) (i1 : Int32) : Mem :=
  tk (sX0_fill M j (fX1_times (M.1 j 0) (fX1_over 10007 i1)) (fX1_times (M.1 j 1) (fX1_over 10007 i1)) (fX1_times (M.1 j 2) (fX1_over 10007 i1)) (fX1_times (M.1 j 3) (fX1_over 10007 i1))) fun M1 =>
  M1
set_option maxHeartbeats 4000000 in
set_option maxRecDepth 100000 in
theorem kX0_divideBy (l : Launch) (D : va_G) (cy : Nat → ClassId) (z : Nat → Nat) (hz : zI z) (M : Mem) (j : Nat) (i1 : Int32) (hj : j < 0 + 100) (hkj : kd j = 0) : KV l yX0_divideBy wsX0_divideBy { frames := 2, cells := 0, slots := 0, locals := 51 } D cy z 0 100 [.ref (z j), .int i1] M (fun u => u = sX0_divideBy M j i1) := by
  refine met_wp (lv := [(0, .ref (z j)), (1, .int i1)]) hz (by decide) (by decide) rfl rfl (Nat.le_of_ble_eq_true rfl) rfl ?_
  intro p e s m below meth c hc hx hr hk
  have hNW := hx.2.1
  have hin0 : ∀ w ∈ wsX00, w ∈ wsX0_divideBy := by decide +kernel
  have hf9 : Cond.fieldLink RX0 9 (TX0 0).1 (TX0 0).2.1 (TX0 0).2.2.1 ∈ wsX0_divideBy := by decide +kernel
  have hf15 : Cond.fieldLink RX0 15 (TX0 1).1 (TX0 1).2.1 (TX0 1).2.2.1 ∈ wsX0_divideBy := by decide +kernel
  have hf18 : Cond.fieldLink RX0 18 (TX0 2).1 (TX0 2).2.1 (TX0 2).2.2.1 ∈ wsX0_divideBy := by decide +kernel
  have hf21 : Cond.fieldLink RX0 21 (TX0 3).1 (TX0 3).2.1 (TX0 3).2.2.1 ∈ wsX0_divideBy := by decide +kernel
  have cw24 : CallW ({ frames := 2, cells := 0, slots := 0, locals := 51 }) s _ RX0 RX0 24 yX0_fill cX0_fill 5 none wsX0_fill ({ frames := 0, cells := 0, slots := 0, locals := 0 }) 0 0 4 := cwV 4 hc.2.2.2.2 gX0_divideBy_X0_fill rfl rfl rfl (by decide +kernel) ⟨Nat.le_of_ble_eq_true rfl, Nat.le_of_ble_eq_true rfl⟩
  have cw28 : CallB ({ frames := 2, cells := 0, slots := 0, locals := 51 }) s _ RX0 28 yX1_times cX1_times 6 (some .int) wsX1_times ({ frames := 1, cells := 0, slots := 0, locals := 23 }) 0 0 2 ∧ (Cond.static yX1_times).before _ s = true := va_cwS 2 hc.2.2.2.2 gX0_divideBy_X1_times rfl rfl rfl (by decide +kernel) ⟨Nat.le_of_ble_eq_true rfl, Nat.le_of_ble_eq_true rfl⟩
  have cw37 : CallB ({ frames := 2, cells := 0, slots := 0, locals := 51 }) s _ RX0 37 yX1_over cX1_over 9 (some .int) wsX1_over ({ frames := 1, cells := 0, slots := 0, locals := 23 }) 0 0 2 ∧ (Cond.static yX1_over).before _ s = true := va_cwS 2 hc.2.2.2.2 gX0_divideBy_X1_over rfl rfl rfl (by decide +kernel) ⟨Nat.le_of_ble_eq_true rfl, Nat.le_of_ble_eq_true rfl⟩
  refine wp_sipush (v := 10007) hc dX0_divideBy_0 (by decide) ?_
  refine wp_iload_n hc 1 dX0_divideBy_3 rfl ?_
  refine wp_callSg (As := [.int 10007, .int i1]) (rest := []) (v := (fX1_over 10007 i1)) hc hNW (kX1_over l 10007 i1) cw37 rfl rfl (Nat.le_of_ble_eq_true rfl) dX0_divideBy_4 ?_
  refine wp_istore_n (lv' := [(2, .int (fX1_over 10007 i1)), (0, .ref (z j)), (1, .int i1)]) hc dX0_divideBy_7 (by decide) rfl ?_
  refine wp_aload_n hc 1 dX0_divideBy_8 rfl ?_
  refine wp_aload_n hc 1 dX0_divideBy_9 rfl ?_
  refine wp_get hc hx hin0 (j := j) (Nat.zero_le _) hj (ce_0 hkj) rfl 0 (by decide) hf9 rfl dX0_divideBy_10 ?_
  refine wp_iload_n hc 0 dX0_divideBy_13 rfl ?_
  refine wp_callSg (As := [.int (M.1 j 0), .int (fX1_over 10007 i1)]) (rest := [.ref (z j)]) (v := (fX1_times (M.1 j 0) (fX1_over 10007 i1))) hc hNW (kX1_times l (M.1 j 0) (fX1_over 10007 i1)) cw28 rfl rfl (Nat.le_of_ble_eq_true rfl) dX0_divideBy_14 ?_
  refine wp_aload_n hc 1 dX0_divideBy_17 rfl ?_
  refine wp_get hc hx hin0 (j := j) (Nat.zero_le _) hj (ce_0 hkj) rfl 1 (by decide) hf15 rfl dX0_divideBy_18 ?_
  refine wp_iload_n hc 0 dX0_divideBy_21 rfl ?_
  refine wp_callSg (As := [.int (M.1 j 1), .int (fX1_over 10007 i1)]) (rest := [.int (fX1_times (M.1 j 0) (fX1_over 10007 i1)), .ref (z j)]) (v := (fX1_times (M.1 j 1) (fX1_over 10007 i1))) hc hNW (kX1_times l (M.1 j 1) (fX1_over 10007 i1)) cw28 rfl rfl (Nat.le_of_ble_eq_true rfl) dX0_divideBy_22 ?_
  refine wp_aload_n hc 1 dX0_divideBy_25 rfl ?_
  refine wp_get hc hx hin0 (j := j) (Nat.zero_le _) hj (ce_0 hkj) rfl 2 (by decide) hf18 rfl dX0_divideBy_26 ?_
  refine wp_iload_n hc 0 dX0_divideBy_29 rfl ?_
  refine wp_callSg (As := [.int (M.1 j 2), .int (fX1_over 10007 i1)]) (rest := [.int (fX1_times (M.1 j 1) (fX1_over 10007 i1)), .int (fX1_times (M.1 j 0) (fX1_over 10007 i1)), .ref (z j)]) (v := (fX1_times (M.1 j 2) (fX1_over 10007 i1))) hc hNW (kX1_times l (M.1 j 2) (fX1_over 10007 i1)) cw28 rfl rfl (Nat.le_of_ble_eq_true rfl) dX0_divideBy_30 ?_
  refine wp_aload_n hc 1 dX0_divideBy_33 rfl ?_
  refine wp_get hc hx hin0 (j := j) (Nat.zero_le _) hj (ce_0 hkj) rfl 3 (by decide) hf21 rfl dX0_divideBy_34 ?_
  refine wp_iload_n hc 0 dX0_divideBy_37 rfl ?_
  refine wp_callSg (As := [.int (M.1 j 3), .int (fX1_over 10007 i1)]) (rest := [.int (fX1_times (M.1 j 2) (fX1_over 10007 i1)), .int (fX1_times (M.1 j 1) (fX1_over 10007 i1)), .int (fX1_times (M.1 j 0) (fX1_over 10007 i1)), .ref (z j)]) (v := (fX1_times (M.1 j 3) (fX1_over 10007 i1))) hc hNW (kX1_times l (M.1 j 3) (fX1_over 10007 i1)) cw28 rfl rfl (Nat.le_of_ble_eq_true rfl) dX0_divideBy_38 ?_
  refine wp_callVvw (As := [.int (fX1_times (M.1 j 0) (fX1_over 10007 i1)), .int (fX1_times (M.1 j 1) (fX1_over 10007 i1)), .int (fX1_times (M.1 j 2) (fX1_over 10007 i1)), .int (fX1_times (M.1 j 3) (fX1_over 10007 i1))]) (rest := []) (j := j) (w := sX0_fill M j (fX1_times (M.1 j 0) (fX1_over 10007 i1)) (fX1_times (M.1 j 1) (fX1_over 10007 i1)) (fX1_times (M.1 j 2) (fX1_over 10007 i1)) (fX1_times (M.1 j 3) (fX1_over 10007 i1))) hc hx (kX0_fill l D cy z hz M j (fX1_times (M.1 j 0) (fX1_over 10007 i1)) (fX1_times (M.1 j 1) (fX1_over 10007 i1)) (fX1_times (M.1 j 2) (fX1_over 10007 i1)) (fX1_times (M.1 j 3) (fX1_over 10007 i1)) hj hkj) cw24 (Nat.zero_le _) hj (ce_0 hkj) rfl rfl rfl rfl (Nat.le_of_ble_eq_true rfl) dX0_divideBy_41 (fun M1 hM1 => ?_)
  refine wp_vret hc hr hk ?_ dX0_divideBy_44
  show M1 = sX0_divideBy M j i1
  rw [sX0_divideBy, tk_eq hM1]
set_option maxRecDepth 10000 in
theorem kfX0_divideBy (M : Mem) (j : Nat) (i1 : Int32) : KF (fun x => x = j) M (sX0_divideBy M j i1) := by
  unfold sX0_divideBy
  refine tk_ind (P := KF (fun x => x = j) M) _ _ (fun M1 hM1 => ?_)
  have k1 : KF (fun x => x = j) M M1 := by rw [hM1]; exact KF.mono (kfX0_fill _ _ _ _ _ _) (fun x h => by first | exact h | ((try dsimp only at h ⊢); omega))
  exact (show KF (fun x => x = j) M M1 from k1)
def sX0_becomeProduct (M : Mem) (j : Nat) (q1 : Nat) (q2 : Nat) : Mem :=
  tk (sX0_fill M j (fX1_pairs (M.1 q1 0) (M.1 q2 0) (M.1 q1 1) (M.1 q2 2)) (fX1_pairs (M.1 q1 0) (M.1 q2 1) (M.1 q1 1) (M.1 q2 3)) (fX1_pairs (M.1 q1 2) (M.1 q2 0) (M.1 q1 3) (M.1 q2 2)) (fX1_pairs (M.1 q1 2) (M.1 q2 1) (M.1 q1 3) (M.1 q2 3))) fun M1 =>
  M1
set_option maxHeartbeats 4000000 in
set_option maxRecDepth 100000 in
theorem kX0_becomeProduct (l : Launch) (D : va_G) (cy : Nat → ClassId) (z : Nat → Nat) (hz : zI z) (M : Mem) (j : Nat) (q1 : Nat) (q2 : Nat) (hj : j < 0 + 100) (hkj : kd j = 0) (hjq1 : q1 < 0 + 100) (hkq1 : kd q1 = 0) (hjq2 : q2 < 0 + 100) (hkq2 : kd q2 = 0) : KV l yX0_becomeProduct wsX0_becomeProduct { frames := 3, cells := 0, slots := 0, locals := 71 } D cy z 0 100 [.ref (z j), .ref (z q1), .ref (z q2)] M (fun u => u = sX0_becomeProduct M j q1 q2) := by
  refine met_wp (lv := [(0, .ref (z j)), (1, .ref (z q1)), (2, .ref (z q2))]) hz (by decide) (by decide) rfl rfl (Nat.le_of_ble_eq_true rfl) rfl ?_
  intro p e s m below meth c hc hx hr hk
  have hNW := hx.2.1
  have hin0 : ∀ w ∈ wsX00, w ∈ wsX0_becomeProduct := by decide +kernel
  have hf9 : Cond.fieldLink RX0 9 (TX0 0).1 (TX0 0).2.1 (TX0 0).2.2.1 ∈ wsX0_becomeProduct := by decide +kernel
  have hf15 : Cond.fieldLink RX0 15 (TX0 1).1 (TX0 1).2.1 (TX0 1).2.2.1 ∈ wsX0_becomeProduct := by decide +kernel
  have hf18 : Cond.fieldLink RX0 18 (TX0 2).1 (TX0 2).2.1 (TX0 2).2.2.1 ∈ wsX0_becomeProduct := by decide +kernel
  have hf21 : Cond.fieldLink RX0 21 (TX0 3).1 (TX0 3).2.1 (TX0 3).2.2.1 ∈ wsX0_becomeProduct := by decide +kernel
  have cw24 : CallW ({ frames := 3, cells := 0, slots := 0, locals := 71 }) s _ RX0 RX0 24 yX0_fill cX0_fill 5 none wsX0_fill ({ frames := 0, cells := 0, slots := 0, locals := 0 }) 0 0 4 := cwV 4 hc.2.2.2.2 gX0_becomeProduct_X0_fill rfl rfl rfl (by decide +kernel) ⟨Nat.le_of_ble_eq_true rfl, Nat.le_of_ble_eq_true rfl⟩
  have cw40 : CallB ({ frames := 3, cells := 0, slots := 0, locals := 71 }) s _ RX0 40 yX1_pairs cX1_pairs 4 (some .int) wsX1_pairs ({ frames := 2, cells := 0, slots := 0, locals := 48 }) 0 0 4 ∧ (Cond.static yX1_pairs).before _ s = true := va_cwS 4 hc.2.2.2.2 gX0_becomeProduct_X1_pairs rfl rfl rfl (by decide +kernel) ⟨Nat.le_of_ble_eq_true rfl, Nat.le_of_ble_eq_true rfl⟩
  refine wp_aload_n hc 0 dX0_becomeProduct_0 rfl ?_
  refine wp_aload_n hc 1 dX0_becomeProduct_1 rfl ?_
  refine wp_get hc hx hin0 (j := q1) (Nat.zero_le _) hjq1 (ce_0 hkq1) rfl 0 (by decide) hf9 rfl dX0_becomeProduct_2 ?_
  refine wp_aload_n hc 2 dX0_becomeProduct_5 rfl ?_
  refine wp_get hc hx hin0 (j := q2) (Nat.zero_le _) hjq2 (ce_0 hkq2) rfl 0 (by decide) hf9 rfl dX0_becomeProduct_6 ?_
  refine wp_aload_n hc 1 dX0_becomeProduct_9 rfl ?_
  refine wp_get hc hx hin0 (j := q1) (Nat.zero_le _) hjq1 (ce_0 hkq1) rfl 1 (by decide) hf15 rfl dX0_becomeProduct_10 ?_
  refine wp_aload_n hc 2 dX0_becomeProduct_13 rfl ?_
  refine wp_get hc hx hin0 (j := q2) (Nat.zero_le _) hjq2 (ce_0 hkq2) rfl 2 (by decide) hf18 rfl dX0_becomeProduct_14 ?_
  refine wp_callSg (As := [.int (M.1 q1 0), .int (M.1 q2 0), .int (M.1 q1 1), .int (M.1 q2 2)]) (rest := [.ref (z j)]) (v := (fX1_pairs (M.1 q1 0) (M.1 q2 0) (M.1 q1 1) (M.1 q2 2))) hc hNW (kX1_pairs l (M.1 q1 0) (M.1 q2 0) (M.1 q1 1) (M.1 q2 2)) cw40 rfl rfl (Nat.le_of_ble_eq_true rfl) dX0_becomeProduct_17 ?_
  refine wp_aload_n hc 1 dX0_becomeProduct_20 rfl ?_
  refine wp_get hc hx hin0 (j := q1) (Nat.zero_le _) hjq1 (ce_0 hkq1) rfl 0 (by decide) hf9 rfl dX0_becomeProduct_21 ?_
  refine wp_aload_n hc 2 dX0_becomeProduct_24 rfl ?_
  refine wp_get hc hx hin0 (j := q2) (Nat.zero_le _) hjq2 (ce_0 hkq2) rfl 1 (by decide) hf15 rfl dX0_becomeProduct_25 ?_
  refine wp_aload_n hc 1 dX0_becomeProduct_28 rfl ?_
  refine wp_get hc hx hin0 (j := q1) (Nat.zero_le _) hjq1 (ce_0 hkq1) rfl 1 (by decide) hf15 rfl dX0_becomeProduct_29 ?_
  refine wp_aload_n hc 2 dX0_becomeProduct_32 rfl ?_
  refine wp_get hc hx hin0 (j := q2) (Nat.zero_le _) hjq2 (ce_0 hkq2) rfl 3 (by decide) hf21 rfl dX0_becomeProduct_33 ?_
  refine wp_callSg (As := [.int (M.1 q1 0), .int (M.1 q2 1), .int (M.1 q1 1), .int (M.1 q2 3)]) (rest := [.int (fX1_pairs (M.1 q1 0) (M.1 q2 0) (M.1 q1 1) (M.1 q2 2)), .ref (z j)]) (v := (fX1_pairs (M.1 q1 0) (M.1 q2 1) (M.1 q1 1) (M.1 q2 3))) hc hNW (kX1_pairs l (M.1 q1 0) (M.1 q2 1) (M.1 q1 1) (M.1 q2 3)) cw40 rfl rfl (Nat.le_of_ble_eq_true rfl) dX0_becomeProduct_36 ?_
  refine wp_aload_n hc 1 dX0_becomeProduct_39 rfl ?_
  refine wp_get hc hx hin0 (j := q1) (Nat.zero_le _) hjq1 (ce_0 hkq1) rfl 2 (by decide) hf18 rfl dX0_becomeProduct_40 ?_
  refine wp_aload_n hc 2 dX0_becomeProduct_43 rfl ?_
  refine wp_get hc hx hin0 (j := q2) (Nat.zero_le _) hjq2 (ce_0 hkq2) rfl 0 (by decide) hf9 rfl dX0_becomeProduct_44 ?_
  refine wp_aload_n hc 1 dX0_becomeProduct_47 rfl ?_
  refine wp_get hc hx hin0 (j := q1) (Nat.zero_le _) hjq1 (ce_0 hkq1) rfl 3 (by decide) hf21 rfl dX0_becomeProduct_48 ?_
  refine wp_aload_n hc 2 dX0_becomeProduct_51 rfl ?_
  refine wp_get hc hx hin0 (j := q2) (Nat.zero_le _) hjq2 (ce_0 hkq2) rfl 2 (by decide) hf18 rfl dX0_becomeProduct_52 ?_
  refine wp_callSg (As := [.int (M.1 q1 2), .int (M.1 q2 0), .int (M.1 q1 3), .int (M.1 q2 2)]) (rest := [.int (fX1_pairs (M.1 q1 0) (M.1 q2 1) (M.1 q1 1) (M.1 q2 3)), .int (fX1_pairs (M.1 q1 0) (M.1 q2 0) (M.1 q1 1) (M.1 q2 2)), .ref (z j)]) (v := (fX1_pairs (M.1 q1 2) (M.1 q2 0) (M.1 q1 3) (M.1 q2 2))) hc hNW (kX1_pairs l (M.1 q1 2) (M.1 q2 0) (M.1 q1 3) (M.1 q2 2)) cw40 rfl rfl (Nat.le_of_ble_eq_true rfl) dX0_becomeProduct_55 ?_
  refine wp_aload_n hc 1 dX0_becomeProduct_58 rfl ?_
  refine wp_get hc hx hin0 (j := q1) (Nat.zero_le _) hjq1 (ce_0 hkq1) rfl 2 (by decide) hf18 rfl dX0_becomeProduct_59 ?_
  refine wp_aload_n hc 2 dX0_becomeProduct_62 rfl ?_
  refine wp_get hc hx hin0 (j := q2) (Nat.zero_le _) hjq2 (ce_0 hkq2) rfl 1 (by decide) hf15 rfl dX0_becomeProduct_63 ?_
  refine wp_aload_n hc 1 dX0_becomeProduct_66 rfl ?_
  refine wp_get hc hx hin0 (j := q1) (Nat.zero_le _) hjq1 (ce_0 hkq1) rfl 3 (by decide) hf21 rfl dX0_becomeProduct_67 ?_
  refine wp_aload_n hc 2 dX0_becomeProduct_70 rfl ?_
  refine wp_get hc hx hin0 (j := q2) (Nat.zero_le _) hjq2 (ce_0 hkq2) rfl 3 (by decide) hf21 rfl dX0_becomeProduct_71 ?_
  refine wp_callSg (As := [.int (M.1 q1 2), .int (M.1 q2 1), .int (M.1 q1 3), .int (M.1 q2 3)]) (rest := [.int (fX1_pairs (M.1 q1 2) (M.1 q2 0) (M.1 q1 3) (M.1 q2 2)), .int (fX1_pairs (M.1 q1 0) (M.1 q2 1) (M.1 q1 1) (M.1 q2 3)), .int (fX1_pairs (M.1 q1 0) (M.1 q2 0) (M.1 q1 1) (M.1 q2 2)), .ref (z j)]) (v := (fX1_pairs (M.1 q1 2) (M.1 q2 1) (M.1 q1 3) (M.1 q2 3))) hc hNW (kX1_pairs l (M.1 q1 2) (M.1 q2 1) (M.1 q1 3) (M.1 q2 3)) cw40 rfl rfl (Nat.le_of_ble_eq_true rfl) dX0_becomeProduct_74 ?_
  refine wp_callVvw (As := [.int (fX1_pairs (M.1 q1 0) (M.1 q2 0) (M.1 q1 1) (M.1 q2 2)), .int (fX1_pairs (M.1 q1 0) (M.1 q2 1) (M.1 q1 1) (M.1 q2 3)), .int (fX1_pairs (M.1 q1 2) (M.1 q2 0) (M.1 q1 3) (M.1 q2 2)), .int (fX1_pairs (M.1 q1 2) (M.1 q2 1) (M.1 q1 3) (M.1 q2 3))]) (rest := []) (j := j) (w := sX0_fill M j (fX1_pairs (M.1 q1 0) (M.1 q2 0) (M.1 q1 1) (M.1 q2 2)) (fX1_pairs (M.1 q1 0) (M.1 q2 1) (M.1 q1 1) (M.1 q2 3)) (fX1_pairs (M.1 q1 2) (M.1 q2 0) (M.1 q1 3) (M.1 q2 2)) (fX1_pairs (M.1 q1 2) (M.1 q2 1) (M.1 q1 3) (M.1 q2 3))) hc hx (kX0_fill l D cy z hz M j (fX1_pairs (M.1 q1 0) (M.1 q2 0) (M.1 q1 1) (M.1 q2 2)) (fX1_pairs (M.1 q1 0) (M.1 q2 1) (M.1 q1 1) (M.1 q2 3)) (fX1_pairs (M.1 q1 2) (M.1 q2 0) (M.1 q1 3) (M.1 q2 2)) (fX1_pairs (M.1 q1 2) (M.1 q2 1) (M.1 q1 3) (M.1 q2 3)) hj hkj) cw24 (Nat.zero_le _) hj (ce_0 hkj) rfl rfl rfl rfl (Nat.le_of_ble_eq_true rfl) dX0_becomeProduct_77 (fun M1 hM1 => ?_)
  refine wp_vret hc hr hk ?_ dX0_becomeProduct_80
  show M1 = sX0_becomeProduct M j q1 q2
  rw [sX0_becomeProduct, tk_eq hM1]
set_option maxRecDepth 10000 in
theorem kfX0_becomeProduct (M : Mem) (j : Nat) (q1 : Nat) (q2 : Nat) : KF (fun x => x = j) M (sX0_becomeProduct M j q1 q2) := by
  unfold sX0_becomeProduct
  refine tk_ind (P := KF (fun x => x = j) M) _ _ (fun M1 hM1 => ?_)
  have k1 : KF (fun x => x = j) M M1 := by rw [hM1]; exact KF.mono (kfX0_fill _ _ _ _ _ _) (fun x h => by first | exact h | ((try dsimp only at h ⊢); omega))
  exact (show KF (fun x => x = j) M M1 from k1)
def sX0_invert (M : Mem) (j : Nat) : Int32 × Mem :=
  if (fX0_determinant M j) = 0 then
  (0, M)
  else
  tk (sX0_fill M j (M.1 j 3) (fX1_minus 0 (M.1 j 1)) (fX1_minus 0 (M.1 j 2)) (M.1 j 0)) fun M1 =>
  tk (sX0_divideBy M1 j (fX0_determinant M j)) fun M2 =>
  (1, M2)
set_option maxHeartbeats 4000000 in
set_option maxRecDepth 100000 in
theorem kX0_invert (l : Launch) (D : va_G) (cy : Nat → ClassId) (z : Nat → Nat) (hz : zI z) (M : Mem) (j : Nat) (hj : j < 0 + 100) (hkj : kd j = 0) : KI l yX0_invert wsX0_invert { frames := 3, cells := 0, slots := 0, locals := 73 } D cy z 0 100 [.ref (z j)] M (fun r u => (r, u) = sX0_invert M j) := by
  refine met_wp (lv := [(0, .ref (z j))]) hz (by decide) (by decide) rfl rfl (Nat.le_of_ble_eq_true rfl) rfl ?_
  intro p e s m below meth c hc hx hr hk
  have hNW := hx.2.1
  have hin0 : ∀ w ∈ wsX00, w ∈ wsX0_invert := by decide +kernel
  have hf9 : Cond.fieldLink RX0 9 (TX0 0).1 (TX0 0).2.1 (TX0 0).2.2.1 ∈ wsX0_invert := by decide +kernel
  have hf15 : Cond.fieldLink RX0 15 (TX0 1).1 (TX0 1).2.1 (TX0 1).2.2.1 ∈ wsX0_invert := by decide +kernel
  have hf18 : Cond.fieldLink RX0 18 (TX0 2).1 (TX0 2).2.1 (TX0 2).2.2.1 ∈ wsX0_invert := by decide +kernel
  have hf21 : Cond.fieldLink RX0 21 (TX0 3).1 (TX0 3).2.1 (TX0 3).2.2.1 ∈ wsX0_invert := by decide +kernel
  have cw24 : CallW ({ frames := 3, cells := 0, slots := 0, locals := 73 }) s _ RX0 RX0 24 yX0_fill cX0_fill 5 none wsX0_fill ({ frames := 0, cells := 0, slots := 0, locals := 0 }) 0 0 4 := cwV 4 hc.2.2.2.2 gX0_invert_X0_fill rfl rfl rfl (by decide +kernel) ⟨Nat.le_of_ble_eq_true rfl, Nat.le_of_ble_eq_true rfl⟩
  have cw34 : CallB ({ frames := 3, cells := 0, slots := 0, locals := 73 }) s _ RX0 34 yX1_minus cX1_minus 2 (some .int) wsX1_minus ({ frames := 1, cells := 0, slots := 0, locals := 23 }) 0 0 2 ∧ (Cond.static yX1_minus).before _ s = true := va_cwS 2 hc.2.2.2.2 gX0_invert_X1_minus rfl rfl rfl (by decide +kernel) ⟨Nat.le_of_ble_eq_true rfl, Nat.le_of_ble_eq_true rfl⟩
  have cw44 : CallW ({ frames := 3, cells := 0, slots := 0, locals := 73 }) s _ RX0 RX0 44 yX0_determinant cX0_determinant 1 (some .int) wsX0_determinant ({ frames := 2, cells := 0, slots := 0, locals := 48 }) 0 0 0 := cwV 0 hc.2.2.2.2 gX0_invert_X0_determinant rfl rfl rfl (by decide +kernel) ⟨Nat.le_of_ble_eq_true rfl, Nat.le_of_ble_eq_true rfl⟩
  have cw48 : CallW ({ frames := 3, cells := 0, slots := 0, locals := 73 }) s _ RX0 RX0 48 yX0_divideBy cX0_divideBy 3 none wsX0_divideBy ({ frames := 2, cells := 0, slots := 0, locals := 51 }) 0 0 1 := cwV 1 hc.2.2.2.2 gX0_invert_X0_divideBy rfl rfl rfl (by decide +kernel) ⟨Nat.le_of_ble_eq_true rfl, Nat.le_of_ble_eq_true rfl⟩
  refine wp_aload_n hc 0 dX0_invert_0 rfl ?_
  refine wp_callVf (As := []) (rest := []) (j := j) (v := (fX0_determinant M j)) hc hx (kX0_determinant l D cy z hz M j hj hkj) cw44 (Nat.zero_le _) hj (ce_0 hkj) rfl rfl rfl rfl (Nat.le_of_ble_eq_true rfl) dX0_invert_1 ?_
  refine wp_istore_n (lv' := [(1, .int (fX0_determinant M j)), (0, .ref (z j))]) hc dX0_invert_4 (by decide) rfl ?_
  refine wp_iload_n hc 0 dX0_invert_5 rfl ?_
  refine wp_if_ne (tgt := 11) hc dX0_invert_6 (by decide) (fun c6 => ?_) (fun c6 => ?_)
  · refine wp_aload_n hc 1 dX0_invert_11 rfl ?_
    refine wp_aload_n hc 1 dX0_invert_12 rfl ?_
    refine wp_get hc hx hin0 (j := j) (Nat.zero_le _) hj (ce_0 hkj) rfl 3 (by decide) hf21 rfl dX0_invert_13 ?_
    refine wp_iconst (v := 0) hc dX0_invert_16 (by decide) ?_
    refine wp_aload_n hc 1 dX0_invert_17 rfl ?_
    refine wp_get hc hx hin0 (j := j) (Nat.zero_le _) hj (ce_0 hkj) rfl 1 (by decide) hf15 rfl dX0_invert_18 ?_
    refine wp_callSg (As := [.int 0, .int (M.1 j 1)]) (rest := [.int (M.1 j 3), .ref (z j)]) (v := (fX1_minus 0 (M.1 j 1))) hc hNW (kX1_minus l 0 (M.1 j 1)) cw34 rfl rfl (Nat.le_of_ble_eq_true rfl) dX0_invert_21 ?_
    refine wp_iconst (v := 0) hc dX0_invert_24 (by decide) ?_
    refine wp_aload_n hc 1 dX0_invert_25 rfl ?_
    refine wp_get hc hx hin0 (j := j) (Nat.zero_le _) hj (ce_0 hkj) rfl 2 (by decide) hf18 rfl dX0_invert_26 ?_
    refine wp_callSg (As := [.int 0, .int (M.1 j 2)]) (rest := [.int (fX1_minus 0 (M.1 j 1)), .int (M.1 j 3), .ref (z j)]) (v := (fX1_minus 0 (M.1 j 2))) hc hNW (kX1_minus l 0 (M.1 j 2)) cw34 rfl rfl (Nat.le_of_ble_eq_true rfl) dX0_invert_29 ?_
    refine wp_aload_n hc 1 dX0_invert_32 rfl ?_
    refine wp_get hc hx hin0 (j := j) (Nat.zero_le _) hj (ce_0 hkj) rfl 0 (by decide) hf9 rfl dX0_invert_33 ?_
    refine wp_callVvw (As := [.int (M.1 j 3), .int (fX1_minus 0 (M.1 j 1)), .int (fX1_minus 0 (M.1 j 2)), .int (M.1 j 0)]) (rest := []) (j := j) (w := sX0_fill M j (M.1 j 3) (fX1_minus 0 (M.1 j 1)) (fX1_minus 0 (M.1 j 2)) (M.1 j 0)) hc hx (kX0_fill l D cy z hz M j (M.1 j 3) (fX1_minus 0 (M.1 j 1)) (fX1_minus 0 (M.1 j 2)) (M.1 j 0) hj hkj) cw24 (Nat.zero_le _) hj (ce_0 hkj) rfl rfl rfl rfl (Nat.le_of_ble_eq_true rfl) dX0_invert_36 (fun M1 hM1 => ?_)
    refine wp_aload_n hc 1 dX0_invert_39 rfl ?_
    refine wp_iload_n hc 0 dX0_invert_40 rfl ?_
    refine wp_callVvw (As := [.int (fX0_determinant M j)]) (rest := []) (j := j) (w := sX0_divideBy M1 j (fX0_determinant M j)) hc hx (kX0_divideBy l D cy z hz M1 j (fX0_determinant M j) hj hkj) cw48 (Nat.zero_le _) hj (ce_0 hkj) rfl rfl rfl rfl (Nat.le_of_ble_eq_true rfl) dX0_invert_41 (fun M2 hM2 => ?_)
    refine wp_iconst (v := 1) hc dX0_invert_44 (by decide) ?_
    refine wp_zret hc hr hk rfl ?_ dX0_invert_45
    show (1, M2) = sX0_invert M j
    rw [sX0_invert, if_neg c6, tk_eq hM1, tk_eq hM2]
  refine wp_iconst (v := 0) hc dX0_invert_9 (by decide) ?_
  refine wp_zret hc hr hk rfl ?_ dX0_invert_10
  show (0, M) = sX0_invert M j
  rw [sX0_invert, if_pos c6]
set_option maxRecDepth 10000 in
theorem kfX0_invert (M : Mem) (j : Nat) : KF2 (fun x => x = j) M (sX0_invert M j) := by
  unfold sX0_invert
  refine ite_ind (P := KF2 (fun x => x = j) M) (fun c1 => ?_) (fun c1 => ?_)
  · exact (show KF (fun x => x = j) M M from KF.rf)
  · refine tk_ind (P := KF2 (fun x => x = j) M) _ _ (fun M1 hM1 => ?_)
    have k2 : KF (fun x => x = j) M M1 := by rw [hM1]; exact KF.mono (kfX0_fill _ _ _ _ _ _) (fun x h => by first | exact h | ((try dsimp only at h ⊢); omega))
    refine tk_ind (P := KF2 (fun x => x = j) M) _ _ (fun M2 hM2 => ?_)
    have k3 : KF (fun x => x = j) M1 M2 := by rw [hM2]; exact KF.mono (kfX0_divideBy _ _ _) (fun x h => by first | exact h | ((try dsimp only at h ⊢); omega))
    exact (show KF (fun x => x = j) M M2 from KF.trans k2 (k3))
theorem bX0_invert (M : Mem) (j : Nat) : B01 (sX0_invert M j) := by
  unfold sX0_invert
  refine ite_ind (P := B01) (fun _ => ?_) (fun _ => ?_)
  · exact (show _ ∨ _ from Or.inl rfl)
  · refine tk_ind (P := B01) _ _ (fun M1 hM1 => ?_)
    refine tk_ind (P := B01) _ _ (fun M2 hM2 => ?_)
    exact (show _ ∨ _ from Or.inr rfl)
def sX0_becomeTransfer (M : Mem) (j : Nat) (q1 : Nat) : Int32 × Mem :=
  if (M.1 q1 2) = 0 then
  (0, M)
  else
  tk (sX0_fill M j (fX1_minus 0 (fX0_determinant M q1)) (M.1 q1 0) (fX1_minus 0 (M.1 q1 3)) 10007) fun M1 =>
  tk (sX0_divideBy M1 j (M.1 q1 2)) fun M2 =>
  (1, M2)
set_option maxHeartbeats 4000000 in
set_option maxRecDepth 100000 in
theorem kX0_becomeTransfer (l : Launch) (D : va_G) (cy : Nat → ClassId) (z : Nat → Nat) (hz : zI z) (M : Mem) (j : Nat) (q1 : Nat) (hj : j < 0 + 100) (hkj : kd j = 0) (hjq1 : q1 < 0 + 100) (hkq1 : kd q1 = 0) : KI l yX0_becomeTransfer wsX0_becomeTransfer { frames := 3, cells := 0, slots := 0, locals := 73 } D cy z 0 100 [.ref (z j), .ref (z q1)] M (fun r u => (r, u) = sX0_becomeTransfer M j q1) := by
  refine met_wp (lv := [(0, .ref (z j)), (1, .ref (z q1))]) hz (by decide) (by decide) rfl rfl (Nat.le_of_ble_eq_true rfl) rfl ?_
  intro p e s m below meth c hc hx hr hk
  have hNW := hx.2.1
  have hin0 : ∀ w ∈ wsX00, w ∈ wsX0_becomeTransfer := by decide +kernel
  have hf9 : Cond.fieldLink RX0 9 (TX0 0).1 (TX0 0).2.1 (TX0 0).2.2.1 ∈ wsX0_becomeTransfer := by decide +kernel
  have hf18 : Cond.fieldLink RX0 18 (TX0 2).1 (TX0 2).2.1 (TX0 2).2.2.1 ∈ wsX0_becomeTransfer := by decide +kernel
  have hf21 : Cond.fieldLink RX0 21 (TX0 3).1 (TX0 3).2.1 (TX0 3).2.2.1 ∈ wsX0_becomeTransfer := by decide +kernel
  have cw24 : CallW ({ frames := 3, cells := 0, slots := 0, locals := 73 }) s _ RX0 RX0 24 yX0_fill cX0_fill 5 none wsX0_fill ({ frames := 0, cells := 0, slots := 0, locals := 0 }) 0 0 4 := cwV 4 hc.2.2.2.2 gX0_becomeTransfer_X0_fill rfl rfl rfl (by decide +kernel) ⟨Nat.le_of_ble_eq_true rfl, Nat.le_of_ble_eq_true rfl⟩
  have cw34 : CallB ({ frames := 3, cells := 0, slots := 0, locals := 73 }) s _ RX0 34 yX1_minus cX1_minus 2 (some .int) wsX1_minus ({ frames := 1, cells := 0, slots := 0, locals := 23 }) 0 0 2 ∧ (Cond.static yX1_minus).before _ s = true := va_cwS 2 hc.2.2.2.2 gX0_becomeTransfer_X1_minus rfl rfl rfl (by decide +kernel) ⟨Nat.le_of_ble_eq_true rfl, Nat.le_of_ble_eq_true rfl⟩
  have cw44 : CallW ({ frames := 3, cells := 0, slots := 0, locals := 73 }) s _ RX0 RX0 44 yX0_determinant cX0_determinant 1 (some .int) wsX0_determinant ({ frames := 2, cells := 0, slots := 0, locals := 48 }) 0 0 0 := cwV 0 hc.2.2.2.2 gX0_becomeTransfer_X0_determinant rfl rfl rfl (by decide +kernel) ⟨Nat.le_of_ble_eq_true rfl, Nat.le_of_ble_eq_true rfl⟩
  have cw48 : CallW ({ frames := 3, cells := 0, slots := 0, locals := 73 }) s _ RX0 RX0 48 yX0_divideBy cX0_divideBy 3 none wsX0_divideBy ({ frames := 2, cells := 0, slots := 0, locals := 51 }) 0 0 1 := cwV 1 hc.2.2.2.2 gX0_becomeTransfer_X0_divideBy rfl rfl rfl (by decide +kernel) ⟨Nat.le_of_ble_eq_true rfl, Nat.le_of_ble_eq_true rfl⟩
  refine wp_aload_n hc 1 dX0_becomeTransfer_0 rfl ?_
  refine wp_get hc hx hin0 (j := q1) (Nat.zero_le _) hjq1 (ce_0 hkq1) rfl 2 (by decide) hf18 rfl dX0_becomeTransfer_1 ?_
  refine wp_if_ne (tgt := 9) hc dX0_becomeTransfer_4 (by decide) (fun c4 => ?_) (fun c4 => ?_)
  · refine wp_aload_n hc 1 dX0_becomeTransfer_9 rfl ?_
    refine wp_get hc hx hin0 (j := q1) (Nat.zero_le _) hjq1 (ce_0 hkq1) rfl 2 (by decide) hf18 rfl dX0_becomeTransfer_10 ?_
    refine wp_istore_n (lv' := [(2, .int (M.1 q1 2)), (0, .ref (z j)), (1, .ref (z q1))]) hc dX0_becomeTransfer_13 (by decide) rfl ?_
    refine wp_aload_n hc 1 dX0_becomeTransfer_14 rfl ?_
    refine wp_iconst (v := 0) hc dX0_becomeTransfer_15 (by decide) ?_
    refine wp_aload_n hc 2 dX0_becomeTransfer_16 rfl ?_
    refine wp_callVf (As := []) (rest := [.int 0, .ref (z j)]) (j := q1) (v := (fX0_determinant M q1)) hc hx (kX0_determinant l D cy z hz M q1 hjq1 hkq1) cw44 (Nat.zero_le _) hjq1 (ce_0 hkq1) rfl rfl rfl rfl (Nat.le_of_ble_eq_true rfl) dX0_becomeTransfer_17 ?_
    refine wp_callSg (As := [.int 0, .int (fX0_determinant M q1)]) (rest := [.ref (z j)]) (v := (fX1_minus 0 (fX0_determinant M q1))) hc hNW (kX1_minus l 0 (fX0_determinant M q1)) cw34 rfl rfl (Nat.le_of_ble_eq_true rfl) dX0_becomeTransfer_20 ?_
    refine wp_aload_n hc 2 dX0_becomeTransfer_23 rfl ?_
    refine wp_get hc hx hin0 (j := q1) (Nat.zero_le _) hjq1 (ce_0 hkq1) rfl 0 (by decide) hf9 rfl dX0_becomeTransfer_24 ?_
    refine wp_iconst (v := 0) hc dX0_becomeTransfer_27 (by decide) ?_
    refine wp_aload_n hc 2 dX0_becomeTransfer_28 rfl ?_
    refine wp_get hc hx hin0 (j := q1) (Nat.zero_le _) hjq1 (ce_0 hkq1) rfl 3 (by decide) hf21 rfl dX0_becomeTransfer_29 ?_
    refine wp_callSg (As := [.int 0, .int (M.1 q1 3)]) (rest := [.int (M.1 q1 0), .int (fX1_minus 0 (fX0_determinant M q1)), .ref (z j)]) (v := (fX1_minus 0 (M.1 q1 3))) hc hNW (kX1_minus l 0 (M.1 q1 3)) cw34 rfl rfl (Nat.le_of_ble_eq_true rfl) dX0_becomeTransfer_32 ?_
    refine wp_sipush (v := 10007) hc dX0_becomeTransfer_35 (by decide) ?_
    refine wp_callVvw (As := [.int (fX1_minus 0 (fX0_determinant M q1)), .int (M.1 q1 0), .int (fX1_minus 0 (M.1 q1 3)), .int 10007]) (rest := []) (j := j) (w := sX0_fill M j (fX1_minus 0 (fX0_determinant M q1)) (M.1 q1 0) (fX1_minus 0 (M.1 q1 3)) 10007) hc hx (kX0_fill l D cy z hz M j (fX1_minus 0 (fX0_determinant M q1)) (M.1 q1 0) (fX1_minus 0 (M.1 q1 3)) 10007 hj hkj) cw24 (Nat.zero_le _) hj (ce_0 hkj) rfl rfl rfl rfl (Nat.le_of_ble_eq_true rfl) dX0_becomeTransfer_38 (fun M1 hM1 => ?_)
    refine wp_aload_n hc 1 dX0_becomeTransfer_41 rfl ?_
    refine wp_iload_n hc 0 dX0_becomeTransfer_42 rfl ?_
    refine wp_callVvw (As := [.int (M.1 q1 2)]) (rest := []) (j := j) (w := sX0_divideBy M1 j (M.1 q1 2)) hc hx (kX0_divideBy l D cy z hz M1 j (M.1 q1 2) hj hkj) cw48 (Nat.zero_le _) hj (ce_0 hkj) rfl rfl rfl rfl (Nat.le_of_ble_eq_true rfl) dX0_becomeTransfer_43 (fun M2 hM2 => ?_)
    refine wp_iconst (v := 1) hc dX0_becomeTransfer_46 (by decide) ?_
    refine wp_zret hc hr hk rfl ?_ dX0_becomeTransfer_47
    show (1, M2) = sX0_becomeTransfer M j q1
    rw [sX0_becomeTransfer, if_neg c4, tk_eq hM1, tk_eq hM2]
  refine wp_iconst (v := 0) hc dX0_becomeTransfer_7 (by decide) ?_
  refine wp_zret hc hr hk rfl ?_ dX0_becomeTransfer_8
  show (0, M) = sX0_becomeTransfer M j q1
  rw [sX0_becomeTransfer, if_pos c4]
set_option maxRecDepth 10000 in
theorem kfX0_becomeTransfer (M : Mem) (j : Nat) (q1 : Nat) : KF2 (fun x => x = j) M (sX0_becomeTransfer M j q1) := by
  unfold sX0_becomeTransfer
  refine ite_ind (P := KF2 (fun x => x = j) M) (fun c1 => ?_) (fun c1 => ?_)
  · exact (show KF (fun x => x = j) M M from KF.rf)
  · refine tk_ind (P := KF2 (fun x => x = j) M) _ _ (fun M1 hM1 => ?_)
    have k2 : KF (fun x => x = j) M M1 := by rw [hM1]; exact KF.mono (kfX0_fill _ _ _ _ _ _) (fun x h => by first | exact h | ((try dsimp only at h ⊢); omega))
    refine tk_ind (P := KF2 (fun x => x = j) M) _ _ (fun M2 hM2 => ?_)
    have k3 : KF (fun x => x = j) M1 M2 := by rw [hM2]; exact KF.mono (kfX0_divideBy _ _ _) (fun x h => by first | exact h | ((try dsimp only at h ⊢); omega))
    exact (show KF (fun x => x = j) M M2 from KF.trans k2 (k3))
theorem bX0_becomeTransfer (M : Mem) (j : Nat) (q1 : Nat) : B01 (sX0_becomeTransfer M j q1) := by
  unfold sX0_becomeTransfer
  refine ite_ind (P := B01) (fun _ => ?_) (fun _ => ?_)
  · exact (show _ ∨ _ from Or.inl rfl)
  · refine tk_ind (P := B01) _ _ (fun M1 hM1 => ?_)
    refine tk_ind (P := B01) _ _ (fun M2 hM2 => ?_)
    exact (show _ ∨ _ from Or.inr rfl)
def sX0_becomeBoxOf (M : Mem) (j : Nat) (q1 : Nat) : Int32 × Mem :=
  if (M.1 q1 3) = 0 then
  (0, M)
  else
  tk (sX0_fill M j (M.1 q1 1) (fX0_determinant M q1) 10007 (fX1_minus 0 (M.1 q1 2))) fun M1 =>
  tk (sX0_divideBy M1 j (M.1 q1 3)) fun M2 =>
  (1, M2)
set_option maxHeartbeats 4000000 in
set_option maxRecDepth 100000 in
theorem kX0_becomeBoxOf (l : Launch) (D : va_G) (cy : Nat → ClassId) (z : Nat → Nat) (hz : zI z) (M : Mem) (j : Nat) (q1 : Nat) (hj : j < 0 + 100) (hkj : kd j = 0) (hjq1 : q1 < 0 + 100) (hkq1 : kd q1 = 0) : KI l yX0_becomeBoxOf wsX0_becomeBoxOf { frames := 3, cells := 0, slots := 0, locals := 73 } D cy z 0 100 [.ref (z j), .ref (z q1)] M (fun r u => (r, u) = sX0_becomeBoxOf M j q1) := by
  refine met_wp (lv := [(0, .ref (z j)), (1, .ref (z q1))]) hz (by decide) (by decide) rfl rfl (Nat.le_of_ble_eq_true rfl) rfl ?_
  intro p e s m below meth c hc hx hr hk
  have hNW := hx.2.1
  have hin0 : ∀ w ∈ wsX00, w ∈ wsX0_becomeBoxOf := by decide +kernel
  have hf15 : Cond.fieldLink RX0 15 (TX0 1).1 (TX0 1).2.1 (TX0 1).2.2.1 ∈ wsX0_becomeBoxOf := by decide +kernel
  have hf18 : Cond.fieldLink RX0 18 (TX0 2).1 (TX0 2).2.1 (TX0 2).2.2.1 ∈ wsX0_becomeBoxOf := by decide +kernel
  have hf21 : Cond.fieldLink RX0 21 (TX0 3).1 (TX0 3).2.1 (TX0 3).2.2.1 ∈ wsX0_becomeBoxOf := by decide +kernel
  have cw24 : CallW ({ frames := 3, cells := 0, slots := 0, locals := 73 }) s _ RX0 RX0 24 yX0_fill cX0_fill 5 none wsX0_fill ({ frames := 0, cells := 0, slots := 0, locals := 0 }) 0 0 4 := cwV 4 hc.2.2.2.2 gX0_becomeBoxOf_X0_fill rfl rfl rfl (by decide +kernel) ⟨Nat.le_of_ble_eq_true rfl, Nat.le_of_ble_eq_true rfl⟩
  have cw34 : CallB ({ frames := 3, cells := 0, slots := 0, locals := 73 }) s _ RX0 34 yX1_minus cX1_minus 2 (some .int) wsX1_minus ({ frames := 1, cells := 0, slots := 0, locals := 23 }) 0 0 2 ∧ (Cond.static yX1_minus).before _ s = true := va_cwS 2 hc.2.2.2.2 gX0_becomeBoxOf_X1_minus rfl rfl rfl (by decide +kernel) ⟨Nat.le_of_ble_eq_true rfl, Nat.le_of_ble_eq_true rfl⟩
  have cw44 : CallW ({ frames := 3, cells := 0, slots := 0, locals := 73 }) s _ RX0 RX0 44 yX0_determinant cX0_determinant 1 (some .int) wsX0_determinant ({ frames := 2, cells := 0, slots := 0, locals := 48 }) 0 0 0 := cwV 0 hc.2.2.2.2 gX0_becomeBoxOf_X0_determinant rfl rfl rfl (by decide +kernel) ⟨Nat.le_of_ble_eq_true rfl, Nat.le_of_ble_eq_true rfl⟩
  have cw48 : CallW ({ frames := 3, cells := 0, slots := 0, locals := 73 }) s _ RX0 RX0 48 yX0_divideBy cX0_divideBy 3 none wsX0_divideBy ({ frames := 2, cells := 0, slots := 0, locals := 51 }) 0 0 1 := cwV 1 hc.2.2.2.2 gX0_becomeBoxOf_X0_divideBy rfl rfl rfl (by decide +kernel) ⟨Nat.le_of_ble_eq_true rfl, Nat.le_of_ble_eq_true rfl⟩
  refine wp_aload_n hc 1 dX0_becomeBoxOf_0 rfl ?_
  refine wp_get hc hx hin0 (j := q1) (Nat.zero_le _) hjq1 (ce_0 hkq1) rfl 3 (by decide) hf21 rfl dX0_becomeBoxOf_1 ?_
  refine wp_if_ne (tgt := 9) hc dX0_becomeBoxOf_4 (by decide) (fun c4 => ?_) (fun c4 => ?_)
  · refine wp_aload_n hc 1 dX0_becomeBoxOf_9 rfl ?_
    refine wp_get hc hx hin0 (j := q1) (Nat.zero_le _) hjq1 (ce_0 hkq1) rfl 3 (by decide) hf21 rfl dX0_becomeBoxOf_10 ?_
    refine wp_istore_n (lv' := [(2, .int (M.1 q1 3)), (0, .ref (z j)), (1, .ref (z q1))]) hc dX0_becomeBoxOf_13 (by decide) rfl ?_
    refine wp_aload_n hc 1 dX0_becomeBoxOf_14 rfl ?_
    refine wp_aload_n hc 2 dX0_becomeBoxOf_15 rfl ?_
    refine wp_get hc hx hin0 (j := q1) (Nat.zero_le _) hjq1 (ce_0 hkq1) rfl 1 (by decide) hf15 rfl dX0_becomeBoxOf_16 ?_
    refine wp_aload_n hc 2 dX0_becomeBoxOf_19 rfl ?_
    refine wp_callVf (As := []) (rest := [.int (M.1 q1 1), .ref (z j)]) (j := q1) (v := (fX0_determinant M q1)) hc hx (kX0_determinant l D cy z hz M q1 hjq1 hkq1) cw44 (Nat.zero_le _) hjq1 (ce_0 hkq1) rfl rfl rfl rfl (Nat.le_of_ble_eq_true rfl) dX0_becomeBoxOf_20 ?_
    refine wp_sipush (v := 10007) hc dX0_becomeBoxOf_23 (by decide) ?_
    refine wp_iconst (v := 0) hc dX0_becomeBoxOf_26 (by decide) ?_
    refine wp_aload_n hc 2 dX0_becomeBoxOf_27 rfl ?_
    refine wp_get hc hx hin0 (j := q1) (Nat.zero_le _) hjq1 (ce_0 hkq1) rfl 2 (by decide) hf18 rfl dX0_becomeBoxOf_28 ?_
    refine wp_callSg (As := [.int 0, .int (M.1 q1 2)]) (rest := [.int 10007, .int (fX0_determinant M q1), .int (M.1 q1 1), .ref (z j)]) (v := (fX1_minus 0 (M.1 q1 2))) hc hNW (kX1_minus l 0 (M.1 q1 2)) cw34 rfl rfl (Nat.le_of_ble_eq_true rfl) dX0_becomeBoxOf_31 ?_
    refine wp_callVvw (As := [.int (M.1 q1 1), .int (fX0_determinant M q1), .int 10007, .int (fX1_minus 0 (M.1 q1 2))]) (rest := []) (j := j) (w := sX0_fill M j (M.1 q1 1) (fX0_determinant M q1) 10007 (fX1_minus 0 (M.1 q1 2))) hc hx (kX0_fill l D cy z hz M j (M.1 q1 1) (fX0_determinant M q1) 10007 (fX1_minus 0 (M.1 q1 2)) hj hkj) cw24 (Nat.zero_le _) hj (ce_0 hkj) rfl rfl rfl rfl (Nat.le_of_ble_eq_true rfl) dX0_becomeBoxOf_34 (fun M1 hM1 => ?_)
    refine wp_aload_n hc 1 dX0_becomeBoxOf_37 rfl ?_
    refine wp_iload_n hc 0 dX0_becomeBoxOf_38 rfl ?_
    refine wp_callVvw (As := [.int (M.1 q1 3)]) (rest := []) (j := j) (w := sX0_divideBy M1 j (M.1 q1 3)) hc hx (kX0_divideBy l D cy z hz M1 j (M.1 q1 3) hj hkj) cw48 (Nat.zero_le _) hj (ce_0 hkj) rfl rfl rfl rfl (Nat.le_of_ble_eq_true rfl) dX0_becomeBoxOf_39 (fun M2 hM2 => ?_)
    refine wp_iconst (v := 1) hc dX0_becomeBoxOf_42 (by decide) ?_
    refine wp_zret hc hr hk rfl ?_ dX0_becomeBoxOf_43
    show (1, M2) = sX0_becomeBoxOf M j q1
    rw [sX0_becomeBoxOf, if_neg c4, tk_eq hM1, tk_eq hM2]
  refine wp_iconst (v := 0) hc dX0_becomeBoxOf_7 (by decide) ?_
  refine wp_zret hc hr hk rfl ?_ dX0_becomeBoxOf_8
  show (0, M) = sX0_becomeBoxOf M j q1
  rw [sX0_becomeBoxOf, if_pos c4]
set_option maxRecDepth 10000 in
theorem kfX0_becomeBoxOf (M : Mem) (j : Nat) (q1 : Nat) : KF2 (fun x => x = j) M (sX0_becomeBoxOf M j q1) := by
  unfold sX0_becomeBoxOf
  refine ite_ind (P := KF2 (fun x => x = j) M) (fun c1 => ?_) (fun c1 => ?_)
  · exact (show KF (fun x => x = j) M M from KF.rf)
  · refine tk_ind (P := KF2 (fun x => x = j) M) _ _ (fun M1 hM1 => ?_)
    have k2 : KF (fun x => x = j) M M1 := by rw [hM1]; exact KF.mono (kfX0_fill _ _ _ _ _ _) (fun x h => by first | exact h | ((try dsimp only at h ⊢); omega))
    refine tk_ind (P := KF2 (fun x => x = j) M) _ _ (fun M2 hM2 => ?_)
    have k3 : KF (fun x => x = j) M1 M2 := by rw [hM2]; exact KF.mono (kfX0_divideBy _ _ _) (fun x h => by first | exact h | ((try dsimp only at h ⊢); omega))
    exact (show KF (fun x => x = j) M M2 from KF.trans k2 (k3))
theorem bX0_becomeBoxOf (M : Mem) (j : Nat) (q1 : Nat) : B01 (sX0_becomeBoxOf M j q1) := by
  unfold sX0_becomeBoxOf
  refine ite_ind (P := B01) (fun _ => ?_) (fun _ => ?_)
  · exact (show _ ∨ _ from Or.inl rfl)
  · refine tk_ind (P := B01) _ _ (fun M1 hM1 => ?_)
    refine tk_ind (P := B01) _ _ (fun M2 hM2 => ?_)
    exact (show _ ∨ _ from Or.inr rfl)
def sX0_becomeSecondForm (M : Mem) (j : Nat) (q1 : Nat) : Int32 × Mem :=
  tk ((fX1_minus (fX1_times (fX1_minus 10007 (M.1 q1 0)) (fX1_minus 10007 (M.1 q1 3))) (fX1_times (M.1 q1 1) (M.1 q1 2)))) fun x1 =>
  if x1 = 0 then
  (0, M)
  else
  tk (sX0_fill M j (fX1_plus (fX1_times (fX1_plus 10007 (M.1 q1 0)) (fX1_minus 10007 (M.1 q1 3))) (fX1_times (M.1 q1 1) (M.1 q1 2))) (fX1_times 20014 (M.1 q1 1)) (fX1_times 20014 (M.1 q1 2)) (fX1_plus (fX1_times (fX1_minus 10007 (M.1 q1 0)) (fX1_plus 10007 (M.1 q1 3))) (fX1_times (M.1 q1 1) (M.1 q1 2)))) fun M2 =>
  tk (sX0_divideBy M2 j x1) fun M3 =>
  (1, M3)
set_option maxHeartbeats 4000000 in
set_option maxRecDepth 100000 in
theorem kX0_becomeSecondForm (l : Launch) (D : va_G) (cy : Nat → ClassId) (z : Nat → Nat) (hz : zI z) (M : Mem) (j : Nat) (q1 : Nat) (hj : j < 0 + 100) (hkj : kd j = 0) (hjq1 : q1 < 0 + 100) (hkq1 : kd q1 = 0) : KI l yX0_becomeSecondForm wsX0_becomeSecondForm { frames := 3, cells := 0, slots := 0, locals := 73 } D cy z 0 100 [.ref (z j), .ref (z q1)] M (fun r u => (r, u) = sX0_becomeSecondForm M j q1) := by
  refine met_wp (lv := [(0, .ref (z j)), (1, .ref (z q1))]) hz (by decide) (by decide) rfl rfl (Nat.le_of_ble_eq_true rfl) rfl ?_
  intro p e s m below meth c hc hx hr hk
  have hNW := hx.2.1
  have hin0 : ∀ w ∈ wsX00, w ∈ wsX0_becomeSecondForm := by decide +kernel
  have hf9 : Cond.fieldLink RX0 9 (TX0 0).1 (TX0 0).2.1 (TX0 0).2.2.1 ∈ wsX0_becomeSecondForm := by decide +kernel
  have hf15 : Cond.fieldLink RX0 15 (TX0 1).1 (TX0 1).2.1 (TX0 1).2.2.1 ∈ wsX0_becomeSecondForm := by decide +kernel
  have hf18 : Cond.fieldLink RX0 18 (TX0 2).1 (TX0 2).2.1 (TX0 2).2.2.1 ∈ wsX0_becomeSecondForm := by decide +kernel
  have hf21 : Cond.fieldLink RX0 21 (TX0 3).1 (TX0 3).2.1 (TX0 3).2.2.1 ∈ wsX0_becomeSecondForm := by decide +kernel
  have cw24 : CallW ({ frames := 3, cells := 0, slots := 0, locals := 73 }) s _ RX0 RX0 24 yX0_fill cX0_fill 5 none wsX0_fill ({ frames := 0, cells := 0, slots := 0, locals := 0 }) 0 0 4 := cwV 4 hc.2.2.2.2 gX0_becomeSecondForm_X0_fill rfl rfl rfl (by decide +kernel) ⟨Nat.le_of_ble_eq_true rfl, Nat.le_of_ble_eq_true rfl⟩
  have cw28 : CallB ({ frames := 3, cells := 0, slots := 0, locals := 73 }) s _ RX0 28 yX1_times cX1_times 6 (some .int) wsX1_times ({ frames := 1, cells := 0, slots := 0, locals := 23 }) 0 0 2 ∧ (Cond.static yX1_times).before _ s = true := va_cwS 2 hc.2.2.2.2 gX0_becomeSecondForm_X1_times rfl rfl rfl (by decide +kernel) ⟨Nat.le_of_ble_eq_true rfl, Nat.le_of_ble_eq_true rfl⟩
  have cw34 : CallB ({ frames := 3, cells := 0, slots := 0, locals := 73 }) s _ RX0 34 yX1_minus cX1_minus 2 (some .int) wsX1_minus ({ frames := 1, cells := 0, slots := 0, locals := 23 }) 0 0 2 ∧ (Cond.static yX1_minus).before _ s = true := va_cwS 2 hc.2.2.2.2 gX0_becomeSecondForm_X1_minus rfl rfl rfl (by decide +kernel) ⟨Nat.le_of_ble_eq_true rfl, Nat.le_of_ble_eq_true rfl⟩
  have cw48 : CallW ({ frames := 3, cells := 0, slots := 0, locals := 73 }) s _ RX0 RX0 48 yX0_divideBy cX0_divideBy 3 none wsX0_divideBy ({ frames := 2, cells := 0, slots := 0, locals := 51 }) 0 0 1 := cwV 1 hc.2.2.2.2 gX0_becomeSecondForm_X0_divideBy rfl rfl rfl (by decide +kernel) ⟨Nat.le_of_ble_eq_true rfl, Nat.le_of_ble_eq_true rfl⟩
  have cw52 : CallB ({ frames := 3, cells := 0, slots := 0, locals := 73 }) s _ RX0 52 yX1_plus cX1_plus 2 (some .int) wsX1_plus ({ frames := 1, cells := 0, slots := 0, locals := 23 }) 0 0 2 ∧ (Cond.static yX1_plus).before _ s = true := va_cwS 2 hc.2.2.2.2 gX0_becomeSecondForm_X1_plus rfl rfl rfl (by decide +kernel) ⟨Nat.le_of_ble_eq_true rfl, Nat.le_of_ble_eq_true rfl⟩
  refine wp_sipush (v := 10007) hc dX0_becomeSecondForm_0 (by decide) ?_
  refine wp_aload_n hc 1 dX0_becomeSecondForm_3 rfl ?_
  refine wp_get hc hx hin0 (j := q1) (Nat.zero_le _) hjq1 (ce_0 hkq1) rfl 0 (by decide) hf9 rfl dX0_becomeSecondForm_4 ?_
  refine wp_callSg (As := [.int 10007, .int (M.1 q1 0)]) (rest := []) (v := (fX1_minus 10007 (M.1 q1 0))) hc hNW (kX1_minus l 10007 (M.1 q1 0)) cw34 rfl rfl (Nat.le_of_ble_eq_true rfl) dX0_becomeSecondForm_7 ?_
  refine wp_istore_n (lv' := [(2, .int (fX1_minus 10007 (M.1 q1 0))), (0, .ref (z j)), (1, .ref (z q1))]) hc dX0_becomeSecondForm_10 (by decide) rfl ?_
  refine wp_sipush (v := 10007) hc dX0_becomeSecondForm_11 (by decide) ?_
  refine wp_aload_n hc 2 dX0_becomeSecondForm_14 rfl ?_
  refine wp_get hc hx hin0 (j := q1) (Nat.zero_le _) hjq1 (ce_0 hkq1) rfl 3 (by decide) hf21 rfl dX0_becomeSecondForm_15 ?_
  refine wp_callSg (As := [.int 10007, .int (M.1 q1 3)]) (rest := []) (v := (fX1_minus 10007 (M.1 q1 3))) hc hNW (kX1_minus l 10007 (M.1 q1 3)) cw34 rfl rfl (Nat.le_of_ble_eq_true rfl) dX0_becomeSecondForm_18 ?_
  refine wp_istore_n (lv' := [(3, .int (fX1_minus 10007 (M.1 q1 3))), (2, .int (fX1_minus 10007 (M.1 q1 0))), (0, .ref (z j)), (1, .ref (z q1))]) hc dX0_becomeSecondForm_21 (by decide) rfl ?_
  refine wp_sipush (v := 10007) hc dX0_becomeSecondForm_22 (by decide) ?_
  refine wp_aload_n hc 3 dX0_becomeSecondForm_25 rfl ?_
  refine wp_get hc hx hin0 (j := q1) (Nat.zero_le _) hjq1 (ce_0 hkq1) rfl 0 (by decide) hf9 rfl dX0_becomeSecondForm_26 ?_
  refine wp_callSg (As := [.int 10007, .int (M.1 q1 0)]) (rest := []) (v := (fX1_plus 10007 (M.1 q1 0))) hc hNW (kX1_plus l 10007 (M.1 q1 0)) cw52 rfl rfl (Nat.le_of_ble_eq_true rfl) dX0_becomeSecondForm_29 ?_
  refine wp_istore (lv' := [(4, .int (fX1_plus 10007 (M.1 q1 0))), (3, .int (fX1_minus 10007 (M.1 q1 3))), (2, .int (fX1_minus 10007 (M.1 q1 0))), (0, .ref (z j)), (1, .ref (z q1))]) hc dX0_becomeSecondForm_32 (by decide) rfl ?_
  refine wp_sipush (v := 10007) hc dX0_becomeSecondForm_34 (by decide) ?_
  refine wp_aload_n hc 4 dX0_becomeSecondForm_37 rfl ?_
  refine wp_get hc hx hin0 (j := q1) (Nat.zero_le _) hjq1 (ce_0 hkq1) rfl 3 (by decide) hf21 rfl dX0_becomeSecondForm_38 ?_
  refine wp_callSg (As := [.int 10007, .int (M.1 q1 3)]) (rest := []) (v := (fX1_plus 10007 (M.1 q1 3))) hc hNW (kX1_plus l 10007 (M.1 q1 3)) cw52 rfl rfl (Nat.le_of_ble_eq_true rfl) dX0_becomeSecondForm_41 ?_
  refine wp_istore (lv' := [(5, .int (fX1_plus 10007 (M.1 q1 3))), (4, .int (fX1_plus 10007 (M.1 q1 0))), (3, .int (fX1_minus 10007 (M.1 q1 3))), (2, .int (fX1_minus 10007 (M.1 q1 0))), (0, .ref (z j)), (1, .ref (z q1))]) hc dX0_becomeSecondForm_44 (by decide) rfl ?_
  refine wp_aload_n hc 5 dX0_becomeSecondForm_46 rfl ?_
  refine wp_get hc hx hin0 (j := q1) (Nat.zero_le _) hjq1 (ce_0 hkq1) rfl 1 (by decide) hf15 rfl dX0_becomeSecondForm_47 ?_
  refine wp_aload_n hc 5 dX0_becomeSecondForm_50 rfl ?_
  refine wp_get hc hx hin0 (j := q1) (Nat.zero_le _) hjq1 (ce_0 hkq1) rfl 2 (by decide) hf18 rfl dX0_becomeSecondForm_51 ?_
  refine wp_callSg (As := [.int (M.1 q1 1), .int (M.1 q1 2)]) (rest := []) (v := (fX1_times (M.1 q1 1) (M.1 q1 2))) hc hNW (kX1_times l (M.1 q1 1) (M.1 q1 2)) cw28 rfl rfl (Nat.le_of_ble_eq_true rfl) dX0_becomeSecondForm_54 ?_
  refine wp_istore (lv' := [(6, .int (fX1_times (M.1 q1 1) (M.1 q1 2))), (5, .int (fX1_plus 10007 (M.1 q1 3))), (4, .int (fX1_plus 10007 (M.1 q1 0))), (3, .int (fX1_minus 10007 (M.1 q1 3))), (2, .int (fX1_minus 10007 (M.1 q1 0))), (0, .ref (z j)), (1, .ref (z q1))]) hc dX0_becomeSecondForm_57 (by decide) rfl ?_
  refine wp_iload_n hc 4 dX0_becomeSecondForm_59 rfl ?_
  refine wp_iload_n hc 3 dX0_becomeSecondForm_60 rfl ?_
  refine wp_callSg (As := [.int (fX1_minus 10007 (M.1 q1 0)), .int (fX1_minus 10007 (M.1 q1 3))]) (rest := []) (v := (fX1_times (fX1_minus 10007 (M.1 q1 0)) (fX1_minus 10007 (M.1 q1 3)))) hc hNW (kX1_times l (fX1_minus 10007 (M.1 q1 0)) (fX1_minus 10007 (M.1 q1 3))) cw28 rfl rfl (Nat.le_of_ble_eq_true rfl) dX0_becomeSecondForm_61 ?_
  refine wp_iload hc 0 dX0_becomeSecondForm_64 rfl ?_
  refine wp_callSg (As := [.int (fX1_times (fX1_minus 10007 (M.1 q1 0)) (fX1_minus 10007 (M.1 q1 3))), .int (fX1_times (M.1 q1 1) (M.1 q1 2))]) (rest := []) (v := (fX1_minus (fX1_times (fX1_minus 10007 (M.1 q1 0)) (fX1_minus 10007 (M.1 q1 3))) (fX1_times (M.1 q1 1) (M.1 q1 2)))) hc hNW (kX1_minus l (fX1_times (fX1_minus 10007 (M.1 q1 0)) (fX1_minus 10007 (M.1 q1 3))) (fX1_times (M.1 q1 1) (M.1 q1 2))) cw34 rfl rfl (Nat.le_of_ble_eq_true rfl) dX0_becomeSecondForm_66 ?_
  refine wp_topi (fun x1 hx1 => ?_)
  refine wp_istore (lv' := [(7, .int x1), (6, .int (fX1_times (M.1 q1 1) (M.1 q1 2))), (5, .int (fX1_plus 10007 (M.1 q1 3))), (4, .int (fX1_plus 10007 (M.1 q1 0))), (3, .int (fX1_minus 10007 (M.1 q1 3))), (2, .int (fX1_minus 10007 (M.1 q1 0))), (0, .ref (z j)), (1, .ref (z q1))]) hc dX0_becomeSecondForm_69 (by decide) rfl ?_
  refine wp_iload hc 0 dX0_becomeSecondForm_71 rfl ?_
  refine wp_if_ne (tgt := 78) hc dX0_becomeSecondForm_73 (by decide) (fun c73 => ?_) (fun c73 => ?_)
  · refine wp_aload_n hc 6 dX0_becomeSecondForm_78 rfl ?_
    refine wp_iload hc 3 dX0_becomeSecondForm_79 rfl ?_
    refine wp_iload_n hc 4 dX0_becomeSecondForm_81 rfl ?_
    refine wp_callSg (As := [.int (fX1_plus 10007 (M.1 q1 0)), .int (fX1_minus 10007 (M.1 q1 3))]) (rest := [.ref (z j)]) (v := (fX1_times (fX1_plus 10007 (M.1 q1 0)) (fX1_minus 10007 (M.1 q1 3)))) hc hNW (kX1_times l (fX1_plus 10007 (M.1 q1 0)) (fX1_minus 10007 (M.1 q1 3))) cw28 rfl rfl (Nat.le_of_ble_eq_true rfl) dX0_becomeSecondForm_82 ?_
    refine wp_iload hc 1 dX0_becomeSecondForm_85 rfl ?_
    refine wp_callSg (As := [.int (fX1_times (fX1_plus 10007 (M.1 q1 0)) (fX1_minus 10007 (M.1 q1 3))), .int (fX1_times (M.1 q1 1) (M.1 q1 2))]) (rest := [.ref (z j)]) (v := (fX1_plus (fX1_times (fX1_plus 10007 (M.1 q1 0)) (fX1_minus 10007 (M.1 q1 3))) (fX1_times (M.1 q1 1) (M.1 q1 2)))) hc hNW (kX1_plus l (fX1_times (fX1_plus 10007 (M.1 q1 0)) (fX1_minus 10007 (M.1 q1 3))) (fX1_times (M.1 q1 1) (M.1 q1 2))) cw52 rfl rfl (Nat.le_of_ble_eq_true rfl) dX0_becomeSecondForm_87 ?_
    refine wp_sipush (v := 20014) hc dX0_becomeSecondForm_90 (by decide) ?_
    refine wp_aload_n hc 7 dX0_becomeSecondForm_93 rfl ?_
    refine wp_get hc hx hin0 (j := q1) (Nat.zero_le _) hjq1 (ce_0 hkq1) rfl 1 (by decide) hf15 rfl dX0_becomeSecondForm_94 ?_
    refine wp_callSg (As := [.int 20014, .int (M.1 q1 1)]) (rest := [.int (fX1_plus (fX1_times (fX1_plus 10007 (M.1 q1 0)) (fX1_minus 10007 (M.1 q1 3))) (fX1_times (M.1 q1 1) (M.1 q1 2))), .ref (z j)]) (v := (fX1_times 20014 (M.1 q1 1))) hc hNW (kX1_times l 20014 (M.1 q1 1)) cw28 rfl rfl (Nat.le_of_ble_eq_true rfl) dX0_becomeSecondForm_97 ?_
    refine wp_sipush (v := 20014) hc dX0_becomeSecondForm_100 (by decide) ?_
    refine wp_aload_n hc 7 dX0_becomeSecondForm_103 rfl ?_
    refine wp_get hc hx hin0 (j := q1) (Nat.zero_le _) hjq1 (ce_0 hkq1) rfl 2 (by decide) hf18 rfl dX0_becomeSecondForm_104 ?_
    refine wp_callSg (As := [.int 20014, .int (M.1 q1 2)]) (rest := [.int (fX1_times 20014 (M.1 q1 1)), .int (fX1_plus (fX1_times (fX1_plus 10007 (M.1 q1 0)) (fX1_minus 10007 (M.1 q1 3))) (fX1_times (M.1 q1 1) (M.1 q1 2))), .ref (z j)]) (v := (fX1_times 20014 (M.1 q1 2))) hc hNW (kX1_times l 20014 (M.1 q1 2)) cw28 rfl rfl (Nat.le_of_ble_eq_true rfl) dX0_becomeSecondForm_107 ?_
    refine wp_iload_n hc 5 dX0_becomeSecondForm_110 rfl ?_
    refine wp_iload hc 2 dX0_becomeSecondForm_111 rfl ?_
    refine wp_callSg (As := [.int (fX1_minus 10007 (M.1 q1 0)), .int (fX1_plus 10007 (M.1 q1 3))]) (rest := [.int (fX1_times 20014 (M.1 q1 2)), .int (fX1_times 20014 (M.1 q1 1)), .int (fX1_plus (fX1_times (fX1_plus 10007 (M.1 q1 0)) (fX1_minus 10007 (M.1 q1 3))) (fX1_times (M.1 q1 1) (M.1 q1 2))), .ref (z j)]) (v := (fX1_times (fX1_minus 10007 (M.1 q1 0)) (fX1_plus 10007 (M.1 q1 3)))) hc hNW (kX1_times l (fX1_minus 10007 (M.1 q1 0)) (fX1_plus 10007 (M.1 q1 3))) cw28 rfl rfl (Nat.le_of_ble_eq_true rfl) dX0_becomeSecondForm_113 ?_
    refine wp_iload hc 1 dX0_becomeSecondForm_116 rfl ?_
    refine wp_callSg (As := [.int (fX1_times (fX1_minus 10007 (M.1 q1 0)) (fX1_plus 10007 (M.1 q1 3))), .int (fX1_times (M.1 q1 1) (M.1 q1 2))]) (rest := [.int (fX1_times 20014 (M.1 q1 2)), .int (fX1_times 20014 (M.1 q1 1)), .int (fX1_plus (fX1_times (fX1_plus 10007 (M.1 q1 0)) (fX1_minus 10007 (M.1 q1 3))) (fX1_times (M.1 q1 1) (M.1 q1 2))), .ref (z j)]) (v := (fX1_plus (fX1_times (fX1_minus 10007 (M.1 q1 0)) (fX1_plus 10007 (M.1 q1 3))) (fX1_times (M.1 q1 1) (M.1 q1 2)))) hc hNW (kX1_plus l (fX1_times (fX1_minus 10007 (M.1 q1 0)) (fX1_plus 10007 (M.1 q1 3))) (fX1_times (M.1 q1 1) (M.1 q1 2))) cw52 rfl rfl (Nat.le_of_ble_eq_true rfl) dX0_becomeSecondForm_118 ?_
    refine wp_callVvw (As := [.int (fX1_plus (fX1_times (fX1_plus 10007 (M.1 q1 0)) (fX1_minus 10007 (M.1 q1 3))) (fX1_times (M.1 q1 1) (M.1 q1 2))), .int (fX1_times 20014 (M.1 q1 1)), .int (fX1_times 20014 (M.1 q1 2)), .int (fX1_plus (fX1_times (fX1_minus 10007 (M.1 q1 0)) (fX1_plus 10007 (M.1 q1 3))) (fX1_times (M.1 q1 1) (M.1 q1 2)))]) (rest := []) (j := j) (w := sX0_fill M j (fX1_plus (fX1_times (fX1_plus 10007 (M.1 q1 0)) (fX1_minus 10007 (M.1 q1 3))) (fX1_times (M.1 q1 1) (M.1 q1 2))) (fX1_times 20014 (M.1 q1 1)) (fX1_times 20014 (M.1 q1 2)) (fX1_plus (fX1_times (fX1_minus 10007 (M.1 q1 0)) (fX1_plus 10007 (M.1 q1 3))) (fX1_times (M.1 q1 1) (M.1 q1 2)))) hc hx (kX0_fill l D cy z hz M j (fX1_plus (fX1_times (fX1_plus 10007 (M.1 q1 0)) (fX1_minus 10007 (M.1 q1 3))) (fX1_times (M.1 q1 1) (M.1 q1 2))) (fX1_times 20014 (M.1 q1 1)) (fX1_times 20014 (M.1 q1 2)) (fX1_plus (fX1_times (fX1_minus 10007 (M.1 q1 0)) (fX1_plus 10007 (M.1 q1 3))) (fX1_times (M.1 q1 1) (M.1 q1 2))) hj hkj) cw24 (Nat.zero_le _) hj (ce_0 hkj) rfl rfl rfl rfl (Nat.le_of_ble_eq_true rfl) dX0_becomeSecondForm_121 (fun M2 hM2 => ?_)
    refine wp_aload_n hc 6 dX0_becomeSecondForm_124 rfl ?_
    refine wp_iload hc 0 dX0_becomeSecondForm_125 rfl ?_
    refine wp_callVvw (As := [.int x1]) (rest := []) (j := j) (w := sX0_divideBy M2 j x1) hc hx (kX0_divideBy l D cy z hz M2 j x1 hj hkj) cw48 (Nat.zero_le _) hj (ce_0 hkj) rfl rfl rfl rfl (Nat.le_of_ble_eq_true rfl) dX0_becomeSecondForm_127 (fun M3 hM3 => ?_)
    refine wp_iconst (v := 1) hc dX0_becomeSecondForm_130 (by decide) ?_
    refine wp_zret hc hr hk rfl ?_ dX0_becomeSecondForm_131
    show (1, M3) = sX0_becomeSecondForm M j q1
    rw [sX0_becomeSecondForm, tk_eq hx1, if_neg c73, tk_eq hM2, tk_eq hM3]
  refine wp_iconst (v := 0) hc dX0_becomeSecondForm_76 (by decide) ?_
  refine wp_zret hc hr hk rfl ?_ dX0_becomeSecondForm_77
  show (0, M) = sX0_becomeSecondForm M j q1
  rw [sX0_becomeSecondForm, tk_eq hx1, if_pos c73]
set_option maxRecDepth 10000 in
theorem kfX0_becomeSecondForm (M : Mem) (j : Nat) (q1 : Nat) : KF2 (fun x => x = j) M (sX0_becomeSecondForm M j q1) := by
  unfold sX0_becomeSecondForm
  refine tk_ind (P := KF2 (fun x => x = j) M) _ _ (fun x1 hx1 => ?_)
  refine ite_ind (P := KF2 (fun x => x = j) M) (fun c1 => ?_) (fun c1 => ?_)
  · exact (show KF (fun x => x = j) M M from KF.rf)
  · refine tk_ind (P := KF2 (fun x => x = j) M) _ _ (fun M2 hM2 => ?_)
    have k2 : KF (fun x => x = j) M M2 := by rw [hM2]; exact KF.mono (kfX0_fill _ _ _ _ _ _) (fun x h => by first | exact h | ((try dsimp only at h ⊢); omega))
    refine tk_ind (P := KF2 (fun x => x = j) M) _ _ (fun M3 hM3 => ?_)
    have k3 : KF (fun x => x = j) M2 M3 := by rw [hM3]; exact KF.mono (kfX0_divideBy _ _ _) (fun x h => by first | exact h | ((try dsimp only at h ⊢); omega))
    exact (show KF (fun x => x = j) M M3 from KF.trans k2 (k3))
theorem bX0_becomeSecondForm (M : Mem) (j : Nat) (q1 : Nat) : B01 (sX0_becomeSecondForm M j q1) := by
  unfold sX0_becomeSecondForm
  refine tk_ind (P := B01) _ _ (fun x1 hx1 => ?_)
  refine ite_ind (P := B01) (fun _ => ?_) (fun _ => ?_)
  · exact (show _ ∨ _ from Or.inl rfl)
  · refine tk_ind (P := B01) _ _ (fun M2 hM2 => ?_)
    refine tk_ind (P := B01) _ _ (fun M3 hM3 => ?_)
    exact (show _ ∨ _ from Or.inr rfl)
