theorem ixn {x : Int32} (h : 0 ≤ x.toInt ∧ x.toInt ≤ 112) {k : Int32} (hk : 0 ≤ k.toInt ∧ k.toInt ≤ 7) : vp_in (x + k) (ln 114) := by
  refine vin ?_
  rw [fb_addI (by omega) (by omega)]
  show _ ∧ _ < ((120 : Nat) : Int)
  omega
theorem m2T {d : Int32} (h : 0 ≤ d.toInt ∧ d.toInt ≤ 3) : (2 * d).toInt = 2 * d.toInt := by
  have e3 : (2 : Int32).toInt = 2 := rfl
  rw [fb_mulI (by rw [e3]; omega) (by rw [e3]; omega), e3]
theorem ixn2 {x d : Int32} (h : 0 ≤ x.toInt ∧ x.toInt ≤ 112) (hd : 0 ≤ d.toInt ∧ d.toInt ≤ 3) : vp_in (x + 2 * d) (ln 114) := ixn h (by rw [m2T hd]; omega)
theorem ixn3 {x d : Int32} (h : 0 ≤ x.toInt ∧ x.toInt ≤ 112) (hd : 0 ≤ d.toInt ∧ d.toInt ≤ 3) : vp_in (x + 2 * d + 1) (ln 114) := by
  have e := m2T hd
  have e1 : (1 : Int32).toInt = 1 := rfl
  have e2 : (x + 2 * d).toInt = x.toInt + 2 * d.toInt := by rw [fb_addI (by omega) (by omega), e]
  refine vin ?_
  rw [fb_addI (by rw [e2, e1]; omega) (by rw [e2, e1]; omega), e2, e1]
  show _ ∧ _ < ((120 : Nat) : Int)
  omega
theorem nge8 {x : Int32} (h : 0 ≤ x.toInt ∧ x.toInt ≤ 8) (c : ¬ 8 ≤ x) : 0 ≤ x.toInt ∧ x.toInt < 8 := by
  have e : (8 : Int32).toInt = 8 := rfl
  rw [fa_le, e] at c
  omega
def fX6_numberAt (M : Mem) (i1 : Int32) (i2 : Int32) : Int32 :=
  (fX6_number (M.1 114 (i1 + (2 * i2)).toNatClampNeg) (M.1 114 ((i1 + (2 * i2)) + 1).toNatClampNeg))
set_option maxHeartbeats 4000000 in
set_option maxRecDepth 100000 in
theorem kX6_numberAt (l : Launch) (D : va_G) (cy : Nat → ClassId) (z : Nat → Nat) (hz : zI z) (M : Mem) (i1 : Int32) (i2 : Int32) (ha : 0 ≤ i1.toInt ∧ i1.toInt ≤ 112) (h2 : 0 ≤ i2.toInt ∧ i2.toInt ≤ 3) : KI l yX6_numberAt wsX6_numberAt { frames := 2, cells := 0, slots := 0, locals := 42 } D cy z 100 15 [.ref (z 100), .int i1, .int i2] M (fun r u => r = fX6_numberAt M i1 i2 ∧ u = M) := by
  refine met_wp (lv := [(0, .ref (z 100)), (1, .int i1), (2, .int i2)]) hz (by decide) (by decide) rfl rfl (Nat.le_of_ble_eq_true rfl) rfl ?_
  intro p e s m below meth c hc hx hr hk
  have hNW := hx.2.1
  have hin6 : ∀ w ∈ wsX60, w ∈ wsX6_numberAt := by decide +kernel
  have hf49 : Cond.fieldLink RX6 49 (TX6 16).1 (TX6 16).2.1 (TX6 16).2.2.1 ∈ wsX6_numberAt := by decide +kernel
  have cw64 : CallB ({ frames := 2, cells := 0, slots := 0, locals := 42 }) s _ RX6 64 yX6_number cX6_number 2 (some .int) wsX6_number ({ frames := 1, cells := 0, slots := 0, locals := 21 }) 0 0 2 ∧ (Cond.static yX6_number).before _ s = true := va_cwS 2 hc.2.2.2.2 gX6_numberAt_X6_number rfl rfl rfl (by decide +kernel) ⟨Nat.le_of_ble_eq_true rfl, Nat.le_of_ble_eq_true rfl⟩
  refine wp_aload_n hc 0 dX6_numberAt_0 rfl ?_
  refine wp_get hc hx hin6 (j := 100) (by decide) (by decide) (ce_5 rfl) rfl 16 (by decide) hf49 rfl dX6_numberAt_1 ?_
  refine wp_iload_n hc 1 dX6_numberAt_4 rfl ?_
  refine wp_iconst (v := 2) hc dX6_numberAt_5 (by decide) ?_
  refine wp_iload_n hc 2 dX6_numberAt_6 rfl ?_
  refine wp_imul hc dX6_numberAt_7 ?_
  refine wp_iadd hc dX6_numberAt_8 ?_
  refine wp_iald hc hx (j := 114) (by decide) (by decide) rfl (i1 + (2 * i2)).toNatClampNeg rfl (ixn2 ha h2) dX6_numberAt_9 ?_
  refine wp_aload_n hc 0 dX6_numberAt_10 rfl ?_
  refine wp_get hc hx hin6 (j := 100) (by decide) (by decide) (ce_5 rfl) rfl 16 (by decide) hf49 rfl dX6_numberAt_11 ?_
  refine wp_iload_n hc 1 dX6_numberAt_14 rfl ?_
  refine wp_iconst (v := 2) hc dX6_numberAt_15 (by decide) ?_
  refine wp_iload_n hc 2 dX6_numberAt_16 rfl ?_
  refine wp_imul hc dX6_numberAt_17 ?_
  refine wp_iadd hc dX6_numberAt_18 ?_
  refine wp_iconst (v := 1) hc dX6_numberAt_19 (by decide) ?_
  refine wp_iadd hc dX6_numberAt_20 ?_
  refine wp_iald hc hx (j := 114) (by decide) (by decide) rfl ((i1 + (2 * i2)) + 1).toNatClampNeg rfl (ixn3 ha h2) dX6_numberAt_21 ?_
  refine wp_callSg (As := [.int (M.1 114 (i1 + (2 * i2)).toNatClampNeg), .int (M.1 114 ((i1 + (2 * i2)) + 1).toNatClampNeg)]) (rest := []) (v := (fX6_number (M.1 114 (i1 + (2 * i2)).toNatClampNeg) (M.1 114 ((i1 + (2 * i2)) + 1).toNatClampNeg))) hc hNW (kX6_number l (M.1 114 (i1 + (2 * i2)).toNatClampNeg) (M.1 114 ((i1 + (2 * i2)) + 1).toNatClampNeg)) cw64 rfl rfl (Nat.le_of_ble_eq_true rfl) dX6_numberAt_22 ?_
  refine wp_iret hc hr hk ?_ dX6_numberAt_25
  show (fX6_number (M.1 114 (i1 + (2 * i2)).toNatClampNeg) (M.1 114 ((i1 + (2 * i2)) + 1).toNatClampNeg)) = fX6_numberAt M i1 i2 ∧ M = M
  exact ⟨by rw [fX6_numberAt], rfl⟩
def sX6_comesTold (M : Mem) (i1 : Int32) : Int32 × Mem :=
  if 8 ≤ (M.1 101 0) then
  (0, M)
  else
  if (fX6_isPart (M.1 114 (i1 + 0).toNatClampNeg)) = 0 then
  (0, M)
  else
  if (fX6_isPart (M.1 114 (i1 + 1).toNatClampNeg)) = 0 then
  (0, M)
  else
  if (fX6_isPart (M.1 114 (i1 + 2).toNatClampNeg)) = 0 then
  (0, M)
  else
  if (fX6_isPart (M.1 114 (i1 + 3).toNatClampNeg)) = 0 then
  (0, M)
  else
  if (fX6_isPart (M.1 114 (i1 + 4).toNatClampNeg)) = 0 then
  (0, M)
  else
  if (fX6_isPart (M.1 114 (i1 + 5).toNatClampNeg)) = 0 then
  (0, M)
  else
  if (fX6_isPart (M.1 114 (i1 + 6).toNatClampNeg)) = 0 then
  (0, M)
  else
  if (fX6_isPart (M.1 114 (i1 + 7).toNatClampNeg)) = 0 then
  (0, M)
  else
  tk (sX6_comes M (fX6_numberAt M i1 0) (fX6_numberAt M i1 1) (fX6_numberAt M i1 2) (fX6_numberAt M i1 3)) fun x1 =>
  if x1.1 < 0 then
  (0, x1.2)
  else
  (1, x1.2)
set_option maxHeartbeats 4000000 in
set_option maxRecDepth 100000 in
theorem kX6_comesTold (l : Launch) (D : va_G) (cy : Nat → ClassId) (z : Nat → Nat) (hz : zI z) (M : Mem) (i1 : Int32) (ha : 0 ≤ i1.toInt ∧ i1.toInt ≤ 112) (hn : 0 ≤ (M.1 101 0).toInt ∧ (M.1 101 0).toInt ≤ 8) : KI l yX6_comesTold wsX6_comesTold { frames := 3, cells := 0, slots := 0, locals := 64 } D cy z 100 15 [.ref (z 100), .int i1] M (fun r u => (r, u) = sX6_comesTold M i1) := by
  refine met_wp (lv := [(0, .ref (z 100)), (1, .int i1)]) hz (by decide) (by decide) rfl rfl (Nat.le_of_ble_eq_true rfl) rfl ?_
  intro p e s m below meth c hc hx hr hk
  have hNW := hx.2.1
  have hin6 : ∀ w ∈ wsX60, w ∈ wsX6_comesTold := by decide +kernel
  have hf7 : Cond.fieldLink RX6 7 (TX6 0).1 (TX6 0).2.1 (TX6 0).2.2.1 ∈ wsX6_comesTold := by decide +kernel
  have hf49 : Cond.fieldLink RX6 49 (TX6 16).1 (TX6 16).2.1 (TX6 16).2.2.1 ∈ wsX6_comesTold := by decide +kernel
  have cw94 : CallW ({ frames := 3, cells := 0, slots := 0, locals := 64 }) s _ RX6 RX6 94 yX6_comes cX6_comes 6 (some .int) wsX6_comes ({ frames := 1, cells := 0, slots := 0, locals := 21 }) 0 0 4 := cwV 4 hc.2.2.2.2 gX6_comesTold_X6_comes rfl rfl rfl (by decide +kernel) ⟨Nat.le_of_ble_eq_true rfl, Nat.le_of_ble_eq_true rfl⟩
  have cw102 : CallB ({ frames := 3, cells := 0, slots := 0, locals := 64 }) s _ RX6 102 yX6_isPart cX6_isPart 1 (some .boolean) wsX6_isPart ({ frames := 1, cells := 0, slots := 0, locals := 22 }) 0 0 1 ∧ (Cond.static yX6_isPart).before _ s = true := va_cwS 1 hc.2.2.2.2 gX6_comesTold_X6_isPart rfl rfl rfl (by decide +kernel) ⟨Nat.le_of_ble_eq_true rfl, Nat.le_of_ble_eq_true rfl⟩
  have cw249 : CallW ({ frames := 3, cells := 0, slots := 0, locals := 64 }) s _ RX6 RX6 249 yX6_numberAt cX6_numberAt 3 (some .int) wsX6_numberAt ({ frames := 2, cells := 0, slots := 0, locals := 42 }) 0 0 2 := cwV 2 hc.2.2.2.2 gX6_comesTold_X6_numberAt rfl rfl rfl (by decide +kernel) ⟨Nat.le_of_ble_eq_true rfl, Nat.le_of_ble_eq_true rfl⟩
  refine wp_aload_n hc 0 dX6_comesTold_0 rfl ?_
  refine wp_get hc hx hin6 (j := 100) (by decide) (by decide) (ce_5 rfl) rfl 0 (by decide) hf7 rfl dX6_comesTold_1 ?_
  refine wp_iconst (v := 0) hc dX6_comesTold_4 (by decide) ?_
  refine wp_iald hc hx (j := 101) (by decide) (by decide) rfl 0 rfl (vin (by decide)) dX6_comesTold_5 ?_
  refine wp_bipush (v := 8) hc dX6_comesTold_6 (by decide) ?_
  refine wp_icmp_ge (tgt := 15) hc dX6_comesTold_8 (by decide) (fun c8 => ?_) (fun c8 => ?_)
  · refine wp_iconst (v := 0) hc dX6_comesTold_15 (by decide) ?_
    refine wp_istore_n (lv' := [(2, .int 0), (0, .ref (z 100)), (1, .int i1)]) hc dX6_comesTold_16 (by decide) rfl ?_
    refine wp_iconst (v := 0) hc dX6_comesTold_17 (by decide) ?_
    refine wp_istore_n (lv' := [(3, .int 0), (2, .int 0), (0, .ref (z 100)), (1, .int i1)]) hc dX6_comesTold_18 (by decide) rfl ?_
    refine wp_iload_n hc 0 dX6_comesTold_19 rfl ?_
    refine wp_bipush (v := 8) hc dX6_comesTold_20 (by decide) ?_
    refine wp_icmp_ge (tgt := 55) hc dX6_comesTold_22 (by decide) (fun c => absurd c (by decide)) (fun _ => ?_)
    refine wp_iload_n hc 1 dX6_comesTold_25 rfl ?_
    refine wp_if_eq (tgt := 47) hc dX6_comesTold_26 (by decide) (fun _ => ?_) (fun c => absurd c (by decide))
    refine wp_iconst (v := 0) hc dX6_comesTold_47 (by decide) ?_
    refine wp_istore_n (lv' := [(2, .int 0), (3, .int 0), (0, .ref (z 100)), (1, .int i1)]) hc dX6_comesTold_48 (by decide) rfl ?_
    refine wp_iinc (v := 1) (lv' := [(3, .int 1), (2, .int 0), (0, .ref (z 100)), (1, .int i1)]) hc 1 dX6_comesTold_49 rfl (by decide) (by decide) rfl ?_
    refine wp_goto (tgt := 19) hc dX6_comesTold_52 (by decide) ?_
    refine wp_iload_n hc 0 dX6_comesTold_19 rfl ?_
    refine wp_bipush (v := 8) hc dX6_comesTold_20 (by decide) ?_
    refine wp_icmp_ge (tgt := 55) hc dX6_comesTold_22 (by decide) (fun c => absurd c (by decide)) (fun _ => ?_)
    refine wp_iload_n hc 1 dX6_comesTold_25 rfl ?_
    refine wp_if_eq (tgt := 47) hc dX6_comesTold_26 (by decide) (fun _ => ?_) (fun c => absurd c (by decide))
    refine wp_iconst (v := 0) hc dX6_comesTold_47 (by decide) ?_
    refine wp_istore_n (lv' := [(2, .int 0), (3, .int 1), (0, .ref (z 100)), (1, .int i1)]) hc dX6_comesTold_48 (by decide) rfl ?_
    refine wp_iinc (v := 2) (lv' := [(3, .int 2), (2, .int 0), (0, .ref (z 100)), (1, .int i1)]) hc 1 dX6_comesTold_49 rfl (by decide) (by decide) rfl ?_
    refine wp_goto (tgt := 19) hc dX6_comesTold_52 (by decide) ?_
    refine wp_iload_n hc 0 dX6_comesTold_19 rfl ?_
    refine wp_bipush (v := 8) hc dX6_comesTold_20 (by decide) ?_
    refine wp_icmp_ge (tgt := 55) hc dX6_comesTold_22 (by decide) (fun c => absurd c (by decide)) (fun _ => ?_)
    refine wp_iload_n hc 1 dX6_comesTold_25 rfl ?_
    refine wp_if_eq (tgt := 47) hc dX6_comesTold_26 (by decide) (fun _ => ?_) (fun c => absurd c (by decide))
    refine wp_iconst (v := 0) hc dX6_comesTold_47 (by decide) ?_
    refine wp_istore_n (lv' := [(2, .int 0), (3, .int 2), (0, .ref (z 100)), (1, .int i1)]) hc dX6_comesTold_48 (by decide) rfl ?_
    refine wp_iinc (v := 3) (lv' := [(3, .int 3), (2, .int 0), (0, .ref (z 100)), (1, .int i1)]) hc 1 dX6_comesTold_49 rfl (by decide) (by decide) rfl ?_
    refine wp_goto (tgt := 19) hc dX6_comesTold_52 (by decide) ?_
    refine wp_iload_n hc 0 dX6_comesTold_19 rfl ?_
    refine wp_bipush (v := 8) hc dX6_comesTold_20 (by decide) ?_
    refine wp_icmp_ge (tgt := 55) hc dX6_comesTold_22 (by decide) (fun c => absurd c (by decide)) (fun _ => ?_)
    refine wp_iload_n hc 1 dX6_comesTold_25 rfl ?_
    refine wp_if_eq (tgt := 47) hc dX6_comesTold_26 (by decide) (fun _ => ?_) (fun c => absurd c (by decide))
    refine wp_iconst (v := 0) hc dX6_comesTold_47 (by decide) ?_
    refine wp_istore_n (lv' := [(2, .int 0), (3, .int 3), (0, .ref (z 100)), (1, .int i1)]) hc dX6_comesTold_48 (by decide) rfl ?_
    refine wp_iinc (v := 4) (lv' := [(3, .int 4), (2, .int 0), (0, .ref (z 100)), (1, .int i1)]) hc 1 dX6_comesTold_49 rfl (by decide) (by decide) rfl ?_
    refine wp_goto (tgt := 19) hc dX6_comesTold_52 (by decide) ?_
    refine wp_iload_n hc 0 dX6_comesTold_19 rfl ?_
    refine wp_bipush (v := 8) hc dX6_comesTold_20 (by decide) ?_
    refine wp_icmp_ge (tgt := 55) hc dX6_comesTold_22 (by decide) (fun c => absurd c (by decide)) (fun _ => ?_)
    refine wp_iload_n hc 1 dX6_comesTold_25 rfl ?_
    refine wp_if_eq (tgt := 47) hc dX6_comesTold_26 (by decide) (fun _ => ?_) (fun c => absurd c (by decide))
    refine wp_iconst (v := 0) hc dX6_comesTold_47 (by decide) ?_
    refine wp_istore_n (lv' := [(2, .int 0), (3, .int 4), (0, .ref (z 100)), (1, .int i1)]) hc dX6_comesTold_48 (by decide) rfl ?_
    refine wp_iinc (v := 5) (lv' := [(3, .int 5), (2, .int 0), (0, .ref (z 100)), (1, .int i1)]) hc 1 dX6_comesTold_49 rfl (by decide) (by decide) rfl ?_
    refine wp_goto (tgt := 19) hc dX6_comesTold_52 (by decide) ?_
    refine wp_iload_n hc 0 dX6_comesTold_19 rfl ?_
    refine wp_bipush (v := 8) hc dX6_comesTold_20 (by decide) ?_
    refine wp_icmp_ge (tgt := 55) hc dX6_comesTold_22 (by decide) (fun c => absurd c (by decide)) (fun _ => ?_)
    refine wp_iload_n hc 1 dX6_comesTold_25 rfl ?_
    refine wp_if_eq (tgt := 47) hc dX6_comesTold_26 (by decide) (fun _ => ?_) (fun c => absurd c (by decide))
    refine wp_iconst (v := 0) hc dX6_comesTold_47 (by decide) ?_
    refine wp_istore_n (lv' := [(2, .int 0), (3, .int 5), (0, .ref (z 100)), (1, .int i1)]) hc dX6_comesTold_48 (by decide) rfl ?_
    refine wp_iinc (v := 6) (lv' := [(3, .int 6), (2, .int 0), (0, .ref (z 100)), (1, .int i1)]) hc 1 dX6_comesTold_49 rfl (by decide) (by decide) rfl ?_
    refine wp_goto (tgt := 19) hc dX6_comesTold_52 (by decide) ?_
    refine wp_iload_n hc 0 dX6_comesTold_19 rfl ?_
    refine wp_bipush (v := 8) hc dX6_comesTold_20 (by decide) ?_
    refine wp_icmp_ge (tgt := 55) hc dX6_comesTold_22 (by decide) (fun c => absurd c (by decide)) (fun _ => ?_)
    refine wp_iload_n hc 1 dX6_comesTold_25 rfl ?_
    refine wp_if_eq (tgt := 47) hc dX6_comesTold_26 (by decide) (fun _ => ?_) (fun c => absurd c (by decide))
    refine wp_iconst (v := 0) hc dX6_comesTold_47 (by decide) ?_
    refine wp_istore_n (lv' := [(2, .int 0), (3, .int 6), (0, .ref (z 100)), (1, .int i1)]) hc dX6_comesTold_48 (by decide) rfl ?_
    refine wp_iinc (v := 7) (lv' := [(3, .int 7), (2, .int 0), (0, .ref (z 100)), (1, .int i1)]) hc 1 dX6_comesTold_49 rfl (by decide) (by decide) rfl ?_
    refine wp_goto (tgt := 19) hc dX6_comesTold_52 (by decide) ?_
    refine wp_iload_n hc 0 dX6_comesTold_19 rfl ?_
    refine wp_bipush (v := 8) hc dX6_comesTold_20 (by decide) ?_
    refine wp_icmp_ge (tgt := 55) hc dX6_comesTold_22 (by decide) (fun c => absurd c (by decide)) (fun _ => ?_)
    refine wp_iload_n hc 1 dX6_comesTold_25 rfl ?_
    refine wp_if_eq (tgt := 47) hc dX6_comesTold_26 (by decide) (fun _ => ?_) (fun c => absurd c (by decide))
    refine wp_iconst (v := 0) hc dX6_comesTold_47 (by decide) ?_
    refine wp_istore_n (lv' := [(2, .int 0), (3, .int 7), (0, .ref (z 100)), (1, .int i1)]) hc dX6_comesTold_48 (by decide) rfl ?_
    refine wp_iinc (v := 8) (lv' := [(3, .int 8), (2, .int 0), (0, .ref (z 100)), (1, .int i1)]) hc 1 dX6_comesTold_49 rfl (by decide) (by decide) rfl ?_
    refine wp_goto (tgt := 19) hc dX6_comesTold_52 (by decide) ?_
    refine wp_iload_n hc 0 dX6_comesTold_19 rfl ?_
    refine wp_bipush (v := 8) hc dX6_comesTold_20 (by decide) ?_
    refine wp_icmp_ge (tgt := 55) hc dX6_comesTold_22 (by decide) (fun _ => ?_) (fun c => absurd c (by decide))
    refine wp_iload_n hc 1 dX6_comesTold_55 rfl ?_
    refine wp_if_eq (tgt := 94) hc dX6_comesTold_56 (by decide) (fun _ => ?_) (fun c => absurd c (by decide))
    refine wp_iconst (v := 0) hc dX6_comesTold_94 (by decide) ?_
    refine wp_zret hc hr hk rfl ?_ dX6_comesTold_95
    show (0, M) = sX6_comesTold M i1
    rw [sX6_comesTold, if_pos c8]
  refine wp_iconst (v := 1) hc dX6_comesTold_11 (by decide) ?_
  refine wp_goto (tgt := 16) hc dX6_comesTold_12 (by decide) ?_
  refine wp_istore_n (lv' := [(2, .int 1), (0, .ref (z 100)), (1, .int i1)]) hc dX6_comesTold_16 (by decide) rfl ?_
  refine wp_iconst (v := 0) hc dX6_comesTold_17 (by decide) ?_
  refine wp_istore_n (lv' := [(3, .int 0), (2, .int 1), (0, .ref (z 100)), (1, .int i1)]) hc dX6_comesTold_18 (by decide) rfl ?_
  refine wp_iload_n hc 0 dX6_comesTold_19 rfl ?_
  refine wp_bipush (v := 8) hc dX6_comesTold_20 (by decide) ?_
  refine wp_icmp_ge (tgt := 55) hc dX6_comesTold_22 (by decide) (fun c => absurd c (by decide)) (fun _ => ?_)
  refine wp_iload_n hc 1 dX6_comesTold_25 rfl ?_
  refine wp_if_eq (tgt := 47) hc dX6_comesTold_26 (by decide) (fun c => absurd c (by decide)) (fun _ => ?_)
  refine wp_aload_n hc 2 dX6_comesTold_29 rfl ?_
  refine wp_get hc hx hin6 (j := 100) (by decide) (by decide) (ce_5 rfl) rfl 16 (by decide) hf49 rfl dX6_comesTold_30 ?_
  refine wp_iload_n hc 3 dX6_comesTold_33 rfl ?_
  refine wp_iload_n hc 0 dX6_comesTold_34 rfl ?_
  refine wp_iadd hc dX6_comesTold_35 ?_
  refine wp_iald hc hx (j := 114) (by decide) (by decide) rfl (i1 + 0).toNatClampNeg rfl (ixn ha (by decide)) dX6_comesTold_36 ?_
  refine wp_callSg (As := [.int (M.1 114 (i1 + 0).toNatClampNeg)]) (rest := []) (v := (fX6_isPart (M.1 114 (i1 + 0).toNatClampNeg))) hc hNW (kX6_isPart l (M.1 114 (i1 + 0).toNatClampNeg)) cw102 rfl rfl (Nat.le_of_ble_eq_true rfl) dX6_comesTold_37 ?_
  refine wp_if_eq (tgt := 47) hc dX6_comesTold_40 (by decide) (fun c40 => ?_) (fun c40 => ?_)
  · refine wp_iconst (v := 0) hc dX6_comesTold_47 (by decide) ?_
    refine wp_istore_n (lv' := [(2, .int 0), (3, .int 0), (0, .ref (z 100)), (1, .int i1)]) hc dX6_comesTold_48 (by decide) rfl ?_
    refine wp_iinc (v := 1) (lv' := [(3, .int 1), (2, .int 0), (0, .ref (z 100)), (1, .int i1)]) hc 1 dX6_comesTold_49 rfl (by decide) (by decide) rfl ?_
    refine wp_goto (tgt := 19) hc dX6_comesTold_52 (by decide) ?_
    refine wp_iload_n hc 0 dX6_comesTold_19 rfl ?_
    refine wp_bipush (v := 8) hc dX6_comesTold_20 (by decide) ?_
    refine wp_icmp_ge (tgt := 55) hc dX6_comesTold_22 (by decide) (fun c => absurd c (by decide)) (fun _ => ?_)
    refine wp_iload_n hc 1 dX6_comesTold_25 rfl ?_
    refine wp_if_eq (tgt := 47) hc dX6_comesTold_26 (by decide) (fun _ => ?_) (fun c => absurd c (by decide))
    refine wp_iconst (v := 0) hc dX6_comesTold_47 (by decide) ?_
    refine wp_istore_n (lv' := [(2, .int 0), (3, .int 1), (0, .ref (z 100)), (1, .int i1)]) hc dX6_comesTold_48 (by decide) rfl ?_
    refine wp_iinc (v := 2) (lv' := [(3, .int 2), (2, .int 0), (0, .ref (z 100)), (1, .int i1)]) hc 1 dX6_comesTold_49 rfl (by decide) (by decide) rfl ?_
    refine wp_goto (tgt := 19) hc dX6_comesTold_52 (by decide) ?_
    refine wp_iload_n hc 0 dX6_comesTold_19 rfl ?_
    refine wp_bipush (v := 8) hc dX6_comesTold_20 (by decide) ?_
    refine wp_icmp_ge (tgt := 55) hc dX6_comesTold_22 (by decide) (fun c => absurd c (by decide)) (fun _ => ?_)
    refine wp_iload_n hc 1 dX6_comesTold_25 rfl ?_
    refine wp_if_eq (tgt := 47) hc dX6_comesTold_26 (by decide) (fun _ => ?_) (fun c => absurd c (by decide))
    refine wp_iconst (v := 0) hc dX6_comesTold_47 (by decide) ?_
    refine wp_istore_n (lv' := [(2, .int 0), (3, .int 2), (0, .ref (z 100)), (1, .int i1)]) hc dX6_comesTold_48 (by decide) rfl ?_
    refine wp_iinc (v := 3) (lv' := [(3, .int 3), (2, .int 0), (0, .ref (z 100)), (1, .int i1)]) hc 1 dX6_comesTold_49 rfl (by decide) (by decide) rfl ?_
    refine wp_goto (tgt := 19) hc dX6_comesTold_52 (by decide) ?_
    refine wp_iload_n hc 0 dX6_comesTold_19 rfl ?_
    refine wp_bipush (v := 8) hc dX6_comesTold_20 (by decide) ?_
    refine wp_icmp_ge (tgt := 55) hc dX6_comesTold_22 (by decide) (fun c => absurd c (by decide)) (fun _ => ?_)
    refine wp_iload_n hc 1 dX6_comesTold_25 rfl ?_
    refine wp_if_eq (tgt := 47) hc dX6_comesTold_26 (by decide) (fun _ => ?_) (fun c => absurd c (by decide))
    refine wp_iconst (v := 0) hc dX6_comesTold_47 (by decide) ?_
    refine wp_istore_n (lv' := [(2, .int 0), (3, .int 3), (0, .ref (z 100)), (1, .int i1)]) hc dX6_comesTold_48 (by decide) rfl ?_
    refine wp_iinc (v := 4) (lv' := [(3, .int 4), (2, .int 0), (0, .ref (z 100)), (1, .int i1)]) hc 1 dX6_comesTold_49 rfl (by decide) (by decide) rfl ?_
    refine wp_goto (tgt := 19) hc dX6_comesTold_52 (by decide) ?_
    refine wp_iload_n hc 0 dX6_comesTold_19 rfl ?_
    refine wp_bipush (v := 8) hc dX6_comesTold_20 (by decide) ?_
    refine wp_icmp_ge (tgt := 55) hc dX6_comesTold_22 (by decide) (fun c => absurd c (by decide)) (fun _ => ?_)
    refine wp_iload_n hc 1 dX6_comesTold_25 rfl ?_
    refine wp_if_eq (tgt := 47) hc dX6_comesTold_26 (by decide) (fun _ => ?_) (fun c => absurd c (by decide))
    refine wp_iconst (v := 0) hc dX6_comesTold_47 (by decide) ?_
    refine wp_istore_n (lv' := [(2, .int 0), (3, .int 4), (0, .ref (z 100)), (1, .int i1)]) hc dX6_comesTold_48 (by decide) rfl ?_
    refine wp_iinc (v := 5) (lv' := [(3, .int 5), (2, .int 0), (0, .ref (z 100)), (1, .int i1)]) hc 1 dX6_comesTold_49 rfl (by decide) (by decide) rfl ?_
    refine wp_goto (tgt := 19) hc dX6_comesTold_52 (by decide) ?_
    refine wp_iload_n hc 0 dX6_comesTold_19 rfl ?_
    refine wp_bipush (v := 8) hc dX6_comesTold_20 (by decide) ?_
    refine wp_icmp_ge (tgt := 55) hc dX6_comesTold_22 (by decide) (fun c => absurd c (by decide)) (fun _ => ?_)
    refine wp_iload_n hc 1 dX6_comesTold_25 rfl ?_
    refine wp_if_eq (tgt := 47) hc dX6_comesTold_26 (by decide) (fun _ => ?_) (fun c => absurd c (by decide))
    refine wp_iconst (v := 0) hc dX6_comesTold_47 (by decide) ?_
    refine wp_istore_n (lv' := [(2, .int 0), (3, .int 5), (0, .ref (z 100)), (1, .int i1)]) hc dX6_comesTold_48 (by decide) rfl ?_
    refine wp_iinc (v := 6) (lv' := [(3, .int 6), (2, .int 0), (0, .ref (z 100)), (1, .int i1)]) hc 1 dX6_comesTold_49 rfl (by decide) (by decide) rfl ?_
    refine wp_goto (tgt := 19) hc dX6_comesTold_52 (by decide) ?_
    refine wp_iload_n hc 0 dX6_comesTold_19 rfl ?_
    refine wp_bipush (v := 8) hc dX6_comesTold_20 (by decide) ?_
    refine wp_icmp_ge (tgt := 55) hc dX6_comesTold_22 (by decide) (fun c => absurd c (by decide)) (fun _ => ?_)
    refine wp_iload_n hc 1 dX6_comesTold_25 rfl ?_
    refine wp_if_eq (tgt := 47) hc dX6_comesTold_26 (by decide) (fun _ => ?_) (fun c => absurd c (by decide))
    refine wp_iconst (v := 0) hc dX6_comesTold_47 (by decide) ?_
    refine wp_istore_n (lv' := [(2, .int 0), (3, .int 6), (0, .ref (z 100)), (1, .int i1)]) hc dX6_comesTold_48 (by decide) rfl ?_
    refine wp_iinc (v := 7) (lv' := [(3, .int 7), (2, .int 0), (0, .ref (z 100)), (1, .int i1)]) hc 1 dX6_comesTold_49 rfl (by decide) (by decide) rfl ?_
    refine wp_goto (tgt := 19) hc dX6_comesTold_52 (by decide) ?_
    refine wp_iload_n hc 0 dX6_comesTold_19 rfl ?_
    refine wp_bipush (v := 8) hc dX6_comesTold_20 (by decide) ?_
    refine wp_icmp_ge (tgt := 55) hc dX6_comesTold_22 (by decide) (fun c => absurd c (by decide)) (fun _ => ?_)
    refine wp_iload_n hc 1 dX6_comesTold_25 rfl ?_
    refine wp_if_eq (tgt := 47) hc dX6_comesTold_26 (by decide) (fun _ => ?_) (fun c => absurd c (by decide))
    refine wp_iconst (v := 0) hc dX6_comesTold_47 (by decide) ?_
    refine wp_istore_n (lv' := [(2, .int 0), (3, .int 7), (0, .ref (z 100)), (1, .int i1)]) hc dX6_comesTold_48 (by decide) rfl ?_
    refine wp_iinc (v := 8) (lv' := [(3, .int 8), (2, .int 0), (0, .ref (z 100)), (1, .int i1)]) hc 1 dX6_comesTold_49 rfl (by decide) (by decide) rfl ?_
    refine wp_goto (tgt := 19) hc dX6_comesTold_52 (by decide) ?_
    refine wp_iload_n hc 0 dX6_comesTold_19 rfl ?_
    refine wp_bipush (v := 8) hc dX6_comesTold_20 (by decide) ?_
    refine wp_icmp_ge (tgt := 55) hc dX6_comesTold_22 (by decide) (fun _ => ?_) (fun c => absurd c (by decide))
    refine wp_iload_n hc 1 dX6_comesTold_55 rfl ?_
    refine wp_if_eq (tgt := 94) hc dX6_comesTold_56 (by decide) (fun _ => ?_) (fun c => absurd c (by decide))
    refine wp_iconst (v := 0) hc dX6_comesTold_94 (by decide) ?_
    refine wp_zret hc hr hk rfl ?_ dX6_comesTold_95
    show (0, M) = sX6_comesTold M i1
    rw [sX6_comesTold, if_neg c8, if_pos c40]
  refine wp_iconst (v := 1) hc dX6_comesTold_43 (by decide) ?_
  refine wp_goto (tgt := 48) hc dX6_comesTold_44 (by decide) ?_
  refine wp_istore_n (lv' := [(2, .int 1), (3, .int 0), (0, .ref (z 100)), (1, .int i1)]) hc dX6_comesTold_48 (by decide) rfl ?_
  refine wp_iinc (v := 1) (lv' := [(3, .int 1), (2, .int 1), (0, .ref (z 100)), (1, .int i1)]) hc 1 dX6_comesTold_49 rfl (by decide) (by decide) rfl ?_
  refine wp_goto (tgt := 19) hc dX6_comesTold_52 (by decide) ?_
  refine wp_iload_n hc 0 dX6_comesTold_19 rfl ?_
  refine wp_bipush (v := 8) hc dX6_comesTold_20 (by decide) ?_
  refine wp_icmp_ge (tgt := 55) hc dX6_comesTold_22 (by decide) (fun c => absurd c (by decide)) (fun _ => ?_)
  refine wp_iload_n hc 1 dX6_comesTold_25 rfl ?_
  refine wp_if_eq (tgt := 47) hc dX6_comesTold_26 (by decide) (fun c => absurd c (by decide)) (fun _ => ?_)
  refine wp_aload_n hc 2 dX6_comesTold_29 rfl ?_
  refine wp_get hc hx hin6 (j := 100) (by decide) (by decide) (ce_5 rfl) rfl 16 (by decide) hf49 rfl dX6_comesTold_30 ?_
  refine wp_iload_n hc 3 dX6_comesTold_33 rfl ?_
  refine wp_iload_n hc 0 dX6_comesTold_34 rfl ?_
  refine wp_iadd hc dX6_comesTold_35 ?_
  refine wp_iald hc hx (j := 114) (by decide) (by decide) rfl (i1 + 1).toNatClampNeg rfl (ixn ha (by decide)) dX6_comesTold_36 ?_
  refine wp_callSg (As := [.int (M.1 114 (i1 + 1).toNatClampNeg)]) (rest := []) (v := (fX6_isPart (M.1 114 (i1 + 1).toNatClampNeg))) hc hNW (kX6_isPart l (M.1 114 (i1 + 1).toNatClampNeg)) cw102 rfl rfl (Nat.le_of_ble_eq_true rfl) dX6_comesTold_37 ?_
  refine wp_if_eq (tgt := 47) hc dX6_comesTold_40 (by decide) (fun c40_2 => ?_) (fun c40_2 => ?_)
  · refine wp_iconst (v := 0) hc dX6_comesTold_47 (by decide) ?_
    refine wp_istore_n (lv' := [(2, .int 0), (3, .int 1), (0, .ref (z 100)), (1, .int i1)]) hc dX6_comesTold_48 (by decide) rfl ?_
    refine wp_iinc (v := 2) (lv' := [(3, .int 2), (2, .int 0), (0, .ref (z 100)), (1, .int i1)]) hc 1 dX6_comesTold_49 rfl (by decide) (by decide) rfl ?_
    refine wp_goto (tgt := 19) hc dX6_comesTold_52 (by decide) ?_
    refine wp_iload_n hc 0 dX6_comesTold_19 rfl ?_
    refine wp_bipush (v := 8) hc dX6_comesTold_20 (by decide) ?_
    refine wp_icmp_ge (tgt := 55) hc dX6_comesTold_22 (by decide) (fun c => absurd c (by decide)) (fun _ => ?_)
    refine wp_iload_n hc 1 dX6_comesTold_25 rfl ?_
    refine wp_if_eq (tgt := 47) hc dX6_comesTold_26 (by decide) (fun _ => ?_) (fun c => absurd c (by decide))
    refine wp_iconst (v := 0) hc dX6_comesTold_47 (by decide) ?_
    refine wp_istore_n (lv' := [(2, .int 0), (3, .int 2), (0, .ref (z 100)), (1, .int i1)]) hc dX6_comesTold_48 (by decide) rfl ?_
    refine wp_iinc (v := 3) (lv' := [(3, .int 3), (2, .int 0), (0, .ref (z 100)), (1, .int i1)]) hc 1 dX6_comesTold_49 rfl (by decide) (by decide) rfl ?_
    refine wp_goto (tgt := 19) hc dX6_comesTold_52 (by decide) ?_
    refine wp_iload_n hc 0 dX6_comesTold_19 rfl ?_
    refine wp_bipush (v := 8) hc dX6_comesTold_20 (by decide) ?_
    refine wp_icmp_ge (tgt := 55) hc dX6_comesTold_22 (by decide) (fun c => absurd c (by decide)) (fun _ => ?_)
    refine wp_iload_n hc 1 dX6_comesTold_25 rfl ?_
    refine wp_if_eq (tgt := 47) hc dX6_comesTold_26 (by decide) (fun _ => ?_) (fun c => absurd c (by decide))
    refine wp_iconst (v := 0) hc dX6_comesTold_47 (by decide) ?_
    refine wp_istore_n (lv' := [(2, .int 0), (3, .int 3), (0, .ref (z 100)), (1, .int i1)]) hc dX6_comesTold_48 (by decide) rfl ?_
    refine wp_iinc (v := 4) (lv' := [(3, .int 4), (2, .int 0), (0, .ref (z 100)), (1, .int i1)]) hc 1 dX6_comesTold_49 rfl (by decide) (by decide) rfl ?_
    refine wp_goto (tgt := 19) hc dX6_comesTold_52 (by decide) ?_
    refine wp_iload_n hc 0 dX6_comesTold_19 rfl ?_
    refine wp_bipush (v := 8) hc dX6_comesTold_20 (by decide) ?_
    refine wp_icmp_ge (tgt := 55) hc dX6_comesTold_22 (by decide) (fun c => absurd c (by decide)) (fun _ => ?_)
    refine wp_iload_n hc 1 dX6_comesTold_25 rfl ?_
    refine wp_if_eq (tgt := 47) hc dX6_comesTold_26 (by decide) (fun _ => ?_) (fun c => absurd c (by decide))
    refine wp_iconst (v := 0) hc dX6_comesTold_47 (by decide) ?_
    refine wp_istore_n (lv' := [(2, .int 0), (3, .int 4), (0, .ref (z 100)), (1, .int i1)]) hc dX6_comesTold_48 (by decide) rfl ?_
    refine wp_iinc (v := 5) (lv' := [(3, .int 5), (2, .int 0), (0, .ref (z 100)), (1, .int i1)]) hc 1 dX6_comesTold_49 rfl (by decide) (by decide) rfl ?_
    refine wp_goto (tgt := 19) hc dX6_comesTold_52 (by decide) ?_
    refine wp_iload_n hc 0 dX6_comesTold_19 rfl ?_
    refine wp_bipush (v := 8) hc dX6_comesTold_20 (by decide) ?_
    refine wp_icmp_ge (tgt := 55) hc dX6_comesTold_22 (by decide) (fun c => absurd c (by decide)) (fun _ => ?_)
    refine wp_iload_n hc 1 dX6_comesTold_25 rfl ?_
    refine wp_if_eq (tgt := 47) hc dX6_comesTold_26 (by decide) (fun _ => ?_) (fun c => absurd c (by decide))
    refine wp_iconst (v := 0) hc dX6_comesTold_47 (by decide) ?_
    refine wp_istore_n (lv' := [(2, .int 0), (3, .int 5), (0, .ref (z 100)), (1, .int i1)]) hc dX6_comesTold_48 (by decide) rfl ?_
    refine wp_iinc (v := 6) (lv' := [(3, .int 6), (2, .int 0), (0, .ref (z 100)), (1, .int i1)]) hc 1 dX6_comesTold_49 rfl (by decide) (by decide) rfl ?_
    refine wp_goto (tgt := 19) hc dX6_comesTold_52 (by decide) ?_
    refine wp_iload_n hc 0 dX6_comesTold_19 rfl ?_
    refine wp_bipush (v := 8) hc dX6_comesTold_20 (by decide) ?_
    refine wp_icmp_ge (tgt := 55) hc dX6_comesTold_22 (by decide) (fun c => absurd c (by decide)) (fun _ => ?_)
    refine wp_iload_n hc 1 dX6_comesTold_25 rfl ?_
    refine wp_if_eq (tgt := 47) hc dX6_comesTold_26 (by decide) (fun _ => ?_) (fun c => absurd c (by decide))
    refine wp_iconst (v := 0) hc dX6_comesTold_47 (by decide) ?_
    refine wp_istore_n (lv' := [(2, .int 0), (3, .int 6), (0, .ref (z 100)), (1, .int i1)]) hc dX6_comesTold_48 (by decide) rfl ?_
    refine wp_iinc (v := 7) (lv' := [(3, .int 7), (2, .int 0), (0, .ref (z 100)), (1, .int i1)]) hc 1 dX6_comesTold_49 rfl (by decide) (by decide) rfl ?_
    refine wp_goto (tgt := 19) hc dX6_comesTold_52 (by decide) ?_
    refine wp_iload_n hc 0 dX6_comesTold_19 rfl ?_
    refine wp_bipush (v := 8) hc dX6_comesTold_20 (by decide) ?_
    refine wp_icmp_ge (tgt := 55) hc dX6_comesTold_22 (by decide) (fun c => absurd c (by decide)) (fun _ => ?_)
    refine wp_iload_n hc 1 dX6_comesTold_25 rfl ?_
    refine wp_if_eq (tgt := 47) hc dX6_comesTold_26 (by decide) (fun _ => ?_) (fun c => absurd c (by decide))
    refine wp_iconst (v := 0) hc dX6_comesTold_47 (by decide) ?_
    refine wp_istore_n (lv' := [(2, .int 0), (3, .int 7), (0, .ref (z 100)), (1, .int i1)]) hc dX6_comesTold_48 (by decide) rfl ?_
    refine wp_iinc (v := 8) (lv' := [(3, .int 8), (2, .int 0), (0, .ref (z 100)), (1, .int i1)]) hc 1 dX6_comesTold_49 rfl (by decide) (by decide) rfl ?_
    refine wp_goto (tgt := 19) hc dX6_comesTold_52 (by decide) ?_
    refine wp_iload_n hc 0 dX6_comesTold_19 rfl ?_
    refine wp_bipush (v := 8) hc dX6_comesTold_20 (by decide) ?_
    refine wp_icmp_ge (tgt := 55) hc dX6_comesTold_22 (by decide) (fun _ => ?_) (fun c => absurd c (by decide))
    refine wp_iload_n hc 1 dX6_comesTold_55 rfl ?_
    refine wp_if_eq (tgt := 94) hc dX6_comesTold_56 (by decide) (fun _ => ?_) (fun c => absurd c (by decide))
    refine wp_iconst (v := 0) hc dX6_comesTold_94 (by decide) ?_
    refine wp_zret hc hr hk rfl ?_ dX6_comesTold_95
    show (0, M) = sX6_comesTold M i1
    rw [sX6_comesTold, if_neg c8, if_neg c40, if_pos c40_2]
  refine wp_iconst (v := 1) hc dX6_comesTold_43 (by decide) ?_
  refine wp_goto (tgt := 48) hc dX6_comesTold_44 (by decide) ?_
  refine wp_istore_n (lv' := [(2, .int 1), (3, .int 1), (0, .ref (z 100)), (1, .int i1)]) hc dX6_comesTold_48 (by decide) rfl ?_
  refine wp_iinc (v := 2) (lv' := [(3, .int 2), (2, .int 1), (0, .ref (z 100)), (1, .int i1)]) hc 1 dX6_comesTold_49 rfl (by decide) (by decide) rfl ?_
  refine wp_goto (tgt := 19) hc dX6_comesTold_52 (by decide) ?_
  refine wp_iload_n hc 0 dX6_comesTold_19 rfl ?_
  refine wp_bipush (v := 8) hc dX6_comesTold_20 (by decide) ?_
  refine wp_icmp_ge (tgt := 55) hc dX6_comesTold_22 (by decide) (fun c => absurd c (by decide)) (fun _ => ?_)
  refine wp_iload_n hc 1 dX6_comesTold_25 rfl ?_
  refine wp_if_eq (tgt := 47) hc dX6_comesTold_26 (by decide) (fun c => absurd c (by decide)) (fun _ => ?_)
  refine wp_aload_n hc 2 dX6_comesTold_29 rfl ?_
  refine wp_get hc hx hin6 (j := 100) (by decide) (by decide) (ce_5 rfl) rfl 16 (by decide) hf49 rfl dX6_comesTold_30 ?_
  refine wp_iload_n hc 3 dX6_comesTold_33 rfl ?_
  refine wp_iload_n hc 0 dX6_comesTold_34 rfl ?_
  refine wp_iadd hc dX6_comesTold_35 ?_
  refine wp_iald hc hx (j := 114) (by decide) (by decide) rfl (i1 + 2).toNatClampNeg rfl (ixn ha (by decide)) dX6_comesTold_36 ?_
  refine wp_callSg (As := [.int (M.1 114 (i1 + 2).toNatClampNeg)]) (rest := []) (v := (fX6_isPart (M.1 114 (i1 + 2).toNatClampNeg))) hc hNW (kX6_isPart l (M.1 114 (i1 + 2).toNatClampNeg)) cw102 rfl rfl (Nat.le_of_ble_eq_true rfl) dX6_comesTold_37 ?_
  refine wp_if_eq (tgt := 47) hc dX6_comesTold_40 (by decide) (fun c40_3 => ?_) (fun c40_3 => ?_)
  · refine wp_iconst (v := 0) hc dX6_comesTold_47 (by decide) ?_
    refine wp_istore_n (lv' := [(2, .int 0), (3, .int 2), (0, .ref (z 100)), (1, .int i1)]) hc dX6_comesTold_48 (by decide) rfl ?_
    refine wp_iinc (v := 3) (lv' := [(3, .int 3), (2, .int 0), (0, .ref (z 100)), (1, .int i1)]) hc 1 dX6_comesTold_49 rfl (by decide) (by decide) rfl ?_
    refine wp_goto (tgt := 19) hc dX6_comesTold_52 (by decide) ?_
    refine wp_iload_n hc 0 dX6_comesTold_19 rfl ?_
    refine wp_bipush (v := 8) hc dX6_comesTold_20 (by decide) ?_
    refine wp_icmp_ge (tgt := 55) hc dX6_comesTold_22 (by decide) (fun c => absurd c (by decide)) (fun _ => ?_)
    refine wp_iload_n hc 1 dX6_comesTold_25 rfl ?_
    refine wp_if_eq (tgt := 47) hc dX6_comesTold_26 (by decide) (fun _ => ?_) (fun c => absurd c (by decide))
    refine wp_iconst (v := 0) hc dX6_comesTold_47 (by decide) ?_
    refine wp_istore_n (lv' := [(2, .int 0), (3, .int 3), (0, .ref (z 100)), (1, .int i1)]) hc dX6_comesTold_48 (by decide) rfl ?_
    refine wp_iinc (v := 4) (lv' := [(3, .int 4), (2, .int 0), (0, .ref (z 100)), (1, .int i1)]) hc 1 dX6_comesTold_49 rfl (by decide) (by decide) rfl ?_
    refine wp_goto (tgt := 19) hc dX6_comesTold_52 (by decide) ?_
    refine wp_iload_n hc 0 dX6_comesTold_19 rfl ?_
    refine wp_bipush (v := 8) hc dX6_comesTold_20 (by decide) ?_
    refine wp_icmp_ge (tgt := 55) hc dX6_comesTold_22 (by decide) (fun c => absurd c (by decide)) (fun _ => ?_)
    refine wp_iload_n hc 1 dX6_comesTold_25 rfl ?_
    refine wp_if_eq (tgt := 47) hc dX6_comesTold_26 (by decide) (fun _ => ?_) (fun c => absurd c (by decide))
    refine wp_iconst (v := 0) hc dX6_comesTold_47 (by decide) ?_
    refine wp_istore_n (lv' := [(2, .int 0), (3, .int 4), (0, .ref (z 100)), (1, .int i1)]) hc dX6_comesTold_48 (by decide) rfl ?_
    refine wp_iinc (v := 5) (lv' := [(3, .int 5), (2, .int 0), (0, .ref (z 100)), (1, .int i1)]) hc 1 dX6_comesTold_49 rfl (by decide) (by decide) rfl ?_
    refine wp_goto (tgt := 19) hc dX6_comesTold_52 (by decide) ?_
    refine wp_iload_n hc 0 dX6_comesTold_19 rfl ?_
    refine wp_bipush (v := 8) hc dX6_comesTold_20 (by decide) ?_
    refine wp_icmp_ge (tgt := 55) hc dX6_comesTold_22 (by decide) (fun c => absurd c (by decide)) (fun _ => ?_)
    refine wp_iload_n hc 1 dX6_comesTold_25 rfl ?_
    refine wp_if_eq (tgt := 47) hc dX6_comesTold_26 (by decide) (fun _ => ?_) (fun c => absurd c (by decide))
    refine wp_iconst (v := 0) hc dX6_comesTold_47 (by decide) ?_
    refine wp_istore_n (lv' := [(2, .int 0), (3, .int 5), (0, .ref (z 100)), (1, .int i1)]) hc dX6_comesTold_48 (by decide) rfl ?_
    refine wp_iinc (v := 6) (lv' := [(3, .int 6), (2, .int 0), (0, .ref (z 100)), (1, .int i1)]) hc 1 dX6_comesTold_49 rfl (by decide) (by decide) rfl ?_
    refine wp_goto (tgt := 19) hc dX6_comesTold_52 (by decide) ?_
    refine wp_iload_n hc 0 dX6_comesTold_19 rfl ?_
    refine wp_bipush (v := 8) hc dX6_comesTold_20 (by decide) ?_
    refine wp_icmp_ge (tgt := 55) hc dX6_comesTold_22 (by decide) (fun c => absurd c (by decide)) (fun _ => ?_)
    refine wp_iload_n hc 1 dX6_comesTold_25 rfl ?_
    refine wp_if_eq (tgt := 47) hc dX6_comesTold_26 (by decide) (fun _ => ?_) (fun c => absurd c (by decide))
    refine wp_iconst (v := 0) hc dX6_comesTold_47 (by decide) ?_
    refine wp_istore_n (lv' := [(2, .int 0), (3, .int 6), (0, .ref (z 100)), (1, .int i1)]) hc dX6_comesTold_48 (by decide) rfl ?_
    refine wp_iinc (v := 7) (lv' := [(3, .int 7), (2, .int 0), (0, .ref (z 100)), (1, .int i1)]) hc 1 dX6_comesTold_49 rfl (by decide) (by decide) rfl ?_
    refine wp_goto (tgt := 19) hc dX6_comesTold_52 (by decide) ?_
    refine wp_iload_n hc 0 dX6_comesTold_19 rfl ?_
    refine wp_bipush (v := 8) hc dX6_comesTold_20 (by decide) ?_
    refine wp_icmp_ge (tgt := 55) hc dX6_comesTold_22 (by decide) (fun c => absurd c (by decide)) (fun _ => ?_)
    refine wp_iload_n hc 1 dX6_comesTold_25 rfl ?_
    refine wp_if_eq (tgt := 47) hc dX6_comesTold_26 (by decide) (fun _ => ?_) (fun c => absurd c (by decide))
    refine wp_iconst (v := 0) hc dX6_comesTold_47 (by decide) ?_
    refine wp_istore_n (lv' := [(2, .int 0), (3, .int 7), (0, .ref (z 100)), (1, .int i1)]) hc dX6_comesTold_48 (by decide) rfl ?_
    refine wp_iinc (v := 8) (lv' := [(3, .int 8), (2, .int 0), (0, .ref (z 100)), (1, .int i1)]) hc 1 dX6_comesTold_49 rfl (by decide) (by decide) rfl ?_
    refine wp_goto (tgt := 19) hc dX6_comesTold_52 (by decide) ?_
    refine wp_iload_n hc 0 dX6_comesTold_19 rfl ?_
    refine wp_bipush (v := 8) hc dX6_comesTold_20 (by decide) ?_
    refine wp_icmp_ge (tgt := 55) hc dX6_comesTold_22 (by decide) (fun _ => ?_) (fun c => absurd c (by decide))
    refine wp_iload_n hc 1 dX6_comesTold_55 rfl ?_
    refine wp_if_eq (tgt := 94) hc dX6_comesTold_56 (by decide) (fun _ => ?_) (fun c => absurd c (by decide))
    refine wp_iconst (v := 0) hc dX6_comesTold_94 (by decide) ?_
    refine wp_zret hc hr hk rfl ?_ dX6_comesTold_95
    show (0, M) = sX6_comesTold M i1
    rw [sX6_comesTold, if_neg c8, if_neg c40, if_neg c40_2, if_pos c40_3]
  refine wp_iconst (v := 1) hc dX6_comesTold_43 (by decide) ?_
  refine wp_goto (tgt := 48) hc dX6_comesTold_44 (by decide) ?_
  refine wp_istore_n (lv' := [(2, .int 1), (3, .int 2), (0, .ref (z 100)), (1, .int i1)]) hc dX6_comesTold_48 (by decide) rfl ?_
  refine wp_iinc (v := 3) (lv' := [(3, .int 3), (2, .int 1), (0, .ref (z 100)), (1, .int i1)]) hc 1 dX6_comesTold_49 rfl (by decide) (by decide) rfl ?_
  refine wp_goto (tgt := 19) hc dX6_comesTold_52 (by decide) ?_
  refine wp_iload_n hc 0 dX6_comesTold_19 rfl ?_
  refine wp_bipush (v := 8) hc dX6_comesTold_20 (by decide) ?_
  refine wp_icmp_ge (tgt := 55) hc dX6_comesTold_22 (by decide) (fun c => absurd c (by decide)) (fun _ => ?_)
  refine wp_iload_n hc 1 dX6_comesTold_25 rfl ?_
  refine wp_if_eq (tgt := 47) hc dX6_comesTold_26 (by decide) (fun c => absurd c (by decide)) (fun _ => ?_)
  refine wp_aload_n hc 2 dX6_comesTold_29 rfl ?_
  refine wp_get hc hx hin6 (j := 100) (by decide) (by decide) (ce_5 rfl) rfl 16 (by decide) hf49 rfl dX6_comesTold_30 ?_
  refine wp_iload_n hc 3 dX6_comesTold_33 rfl ?_
  refine wp_iload_n hc 0 dX6_comesTold_34 rfl ?_
  refine wp_iadd hc dX6_comesTold_35 ?_
  refine wp_iald hc hx (j := 114) (by decide) (by decide) rfl (i1 + 3).toNatClampNeg rfl (ixn ha (by decide)) dX6_comesTold_36 ?_
  refine wp_callSg (As := [.int (M.1 114 (i1 + 3).toNatClampNeg)]) (rest := []) (v := (fX6_isPart (M.1 114 (i1 + 3).toNatClampNeg))) hc hNW (kX6_isPart l (M.1 114 (i1 + 3).toNatClampNeg)) cw102 rfl rfl (Nat.le_of_ble_eq_true rfl) dX6_comesTold_37 ?_
  refine wp_if_eq (tgt := 47) hc dX6_comesTold_40 (by decide) (fun c40_4 => ?_) (fun c40_4 => ?_)
  · refine wp_iconst (v := 0) hc dX6_comesTold_47 (by decide) ?_
    refine wp_istore_n (lv' := [(2, .int 0), (3, .int 3), (0, .ref (z 100)), (1, .int i1)]) hc dX6_comesTold_48 (by decide) rfl ?_
    refine wp_iinc (v := 4) (lv' := [(3, .int 4), (2, .int 0), (0, .ref (z 100)), (1, .int i1)]) hc 1 dX6_comesTold_49 rfl (by decide) (by decide) rfl ?_
    refine wp_goto (tgt := 19) hc dX6_comesTold_52 (by decide) ?_
    refine wp_iload_n hc 0 dX6_comesTold_19 rfl ?_
    refine wp_bipush (v := 8) hc dX6_comesTold_20 (by decide) ?_
    refine wp_icmp_ge (tgt := 55) hc dX6_comesTold_22 (by decide) (fun c => absurd c (by decide)) (fun _ => ?_)
    refine wp_iload_n hc 1 dX6_comesTold_25 rfl ?_
    refine wp_if_eq (tgt := 47) hc dX6_comesTold_26 (by decide) (fun _ => ?_) (fun c => absurd c (by decide))
    refine wp_iconst (v := 0) hc dX6_comesTold_47 (by decide) ?_
    refine wp_istore_n (lv' := [(2, .int 0), (3, .int 4), (0, .ref (z 100)), (1, .int i1)]) hc dX6_comesTold_48 (by decide) rfl ?_
    refine wp_iinc (v := 5) (lv' := [(3, .int 5), (2, .int 0), (0, .ref (z 100)), (1, .int i1)]) hc 1 dX6_comesTold_49 rfl (by decide) (by decide) rfl ?_
    refine wp_goto (tgt := 19) hc dX6_comesTold_52 (by decide) ?_
    refine wp_iload_n hc 0 dX6_comesTold_19 rfl ?_
    refine wp_bipush (v := 8) hc dX6_comesTold_20 (by decide) ?_
    refine wp_icmp_ge (tgt := 55) hc dX6_comesTold_22 (by decide) (fun c => absurd c (by decide)) (fun _ => ?_)
    refine wp_iload_n hc 1 dX6_comesTold_25 rfl ?_
    refine wp_if_eq (tgt := 47) hc dX6_comesTold_26 (by decide) (fun _ => ?_) (fun c => absurd c (by decide))
    refine wp_iconst (v := 0) hc dX6_comesTold_47 (by decide) ?_
    refine wp_istore_n (lv' := [(2, .int 0), (3, .int 5), (0, .ref (z 100)), (1, .int i1)]) hc dX6_comesTold_48 (by decide) rfl ?_
    refine wp_iinc (v := 6) (lv' := [(3, .int 6), (2, .int 0), (0, .ref (z 100)), (1, .int i1)]) hc 1 dX6_comesTold_49 rfl (by decide) (by decide) rfl ?_
    refine wp_goto (tgt := 19) hc dX6_comesTold_52 (by decide) ?_
    refine wp_iload_n hc 0 dX6_comesTold_19 rfl ?_
    refine wp_bipush (v := 8) hc dX6_comesTold_20 (by decide) ?_
    refine wp_icmp_ge (tgt := 55) hc dX6_comesTold_22 (by decide) (fun c => absurd c (by decide)) (fun _ => ?_)
    refine wp_iload_n hc 1 dX6_comesTold_25 rfl ?_
    refine wp_if_eq (tgt := 47) hc dX6_comesTold_26 (by decide) (fun _ => ?_) (fun c => absurd c (by decide))
    refine wp_iconst (v := 0) hc dX6_comesTold_47 (by decide) ?_
    refine wp_istore_n (lv' := [(2, .int 0), (3, .int 6), (0, .ref (z 100)), (1, .int i1)]) hc dX6_comesTold_48 (by decide) rfl ?_
    refine wp_iinc (v := 7) (lv' := [(3, .int 7), (2, .int 0), (0, .ref (z 100)), (1, .int i1)]) hc 1 dX6_comesTold_49 rfl (by decide) (by decide) rfl ?_
    refine wp_goto (tgt := 19) hc dX6_comesTold_52 (by decide) ?_
    refine wp_iload_n hc 0 dX6_comesTold_19 rfl ?_
    refine wp_bipush (v := 8) hc dX6_comesTold_20 (by decide) ?_
    refine wp_icmp_ge (tgt := 55) hc dX6_comesTold_22 (by decide) (fun c => absurd c (by decide)) (fun _ => ?_)
    refine wp_iload_n hc 1 dX6_comesTold_25 rfl ?_
    refine wp_if_eq (tgt := 47) hc dX6_comesTold_26 (by decide) (fun _ => ?_) (fun c => absurd c (by decide))
    refine wp_iconst (v := 0) hc dX6_comesTold_47 (by decide) ?_
    refine wp_istore_n (lv' := [(2, .int 0), (3, .int 7), (0, .ref (z 100)), (1, .int i1)]) hc dX6_comesTold_48 (by decide) rfl ?_
    refine wp_iinc (v := 8) (lv' := [(3, .int 8), (2, .int 0), (0, .ref (z 100)), (1, .int i1)]) hc 1 dX6_comesTold_49 rfl (by decide) (by decide) rfl ?_
    refine wp_goto (tgt := 19) hc dX6_comesTold_52 (by decide) ?_
    refine wp_iload_n hc 0 dX6_comesTold_19 rfl ?_
    refine wp_bipush (v := 8) hc dX6_comesTold_20 (by decide) ?_
    refine wp_icmp_ge (tgt := 55) hc dX6_comesTold_22 (by decide) (fun _ => ?_) (fun c => absurd c (by decide))
    refine wp_iload_n hc 1 dX6_comesTold_55 rfl ?_
    refine wp_if_eq (tgt := 94) hc dX6_comesTold_56 (by decide) (fun _ => ?_) (fun c => absurd c (by decide))
    refine wp_iconst (v := 0) hc dX6_comesTold_94 (by decide) ?_
    refine wp_zret hc hr hk rfl ?_ dX6_comesTold_95
    show (0, M) = sX6_comesTold M i1
    rw [sX6_comesTold, if_neg c8, if_neg c40, if_neg c40_2, if_neg c40_3, if_pos c40_4]
  refine wp_iconst (v := 1) hc dX6_comesTold_43 (by decide) ?_
  refine wp_goto (tgt := 48) hc dX6_comesTold_44 (by decide) ?_
  refine wp_istore_n (lv' := [(2, .int 1), (3, .int 3), (0, .ref (z 100)), (1, .int i1)]) hc dX6_comesTold_48 (by decide) rfl ?_
  refine wp_iinc (v := 4) (lv' := [(3, .int 4), (2, .int 1), (0, .ref (z 100)), (1, .int i1)]) hc 1 dX6_comesTold_49 rfl (by decide) (by decide) rfl ?_
  refine wp_goto (tgt := 19) hc dX6_comesTold_52 (by decide) ?_
  refine wp_iload_n hc 0 dX6_comesTold_19 rfl ?_
  refine wp_bipush (v := 8) hc dX6_comesTold_20 (by decide) ?_
  refine wp_icmp_ge (tgt := 55) hc dX6_comesTold_22 (by decide) (fun c => absurd c (by decide)) (fun _ => ?_)
  refine wp_iload_n hc 1 dX6_comesTold_25 rfl ?_
  refine wp_if_eq (tgt := 47) hc dX6_comesTold_26 (by decide) (fun c => absurd c (by decide)) (fun _ => ?_)
  refine wp_aload_n hc 2 dX6_comesTold_29 rfl ?_
  refine wp_get hc hx hin6 (j := 100) (by decide) (by decide) (ce_5 rfl) rfl 16 (by decide) hf49 rfl dX6_comesTold_30 ?_
  refine wp_iload_n hc 3 dX6_comesTold_33 rfl ?_
  refine wp_iload_n hc 0 dX6_comesTold_34 rfl ?_
  refine wp_iadd hc dX6_comesTold_35 ?_
  refine wp_iald hc hx (j := 114) (by decide) (by decide) rfl (i1 + 4).toNatClampNeg rfl (ixn ha (by decide)) dX6_comesTold_36 ?_
  refine wp_callSg (As := [.int (M.1 114 (i1 + 4).toNatClampNeg)]) (rest := []) (v := (fX6_isPart (M.1 114 (i1 + 4).toNatClampNeg))) hc hNW (kX6_isPart l (M.1 114 (i1 + 4).toNatClampNeg)) cw102 rfl rfl (Nat.le_of_ble_eq_true rfl) dX6_comesTold_37 ?_
  refine wp_if_eq (tgt := 47) hc dX6_comesTold_40 (by decide) (fun c40_5 => ?_) (fun c40_5 => ?_)
  · refine wp_iconst (v := 0) hc dX6_comesTold_47 (by decide) ?_
    refine wp_istore_n (lv' := [(2, .int 0), (3, .int 4), (0, .ref (z 100)), (1, .int i1)]) hc dX6_comesTold_48 (by decide) rfl ?_
    refine wp_iinc (v := 5) (lv' := [(3, .int 5), (2, .int 0), (0, .ref (z 100)), (1, .int i1)]) hc 1 dX6_comesTold_49 rfl (by decide) (by decide) rfl ?_
    refine wp_goto (tgt := 19) hc dX6_comesTold_52 (by decide) ?_
    refine wp_iload_n hc 0 dX6_comesTold_19 rfl ?_
    refine wp_bipush (v := 8) hc dX6_comesTold_20 (by decide) ?_
    refine wp_icmp_ge (tgt := 55) hc dX6_comesTold_22 (by decide) (fun c => absurd c (by decide)) (fun _ => ?_)
    refine wp_iload_n hc 1 dX6_comesTold_25 rfl ?_
    refine wp_if_eq (tgt := 47) hc dX6_comesTold_26 (by decide) (fun _ => ?_) (fun c => absurd c (by decide))
    refine wp_iconst (v := 0) hc dX6_comesTold_47 (by decide) ?_
    refine wp_istore_n (lv' := [(2, .int 0), (3, .int 5), (0, .ref (z 100)), (1, .int i1)]) hc dX6_comesTold_48 (by decide) rfl ?_
    refine wp_iinc (v := 6) (lv' := [(3, .int 6), (2, .int 0), (0, .ref (z 100)), (1, .int i1)]) hc 1 dX6_comesTold_49 rfl (by decide) (by decide) rfl ?_
    refine wp_goto (tgt := 19) hc dX6_comesTold_52 (by decide) ?_
    refine wp_iload_n hc 0 dX6_comesTold_19 rfl ?_
    refine wp_bipush (v := 8) hc dX6_comesTold_20 (by decide) ?_
    refine wp_icmp_ge (tgt := 55) hc dX6_comesTold_22 (by decide) (fun c => absurd c (by decide)) (fun _ => ?_)
    refine wp_iload_n hc 1 dX6_comesTold_25 rfl ?_
    refine wp_if_eq (tgt := 47) hc dX6_comesTold_26 (by decide) (fun _ => ?_) (fun c => absurd c (by decide))
    refine wp_iconst (v := 0) hc dX6_comesTold_47 (by decide) ?_
    refine wp_istore_n (lv' := [(2, .int 0), (3, .int 6), (0, .ref (z 100)), (1, .int i1)]) hc dX6_comesTold_48 (by decide) rfl ?_
    refine wp_iinc (v := 7) (lv' := [(3, .int 7), (2, .int 0), (0, .ref (z 100)), (1, .int i1)]) hc 1 dX6_comesTold_49 rfl (by decide) (by decide) rfl ?_
    refine wp_goto (tgt := 19) hc dX6_comesTold_52 (by decide) ?_
    refine wp_iload_n hc 0 dX6_comesTold_19 rfl ?_
    refine wp_bipush (v := 8) hc dX6_comesTold_20 (by decide) ?_
    refine wp_icmp_ge (tgt := 55) hc dX6_comesTold_22 (by decide) (fun c => absurd c (by decide)) (fun _ => ?_)
    refine wp_iload_n hc 1 dX6_comesTold_25 rfl ?_
    refine wp_if_eq (tgt := 47) hc dX6_comesTold_26 (by decide) (fun _ => ?_) (fun c => absurd c (by decide))
    refine wp_iconst (v := 0) hc dX6_comesTold_47 (by decide) ?_
    refine wp_istore_n (lv' := [(2, .int 0), (3, .int 7), (0, .ref (z 100)), (1, .int i1)]) hc dX6_comesTold_48 (by decide) rfl ?_
    refine wp_iinc (v := 8) (lv' := [(3, .int 8), (2, .int 0), (0, .ref (z 100)), (1, .int i1)]) hc 1 dX6_comesTold_49 rfl (by decide) (by decide) rfl ?_
    refine wp_goto (tgt := 19) hc dX6_comesTold_52 (by decide) ?_
    refine wp_iload_n hc 0 dX6_comesTold_19 rfl ?_
    refine wp_bipush (v := 8) hc dX6_comesTold_20 (by decide) ?_
    refine wp_icmp_ge (tgt := 55) hc dX6_comesTold_22 (by decide) (fun _ => ?_) (fun c => absurd c (by decide))
    refine wp_iload_n hc 1 dX6_comesTold_55 rfl ?_
    refine wp_if_eq (tgt := 94) hc dX6_comesTold_56 (by decide) (fun _ => ?_) (fun c => absurd c (by decide))
    refine wp_iconst (v := 0) hc dX6_comesTold_94 (by decide) ?_
    refine wp_zret hc hr hk rfl ?_ dX6_comesTold_95
    show (0, M) = sX6_comesTold M i1
    rw [sX6_comesTold, if_neg c8, if_neg c40, if_neg c40_2, if_neg c40_3, if_neg c40_4, if_pos c40_5]
  refine wp_iconst (v := 1) hc dX6_comesTold_43 (by decide) ?_
  refine wp_goto (tgt := 48) hc dX6_comesTold_44 (by decide) ?_
  refine wp_istore_n (lv' := [(2, .int 1), (3, .int 4), (0, .ref (z 100)), (1, .int i1)]) hc dX6_comesTold_48 (by decide) rfl ?_
  refine wp_iinc (v := 5) (lv' := [(3, .int 5), (2, .int 1), (0, .ref (z 100)), (1, .int i1)]) hc 1 dX6_comesTold_49 rfl (by decide) (by decide) rfl ?_
  refine wp_goto (tgt := 19) hc dX6_comesTold_52 (by decide) ?_
  refine wp_iload_n hc 0 dX6_comesTold_19 rfl ?_
  refine wp_bipush (v := 8) hc dX6_comesTold_20 (by decide) ?_
  refine wp_icmp_ge (tgt := 55) hc dX6_comesTold_22 (by decide) (fun c => absurd c (by decide)) (fun _ => ?_)
  refine wp_iload_n hc 1 dX6_comesTold_25 rfl ?_
  refine wp_if_eq (tgt := 47) hc dX6_comesTold_26 (by decide) (fun c => absurd c (by decide)) (fun _ => ?_)
  refine wp_aload_n hc 2 dX6_comesTold_29 rfl ?_
  refine wp_get hc hx hin6 (j := 100) (by decide) (by decide) (ce_5 rfl) rfl 16 (by decide) hf49 rfl dX6_comesTold_30 ?_
  refine wp_iload_n hc 3 dX6_comesTold_33 rfl ?_
  refine wp_iload_n hc 0 dX6_comesTold_34 rfl ?_
  refine wp_iadd hc dX6_comesTold_35 ?_
  refine wp_iald hc hx (j := 114) (by decide) (by decide) rfl (i1 + 5).toNatClampNeg rfl (ixn ha (by decide)) dX6_comesTold_36 ?_
  refine wp_callSg (As := [.int (M.1 114 (i1 + 5).toNatClampNeg)]) (rest := []) (v := (fX6_isPart (M.1 114 (i1 + 5).toNatClampNeg))) hc hNW (kX6_isPart l (M.1 114 (i1 + 5).toNatClampNeg)) cw102 rfl rfl (Nat.le_of_ble_eq_true rfl) dX6_comesTold_37 ?_
  refine wp_if_eq (tgt := 47) hc dX6_comesTold_40 (by decide) (fun c40_6 => ?_) (fun c40_6 => ?_)
  · refine wp_iconst (v := 0) hc dX6_comesTold_47 (by decide) ?_
    refine wp_istore_n (lv' := [(2, .int 0), (3, .int 5), (0, .ref (z 100)), (1, .int i1)]) hc dX6_comesTold_48 (by decide) rfl ?_
    refine wp_iinc (v := 6) (lv' := [(3, .int 6), (2, .int 0), (0, .ref (z 100)), (1, .int i1)]) hc 1 dX6_comesTold_49 rfl (by decide) (by decide) rfl ?_
    refine wp_goto (tgt := 19) hc dX6_comesTold_52 (by decide) ?_
    refine wp_iload_n hc 0 dX6_comesTold_19 rfl ?_
    refine wp_bipush (v := 8) hc dX6_comesTold_20 (by decide) ?_
    refine wp_icmp_ge (tgt := 55) hc dX6_comesTold_22 (by decide) (fun c => absurd c (by decide)) (fun _ => ?_)
    refine wp_iload_n hc 1 dX6_comesTold_25 rfl ?_
    refine wp_if_eq (tgt := 47) hc dX6_comesTold_26 (by decide) (fun _ => ?_) (fun c => absurd c (by decide))
    refine wp_iconst (v := 0) hc dX6_comesTold_47 (by decide) ?_
    refine wp_istore_n (lv' := [(2, .int 0), (3, .int 6), (0, .ref (z 100)), (1, .int i1)]) hc dX6_comesTold_48 (by decide) rfl ?_
    refine wp_iinc (v := 7) (lv' := [(3, .int 7), (2, .int 0), (0, .ref (z 100)), (1, .int i1)]) hc 1 dX6_comesTold_49 rfl (by decide) (by decide) rfl ?_
    refine wp_goto (tgt := 19) hc dX6_comesTold_52 (by decide) ?_
    refine wp_iload_n hc 0 dX6_comesTold_19 rfl ?_
    refine wp_bipush (v := 8) hc dX6_comesTold_20 (by decide) ?_
    refine wp_icmp_ge (tgt := 55) hc dX6_comesTold_22 (by decide) (fun c => absurd c (by decide)) (fun _ => ?_)
    refine wp_iload_n hc 1 dX6_comesTold_25 rfl ?_
    refine wp_if_eq (tgt := 47) hc dX6_comesTold_26 (by decide) (fun _ => ?_) (fun c => absurd c (by decide))
    refine wp_iconst (v := 0) hc dX6_comesTold_47 (by decide) ?_
    refine wp_istore_n (lv' := [(2, .int 0), (3, .int 7), (0, .ref (z 100)), (1, .int i1)]) hc dX6_comesTold_48 (by decide) rfl ?_
    refine wp_iinc (v := 8) (lv' := [(3, .int 8), (2, .int 0), (0, .ref (z 100)), (1, .int i1)]) hc 1 dX6_comesTold_49 rfl (by decide) (by decide) rfl ?_
    refine wp_goto (tgt := 19) hc dX6_comesTold_52 (by decide) ?_
    refine wp_iload_n hc 0 dX6_comesTold_19 rfl ?_
    refine wp_bipush (v := 8) hc dX6_comesTold_20 (by decide) ?_
    refine wp_icmp_ge (tgt := 55) hc dX6_comesTold_22 (by decide) (fun _ => ?_) (fun c => absurd c (by decide))
    refine wp_iload_n hc 1 dX6_comesTold_55 rfl ?_
    refine wp_if_eq (tgt := 94) hc dX6_comesTold_56 (by decide) (fun _ => ?_) (fun c => absurd c (by decide))
    refine wp_iconst (v := 0) hc dX6_comesTold_94 (by decide) ?_
    refine wp_zret hc hr hk rfl ?_ dX6_comesTold_95
    show (0, M) = sX6_comesTold M i1
    rw [sX6_comesTold, if_neg c8, if_neg c40, if_neg c40_2, if_neg c40_3, if_neg c40_4, if_neg c40_5, if_pos c40_6]
  refine wp_iconst (v := 1) hc dX6_comesTold_43 (by decide) ?_
  refine wp_goto (tgt := 48) hc dX6_comesTold_44 (by decide) ?_
  refine wp_istore_n (lv' := [(2, .int 1), (3, .int 5), (0, .ref (z 100)), (1, .int i1)]) hc dX6_comesTold_48 (by decide) rfl ?_
  refine wp_iinc (v := 6) (lv' := [(3, .int 6), (2, .int 1), (0, .ref (z 100)), (1, .int i1)]) hc 1 dX6_comesTold_49 rfl (by decide) (by decide) rfl ?_
  refine wp_goto (tgt := 19) hc dX6_comesTold_52 (by decide) ?_
  refine wp_iload_n hc 0 dX6_comesTold_19 rfl ?_
  refine wp_bipush (v := 8) hc dX6_comesTold_20 (by decide) ?_
  refine wp_icmp_ge (tgt := 55) hc dX6_comesTold_22 (by decide) (fun c => absurd c (by decide)) (fun _ => ?_)
  refine wp_iload_n hc 1 dX6_comesTold_25 rfl ?_
  refine wp_if_eq (tgt := 47) hc dX6_comesTold_26 (by decide) (fun c => absurd c (by decide)) (fun _ => ?_)
  refine wp_aload_n hc 2 dX6_comesTold_29 rfl ?_
  refine wp_get hc hx hin6 (j := 100) (by decide) (by decide) (ce_5 rfl) rfl 16 (by decide) hf49 rfl dX6_comesTold_30 ?_
  refine wp_iload_n hc 3 dX6_comesTold_33 rfl ?_
  refine wp_iload_n hc 0 dX6_comesTold_34 rfl ?_
  refine wp_iadd hc dX6_comesTold_35 ?_
  refine wp_iald hc hx (j := 114) (by decide) (by decide) rfl (i1 + 6).toNatClampNeg rfl (ixn ha (by decide)) dX6_comesTold_36 ?_
  refine wp_callSg (As := [.int (M.1 114 (i1 + 6).toNatClampNeg)]) (rest := []) (v := (fX6_isPart (M.1 114 (i1 + 6).toNatClampNeg))) hc hNW (kX6_isPart l (M.1 114 (i1 + 6).toNatClampNeg)) cw102 rfl rfl (Nat.le_of_ble_eq_true rfl) dX6_comesTold_37 ?_
  refine wp_if_eq (tgt := 47) hc dX6_comesTold_40 (by decide) (fun c40_7 => ?_) (fun c40_7 => ?_)
  · refine wp_iconst (v := 0) hc dX6_comesTold_47 (by decide) ?_
    refine wp_istore_n (lv' := [(2, .int 0), (3, .int 6), (0, .ref (z 100)), (1, .int i1)]) hc dX6_comesTold_48 (by decide) rfl ?_
    refine wp_iinc (v := 7) (lv' := [(3, .int 7), (2, .int 0), (0, .ref (z 100)), (1, .int i1)]) hc 1 dX6_comesTold_49 rfl (by decide) (by decide) rfl ?_
    refine wp_goto (tgt := 19) hc dX6_comesTold_52 (by decide) ?_
    refine wp_iload_n hc 0 dX6_comesTold_19 rfl ?_
    refine wp_bipush (v := 8) hc dX6_comesTold_20 (by decide) ?_
    refine wp_icmp_ge (tgt := 55) hc dX6_comesTold_22 (by decide) (fun c => absurd c (by decide)) (fun _ => ?_)
    refine wp_iload_n hc 1 dX6_comesTold_25 rfl ?_
    refine wp_if_eq (tgt := 47) hc dX6_comesTold_26 (by decide) (fun _ => ?_) (fun c => absurd c (by decide))
    refine wp_iconst (v := 0) hc dX6_comesTold_47 (by decide) ?_
    refine wp_istore_n (lv' := [(2, .int 0), (3, .int 7), (0, .ref (z 100)), (1, .int i1)]) hc dX6_comesTold_48 (by decide) rfl ?_
    refine wp_iinc (v := 8) (lv' := [(3, .int 8), (2, .int 0), (0, .ref (z 100)), (1, .int i1)]) hc 1 dX6_comesTold_49 rfl (by decide) (by decide) rfl ?_
    refine wp_goto (tgt := 19) hc dX6_comesTold_52 (by decide) ?_
    refine wp_iload_n hc 0 dX6_comesTold_19 rfl ?_
    refine wp_bipush (v := 8) hc dX6_comesTold_20 (by decide) ?_
    refine wp_icmp_ge (tgt := 55) hc dX6_comesTold_22 (by decide) (fun _ => ?_) (fun c => absurd c (by decide))
    refine wp_iload_n hc 1 dX6_comesTold_55 rfl ?_
    refine wp_if_eq (tgt := 94) hc dX6_comesTold_56 (by decide) (fun _ => ?_) (fun c => absurd c (by decide))
    refine wp_iconst (v := 0) hc dX6_comesTold_94 (by decide) ?_
    refine wp_zret hc hr hk rfl ?_ dX6_comesTold_95
    show (0, M) = sX6_comesTold M i1
    rw [sX6_comesTold, if_neg c8, if_neg c40, if_neg c40_2, if_neg c40_3, if_neg c40_4, if_neg c40_5, if_neg c40_6, if_pos c40_7]
  refine wp_iconst (v := 1) hc dX6_comesTold_43 (by decide) ?_
  refine wp_goto (tgt := 48) hc dX6_comesTold_44 (by decide) ?_
  refine wp_istore_n (lv' := [(2, .int 1), (3, .int 6), (0, .ref (z 100)), (1, .int i1)]) hc dX6_comesTold_48 (by decide) rfl ?_
  refine wp_iinc (v := 7) (lv' := [(3, .int 7), (2, .int 1), (0, .ref (z 100)), (1, .int i1)]) hc 1 dX6_comesTold_49 rfl (by decide) (by decide) rfl ?_
  refine wp_goto (tgt := 19) hc dX6_comesTold_52 (by decide) ?_
  refine wp_iload_n hc 0 dX6_comesTold_19 rfl ?_
  refine wp_bipush (v := 8) hc dX6_comesTold_20 (by decide) ?_
  refine wp_icmp_ge (tgt := 55) hc dX6_comesTold_22 (by decide) (fun c => absurd c (by decide)) (fun _ => ?_)
  refine wp_iload_n hc 1 dX6_comesTold_25 rfl ?_
  refine wp_if_eq (tgt := 47) hc dX6_comesTold_26 (by decide) (fun c => absurd c (by decide)) (fun _ => ?_)
  refine wp_aload_n hc 2 dX6_comesTold_29 rfl ?_
  refine wp_get hc hx hin6 (j := 100) (by decide) (by decide) (ce_5 rfl) rfl 16 (by decide) hf49 rfl dX6_comesTold_30 ?_
  refine wp_iload_n hc 3 dX6_comesTold_33 rfl ?_
  refine wp_iload_n hc 0 dX6_comesTold_34 rfl ?_
  refine wp_iadd hc dX6_comesTold_35 ?_
  refine wp_iald hc hx (j := 114) (by decide) (by decide) rfl (i1 + 7).toNatClampNeg rfl (ixn ha (by decide)) dX6_comesTold_36 ?_
  refine wp_callSg (As := [.int (M.1 114 (i1 + 7).toNatClampNeg)]) (rest := []) (v := (fX6_isPart (M.1 114 (i1 + 7).toNatClampNeg))) hc hNW (kX6_isPart l (M.1 114 (i1 + 7).toNatClampNeg)) cw102 rfl rfl (Nat.le_of_ble_eq_true rfl) dX6_comesTold_37 ?_
  refine wp_if_eq (tgt := 47) hc dX6_comesTold_40 (by decide) (fun c40_8 => ?_) (fun c40_8 => ?_)
  · refine wp_iconst (v := 0) hc dX6_comesTold_47 (by decide) ?_
    refine wp_istore_n (lv' := [(2, .int 0), (3, .int 7), (0, .ref (z 100)), (1, .int i1)]) hc dX6_comesTold_48 (by decide) rfl ?_
    refine wp_iinc (v := 8) (lv' := [(3, .int 8), (2, .int 0), (0, .ref (z 100)), (1, .int i1)]) hc 1 dX6_comesTold_49 rfl (by decide) (by decide) rfl ?_
    refine wp_goto (tgt := 19) hc dX6_comesTold_52 (by decide) ?_
    refine wp_iload_n hc 0 dX6_comesTold_19 rfl ?_
    refine wp_bipush (v := 8) hc dX6_comesTold_20 (by decide) ?_
    refine wp_icmp_ge (tgt := 55) hc dX6_comesTold_22 (by decide) (fun _ => ?_) (fun c => absurd c (by decide))
    refine wp_iload_n hc 1 dX6_comesTold_55 rfl ?_
    refine wp_if_eq (tgt := 94) hc dX6_comesTold_56 (by decide) (fun _ => ?_) (fun c => absurd c (by decide))
    refine wp_iconst (v := 0) hc dX6_comesTold_94 (by decide) ?_
    refine wp_zret hc hr hk rfl ?_ dX6_comesTold_95
    show (0, M) = sX6_comesTold M i1
    rw [sX6_comesTold, if_neg c8, if_neg c40, if_neg c40_2, if_neg c40_3, if_neg c40_4, if_neg c40_5, if_neg c40_6, if_neg c40_7, if_pos c40_8]
  refine wp_iconst (v := 1) hc dX6_comesTold_43 (by decide) ?_
  refine wp_goto (tgt := 48) hc dX6_comesTold_44 (by decide) ?_
  refine wp_istore_n (lv' := [(2, .int 1), (3, .int 7), (0, .ref (z 100)), (1, .int i1)]) hc dX6_comesTold_48 (by decide) rfl ?_
  refine wp_iinc (v := 8) (lv' := [(3, .int 8), (2, .int 1), (0, .ref (z 100)), (1, .int i1)]) hc 1 dX6_comesTold_49 rfl (by decide) (by decide) rfl ?_
  refine wp_goto (tgt := 19) hc dX6_comesTold_52 (by decide) ?_
  refine wp_iload_n hc 0 dX6_comesTold_19 rfl ?_
  refine wp_bipush (v := 8) hc dX6_comesTold_20 (by decide) ?_
  refine wp_icmp_ge (tgt := 55) hc dX6_comesTold_22 (by decide) (fun _ => ?_) (fun c => absurd c (by decide))
  refine wp_iload_n hc 1 dX6_comesTold_55 rfl ?_
  refine wp_if_eq (tgt := 94) hc dX6_comesTold_56 (by decide) (fun c => absurd c (by decide)) (fun _ => ?_)
  refine wp_aload_n hc 2 dX6_comesTold_59 rfl ?_
  refine wp_aload_n hc 2 dX6_comesTold_60 rfl ?_
  refine wp_iload_n hc 3 dX6_comesTold_61 rfl ?_
  refine wp_iconst (v := 0) hc dX6_comesTold_62 (by decide) ?_
  refine wp_callVf (As := [.int i1, .int 0]) (rest := [.ref (z 100)]) (j := 100) (v := (fX6_numberAt M i1 0)) hc hx (kX6_numberAt l D cy z hz M i1 0 ha (by decide)) cw249 (by decide) (by decide) (ce_5 rfl) rfl rfl rfl rfl (Nat.le_of_ble_eq_true rfl) dX6_comesTold_63 ?_
  refine wp_aload_n hc 2 dX6_comesTold_66 rfl ?_
  refine wp_iload_n hc 3 dX6_comesTold_67 rfl ?_
  refine wp_iconst (v := 1) hc dX6_comesTold_68 (by decide) ?_
  refine wp_callVf (As := [.int i1, .int 1]) (rest := [.int (fX6_numberAt M i1 0), .ref (z 100)]) (j := 100) (v := (fX6_numberAt M i1 1)) hc hx (kX6_numberAt l D cy z hz M i1 1 ha (by decide)) cw249 (by decide) (by decide) (ce_5 rfl) rfl rfl rfl rfl (Nat.le_of_ble_eq_true rfl) dX6_comesTold_69 ?_
  refine wp_aload_n hc 2 dX6_comesTold_72 rfl ?_
  refine wp_iload_n hc 3 dX6_comesTold_73 rfl ?_
  refine wp_iconst (v := 2) hc dX6_comesTold_74 (by decide) ?_
  refine wp_callVf (As := [.int i1, .int 2]) (rest := [.int (fX6_numberAt M i1 1), .int (fX6_numberAt M i1 0), .ref (z 100)]) (j := 100) (v := (fX6_numberAt M i1 2)) hc hx (kX6_numberAt l D cy z hz M i1 2 ha (by decide)) cw249 (by decide) (by decide) (ce_5 rfl) rfl rfl rfl rfl (Nat.le_of_ble_eq_true rfl) dX6_comesTold_75 ?_
  refine wp_aload_n hc 2 dX6_comesTold_78 rfl ?_
  refine wp_iload_n hc 3 dX6_comesTold_79 rfl ?_
  refine wp_iconst (v := 3) hc dX6_comesTold_80 (by decide) ?_
  refine wp_callVf (As := [.int i1, .int 3]) (rest := [.int (fX6_numberAt M i1 2), .int (fX6_numberAt M i1 1), .int (fX6_numberAt M i1 0), .ref (z 100)]) (j := 100) (v := (fX6_numberAt M i1 3)) hc hx (kX6_numberAt l D cy z hz M i1 3 ha (by decide)) cw249 (by decide) (by decide) (ce_5 rfl) rfl rfl rfl rfl (Nat.le_of_ble_eq_true rfl) dX6_comesTold_81 ?_
  refine wp_callVw (As := [.int (fX6_numberAt M i1 0), .int (fX6_numberAt M i1 1), .int (fX6_numberAt M i1 2), .int (fX6_numberAt M i1 3)]) (rest := []) (j := 100) (w := sX6_comes M (fX6_numberAt M i1 0) (fX6_numberAt M i1 1) (fX6_numberAt M i1 2) (fX6_numberAt M i1 3)) hc hx (kX6_comes l D cy z hz M (fX6_numberAt M i1 0) (fX6_numberAt M i1 1) (fX6_numberAt M i1 2) (fX6_numberAt M i1 3) (nge8 hn c8)) cw94 (by decide) (by decide) (ce_5 rfl) rfl rfl rfl rfl (Nat.le_of_ble_eq_true rfl) dX6_comesTold_84 (fun x1 hx1 => ?_)
  refine wp_if_lt (tgt := 94) hc dX6_comesTold_87 (by decide) (fun c87 => ?_) (fun c87 => ?_)
  · refine wp_iconst (v := 0) hc dX6_comesTold_94 (by decide) ?_
    refine wp_zret hc hr hk rfl ?_ dX6_comesTold_95
    show (0, x1.2) = sX6_comesTold M i1
    rw [sX6_comesTold, if_neg c8, if_neg c40, if_neg c40_2, if_neg c40_3, if_neg c40_4, if_neg c40_5, if_neg c40_6, if_neg c40_7, if_neg c40_8, tk_eq hx1, if_pos c87]
  refine wp_iconst (v := 1) hc dX6_comesTold_90 (by decide) ?_
  refine wp_goto (tgt := 95) hc dX6_comesTold_91 (by decide) ?_
  refine wp_zret hc hr hk rfl ?_ dX6_comesTold_95
  show (1, x1.2) = sX6_comesTold M i1
  rw [sX6_comesTold, if_neg c8, if_neg c40, if_neg c40_2, if_neg c40_3, if_neg c40_4, if_neg c40_5, if_neg c40_6, if_neg c40_7, if_neg c40_8, tk_eq hx1, if_neg c87]
theorem bX6_comesTold (M : Mem) (i1 : Int32) : B01 (sX6_comesTold M i1) := by
  unfold sX6_comesTold
  refine ite_ind (P := B01) (fun _ => ?_) (fun _ => ?_)
  · exact (show _ ∨ _ from Or.inl rfl)
  · refine ite_ind (P := B01) (fun _ => ?_) (fun _ => ?_)
    · exact (show _ ∨ _ from Or.inl rfl)
    · refine ite_ind (P := B01) (fun _ => ?_) (fun _ => ?_)
      · exact (show _ ∨ _ from Or.inl rfl)
      · refine ite_ind (P := B01) (fun _ => ?_) (fun _ => ?_)
        · exact (show _ ∨ _ from Or.inl rfl)
        · refine ite_ind (P := B01) (fun _ => ?_) (fun _ => ?_)
          · exact (show _ ∨ _ from Or.inl rfl)
          · refine ite_ind (P := B01) (fun _ => ?_) (fun _ => ?_)
            · exact (show _ ∨ _ from Or.inl rfl)
            · refine ite_ind (P := B01) (fun _ => ?_) (fun _ => ?_)
              · exact (show _ ∨ _ from Or.inl rfl)
              · refine ite_ind (P := B01) (fun _ => ?_) (fun _ => ?_)
                · exact (show _ ∨ _ from Or.inl rfl)
                · refine ite_ind (P := B01) (fun _ => ?_) (fun _ => ?_)
                  · exact (show _ ∨ _ from Or.inl rfl)
                  · refine tk_ind (P := B01) _ _ (fun x1 hx1 => ?_)
                    refine ite_ind (P := B01) (fun _ => ?_) (fun _ => ?_)
                    · exact (show _ ∨ _ from Or.inl rfl)
                    · exact (show _ ∨ _ from Or.inr rfl)
def sX6_errsTold (M : Mem) (i1 : Int32) (i2 : Int32) (i3 : Int32) : Int32 × Mem :=
  if (fX6_isError i1) = 0 then
  (0, M)
  else
  if (fX6_isPart i2) = 0 then
  (0, M)
  else
  if (fX6_isPart i3) = 0 then
  (0, M)
  else
  tk (st M 101 (33 + i1).toNatClampNeg (fX6_number i2 i3)) fun M1 =>
  (1, M1)
set_option maxHeartbeats 4000000 in
set_option maxRecDepth 100000 in
theorem kX6_errsTold (l : Launch) (D : va_G) (cy : Nat → ClassId) (z : Nat → Nat) (hz : zI z) (M : Mem) (i1 : Int32) (i2 : Int32) (i3 : Int32) : KI l yX6_errsTold wsX6_errsTold { frames := 2, cells := 0, slots := 0, locals := 42 } D cy z 100 15 [.ref (z 100), .int i1, .int i2, .int i3] M (fun r u => (r, u) = sX6_errsTold M i1 i2 i3) := by
  refine met_wp (lv := [(0, .ref (z 100)), (1, .int i1), (2, .int i2), (3, .int i3)]) hz (by decide) (by decide) rfl rfl (Nat.le_of_ble_eq_true rfl) rfl ?_
  intro p e s m below meth c hc hx hr hk
  have hNW := hx.2.1
  have hin6 : ∀ w ∈ wsX60, w ∈ wsX6_errsTold := by decide +kernel
  have hf7 : Cond.fieldLink RX6 7 (TX6 0).1 (TX6 0).2.1 (TX6 0).2.2.1 ∈ wsX6_errsTold := by decide +kernel
  have cw64 : CallB ({ frames := 2, cells := 0, slots := 0, locals := 42 }) s _ RX6 64 yX6_number cX6_number 2 (some .int) wsX6_number ({ frames := 1, cells := 0, slots := 0, locals := 21 }) 0 0 2 ∧ (Cond.static yX6_number).before _ s = true := va_cwS 2 hc.2.2.2.2 gX6_errsTold_X6_number rfl rfl rfl (by decide +kernel) ⟨Nat.le_of_ble_eq_true rfl, Nat.le_of_ble_eq_true rfl⟩
  have cw102 : CallB ({ frames := 2, cells := 0, slots := 0, locals := 42 }) s _ RX6 102 yX6_isPart cX6_isPart 1 (some .boolean) wsX6_isPart ({ frames := 1, cells := 0, slots := 0, locals := 22 }) 0 0 1 ∧ (Cond.static yX6_isPart).before _ s = true := va_cwS 1 hc.2.2.2.2 gX6_errsTold_X6_isPart rfl rfl rfl (by decide +kernel) ⟨Nat.le_of_ble_eq_true rfl, Nat.le_of_ble_eq_true rfl⟩
  have cw111 : CallB ({ frames := 2, cells := 0, slots := 0, locals := 42 }) s _ RX6 111 yX6_isError cX6_isError 1 (some .boolean) wsX6_isError ({ frames := 1, cells := 0, slots := 0, locals := 22 }) 0 0 1 ∧ (Cond.static yX6_isError).before _ s = true := va_cwS 1 hc.2.2.2.2 gX6_errsTold_X6_isError rfl rfl rfl (by decide +kernel) ⟨Nat.le_of_ble_eq_true rfl, Nat.le_of_ble_eq_true rfl⟩
  refine wp_iload_n hc 1 dX6_errsTold_0 rfl ?_
  refine wp_callSg (As := [.int i1]) (rest := []) (v := (fX6_isError i1)) hc hNW (kX6_isError l i1) cw111 rfl rfl (Nat.le_of_ble_eq_true rfl) dX6_errsTold_1 ?_
  refine wp_if_eq (tgt := 25) hc dX6_errsTold_4 (by decide) (fun c4 => ?_) (fun c4 => ?_)
  · refine wp_iconst (v := 0) hc dX6_errsTold_25 (by decide) ?_
    refine wp_istore (lv' := [(4, .int 0), (0, .ref (z 100)), (1, .int i1), (2, .int i2), (3, .int i3)]) hc dX6_errsTold_26 (by decide) rfl ?_
    refine wp_iload hc 0 dX6_errsTold_28 rfl ?_
    refine wp_if_eq (tgt := 47) hc dX6_errsTold_30 (by decide) (fun _ => ?_) (fun c => absurd c (by decide))
    refine wp_iload hc 0 dX6_errsTold_47 rfl ?_
    refine wp_zret hc hr hk rfl ?_ dX6_errsTold_49
    show (0, M) = sX6_errsTold M i1 i2 i3
    rw [sX6_errsTold, if_pos c4]
  refine wp_iload_n hc 2 dX6_errsTold_7 rfl ?_
  refine wp_callSg (As := [.int i2]) (rest := []) (v := (fX6_isPart i2)) hc hNW (kX6_isPart l i2) cw102 rfl rfl (Nat.le_of_ble_eq_true rfl) dX6_errsTold_8 ?_
  refine wp_if_eq (tgt := 25) hc dX6_errsTold_11 (by decide) (fun c11 => ?_) (fun c11 => ?_)
  · refine wp_iconst (v := 0) hc dX6_errsTold_25 (by decide) ?_
    refine wp_istore (lv' := [(4, .int 0), (0, .ref (z 100)), (1, .int i1), (2, .int i2), (3, .int i3)]) hc dX6_errsTold_26 (by decide) rfl ?_
    refine wp_iload hc 0 dX6_errsTold_28 rfl ?_
    refine wp_if_eq (tgt := 47) hc dX6_errsTold_30 (by decide) (fun _ => ?_) (fun c => absurd c (by decide))
    refine wp_iload hc 0 dX6_errsTold_47 rfl ?_
    refine wp_zret hc hr hk rfl ?_ dX6_errsTold_49
    show (0, M) = sX6_errsTold M i1 i2 i3
    rw [sX6_errsTold, if_neg c4, if_pos c11]
  refine wp_iload_n hc 3 dX6_errsTold_14 rfl ?_
  refine wp_callSg (As := [.int i3]) (rest := []) (v := (fX6_isPart i3)) hc hNW (kX6_isPart l i3) cw102 rfl rfl (Nat.le_of_ble_eq_true rfl) dX6_errsTold_15 ?_
  refine wp_if_eq (tgt := 25) hc dX6_errsTold_18 (by decide) (fun c18 => ?_) (fun c18 => ?_)
  · refine wp_iconst (v := 0) hc dX6_errsTold_25 (by decide) ?_
    refine wp_istore (lv' := [(4, .int 0), (0, .ref (z 100)), (1, .int i1), (2, .int i2), (3, .int i3)]) hc dX6_errsTold_26 (by decide) rfl ?_
    refine wp_iload hc 0 dX6_errsTold_28 rfl ?_
    refine wp_if_eq (tgt := 47) hc dX6_errsTold_30 (by decide) (fun _ => ?_) (fun c => absurd c (by decide))
    refine wp_iload hc 0 dX6_errsTold_47 rfl ?_
    refine wp_zret hc hr hk rfl ?_ dX6_errsTold_49
    show (0, M) = sX6_errsTold M i1 i2 i3
    rw [sX6_errsTold, if_neg c4, if_neg c11, if_pos c18]
  refine wp_iconst (v := 1) hc dX6_errsTold_21 (by decide) ?_
  refine wp_goto (tgt := 26) hc dX6_errsTold_22 (by decide) ?_
  refine wp_istore (lv' := [(4, .int 1), (0, .ref (z 100)), (1, .int i1), (2, .int i2), (3, .int i3)]) hc dX6_errsTold_26 (by decide) rfl ?_
  refine wp_iload hc 0 dX6_errsTold_28 rfl ?_
  refine wp_if_eq (tgt := 47) hc dX6_errsTold_30 (by decide) (fun c => absurd c (by decide)) (fun _ => ?_)
  refine wp_aload_n hc 1 dX6_errsTold_33 rfl ?_
  refine wp_get hc hx hin6 (j := 100) (by decide) (by decide) (ce_5 rfl) rfl 0 (by decide) hf7 rfl dX6_errsTold_34 ?_
  refine wp_bipush (v := 33) hc dX6_errsTold_37 (by decide) ?_
  refine wp_iload_n hc 2 dX6_errsTold_39 rfl ?_
  refine wp_iadd hc dX6_errsTold_40 ?_
  refine wp_iload_n hc 3 dX6_errsTold_41 rfl ?_
  refine wp_iload_n hc 4 dX6_errsTold_42 rfl ?_
  refine wp_callSg (As := [.int i2, .int i3]) (rest := [.int (33 + i1), .ref (z 101)]) (v := (fX6_number i2 i3)) hc hNW (kX6_number l i2 i3) cw64 rfl rfl (Nat.le_of_ble_eq_true rfl) dX6_errsTold_43 ?_
  refine wp_iast hc hx (j := 101) (by decide) (by decide) rfl (33 + i1).toNatClampNeg rfl (vin (by rw [ixk (c := 33) (k := 33) rfl (by decide) (n := 12) (by decide) (inE c4), ln101]; have := inE c4; omega)) dX6_errsTold_46 ?_
  refine wp_nm (fun M1 hM1 => ?_)
  refine wp_iload hc 0 dX6_errsTold_47 rfl ?_
  refine wp_zret hc hr hk rfl ?_ dX6_errsTold_49
  show (1, M1) = sX6_errsTold M i1 i2 i3
  rw [sX6_errsTold, if_neg c4, if_neg c11, if_neg c18, tk_eq hM1]
theorem bX6_errsTold (M : Mem) (i1 : Int32) (i2 : Int32) (i3 : Int32) : B01 (sX6_errsTold M i1 i2 i3) := by
  unfold sX6_errsTold
  refine ite_ind (P := B01) (fun _ => ?_) (fun _ => ?_)
  · exact (show _ ∨ _ from Or.inl rfl)
  · refine ite_ind (P := B01) (fun _ => ?_) (fun _ => ?_)
    · exact (show _ ∨ _ from Or.inl rfl)
    · refine ite_ind (P := B01) (fun _ => ?_) (fun _ => ?_)
      · exact (show _ ∨ _ from Or.inl rfl)
      · refine tk_ind (P := B01) _ _ (fun M1 hM1 => ?_)
        exact (show _ ∨ _ from Or.inr rfl)
def sX6_comesBy (M : Mem) (i1 : Int32) : Int32 × Mem :=
  if i1 = 0 then
  (0, M)
  else
  if 8 ≤ (M.1 101 0) then
  (0, M)
  else
  tk (sX6_comes M (M.1 108 0) (M.1 108 1) (M.1 108 2) (M.1 108 3)) fun x1 =>
  if x1.1 < 0 then
  (0, x1.2)
  else
  (1, x1.2)
set_option maxHeartbeats 4000000 in
set_option maxRecDepth 100000 in
theorem kX6_comesBy (l : Launch) (D : va_G) (cy : Nat → ClassId) (z : Nat → Nat) (hz : zI z) (M : Mem) (i1 : Int32) (hn : 0 ≤ (M.1 101 0).toInt ∧ (M.1 101 0).toInt ≤ 8) : KI l yX6_comesBy wsX6_comesBy { frames := 2, cells := 0, slots := 0, locals := 46 } D cy z 100 15 [.ref (z 100), .int i1] M (fun r u => (r, u) = sX6_comesBy M i1) := by
  refine met_wp (lv := [(0, .ref (z 100)), (1, .int i1)]) hz (by decide) (by decide) rfl rfl (Nat.le_of_ble_eq_true rfl) rfl ?_
  intro p e s m below meth c hc hx hr hk
  have hNW := hx.2.1
  have hin6 : ∀ w ∈ wsX60, w ∈ wsX6_comesBy := by decide +kernel
  have hf7 : Cond.fieldLink RX6 7 (TX6 0).1 (TX6 0).2.1 (TX6 0).2.2.1 ∈ wsX6_comesBy := by decide +kernel
  have hf31 : Cond.fieldLink RX6 31 (TX6 10).1 (TX6 10).2.1 (TX6 10).2.2.1 ∈ wsX6_comesBy := by decide +kernel
  have cw94 : CallW ({ frames := 2, cells := 0, slots := 0, locals := 46 }) s _ RX6 RX6 94 yX6_comes cX6_comes 6 (some .int) wsX6_comes ({ frames := 1, cells := 0, slots := 0, locals := 21 }) 0 0 4 := cwV 4 hc.2.2.2.2 gX6_comesBy_X6_comes rfl rfl rfl (by decide +kernel) ⟨Nat.le_of_ble_eq_true rfl, Nat.le_of_ble_eq_true rfl⟩
  refine wp_iload_n hc 1 dX6_comesBy_0 rfl ?_
  refine wp_if_eq (tgt := 50) hc dX6_comesBy_1 (by decide) (fun c1 => ?_) (fun c1 => ?_)
  · refine wp_iconst (v := 0) hc dX6_comesBy_50 (by decide) ?_
    refine wp_zret hc hr hk rfl ?_ dX6_comesBy_51
    show (0, M) = sX6_comesBy M i1
    rw [sX6_comesBy, if_pos c1]
  refine wp_aload_n hc 0 dX6_comesBy_4 rfl ?_
  refine wp_get hc hx hin6 (j := 100) (by decide) (by decide) (ce_5 rfl) rfl 0 (by decide) hf7 rfl dX6_comesBy_5 ?_
  refine wp_iconst (v := 0) hc dX6_comesBy_8 (by decide) ?_
  refine wp_iald hc hx (j := 101) (by decide) (by decide) rfl 0 rfl (vin (by decide)) dX6_comesBy_9 ?_
  refine wp_bipush (v := 8) hc dX6_comesBy_10 (by decide) ?_
  refine wp_icmp_ge (tgt := 50) hc dX6_comesBy_12 (by decide) (fun c12 => ?_) (fun c12 => ?_)
  · refine wp_iconst (v := 0) hc dX6_comesBy_50 (by decide) ?_
    refine wp_zret hc hr hk rfl ?_ dX6_comesBy_51
    show (0, M) = sX6_comesBy M i1
    rw [sX6_comesBy, if_neg c1, if_pos c12]
  refine wp_aload_n hc 0 dX6_comesBy_15 rfl ?_
  refine wp_aload_n hc 0 dX6_comesBy_16 rfl ?_
  refine wp_get hc hx hin6 (j := 100) (by decide) (by decide) (ce_5 rfl) rfl 10 (by decide) hf31 rfl dX6_comesBy_17 ?_
  refine wp_iconst (v := 0) hc dX6_comesBy_20 (by decide) ?_
  refine wp_iald hc hx (j := 108) (by decide) (by decide) rfl 0 rfl (vin (by decide)) dX6_comesBy_21 ?_
  refine wp_aload_n hc 0 dX6_comesBy_22 rfl ?_
  refine wp_get hc hx hin6 (j := 100) (by decide) (by decide) (ce_5 rfl) rfl 10 (by decide) hf31 rfl dX6_comesBy_23 ?_
  refine wp_iconst (v := 1) hc dX6_comesBy_26 (by decide) ?_
  refine wp_iald hc hx (j := 108) (by decide) (by decide) rfl 1 rfl (vin (by decide)) dX6_comesBy_27 ?_
  refine wp_aload_n hc 0 dX6_comesBy_28 rfl ?_
  refine wp_get hc hx hin6 (j := 100) (by decide) (by decide) (ce_5 rfl) rfl 10 (by decide) hf31 rfl dX6_comesBy_29 ?_
  refine wp_iconst (v := 2) hc dX6_comesBy_32 (by decide) ?_
  refine wp_iald hc hx (j := 108) (by decide) (by decide) rfl 2 rfl (vin (by decide)) dX6_comesBy_33 ?_
  refine wp_aload_n hc 0 dX6_comesBy_34 rfl ?_
  refine wp_get hc hx hin6 (j := 100) (by decide) (by decide) (ce_5 rfl) rfl 10 (by decide) hf31 rfl dX6_comesBy_35 ?_
  refine wp_iconst (v := 3) hc dX6_comesBy_38 (by decide) ?_
  refine wp_iald hc hx (j := 108) (by decide) (by decide) rfl 3 rfl (vin (by decide)) dX6_comesBy_39 ?_
  refine wp_callVw (As := [.int (M.1 108 0), .int (M.1 108 1), .int (M.1 108 2), .int (M.1 108 3)]) (rest := []) (j := 100) (w := sX6_comes M (M.1 108 0) (M.1 108 1) (M.1 108 2) (M.1 108 3)) hc hx (kX6_comes l D cy z hz M (M.1 108 0) (M.1 108 1) (M.1 108 2) (M.1 108 3) (nge8 hn c12)) cw94 (by decide) (by decide) (ce_5 rfl) rfl rfl rfl rfl (Nat.le_of_ble_eq_true rfl) dX6_comesBy_40 (fun x1 hx1 => ?_)
  refine wp_if_lt (tgt := 50) hc dX6_comesBy_43 (by decide) (fun c43 => ?_) (fun c43 => ?_)
  · refine wp_iconst (v := 0) hc dX6_comesBy_50 (by decide) ?_
    refine wp_zret hc hr hk rfl ?_ dX6_comesBy_51
    show (0, x1.2) = sX6_comesBy M i1
    rw [sX6_comesBy, if_neg c1, if_neg c12, tk_eq hx1, if_pos c43]
  refine wp_iconst (v := 1) hc dX6_comesBy_46 (by decide) ?_
  refine wp_goto (tgt := 51) hc dX6_comesBy_47 (by decide) ?_
  refine wp_zret hc hr hk rfl ?_ dX6_comesBy_51
  show (1, x1.2) = sX6_comesBy M i1
  rw [sX6_comesBy, if_neg c1, if_neg c12, tk_eq hx1, if_neg c43]
theorem bX6_comesBy (M : Mem) (i1 : Int32) : B01 (sX6_comesBy M i1) := by
  unfold sX6_comesBy
  refine ite_ind (P := B01) (fun _ => ?_) (fun _ => ?_)
  · exact (show _ ∨ _ from Or.inl rfl)
  · refine ite_ind (P := B01) (fun _ => ?_) (fun _ => ?_)
    · exact (show _ ∨ _ from Or.inl rfl)
    · refine tk_ind (P := B01) _ _ (fun x1 hx1 => ?_)
      refine ite_ind (P := B01) (fun _ => ?_) (fun _ => ?_)
      · exact (show _ ∨ _ from Or.inl rfl)
      · exact (show _ ∨ _ from Or.inr rfl)
