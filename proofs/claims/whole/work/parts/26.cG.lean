def RH (M : Mem) : Prop := ∀ i, i < 7 → M.2.1 i < 7
/-- which state stands where: seven places, seven states -/
def RK (M : Mem) : Prop := RH M ∧ ∀ i j, i < 7 → j < 7 → M.2.1 i = M.2.1 j → i = j
theorem RH.st {M : Mem} {j k : Nat} {v : Int32} (h : RH M) : RH (st M j k v) := h
theorem RH.su {M : Mem} {k v : Nat} (h : RH M) (hv : v < 7) : RH (su M k v) := by
  intro i hi
  show va_up M.2.1 k v i < 7
  by_cases e : i = k
  · subst e; rw [va_up_self]; exact hv
  · rw [va_up_ne _ _ e]; exact h i hi
theorem RH.kf {S : Nat → Prop} {M M' : Mem} (k : KF S M M') (h : RH M) : RH M' := by
  intro i hi
  rw [k.2]
  exact h i hi
theorem lt5 {x : Int32} (h : 0 ≤ x.toInt ∧ x.toInt ≤ 5) (c : ¬ 5 ≤ x) : 0 ≤ x.toInt ∧ x.toInt < (5 : Nat) := by
  have e : (5 : Int32).toInt = 5 := rfl
  rw [fa_le, e] at c
  omega
theorem dn5 {x : Int32} (h : 0 ≤ x.toInt ∧ x.toInt ≤ 5) (c : 0 < x) : 0 ≤ (x - 1).toInt ∧ (x - 1).toInt < (5 : Nat) := by
  have e : (1 : Int32).toInt = 1 := rfl
  have e0 : (0 : Int32).toInt = 0 := rfl
  rw [fa_lt, e0] at c
  rw [fb_subI (by rw [e]; omega) (by rw [e]; omega), e]
  omega
def sX5_noted (M : Mem) (i1 : Int32) : Int32 × Mem :=
  if i1 = (-2) then
  tk (st M 0 6 ((M.1 0 6) + 1)) fun M3 =>
  (i1, M3)
  else
  if i1 = (-3) then
  tk (st M 0 7 ((M.1 0 7) + 1)) fun M2 =>
  (i1, M2)
  else
  if i1 = (-4) then
  tk (st M 0 8 ((M.1 0 8) + 1)) fun M1 =>
  (i1, M1)
  else
  (i1, M)
set_option maxHeartbeats 4000000 in
set_option maxRecDepth 100000 in
theorem kX5_noted (l : Launch) (D : va_G) (cy : Nat → ClassId) (z : Nat → Nat) (hz : zI z) (M : Mem) (i1 : Int32) : KI l yX5_noted wsX5_noted { frames := 0, cells := 0, slots := 0, locals := 0 } D cy z 0 100 [.ref (z 0), .int i1] M (fun r u => (r, u) = sX5_noted M i1) := by
  refine met_wp (lv := [(0, .ref (z 0)), (1, .int i1)]) hz (by decide) (by decide) rfl rfl (Nat.le_of_ble_eq_true rfl) rfl ?_
  intro p e s m below meth c hc hx hr hk
  have hNW := hx.2.1
  have hin5 : ∀ w ∈ wsX50, w ∈ wsX5_noted := by decide +kernel
  have hf164 : Cond.fieldLink RX5 164 (TX5 6).1 (TX5 6).2.1 (TX5 6).2.2.1 ∈ wsX5_noted := by decide +kernel
  have hf167 : Cond.fieldLink RX5 167 (TX5 7).1 (TX5 7).2.1 (TX5 7).2.2.1 ∈ wsX5_noted := by decide +kernel
  have hf170 : Cond.fieldLink RX5 170 (TX5 8).1 (TX5 8).2.1 (TX5 8).2.2.1 ∈ wsX5_noted := by decide +kernel
  refine wp_iload_n hc 1 dX5_noted_0 rfl ?_
  refine wp_bipush (v := (-2)) hc dX5_noted_1 (by decide) ?_
  refine wp_icmp_ne (tgt := 19) hc dX5_noted_3 (by decide) (fun c3 => ?_) (fun c3 => ?_)
  · refine wp_iload_n hc 1 dX5_noted_19 rfl ?_
    refine wp_bipush (v := (-3)) hc dX5_noted_20 (by decide) ?_
    refine wp_icmp_ne (tgt := 38) hc dX5_noted_22 (by decide) (fun c22 => ?_) (fun c22 => ?_)
    · refine wp_iload_n hc 1 dX5_noted_38 rfl ?_
      refine wp_bipush (v := (-4)) hc dX5_noted_39 (by decide) ?_
      refine wp_icmp_ne (tgt := 54) hc dX5_noted_41 (by decide) (fun c41 => ?_) (fun c41 => ?_)
      · refine wp_iload_n hc 1 dX5_noted_54 rfl ?_
        refine wp_iret hc hr hk ?_ dX5_noted_55
        show (i1, M) = sX5_noted M i1
        rw [sX5_noted, if_neg c3, if_neg c22, if_neg c41]
      refine wp_aload_n hc 0 dX5_noted_44 rfl ?_
      refine wp_dup hc dX5_noted_45 rfl ?_
      refine wp_get hc hx hin5 (j := 0) (by decide) (by decide) (ce_4 rfl) rfl 8 (by decide) hf170 rfl dX5_noted_46 ?_
      refine wp_iconst (v := 1) hc dX5_noted_49 (by decide) ?_
      refine wp_iadd hc dX5_noted_50 ?_
      refine wp_put (M' := st M 0 8 ((M.1 0 8) + 1)) hc hx hin5 tyX5 tyX5_ok nmX5 (j := 0) (by decide) (by decide) (ce_4 rfl) rfl 8 (by decide) hf170 rfl rfl rfl (Nat.le_of_ble_eq_true rfl) (by rw [ce_4 rfl]; exact ce_stP8 _ _ _) (fun i hi => ce_row (va_up_ne _ _ hi) rfl) dX5_noted_51 ?_
      refine wp_nm (fun M1 hM1 => ?_)
      refine wp_iload_n hc 1 dX5_noted_54 rfl ?_
      refine wp_iret hc hr hk ?_ dX5_noted_55
      show (i1, M1) = sX5_noted M i1
      rw [sX5_noted, if_neg c3, if_neg c22, if_pos c41, tk_eq hM1]
    refine wp_aload_n hc 0 dX5_noted_25 rfl ?_
    refine wp_dup hc dX5_noted_26 rfl ?_
    refine wp_get hc hx hin5 (j := 0) (by decide) (by decide) (ce_4 rfl) rfl 7 (by decide) hf167 rfl dX5_noted_27 ?_
    refine wp_iconst (v := 1) hc dX5_noted_30 (by decide) ?_
    refine wp_iadd hc dX5_noted_31 ?_
    refine wp_put (M' := st M 0 7 ((M.1 0 7) + 1)) hc hx hin5 tyX5 tyX5_ok nmX5 (j := 0) (by decide) (by decide) (ce_4 rfl) rfl 7 (by decide) hf167 rfl rfl rfl (Nat.le_of_ble_eq_true rfl) (by rw [ce_4 rfl]; exact ce_stP7 _ _ _) (fun i hi => ce_row (va_up_ne _ _ hi) rfl) dX5_noted_32 ?_
    refine wp_nm (fun M2 hM2 => ?_)
    refine wp_goto (tgt := 54) hc dX5_noted_35 (by decide) ?_
    refine wp_iload_n hc 1 dX5_noted_54 rfl ?_
    refine wp_iret hc hr hk ?_ dX5_noted_55
    show (i1, M2) = sX5_noted M i1
    rw [sX5_noted, if_neg c3, if_pos c22, tk_eq hM2]
  refine wp_aload_n hc 0 dX5_noted_6 rfl ?_
  refine wp_dup hc dX5_noted_7 rfl ?_
  refine wp_get hc hx hin5 (j := 0) (by decide) (by decide) (ce_4 rfl) rfl 6 (by decide) hf164 rfl dX5_noted_8 ?_
  refine wp_iconst (v := 1) hc dX5_noted_11 (by decide) ?_
  refine wp_iadd hc dX5_noted_12 ?_
  refine wp_put (M' := st M 0 6 ((M.1 0 6) + 1)) hc hx hin5 tyX5 tyX5_ok nmX5 (j := 0) (by decide) (by decide) (ce_4 rfl) rfl 6 (by decide) hf164 rfl rfl rfl (Nat.le_of_ble_eq_true rfl) (by rw [ce_4 rfl]; exact ce_stP6 _ _ _) (fun i hi => ce_row (va_up_ne _ _ hi) rfl) dX5_noted_13 ?_
  refine wp_nm (fun M3 hM3 => ?_)
  refine wp_goto (tgt := 54) hc dX5_noted_16 (by decide) ?_
  refine wp_iload_n hc 1 dX5_noted_54 rfl ?_
  refine wp_iret hc hr hk ?_ dX5_noted_55
  show (i1, M3) = sX5_noted M i1
  rw [sX5_noted, if_pos c3, tk_eq hM3]
set_option maxRecDepth 10000 in
theorem kfX5_noted (M : Mem) (i1 : Int32) : KF2 (fun x => x = 0) M (sX5_noted M i1) := by
  unfold sX5_noted
  refine ite_ind (P := KF2 (fun x => x = 0) M) (fun c1 => ?_) (fun c1 => ?_)
  · refine tk_ind (P := KF2 (fun x => x = 0) M) _ _ (fun M3 hM3 => ?_)
    have k2 : KF (fun x => x = 0) M M3 := by rw [hM3]; first | exact kf_st (by show _; omega) | exact kf_sr (by show _; omega)
    exact (show KF (fun x => x = 0) M M3 from k2)
  · refine ite_ind (P := KF2 (fun x => x = 0) M) (fun c3 => ?_) (fun c3 => ?_)
    · refine tk_ind (P := KF2 (fun x => x = 0) M) _ _ (fun M2 hM2 => ?_)
      have k4 : KF (fun x => x = 0) M M2 := by rw [hM2]; first | exact kf_st (by show _; omega) | exact kf_sr (by show _; omega)
      exact (show KF (fun x => x = 0) M M2 from k4)
    · refine ite_ind (P := KF2 (fun x => x = 0) M) (fun c5 => ?_) (fun c5 => ?_)
      · refine tk_ind (P := KF2 (fun x => x = 0) M) _ _ (fun M1 hM1 => ?_)
        have k6 : KF (fun x => x = 0) M M1 := by rw [hM1]; first | exact kf_st (by show _; omega) | exact kf_sr (by show _; omega)
        exact (show KF (fun x => x = 0) M M1 from k6)
      · exact (show KF (fun x => x = 0) M M from KF.rf)
def sX5_keepDraft (M : Mem)  : Mem :=
  if 5 ≤ (M.1 0 5) then
  tk (su M (2 + 0) (M.2.1 (2 + 1))) fun M1 =>
  tk (su M1 (2 + 1) (M1.2.1 (2 + 2))) fun M2 =>
  tk (su M2 (2 + 2) (M2.2.1 (2 + 3))) fun M3 =>
  tk (su M3 (2 + 3) (M3.2.1 (2 + 4))) fun M4 =>
  tk (su M4 (2 + 4) (M4.2.1 0)) fun M5 =>
  tk (su M5 0 (M5.2.1 1)) fun M6 =>
  tk (su M6 1 (M.2.1 (2 + 0))) fun M7 =>
  M7
  else
  tk (su M (2 + (M.1 0 5).toNatClampNeg) (M.2.1 0)) fun M8 =>
  tk (st M8 0 5 ((M8.1 0 5) + 1)) fun M9 =>
  tk (su M9 0 (M9.2.1 1)) fun M10 =>
  tk (su M10 1 (M.2.1 (2 + (M.1 0 5).toNatClampNeg))) fun M11 =>
  M11
set_option maxHeartbeats 4000000 in
set_option maxRecDepth 100000 in
theorem kX5_keepDraft (l : Launch) (D : va_G) (cy : Nat → ClassId) (z : Nat → Nat) (hz : zI z) (M : Mem)  (hR : RK M) (hp : 0 ≤ (M.1 0 5).toInt ∧ (M.1 0 5).toInt ≤ 5) : KV l yX5_keepDraft wsX5_keepDraft { frames := 0, cells := 0, slots := 0, locals := 0 } D cy z 0 100 [.ref (z 0)] M (fun u => u = sX5_keepDraft M) := by
  refine met_wp (lv := [(0, .ref (z 0))]) hz (by decide) (by decide) rfl rfl (Nat.le_of_ble_eq_true rfl) rfl ?_
  intro p e s m below meth c hc hx hr hk
  have hNW := hx.2.1
  have hin5 : ∀ w ∈ wsX50, w ∈ wsX5_keepDraft := by decide +kernel
  have hf26 : Cond.fieldLink RX5 26 (TX5 3).1 (TX5 3).2.1 (TX5 3).2.2.1 ∈ wsX5_keepDraft := by decide +kernel
  have hf30 : Cond.fieldLink RX5 30 (TX5 4).1 (TX5 4).2.1 (TX5 4).2.2.1 ∈ wsX5_keepDraft := by decide +kernel
  have hf33 : Cond.fieldLink RX5 33 (TX5 2).1 (TX5 2).2.1 (TX5 2).2.2.1 ∈ wsX5_keepDraft := by decide +kernel
  have hf158 : Cond.fieldLink RX5 158 (TX5 5).1 (TX5 5).2.1 (TX5 5).2.2.1 ∈ wsX5_keepDraft := by decide +kernel
  refine wp_aload_n hc 0 dX5_keepDraft_0 rfl ?_
  refine wp_get hc hx hin5 (j := 0) (by decide) (by decide) (ce_4 rfl) rfl 5 (by decide) hf158 rfl dX5_keepDraft_1 ?_
  refine wp_iconst (v := 5) hc dX5_keepDraft_4 (by decide) ?_
  refine wp_icmp_ge (tgt := 44) hc dX5_keepDraft_5 (by decide) (fun c5 => ?_) (fun c5 => ?_)
  · refine wp_aload_n hc 0 dX5_keepDraft_44 rfl ?_
    refine wp_get hc hx hin5 (j := 0) (by decide) (by decide) (ce_4 rfl) rfl 2 (by decide) hf33 rfl dX5_keepDraft_45 ?_
    refine wp_iconst (v := 0) hc dX5_keepDraft_48 (by decide) ?_
    refine wp_aald9 hc hx (j := 15) (by decide) (by decide) rfl 0 rfl (vin (by decide)) dX5_keepDraft_49 ?_
    refine wp_astore_n (lv' := [(1, .ref (z (16 + 12 * (M.2.1 (2 + 0))))), (0, .ref (z 0))]) hc dX5_keepDraft_50 (by decide) rfl ?_
    refine wp_iconst (v := 1) hc dX5_keepDraft_51 (by decide) ?_
    refine wp_istore_n (lv' := [(2, .int 1), (1, .ref (z (16 + 12 * (M.2.1 (2 + 0))))), (0, .ref (z 0))]) hc dX5_keepDraft_52 (by decide) rfl ?_
    refine wp_iload_n hc 0 dX5_keepDraft_53 rfl ?_
    refine wp_iconst (v := 5) hc dX5_keepDraft_54 (by decide) ?_
    refine wp_icmp_ge (tgt := 78) hc dX5_keepDraft_55 (by decide) (fun c => absurd c (by decide)) (fun _ => ?_)
    refine wp_aload_n hc 2 dX5_keepDraft_58 rfl ?_
    refine wp_get hc hx hin5 (j := 0) (by decide) (by decide) (ce_4 rfl) rfl 2 (by decide) hf33 rfl dX5_keepDraft_59 ?_
    refine wp_iload_n hc 0 dX5_keepDraft_62 rfl ?_
    refine wp_iconst (v := 1) hc dX5_keepDraft_63 (by decide) ?_
    refine wp_isub hc dX5_keepDraft_64 ?_
    refine wp_cvt (v := 0) (by decide) ?_
    refine wp_aload_n hc 2 dX5_keepDraft_65 rfl ?_
    refine wp_get hc hx hin5 (j := 0) (by decide) (by decide) (ce_4 rfl) rfl 2 (by decide) hf33 rfl dX5_keepDraft_66 ?_
    refine wp_iload_n hc 0 dX5_keepDraft_69 rfl ?_
    refine wp_aald9 hc hx (j := 15) (by decide) (by decide) rfl 1 rfl (vin (by decide)) dX5_keepDraft_70 ?_
    refine wp_aast9 hc hx (j := 15) (by decide) (by decide) rfl (Nat.zero_le _) (by have := (hR.1 (2 + 1) (by decide)); omega) (hR.1 (2 + 1) (by decide)) 0 rfl (vin (by decide)) dX5_keepDraft_71 ?_
    refine wp_nm (fun M1 hM1 => ?_)
    have rM1 : RH M1 := by rw [hM1]; exact RH.su hR.1 (hR.1 (2 + 1) (by decide))
    refine wp_iinc (v := 2) (lv' := [(2, .int 2), (1, .ref (z (16 + 12 * (M.2.1 (2 + 0))))), (0, .ref (z 0))]) hc 0 dX5_keepDraft_72 rfl (by decide) (by decide) rfl ?_
    refine wp_goto (tgt := 53) hc dX5_keepDraft_75 (by decide) ?_
    refine wp_iload_n hc 0 dX5_keepDraft_53 rfl ?_
    refine wp_iconst (v := 5) hc dX5_keepDraft_54 (by decide) ?_
    refine wp_icmp_ge (tgt := 78) hc dX5_keepDraft_55 (by decide) (fun c => absurd c (by decide)) (fun _ => ?_)
    refine wp_aload_n hc 2 dX5_keepDraft_58 rfl ?_
    refine wp_get hc hx hin5 (j := 0) (by decide) (by decide) (ce_4 rfl) rfl 2 (by decide) hf33 rfl dX5_keepDraft_59 ?_
    refine wp_iload_n hc 0 dX5_keepDraft_62 rfl ?_
    refine wp_iconst (v := 1) hc dX5_keepDraft_63 (by decide) ?_
    refine wp_isub hc dX5_keepDraft_64 ?_
    refine wp_cvt (v := 1) (by decide) ?_
    refine wp_aload_n hc 2 dX5_keepDraft_65 rfl ?_
    refine wp_get hc hx hin5 (j := 0) (by decide) (by decide) (ce_4 rfl) rfl 2 (by decide) hf33 rfl dX5_keepDraft_66 ?_
    refine wp_iload_n hc 0 dX5_keepDraft_69 rfl ?_
    refine wp_aald9 hc hx (j := 15) (by decide) (by decide) rfl 2 rfl (vin (by decide)) dX5_keepDraft_70 ?_
    refine wp_aast9 hc hx (j := 15) (by decide) (by decide) rfl (Nat.zero_le _) (by have := (rM1 (2 + 2) (by decide)); omega) (rM1 (2 + 2) (by decide)) 1 rfl (vin (by decide)) dX5_keepDraft_71 ?_
    refine wp_nm (fun M2 hM2 => ?_)
    have rM2 : RH M2 := by rw [hM2]; exact RH.su rM1 (rM1 (2 + 2) (by decide))
    refine wp_iinc (v := 3) (lv' := [(2, .int 3), (1, .ref (z (16 + 12 * (M.2.1 (2 + 0))))), (0, .ref (z 0))]) hc 0 dX5_keepDraft_72 rfl (by decide) (by decide) rfl ?_
    refine wp_goto (tgt := 53) hc dX5_keepDraft_75 (by decide) ?_
    refine wp_iload_n hc 0 dX5_keepDraft_53 rfl ?_
    refine wp_iconst (v := 5) hc dX5_keepDraft_54 (by decide) ?_
    refine wp_icmp_ge (tgt := 78) hc dX5_keepDraft_55 (by decide) (fun c => absurd c (by decide)) (fun _ => ?_)
    refine wp_aload_n hc 2 dX5_keepDraft_58 rfl ?_
    refine wp_get hc hx hin5 (j := 0) (by decide) (by decide) (ce_4 rfl) rfl 2 (by decide) hf33 rfl dX5_keepDraft_59 ?_
    refine wp_iload_n hc 0 dX5_keepDraft_62 rfl ?_
    refine wp_iconst (v := 1) hc dX5_keepDraft_63 (by decide) ?_
    refine wp_isub hc dX5_keepDraft_64 ?_
    refine wp_cvt (v := 2) (by decide) ?_
    refine wp_aload_n hc 2 dX5_keepDraft_65 rfl ?_
    refine wp_get hc hx hin5 (j := 0) (by decide) (by decide) (ce_4 rfl) rfl 2 (by decide) hf33 rfl dX5_keepDraft_66 ?_
    refine wp_iload_n hc 0 dX5_keepDraft_69 rfl ?_
    refine wp_aald9 hc hx (j := 15) (by decide) (by decide) rfl 3 rfl (vin (by decide)) dX5_keepDraft_70 ?_
    refine wp_aast9 hc hx (j := 15) (by decide) (by decide) rfl (Nat.zero_le _) (by have := (rM2 (2 + 3) (by decide)); omega) (rM2 (2 + 3) (by decide)) 2 rfl (vin (by decide)) dX5_keepDraft_71 ?_
    refine wp_nm (fun M3 hM3 => ?_)
    have rM3 : RH M3 := by rw [hM3]; exact RH.su rM2 (rM2 (2 + 3) (by decide))
    refine wp_iinc (v := 4) (lv' := [(2, .int 4), (1, .ref (z (16 + 12 * (M.2.1 (2 + 0))))), (0, .ref (z 0))]) hc 0 dX5_keepDraft_72 rfl (by decide) (by decide) rfl ?_
    refine wp_goto (tgt := 53) hc dX5_keepDraft_75 (by decide) ?_
    refine wp_iload_n hc 0 dX5_keepDraft_53 rfl ?_
    refine wp_iconst (v := 5) hc dX5_keepDraft_54 (by decide) ?_
    refine wp_icmp_ge (tgt := 78) hc dX5_keepDraft_55 (by decide) (fun c => absurd c (by decide)) (fun _ => ?_)
    refine wp_aload_n hc 2 dX5_keepDraft_58 rfl ?_
    refine wp_get hc hx hin5 (j := 0) (by decide) (by decide) (ce_4 rfl) rfl 2 (by decide) hf33 rfl dX5_keepDraft_59 ?_
    refine wp_iload_n hc 0 dX5_keepDraft_62 rfl ?_
    refine wp_iconst (v := 1) hc dX5_keepDraft_63 (by decide) ?_
    refine wp_isub hc dX5_keepDraft_64 ?_
    refine wp_cvt (v := 3) (by decide) ?_
    refine wp_aload_n hc 2 dX5_keepDraft_65 rfl ?_
    refine wp_get hc hx hin5 (j := 0) (by decide) (by decide) (ce_4 rfl) rfl 2 (by decide) hf33 rfl dX5_keepDraft_66 ?_
    refine wp_iload_n hc 0 dX5_keepDraft_69 rfl ?_
    refine wp_aald9 hc hx (j := 15) (by decide) (by decide) rfl 4 rfl (vin (by decide)) dX5_keepDraft_70 ?_
    refine wp_aast9 hc hx (j := 15) (by decide) (by decide) rfl (Nat.zero_le _) (by have := (rM3 (2 + 4) (by decide)); omega) (rM3 (2 + 4) (by decide)) 3 rfl (vin (by decide)) dX5_keepDraft_71 ?_
    refine wp_nm (fun M4 hM4 => ?_)
    have rM4 : RH M4 := by rw [hM4]; exact RH.su rM3 (rM3 (2 + 4) (by decide))
    refine wp_iinc (v := 5) (lv' := [(2, .int 5), (1, .ref (z (16 + 12 * (M.2.1 (2 + 0))))), (0, .ref (z 0))]) hc 0 dX5_keepDraft_72 rfl (by decide) (by decide) rfl ?_
    refine wp_goto (tgt := 53) hc dX5_keepDraft_75 (by decide) ?_
    refine wp_iload_n hc 0 dX5_keepDraft_53 rfl ?_
    refine wp_iconst (v := 5) hc dX5_keepDraft_54 (by decide) ?_
    refine wp_icmp_ge (tgt := 78) hc dX5_keepDraft_55 (by decide) (fun _ => ?_) (fun c => absurd c (by decide))
    refine wp_aload_n hc 2 dX5_keepDraft_78 rfl ?_
    refine wp_get hc hx hin5 (j := 0) (by decide) (by decide) (ce_4 rfl) rfl 2 (by decide) hf33 rfl dX5_keepDraft_79 ?_
    refine wp_iconst (v := 4) hc dX5_keepDraft_82 (by decide) ?_
    refine wp_aload_n hc 2 dX5_keepDraft_83 rfl ?_
    refine wp_get hc hx hin5 (j := 0) (by decide) (by decide) (ce_4 rfl) rfl 3 (by decide) hf26 rfl dX5_keepDraft_84 ?_
    refine wp_aast9 hc hx (j := 15) (by decide) (by decide) rfl (Nat.zero_le _) (by have := (rM4 0 (by decide)); omega) (rM4 0 (by decide)) 4 rfl (vin (by decide)) dX5_keepDraft_87 ?_
    refine wp_nm (fun M5 hM5 => ?_)
    have rM5 : RH M5 := by rw [hM5]; exact RH.su rM4 (rM4 0 (by decide))
    refine wp_aload_n hc 2 dX5_keepDraft_88 rfl ?_
    refine wp_aload_n hc 2 dX5_keepDraft_89 rfl ?_
    refine wp_get hc hx hin5 (j := 0) (by decide) (by decide) (ce_4 rfl) rfl 4 (by decide) hf30 rfl dX5_keepDraft_90 ?_
    refine wp_put (M' := su M5 0 (M5.2.1 1)) hc hx hin5 tyX5 tyX5_ok nmX5 (j := 0) (by decide) (by decide) (ce_4 rfl) rfl 3 (by decide) hf26 rfl rfl rfl (Nat.le_of_ble_eq_true rfl) (by rw [ce_4 rfl]; exact ce_su_0 _ _) (fun i hi => ce_su0 (by decide) hi) dX5_keepDraft_93 ?_
    refine wp_nm (fun M6 hM6 => ?_)
    have rM6 : RH M6 := by rw [hM6]; exact RH.su rM5 (rM5 1 (by decide))
    refine wp_aload_n hc 2 dX5_keepDraft_96 rfl ?_
    refine wp_aload_n hc 1 dX5_keepDraft_97 rfl ?_
    refine wp_put (M' := su M6 1 (M.2.1 (2 + 0))) hc hx hin5 tyX5 tyX5_ok nmX5 (j := 0) (by decide) (by decide) (ce_4 rfl) rfl 4 (by decide) hf30 rfl rfl rfl (Nat.le_of_ble_eq_true rfl) (by rw [ce_4 rfl]; exact ce_su_1 _ _) (fun i hi => ce_su0 (by decide) hi) dX5_keepDraft_98 ?_
    refine wp_nm (fun M7 hM7 => ?_)
    have rM7 : RH M7 := by rw [hM7]; exact RH.su rM6 (hR.1 (2 + 0) (by decide))
    refine wp_vret hc hr hk ?_ dX5_keepDraft_101
    show M7 = sX5_keepDraft M
    rw [sX5_keepDraft, if_pos c5, tk_eq hM1, tk_eq hM2, tk_eq hM3, tk_eq hM4, tk_eq hM5, tk_eq hM6, tk_eq hM7]
  have hq := lt5 hp c5
  refine wp_aload_n hc 0 dX5_keepDraft_8 rfl ?_
  refine wp_get hc hx hin5 (j := 0) (by decide) (by decide) (ce_4 rfl) rfl 2 (by decide) hf33 rfl dX5_keepDraft_9 ?_
  refine wp_aload_n hc 0 dX5_keepDraft_12 rfl ?_
  refine wp_get hc hx hin5 (j := 0) (by decide) (by decide) (ce_4 rfl) rfl 5 (by decide) hf158 rfl dX5_keepDraft_13 ?_
  refine wp_aald9 hc hx (j := 15) (by decide) (by decide) rfl (M.1 0 5).toNatClampNeg rfl (vin8 hq) dX5_keepDraft_16 ?_
  refine wp_astore_n (lv' := [(1, .ref (z (16 + 12 * (M.2.1 (2 + (M.1 0 5).toNatClampNeg))))), (0, .ref (z 0))]) hc dX5_keepDraft_17 (by decide) rfl ?_
  refine wp_aload_n hc 1 dX5_keepDraft_18 rfl ?_
  refine wp_get hc hx hin5 (j := 0) (by decide) (by decide) (ce_4 rfl) rfl 2 (by decide) hf33 rfl dX5_keepDraft_19 ?_
  refine wp_aload_n hc 1 dX5_keepDraft_22 rfl ?_
  refine wp_get hc hx hin5 (j := 0) (by decide) (by decide) (ce_4 rfl) rfl 5 (by decide) hf158 rfl dX5_keepDraft_23 ?_
  refine wp_aload_n hc 1 dX5_keepDraft_26 rfl ?_
  refine wp_get hc hx hin5 (j := 0) (by decide) (by decide) (ce_4 rfl) rfl 3 (by decide) hf26 rfl dX5_keepDraft_27 ?_
  refine wp_aast9 hc hx (j := 15) (by decide) (by decide) rfl (Nat.zero_le _) (by have := (hR.1 0 (by decide)); omega) (hR.1 0 (by decide)) (M.1 0 5).toNatClampNeg rfl (vin8 hq) dX5_keepDraft_30 ?_
  refine wp_nm (fun M8 hM8 => ?_)
  have rM8 : RH M8 := by rw [hM8]; exact RH.su hR.1 (hR.1 0 (by decide))
  refine wp_aload_n hc 1 dX5_keepDraft_31 rfl ?_
  refine wp_dup hc dX5_keepDraft_32 rfl ?_
  refine wp_get hc hx hin5 (j := 0) (by decide) (by decide) (ce_4 rfl) rfl 5 (by decide) hf158 rfl dX5_keepDraft_33 ?_
  refine wp_iconst (v := 1) hc dX5_keepDraft_36 (by decide) ?_
  refine wp_iadd hc dX5_keepDraft_37 ?_
  refine wp_put (M' := st M8 0 5 ((M8.1 0 5) + 1)) hc hx hin5 tyX5 tyX5_ok nmX5 (j := 0) (by decide) (by decide) (ce_4 rfl) rfl 5 (by decide) hf158 rfl rfl rfl (Nat.le_of_ble_eq_true rfl) (by rw [ce_4 rfl]; exact ce_stP5 _ _ _) (fun i hi => ce_row (va_up_ne _ _ hi) rfl) dX5_keepDraft_38 ?_
  refine wp_nm (fun M9 hM9 => ?_)
  have rM9 : RH M9 := by rw [hM9]; exact RH.st rM8
  refine wp_goto (tgt := 88) hc dX5_keepDraft_41 (by decide) ?_
  refine wp_aload_n hc 1 dX5_keepDraft_88 rfl ?_
  refine wp_aload_n hc 1 dX5_keepDraft_89 rfl ?_
  refine wp_get hc hx hin5 (j := 0) (by decide) (by decide) (ce_4 rfl) rfl 4 (by decide) hf30 rfl dX5_keepDraft_90 ?_
  refine wp_put (M' := su M9 0 (M9.2.1 1)) hc hx hin5 tyX5 tyX5_ok nmX5 (j := 0) (by decide) (by decide) (ce_4 rfl) rfl 3 (by decide) hf26 rfl rfl rfl (Nat.le_of_ble_eq_true rfl) (by rw [ce_4 rfl]; exact ce_su_0 _ _) (fun i hi => ce_su0 (by decide) hi) dX5_keepDraft_93 ?_
  refine wp_nm (fun M10 hM10 => ?_)
  have rM10 : RH M10 := by rw [hM10]; exact RH.su rM9 (rM9 1 (by decide))
  refine wp_aload_n hc 1 dX5_keepDraft_96 rfl ?_
  refine wp_aload_n hc 0 dX5_keepDraft_97 rfl ?_
  refine wp_put (M' := su M10 1 (M.2.1 (2 + (M.1 0 5).toNatClampNeg))) hc hx hin5 tyX5 tyX5_ok nmX5 (j := 0) (by decide) (by decide) (ce_4 rfl) rfl 4 (by decide) hf30 rfl rfl rfl (Nat.le_of_ble_eq_true rfl) (by rw [ce_4 rfl]; exact ce_su_1 _ _) (fun i hi => ce_su0 (by decide) hi) dX5_keepDraft_98 ?_
  refine wp_nm (fun M11 hM11 => ?_)
  have rM11 : RH M11 := by rw [hM11]; exact RH.su rM10 (hR.1 (2 + (M.1 0 5).toNatClampNeg) (by have := cl8 (n := 5) hq; omega))
  refine wp_vret hc hr hk ?_ dX5_keepDraft_101
  show M11 = sX5_keepDraft M
  rw [sX5_keepDraft, if_neg c5, tk_eq hM8, tk_eq hM9, tk_eq hM10, tk_eq hM11]
def sX5_back (M : Mem)  : Int32 × Mem :=
  if 0 < (M.1 0 5) then
  tk (st M 0 5 ((M.1 0 5) - 1)) fun M1 =>
  tk (su M1 0 (M1.2.1 (2 + (M1.1 0 5).toNatClampNeg))) fun M2 =>
  tk (su M2 (2 + (M2.1 0 5).toNatClampNeg) (M1.2.1 0)) fun M3 =>
  ((M3.1 0 5), M3)
  else
  tk (sX5_noted M (-3)) fun x4 =>
  (x4.1, x4.2)
set_option maxHeartbeats 4000000 in
set_option maxRecDepth 100000 in
theorem kX5_back (l : Launch) (D : va_G) (cy : Nat → ClassId) (z : Nat → Nat) (hz : zI z) (M : Mem)  (hR : RK M) (hp : 0 ≤ (M.1 0 5).toInt ∧ (M.1 0 5).toInt ≤ 5) : KI l yX5_back wsX5_back { frames := 1, cells := 0, slots := 0, locals := 21 } D cy z 0 100 [.ref (z 0)] M (fun r u => (r, u) = sX5_back M) := by
  refine met_wp (lv := [(0, .ref (z 0))]) hz (by decide) (by decide) rfl rfl (Nat.le_of_ble_eq_true rfl) rfl ?_
  intro p e s m below meth c hc hx hr hk
  have hNW := hx.2.1
  have hin5 : ∀ w ∈ wsX50, w ∈ wsX5_back := by decide +kernel
  have hf26 : Cond.fieldLink RX5 26 (TX5 3).1 (TX5 3).2.1 (TX5 3).2.2.1 ∈ wsX5_back := by decide +kernel
  have hf33 : Cond.fieldLink RX5 33 (TX5 2).1 (TX5 2).2.1 (TX5 2).2.2.1 ∈ wsX5_back := by decide +kernel
  have hf158 : Cond.fieldLink RX5 158 (TX5 5).1 (TX5 5).2.1 (TX5 5).2.2.1 ∈ wsX5_back := by decide +kernel
  have cw68 : CallW ({ frames := 1, cells := 0, slots := 0, locals := 21 }) s _ RX5 RX5 68 yX5_noted cX5_noted 2 (some .int) wsX5_noted ({ frames := 0, cells := 0, slots := 0, locals := 0 }) 0 0 1 := cwV 1 hc.2.2.2.2 gX5_back_X5_noted rfl rfl rfl (by decide +kernel) ⟨Nat.le_of_ble_eq_true rfl, Nat.le_of_ble_eq_true rfl⟩
  refine wp_aload_n hc 0 dX5_back_0 rfl ?_
  refine wp_get hc hx hin5 (j := 0) (by decide) (by decide) (ce_4 rfl) rfl 5 (by decide) hf158 rfl dX5_back_1 ?_
  refine wp_if_gt (tgt := 14) hc dX5_back_4 (by decide) (fun c4 => ?_) (fun c4 => ?_)
  · refine wp_aload_n hc 0 dX5_back_14 rfl ?_
    refine wp_dup hc dX5_back_15 rfl ?_
    refine wp_get hc hx hin5 (j := 0) (by decide) (by decide) (ce_4 rfl) rfl 5 (by decide) hf158 rfl dX5_back_16 ?_
    refine wp_iconst (v := 1) hc dX5_back_19 (by decide) ?_
    refine wp_isub hc dX5_back_20 ?_
    refine wp_put (M' := st M 0 5 ((M.1 0 5) - 1)) hc hx hin5 tyX5 tyX5_ok nmX5 (j := 0) (by decide) (by decide) (ce_4 rfl) rfl 5 (by decide) hf158 rfl rfl rfl (Nat.le_of_ble_eq_true rfl) (by rw [ce_4 rfl]; exact ce_stP5 _ _ _) (fun i hi => ce_row (va_up_ne _ _ hi) rfl) dX5_back_21 ?_
    refine wp_nm (fun M1 hM1 => ?_)
    have rM1 : RH M1 := by rw [hM1]; exact RH.st hR.1
    have hq : 0 ≤ (M1.1 0 5).toInt ∧ (M1.1 0 5).toInt < (5 : Nat) := by rw [hM1, st_row, pk_us]; exact dn5 hp c4
    refine wp_aload_n hc 0 dX5_back_24 rfl ?_
    refine wp_get hc hx hin5 (j := 0) (by decide) (by decide) (ce_4 rfl) rfl 3 (by decide) hf26 rfl dX5_back_25 ?_
    refine wp_astore_n (lv' := [(1, .ref (z (16 + 12 * (M1.2.1 0)))), (0, .ref (z 0))]) hc dX5_back_28 (by decide) rfl ?_
    refine wp_aload_n hc 1 dX5_back_29 rfl ?_
    refine wp_aload_n hc 1 dX5_back_30 rfl ?_
    refine wp_get hc hx hin5 (j := 0) (by decide) (by decide) (ce_4 rfl) rfl 2 (by decide) hf33 rfl dX5_back_31 ?_
    refine wp_aload_n hc 1 dX5_back_34 rfl ?_
    refine wp_get hc hx hin5 (j := 0) (by decide) (by decide) (ce_4 rfl) rfl 5 (by decide) hf158 rfl dX5_back_35 ?_
    refine wp_aald9 hc hx (j := 15) (by decide) (by decide) rfl (M1.1 0 5).toNatClampNeg rfl (vin8 hq) dX5_back_38 ?_
    refine wp_put (M' := su M1 0 (M1.2.1 (2 + (M1.1 0 5).toNatClampNeg))) hc hx hin5 tyX5 tyX5_ok nmX5 (j := 0) (by decide) (by decide) (ce_4 rfl) rfl 3 (by decide) hf26 rfl rfl rfl (Nat.le_of_ble_eq_true rfl) (by rw [ce_4 rfl]; exact ce_su_0 _ _) (fun i hi => ce_su0 (by decide) hi) dX5_back_39 ?_
    refine wp_nm (fun M2 hM2 => ?_)
    have rM2 : RH M2 := by rw [hM2]; exact RH.su rM1 (rM1 (2 + (M1.1 0 5).toNatClampNeg) (by have := cl8 (n := 5) hq; omega))
    have hq : 0 ≤ (M2.1 0 5).toInt ∧ (M2.1 0 5).toInt < (5 : Nat) := by rw [hM2]; exact hq
    refine wp_aload_n hc 1 dX5_back_42 rfl ?_
    refine wp_get hc hx hin5 (j := 0) (by decide) (by decide) (ce_4 rfl) rfl 2 (by decide) hf33 rfl dX5_back_43 ?_
    refine wp_aload_n hc 1 dX5_back_46 rfl ?_
    refine wp_get hc hx hin5 (j := 0) (by decide) (by decide) (ce_4 rfl) rfl 5 (by decide) hf158 rfl dX5_back_47 ?_
    refine wp_aload_n hc 0 dX5_back_50 rfl ?_
    refine wp_aast9 hc hx (j := 15) (by decide) (by decide) rfl (Nat.zero_le _) (by have := (rM1 0 (by decide)); omega) (rM1 0 (by decide)) (M2.1 0 5).toNatClampNeg rfl (vin8 hq) dX5_back_51 ?_
    refine wp_nm (fun M3 hM3 => ?_)
    have rM3 : RH M3 := by rw [hM3]; exact RH.su rM2 (rM1 0 (by decide))
    refine wp_aload_n hc 1 dX5_back_52 rfl ?_
    refine wp_get hc hx hin5 (j := 0) (by decide) (by decide) (ce_4 rfl) rfl 5 (by decide) hf158 rfl dX5_back_53 ?_
    refine wp_iret hc hr hk ?_ dX5_back_56
    show ((M3.1 0 5), M3) = sX5_back M
    rw [sX5_back, if_pos c4, tk_eq hM1, tk_eq hM2, tk_eq hM3]
  refine wp_aload_n hc 0 dX5_back_7 rfl ?_
  refine wp_bipush (v := (-3)) hc dX5_back_8 (by decide) ?_
  refine wp_callVw (As := [.int (-3)]) (rest := []) (j := 0) (w := sX5_noted M (-3)) hc hx (kX5_noted l D cy z hz M (-3)) cw68 (by decide) (by decide) (ce_4 rfl) rfl rfl rfl rfl (Nat.le_of_ble_eq_true rfl) dX5_back_10 (fun x4 hx4 => ?_)
  refine wp_iret hc hr hk ?_ dX5_back_13
  show (x4.1, x4.2) = sX5_back M
  rw [sX5_back, if_neg c4, tk_eq hx4]
