def sX6_remembers (M : Mem)  : Mem :=
  if (M.1 100 3) = 5 then
  tk (sr M 103 (fb_put (M.1 103) (fun k => M.1 103 (k + 58)) 0 (232))) fun M5 =>
  tk (st M5 100 3 ((M5.1 100 3) - 1)) fun M6 =>
  tk (sr M6 103 (fb_put (M6.1 103) (M6.1 101) (58 * (M6.1 100 3).toNatClampNeg) (58))) fun M7 =>
  tk (st M7 100 3 ((M7.1 100 3) + 1)) fun M8 =>
  M8
  else
  tk (sr M 103 (fb_put (M.1 103) (M.1 101) (58 * (M.1 100 3).toNatClampNeg) (58))) fun M1 =>
  tk (st M1 100 3 ((M1.1 100 3) + 1)) fun M2 =>
  M2
set_option maxHeartbeats 4000000 in
set_option maxRecDepth 100000 in
theorem kX6_remembers (l : Launch) (D : va_G) (cy : Nat → ClassId) (z : Nat → Nat) (hz : zI z) (M : Mem)  (hs : 0 ≤ (M.1 100 3).toInt ∧ (M.1 100 3).toInt ≤ 5) : KV l yX6_remembers wsX6_remembers { frames := 0, cells := 0, slots := 0, locals := 0 } D cy z 100 15 [.ref (z 100)] M (fun u => u = sX6_remembers M) := by
  refine met_wp (lv := [(0, .ref (z 100))]) hz (by decide) (by decide) rfl rfl (Nat.le_of_ble_eq_true rfl) rfl ?_
  intro p e s m below meth c hc hx hr hk
  have hNW := hx.2.1
  have hin6 : ∀ w ∈ wsX60, w ∈ wsX6_remembers := by decide +kernel
  have hf7 : Cond.fieldLink RX6 7 (TX6 0).1 (TX6 0).2.1 (TX6 0).2.2.1 ∈ wsX6_remembers := by decide +kernel
  have hf16 : Cond.fieldLink RX6 16 (TX6 2).1 (TX6 2).2.1 (TX6 2).2.2.1 ∈ wsX6_remembers := by decide +kernel
  have hf52 : Cond.fieldLink RX6 52 (TX6 3).1 (TX6 3).2.1 (TX6 3).2.2.1 ∈ wsX6_remembers := by decide +kernel
  refine wp_aload_n hc 0 dX6_remembers_0 rfl ?_
  refine wp_get hc hx hin6 (j := 100) (by decide) (by decide) (ce_5 rfl) rfl 3 (by decide) hf52 rfl dX6_remembers_1 ?_
  refine wp_iconst (v := 5) hc dX6_remembers_4 (by decide) ?_
  refine wp_icmp_ne (tgt := 48) hc dX6_remembers_5 (by decide) (fun c5 => ?_) (fun c5 => ?_)
  · refine wp_iconst (v := 0) hc dX6_remembers_48 (by decide) ?_
    refine wp_istore_n (lv' := [(1, .int 0), (0, .ref (z 100))]) hc dX6_remembers_49 (by decide) rfl ?_
    have hst : 0 ≤ (M.1 100 3).toInt ∧ (M.1 100 3).toInt ≤ 4 := by
      first
      | (subst_vars; simp [st_row, upd, sr_ne, c5]; done)
      | (have h5 : (M.1 100 3).toInt ≠ 5 := fun h => c5 (Int32.toInt_inj.mp h)
         omega)
    refine wp_eqM (M' := sr M 103 (fb_put (M.1 103) (M.1 101) (58 * (M.1 100 3).toNatClampNeg) (0))) (sr_put0 _ _ _ _) ?_
    refine wp_lv (lv' := [(0, .ref (z 100)), (1, .int (nI (0)))]) [1, 0] rfl ?_
    refine wp_loop (58) (fun i => sr M 103 (fb_put (M.1 103) (M.1 101) (58 * (M.1 100 3).toNatClampNeg) (i))) (fun i => [(0, .ref (z 100)), (1, .int (nI (i)))]) ?_ ?_ 0 (by omega)
    · show WP _ _ _ _ _ _ _ _ _ _ _ _ _ (sr M 103 (fb_put (M.1 103) (M.1 101) (58 * (M.1 100 3).toNatClampNeg) (58))) [(0, .ref (z 100)), (1, .int (nI (58)))] _ _
      refine wp_nm (fun M1 hM1 => ?_)
      refine wp_iload_n hc 1 dX6_remembers_50 rfl ?_
      refine wp_bipush (v := 58) hc dX6_remembers_51 (by decide) ?_
      refine wp_icmp_ge (tgt := 82) hc dX6_remembers_53 (by decide) (fun _ => ?_) (fun c => absurd c (by decide))
      refine wp_aload_n hc 0 dX6_remembers_82 rfl ?_
      refine wp_dup hc dX6_remembers_83 rfl ?_
      refine wp_get hc hx hin6 (j := 100) (by decide) (by decide) (ce_5 rfl) rfl 3 (by decide) hf52 rfl dX6_remembers_84 ?_
      refine wp_iconst (v := 1) hc dX6_remembers_87 (by decide) ?_
      refine wp_iadd hc dX6_remembers_88 ?_
      refine wp_put (M' := st M1 100 3 ((M1.1 100 3) + 1)) hc hx hin6 tyX6 tyX6_ok nmX6 (j := 100) (by decide) (by decide) (ce_5 rfl) rfl 3 (by decide) hf52 rfl rfl rfl (Nat.le_of_ble_eq_true rfl) (by rw [ce_5 rfl]; exact ce_stM3 _ _ _) (fun i hi => ce_row (va_up_ne _ _ hi) rfl) dX6_remembers_89 ?_
      refine wp_nm (fun M2 hM2 => ?_)
      refine wp_vret hc hr hk ?_ dX6_remembers_92
      show M2 = sX6_remembers M
      rw [sX6_remembers, if_neg c5, tk_eq hM1, tk_eq hM2]
    · intro i hi ih
      show WP _ _ _ _ _ _ _ _ _ _ _ _ _ (sr M 103 (fb_put (M.1 103) (M.1 101) (58 * (M.1 100 3).toNatClampNeg) (i))) [(0, .ref (z 100)), (1, .int (nI (i)))] _ _
      refine wp_nm (fun M3 hM3 => ?_)
      have hSi : M3.1 100 3 = M.1 100 3 := by rw [hM3, sr_ne _ _ (by decide)]
      refine wp_iload_n hc 1 dX6_remembers_50 rfl ?_
      refine wp_bipush (v := 58) hc dX6_remembers_51 (by decide) ?_
      refine wp_icmp_ge (tgt := 82) hc dX6_remembers_53 (by decide) (fun c => absurd c (nIlt hi (by decide))) (fun _ => ?_)
      refine wp_aload_n hc 0 dX6_remembers_56 rfl ?_
      refine wp_get hc hx hin6 (j := 100) (by decide) (by decide) (ce_5 rfl) rfl 2 (by decide) hf16 rfl dX6_remembers_57 ?_
      refine wp_bipush (v := 58) hc dX6_remembers_60 (by decide) ?_
      refine wp_aload_n hc 0 dX6_remembers_62 rfl ?_
      refine wp_get hc hx hin6 (j := 100) (by decide) (by decide) (ce_5 rfl) rfl 3 (by decide) hf52 rfl dX6_remembers_63 ?_
      refine wp_imul hc dX6_remembers_66 ?_
      refine wp_iload_n hc 1 dX6_remembers_67 rfl ?_
      refine wp_iadd hc dX6_remembers_68 ?_
      refine wp_aload_n hc 0 dX6_remembers_69 rfl ?_
      refine wp_get hc hx hin6 (j := 100) (by decide) (by decide) (ce_5 rfl) rfl 0 (by decide) hf7 rfl dX6_remembers_70 ?_
      refine wp_iload_n hc 1 dX6_remembers_73 rfl ?_
      refine wp_iald hc hx (j := 101) (by decide) (by decide) rfl i (nI_clamp (by omega)) (vpl 58 rfl (by omega) (by decide)) dX6_remembers_74 ?_
      refine wp_iast hc hx (j := 103) (by decide) (by decide) rfl (58 * (M.1 100 3).toNatClampNeg + i) (by rw [hSi]; exact cl_of (pastT hst hi)) (vin (by rw [hSi, pastT hst hi, ln103]; have := cl_T hst.1; omega)) dX6_remembers_75 ?_
      refine wp_nm (fun M4 hM4 => ?_)
      refine wp_iinc (v := ((nI (i)) + 1)) (lv' := [(1, .int ((nI (i)) + 1)), (0, .ref (z 100))]) hc 1 dX6_remembers_76 rfl rfl (by decide) rfl ?_
      refine wp_goto (tgt := 50) hc dX6_remembers_79 (by decide) ?_
      rw [nI_1]
      have hEq : sr M 103 (fb_put (M.1 103) (M.1 101) (58 * (M.1 100 3).toNatClampNeg) (i + 1)) = M4 := by
        rw [hM4, hM3]
        exact (st_put _ _ _ _ _ _ _ _ rfl (by rw [sr_ne _ _ (by decide)])).symm
      exact wp_eqM hEq (wp_lv [1, 0] rfl ih)
  refine wp_iconst (v := 0) hc dX6_remembers_8 (by decide) ?_
  refine wp_istore_n (lv' := [(1, .int 0), (0, .ref (z 100))]) hc dX6_remembers_9 (by decide) rfl ?_
  refine wp_eqM (M' := sr M 103 (fb_put (M.1 103) (fun k => M.1 103 (k + 58)) 0 (0))) (sr_put0 _ _ _ _) ?_
  refine wp_lv (lv' := [(0, .ref (z 100)), (1, .int (nI (0)))]) [1, 0] rfl ?_
  refine wp_loop (232) (fun i => sr M 103 (fb_put (M.1 103) (fun k => M.1 103 (k + 58)) 0 (i))) (fun i => [(0, .ref (z 100)), (1, .int (nI (i)))]) ?_ ?_ 0 (by omega)
  · show WP _ _ _ _ _ _ _ _ _ _ _ _ _ (sr M 103 (fb_put (M.1 103) (fun k => M.1 103 (k + 58)) 0 (232))) [(0, .ref (z 100)), (1, .int (nI (232)))] _ _
    refine wp_nm (fun M5 hM5 => ?_)
    refine wp_iload_n hc 1 dX6_remembers_10 rfl ?_
    refine wp_sipush (v := 232) hc dX6_remembers_11 (by decide) ?_
    refine wp_icmp_ge (tgt := 38) hc dX6_remembers_14 (by decide) (fun _ => ?_) (fun c => absurd c (by decide))
    refine wp_aload_n hc 0 dX6_remembers_38 rfl ?_
    refine wp_dup hc dX6_remembers_39 rfl ?_
    refine wp_get hc hx hin6 (j := 100) (by decide) (by decide) (ce_5 rfl) rfl 3 (by decide) hf52 rfl dX6_remembers_40 ?_
    refine wp_iconst (v := 1) hc dX6_remembers_43 (by decide) ?_
    refine wp_isub hc dX6_remembers_44 ?_
    refine wp_put (M' := st M5 100 3 ((M5.1 100 3) - 1)) hc hx hin6 tyX6 tyX6_ok nmX6 (j := 100) (by decide) (by decide) (ce_5 rfl) rfl 3 (by decide) hf52 rfl rfl rfl (Nat.le_of_ble_eq_true rfl) (by rw [ce_5 rfl]; exact ce_stM3 _ _ _) (fun i hi => ce_row (va_up_ne _ _ hi) rfl) dX6_remembers_45 ?_
    refine wp_nm (fun M6 hM6 => ?_)
    refine wp_iconst (v := 0) hc dX6_remembers_48 (by decide) ?_
    refine wp_istore_n (lv' := [(1, .int 0), (0, .ref (z 100))]) hc dX6_remembers_49 (by decide) rfl ?_
    have hst : 0 ≤ (M6.1 100 3).toInt ∧ (M6.1 100 3).toInt ≤ 4 := by
      first
      | (subst_vars; simp [st_row, upd, sr_ne, c5]; done)
      | (have h5 : (M6.1 100 3).toInt ≠ 5 := fun h => c5 (Int32.toInt_inj.mp h)
         omega)
    refine wp_eqM (M' := sr M6 103 (fb_put (M6.1 103) (M6.1 101) (58 * (M6.1 100 3).toNatClampNeg) (0))) (sr_put0 _ _ _ _) ?_
    refine wp_lv (lv' := [(0, .ref (z 100)), (1, .int (nI (0)))]) [1, 0] rfl ?_
    refine wp_loop (58) (fun i => sr M6 103 (fb_put (M6.1 103) (M6.1 101) (58 * (M6.1 100 3).toNatClampNeg) (i))) (fun i => [(0, .ref (z 100)), (1, .int (nI (i)))]) ?_ ?_ 0 (by omega)
    · show WP _ _ _ _ _ _ _ _ _ _ _ _ _ (sr M6 103 (fb_put (M6.1 103) (M6.1 101) (58 * (M6.1 100 3).toNatClampNeg) (58))) [(0, .ref (z 100)), (1, .int (nI (58)))] _ _
      refine wp_nm (fun M7 hM7 => ?_)
      refine wp_iload_n hc 1 dX6_remembers_50 rfl ?_
      refine wp_bipush (v := 58) hc dX6_remembers_51 (by decide) ?_
      refine wp_icmp_ge (tgt := 82) hc dX6_remembers_53 (by decide) (fun _ => ?_) (fun c => absurd c (by decide))
      refine wp_aload_n hc 0 dX6_remembers_82 rfl ?_
      refine wp_dup hc dX6_remembers_83 rfl ?_
      refine wp_get hc hx hin6 (j := 100) (by decide) (by decide) (ce_5 rfl) rfl 3 (by decide) hf52 rfl dX6_remembers_84 ?_
      refine wp_iconst (v := 1) hc dX6_remembers_87 (by decide) ?_
      refine wp_iadd hc dX6_remembers_88 ?_
      refine wp_put (M' := st M7 100 3 ((M7.1 100 3) + 1)) hc hx hin6 tyX6 tyX6_ok nmX6 (j := 100) (by decide) (by decide) (ce_5 rfl) rfl 3 (by decide) hf52 rfl rfl rfl (Nat.le_of_ble_eq_true rfl) (by rw [ce_5 rfl]; exact ce_stM3 _ _ _) (fun i hi => ce_row (va_up_ne _ _ hi) rfl) dX6_remembers_89 ?_
      refine wp_nm (fun M8 hM8 => ?_)
      refine wp_vret hc hr hk ?_ dX6_remembers_92
      show M8 = sX6_remembers M
      rw [sX6_remembers, if_pos c5, tk_eq hM5, tk_eq hM6, tk_eq hM7, tk_eq hM8]
    · intro i hi ih
      show WP _ _ _ _ _ _ _ _ _ _ _ _ _ (sr M6 103 (fb_put (M6.1 103) (M6.1 101) (58 * (M6.1 100 3).toNatClampNeg) (i))) [(0, .ref (z 100)), (1, .int (nI (i)))] _ _
      refine wp_nm (fun M9 hM9 => ?_)
      have hSi : M9.1 100 3 = M6.1 100 3 := by rw [hM9, sr_ne _ _ (by decide)]
      refine wp_iload_n hc 1 dX6_remembers_50 rfl ?_
      refine wp_bipush (v := 58) hc dX6_remembers_51 (by decide) ?_
      refine wp_icmp_ge (tgt := 82) hc dX6_remembers_53 (by decide) (fun c => absurd c (nIlt hi (by decide))) (fun _ => ?_)
      refine wp_aload_n hc 0 dX6_remembers_56 rfl ?_
      refine wp_get hc hx hin6 (j := 100) (by decide) (by decide) (ce_5 rfl) rfl 2 (by decide) hf16 rfl dX6_remembers_57 ?_
      refine wp_bipush (v := 58) hc dX6_remembers_60 (by decide) ?_
      refine wp_aload_n hc 0 dX6_remembers_62 rfl ?_
      refine wp_get hc hx hin6 (j := 100) (by decide) (by decide) (ce_5 rfl) rfl 3 (by decide) hf52 rfl dX6_remembers_63 ?_
      refine wp_imul hc dX6_remembers_66 ?_
      refine wp_iload_n hc 1 dX6_remembers_67 rfl ?_
      refine wp_iadd hc dX6_remembers_68 ?_
      refine wp_aload_n hc 0 dX6_remembers_69 rfl ?_
      refine wp_get hc hx hin6 (j := 100) (by decide) (by decide) (ce_5 rfl) rfl 0 (by decide) hf7 rfl dX6_remembers_70 ?_
      refine wp_iload_n hc 1 dX6_remembers_73 rfl ?_
      refine wp_iald hc hx (j := 101) (by decide) (by decide) rfl i (nI_clamp (by omega)) (vpl 58 rfl (by omega) (by decide)) dX6_remembers_74 ?_
      refine wp_iast hc hx (j := 103) (by decide) (by decide) rfl (58 * (M6.1 100 3).toNatClampNeg + i) (by rw [hSi]; exact cl_of (pastT hst hi)) (vin (by rw [hSi, pastT hst hi, ln103]; have := cl_T hst.1; omega)) dX6_remembers_75 ?_
      refine wp_nm (fun M10 hM10 => ?_)
      refine wp_iinc (v := ((nI (i)) + 1)) (lv' := [(1, .int ((nI (i)) + 1)), (0, .ref (z 100))]) hc 1 dX6_remembers_76 rfl rfl (by decide) rfl ?_
      refine wp_goto (tgt := 50) hc dX6_remembers_79 (by decide) ?_
      rw [nI_1]
      have hEq : sr M6 103 (fb_put (M6.1 103) (M6.1 101) (58 * (M6.1 100 3).toNatClampNeg) (i + 1)) = M10 := by
        rw [hM10, hM9]
        exact (st_put _ _ _ _ _ _ _ _ rfl (by rw [sr_ne _ _ (by decide)])).symm
      exact wp_eqM hEq (wp_lv [1, 0] rfl ih)
  · intro i hi ih
    show WP _ _ _ _ _ _ _ _ _ _ _ _ _ (sr M 103 (fb_put (M.1 103) (fun k => M.1 103 (k + 58)) 0 (i))) [(0, .ref (z 100)), (1, .int (nI (i)))] _ _
    refine wp_nm (fun M11 hM11 => ?_)
    refine wp_iload_n hc 1 dX6_remembers_10 rfl ?_
    refine wp_sipush (v := 232) hc dX6_remembers_11 (by decide) ?_
    refine wp_icmp_ge (tgt := 38) hc dX6_remembers_14 (by decide) (fun c => absurd c (nIlt hi (by decide))) (fun _ => ?_)
    refine wp_aload_n hc 0 dX6_remembers_17 rfl ?_
    refine wp_get hc hx hin6 (j := 100) (by decide) (by decide) (ce_5 rfl) rfl 2 (by decide) hf16 rfl dX6_remembers_18 ?_
    refine wp_iload_n hc 1 dX6_remembers_21 rfl ?_
    refine wp_aload_n hc 0 dX6_remembers_22 rfl ?_
    refine wp_get hc hx hin6 (j := 100) (by decide) (by decide) (ce_5 rfl) rfl 2 (by decide) hf16 rfl dX6_remembers_23 ?_
    refine wp_iload_n hc 1 dX6_remembers_26 rfl ?_
    refine wp_bipush (v := 58) hc dX6_remembers_27 (by decide) ?_
    refine wp_iadd hc dX6_remembers_29 ?_
    refine wp_iald hc hx (j := 103) (by decide) (by decide) rfl (i + 58) (by rw [show nI (i) + 58 = nI (i + 58) from nI_add i 58]; exact nI_clamp (by omega)) (by rw [show nI (i) + 58 = nI (i + 58) from nI_add i 58]; exact (vpl 290 rfl (by omega) (by decide))) dX6_remembers_30 ?_
    refine wp_iast hc hx (j := 103) (by decide) (by decide) rfl i (nI_clamp (by omega)) (vpl 290 rfl (by omega) (by decide)) dX6_remembers_31 ?_
    refine wp_nm (fun M12 hM12 => ?_)
    refine wp_iinc (v := ((nI (i)) + 1)) (lv' := [(1, .int ((nI (i)) + 1)), (0, .ref (z 100))]) hc 1 dX6_remembers_32 rfl rfl (by decide) rfl ?_
    refine wp_goto (tgt := 10) hc dX6_remembers_35 (by decide) ?_
    rw [nI_1]
    have hEq : sr M 103 (fb_put (M.1 103) (fun k => M.1 103 (k + 58)) 0 (i + 1)) = M12 := by
      rw [hM12, hM11]
      exact (st_put _ _ _ _ _ _ _ _ (by omega) (by rw [sr_row, fb_put_out (by omega)])).symm
    exact wp_eqM hEq (wp_lv [1, 0] rfl ih)
