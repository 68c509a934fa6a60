def ctK (f n : Nat → Int32) : Nat → Int32
  | 0 => 0
  | i + 1 => if f i = n i then ctK f n i + 1 else ctK f n i
theorem ctK_y {f n : Nat → Int32} {i : Nat} (h : f i = n i) : ctK f n i + 1 = ctK f n (i + 1) := by rw [ctK, if_pos h]
theorem ctK_n {f n : Nat → Int32} {i : Nat} (h : ¬ f i = n i) : ctK f n i = ctK f n (i + 1) := by rw [ctK, if_neg h]
def sX4_learnErrors (M : Mem) (q1 : Nat) : Int32 × Mem :=
  tk (sX4_learnLoad M (16 + 12 * q1 + 2)) fun x1 =>
  if x1.1 = 0 then
  ((-3), x1.2)
  else
  tk (sX4_learnEnds_0 x1.2 (16 + 12 * q1 + 2)) fun x2 =>
  if x2.1 = 0 then
  ((-3), x2.2)
  else
  tk (sX4_learnEnds_1 x2.2 (16 + 12 * q1 + 2)) fun x3 =>
  if x3.1 = 0 then
  ((-3), x3.2)
  else
  tk (sX4_learnThrough x3.2 (16 + 12 * q1 + 2)) fun x4 =>
  if x4.1 = 0 then
  ((-3), x4.2)
  else
  tk (sr x4.2 (16 + 12 * q1 + 3) (va_cpy (x4.2.1 9) (x4.2.1 (16 + 12 * q1 + 3)) 0 0 12)) fun M5 =>
  tk (st M5 (16 + 12 * q1) 4 1) fun M6 =>
  ((ctK (M6.1 (16 + 12 * q1 + 3)) (M6.1 (16 + 12 * q1 + 2)) (12)), M6)
set_option maxHeartbeats 4000000 in
set_option maxRecDepth 100000 in
theorem kX4_learnErrors (l : Launch) (D : va_G) (cy : Nat → ClassId) (z : Nat → Nat) (hz : zI z) (M : Mem) (q1 : Nat) (haq1 : q1 < 7) : KI l yX4_learnErrors wsX4_learnErrors { frames := 5, cells := 0, slots := 0, locals := 123 } D cy z 0 100 [.ref (z 1), .ref (z (16 + 12 * q1))] M (fun r u => (r, u) = sX4_learnErrors M q1) := by
  refine met_wp (lv := [(0, .ref (z 1)), (1, .ref (z (16 + 12 * q1)))]) hz (by decide) (by decide) rfl rfl (Nat.le_of_ble_eq_true rfl) rfl ?_
  intro p e s m below meth c hc hx hr hk
  have hNW := hx.2.1
  have hin2 : ∀ w ∈ wsX20, w ∈ wsX4_learnErrors := by decide +kernel
  have hin4 : ∀ w ∈ wsX40, w ∈ wsX4_learnErrors := by decide +kernel
  have hf36 : Cond.fieldLink RX4 36 (TX4 7).1 (TX4 7).2.1 (TX4 7).2.2.1 ∈ wsX4_learnErrors := by decide +kernel
  have hf115 : Cond.fieldLink RX4 115 (TX2 1).1 (TX2 1).2.1 (TX2 1).2.2.1 ∈ wsX4_learnErrors := by decide +kernel
  have hf122 : Cond.fieldLink RX4 122 (TX2 4).1 (TX2 4).2.1 (TX2 4).2.2.1 ∈ wsX4_learnErrors := by decide +kernel
  have hf126 : Cond.fieldLink RX4 126 (TX2 2).1 (TX2 2).2.1 (TX2 2).2.2.1 ∈ wsX4_learnErrors := by decide +kernel
  have cw136 : CallW ({ frames := 5, cells := 0, slots := 0, locals := 123 }) s _ RX4 RX4 136 yX4_learnLoad cX4_learnLoad 2 (some .boolean) wsX4_learnLoad ({ frames := 4, cells := 0, slots := 0, locals := 97 }) 0 0 1 := cwV 1 hc.2.2.2.2 gX4_learnErrors_X4_learnLoad rfl rfl rfl (by decide +kernel) ⟨Nat.le_of_ble_eq_true rfl, Nat.le_of_ble_eq_true rfl⟩
  have cw139 : CallW ({ frames := 5, cells := 0, slots := 0, locals := 123 }) s _ RX4 RX4 139 yX4_learnEnds cX4_learnEnds 7 (some .boolean) wsX4_learnEnds ({ frames := 4, cells := 0, slots := 0, locals := 97 }) 0 0 2 := cwV 2 hc.2.2.2.2 gX4_learnErrors_X4_learnEnds rfl rfl rfl (by decide +kernel) ⟨Nat.le_of_ble_eq_true rfl, Nat.le_of_ble_eq_true rfl⟩
  have cw143 : CallW ({ frames := 5, cells := 0, slots := 0, locals := 123 }) s _ RX4 RX4 143 yX4_learnThrough cX4_learnThrough 2 (some .boolean) wsX4_learnThrough ({ frames := 4, cells := 0, slots := 0, locals := 97 }) 0 0 1 := cwV 1 hc.2.2.2.2 gX4_learnErrors_X4_learnThrough rfl rfl rfl (by decide +kernel) ⟨Nat.le_of_ble_eq_true rfl, Nat.le_of_ble_eq_true rfl⟩
  refine wp_aload_n hc 0 dX4_learnErrors_0 rfl ?_
  refine wp_aload_n hc 1 dX4_learnErrors_1 rfl ?_
  refine wp_get hc hx hin2 (j := (16 + 12 * q1)) (Nat.zero_le _) (by have := haq1; omega) (ce_1 (kd_st haq1)) rfl 1 (by decide) hf115 rfl dX4_learnErrors_2 ?_
  refine wp_callVw (As := [.ref (z (16 + 12 * q1 + 2))]) (rest := []) (j := 1) (w := sX4_learnLoad M (16 + 12 * q1 + 2)) hc hx (kX4_learnLoad l D cy z hz M (16 + 12 * q1 + 2) (Nat.zero_le _) (by have := haq1; omega) (kd_er haq1) (ln_er haq1)) cw136 (by decide) (by decide) (ce_3 rfl) rfl rfl rfl rfl (Nat.le_of_ble_eq_true rfl) dX4_learnErrors_5 (fun x1 hx1 => ?_)
  refine wp_if_eq (tgt := 46) hc dX4_learnErrors_8 (by decide) (fun c8 => ?_) (fun c8 => ?_)
  · refine wp_bipush (v := (-3)) hc dX4_learnErrors_46 (by decide) ?_
    refine wp_iret hc hr hk ?_ dX4_learnErrors_48
    show ((-3), x1.2) = sX4_learnErrors M q1
    rw [sX4_learnErrors, tk_eq hx1, if_pos c8]
  refine wp_aload_n hc 0 dX4_learnErrors_11 rfl ?_
  refine wp_aload_n hc 1 dX4_learnErrors_12 rfl ?_
  refine wp_get hc hx hin2 (j := (16 + 12 * q1)) (Nat.zero_le _) (by have := haq1; omega) (ce_1 (kd_st haq1)) rfl 1 (by decide) hf115 rfl dX4_learnErrors_13 ?_
  refine wp_iconst (v := 0) hc dX4_learnErrors_16 (by decide) ?_
  refine wp_callVw (As := [.ref (z (16 + 12 * q1 + 2)), .int 0]) (rest := []) (j := 1) (w := sX4_learnEnds_0 x1.2 (16 + 12 * q1 + 2)) hc hx (kX4_learnEnds_0 l D cy z hz x1.2 (16 + 12 * q1 + 2) (Nat.zero_le _) (by have := haq1; omega) (kd_er haq1) (ln_er haq1)) cw139 (by decide) (by decide) (ce_3 rfl) rfl rfl rfl rfl (Nat.le_of_ble_eq_true rfl) dX4_learnErrors_17 (fun x2 hx2 => ?_)
  refine wp_if_eq (tgt := 46) hc dX4_learnErrors_20 (by decide) (fun c20 => ?_) (fun c20 => ?_)
  · refine wp_bipush (v := (-3)) hc dX4_learnErrors_46 (by decide) ?_
    refine wp_iret hc hr hk ?_ dX4_learnErrors_48
    show ((-3), x2.2) = sX4_learnErrors M q1
    rw [sX4_learnErrors, tk_eq hx1, if_neg c8, tk_eq hx2, if_pos c20]
  refine wp_aload_n hc 0 dX4_learnErrors_23 rfl ?_
  refine wp_aload_n hc 1 dX4_learnErrors_24 rfl ?_
  refine wp_get hc hx hin2 (j := (16 + 12 * q1)) (Nat.zero_le _) (by have := haq1; omega) (ce_1 (kd_st haq1)) rfl 1 (by decide) hf115 rfl dX4_learnErrors_25 ?_
  refine wp_iconst (v := 1) hc dX4_learnErrors_28 (by decide) ?_
  refine wp_callVw (As := [.ref (z (16 + 12 * q1 + 2)), .int 1]) (rest := []) (j := 1) (w := sX4_learnEnds_1 x2.2 (16 + 12 * q1 + 2)) hc hx (kX4_learnEnds_1 l D cy z hz x2.2 (16 + 12 * q1 + 2) (Nat.zero_le _) (by have := haq1; omega) (kd_er haq1) (ln_er haq1)) cw139 (by decide) (by decide) (ce_3 rfl) rfl rfl rfl rfl (Nat.le_of_ble_eq_true rfl) dX4_learnErrors_29 (fun x3 hx3 => ?_)
  refine wp_if_eq (tgt := 46) hc dX4_learnErrors_32 (by decide) (fun c32 => ?_) (fun c32 => ?_)
  · refine wp_bipush (v := (-3)) hc dX4_learnErrors_46 (by decide) ?_
    refine wp_iret hc hr hk ?_ dX4_learnErrors_48
    show ((-3), x3.2) = sX4_learnErrors M q1
    rw [sX4_learnErrors, tk_eq hx1, if_neg c8, tk_eq hx2, if_neg c20, tk_eq hx3, if_pos c32]
  refine wp_aload_n hc 0 dX4_learnErrors_35 rfl ?_
  refine wp_aload_n hc 1 dX4_learnErrors_36 rfl ?_
  refine wp_get hc hx hin2 (j := (16 + 12 * q1)) (Nat.zero_le _) (by have := haq1; omega) (ce_1 (kd_st haq1)) rfl 1 (by decide) hf115 rfl dX4_learnErrors_37 ?_
  refine wp_callVw (As := [.ref (z (16 + 12 * q1 + 2))]) (rest := []) (j := 1) (w := sX4_learnThrough x3.2 (16 + 12 * q1 + 2)) hc hx (kX4_learnThrough l D cy z hz x3.2 (16 + 12 * q1 + 2) (Nat.zero_le _) (by have := haq1; omega) (kd_er haq1) (ln_er haq1)) cw143 (by decide) (by decide) (ce_3 rfl) rfl rfl rfl rfl (Nat.le_of_ble_eq_true rfl) dX4_learnErrors_40 (fun x4 hx4 => ?_)
  refine wp_if_ne (tgt := 49) hc dX4_learnErrors_43 (by decide) (fun c43 => ?_) (fun c43 => ?_)
  · refine wp_aload_n hc 0 dX4_learnErrors_49 rfl ?_
    refine wp_get hc hx hin4 (j := 1) (by decide) (by decide) (ce_3 rfl) rfl 7 (by decide) hf36 rfl dX4_learnErrors_50 ?_
    refine wp_iconst (v := 0) hc dX4_learnErrors_53 (by decide) ?_
    refine wp_aload_n hc 1 dX4_learnErrors_54 rfl ?_
    refine wp_get hc hx hin2 (j := (16 + 12 * q1)) (Nat.zero_le _) (by have := haq1; omega) (ce_1 (kd_st haq1)) rfl 2 (by decide) hf126 rfl dX4_learnErrors_55 ?_
    refine wp_iconst (v := 0) hc dX4_learnErrors_58 (by decide) ?_
    refine wp_bipush (v := 12) hc dX4_learnErrors_59 (by decide) ?_
    refine wp_copyi hc hx (Nat.zero_le _) (by have := haq1; omega) (by decide) (by decide) (kd_kn haq1) rfl (ln_kn haq1) (rfl) (by decide +kernel) (by decide +kernel) (by decide +kernel) (by decide +kernel) (by decide) (by decide) dX4_learnErrors_61 ?_
    refine wp_nm (fun M5 hM5 => ?_)
    refine wp_aload_n hc 1 dX4_learnErrors_64 rfl ?_
    refine wp_iconst (v := 1) hc dX4_learnErrors_65 (by decide) ?_
    refine wp_put (M' := st M5 (16 + 12 * q1) 4 1) hc hx hin2 tyX2 tyX2_ok nmX2 (j := (16 + 12 * q1)) (Nat.zero_le _) (by have := haq1; omega) (ce_1 (kd_st haq1)) rfl 4 (by decide) hf122 rfl rfl rfl (Nat.le_of_ble_eq_true rfl) (by rw [ce_1 (kd_st haq1)]; exact ce_stS4 _ _ _) (fun i hi => ce_row (va_up_ne _ _ hi) rfl) dX4_learnErrors_66 ?_
    refine wp_nm (fun M6 hM6 => ?_)
    refine wp_iconst (v := 0) hc dX4_learnErrors_69 (by decide) ?_
    refine wp_istore_n (lv' := [(2, .int 0), (0, .ref (z 1)), (1, .ref (z (16 + 12 * q1)))]) hc dX4_learnErrors_70 (by decide) rfl ?_
    refine wp_iconst (v := 0) hc dX4_learnErrors_71 (by decide) ?_
    refine wp_istore_n (lv' := [(3, .int 0), (2, .int 0), (0, .ref (z 1)), (1, .ref (z (16 + 12 * q1)))]) hc dX4_learnErrors_72 (by decide) rfl ?_
    refine wp_lv (lv' := [(0, .ref (z 1)), (1, .ref (z (16 + 12 * q1))), (2, .int (ctK (M6.1 (16 + 12 * q1 + 3)) (M6.1 (16 + 12 * q1 + 2)) (0))), (3, .int (nI (0)))]) [2, 3, 1, 0] rfl ?_
    refine wp_loop (12) (fun i => M6) (fun i => [(0, .ref (z 1)), (1, .ref (z (16 + 12 * q1))), (2, .int (ctK (M6.1 (16 + 12 * q1 + 3)) (M6.1 (16 + 12 * q1 + 2)) (i))), (3, .int (nI (i)))]) ?_ ?_ 0 (by omega)
    · show WP _ _ _ _ _ _ _ _ _ _ _ _ _ (M6) [(0, .ref (z 1)), (1, .ref (z (16 + 12 * q1))), (2, .int (ctK (M6.1 (16 + 12 * q1 + 3)) (M6.1 (16 + 12 * q1 + 2)) (12))), (3, .int (nI (12)))] _ _
      refine wp_iload_n hc 3 dX4_learnErrors_73 rfl ?_
      refine wp_bipush (v := 12) hc dX4_learnErrors_74 (by decide) ?_
      refine wp_icmp_ge (tgt := 103) hc dX4_learnErrors_76 (by decide) (fun _ => ?_) (fun c => absurd c (by decide))
      refine wp_iload_n hc 2 dX4_learnErrors_103 rfl ?_
      refine wp_iret hc hr hk ?_ dX4_learnErrors_104
      show ((ctK (M6.1 (16 + 12 * q1 + 3)) (M6.1 (16 + 12 * q1 + 2)) (12)), M6) = sX4_learnErrors M q1
      rw [sX4_learnErrors, tk_eq hx1, if_neg c8, tk_eq hx2, if_neg c20, tk_eq hx3, if_neg c32, tk_eq hx4, if_neg c43, tk_eq hM5, tk_eq hM6]
    · intro i hi ih
      show WP _ _ _ _ _ _ _ _ _ _ _ _ _ (M6) [(0, .ref (z 1)), (1, .ref (z (16 + 12 * q1))), (2, .int (ctK (M6.1 (16 + 12 * q1 + 3)) (M6.1 (16 + 12 * q1 + 2)) (i))), (3, .int (nI (i)))] _ _
      refine wp_iload_n hc 3 dX4_learnErrors_73 rfl ?_
      refine wp_bipush (v := 12) hc dX4_learnErrors_74 (by decide) ?_
      refine wp_icmp_ge (tgt := 103) hc dX4_learnErrors_76 (by decide) (fun c => absurd c (nIlt hi (by decide))) (fun _ => ?_)
      refine wp_aload_n hc 1 dX4_learnErrors_79 rfl ?_
      refine wp_get hc hx hin2 (j := (16 + 12 * q1)) (Nat.zero_le _) (by have := haq1; omega) (ce_1 (kd_st haq1)) rfl 2 (by decide) hf126 rfl dX4_learnErrors_80 ?_
      refine wp_iload_n hc 3 dX4_learnErrors_83 rfl ?_
      refine wp_iald hc hx (j := (16 + 12 * q1 + 3)) (Nat.zero_le _) (by have := haq1; omega) (kd_kn haq1) i (nI_clamp (by omega)) (vpl 12 (ln_kn haq1) (by omega) (by decide)) dX4_learnErrors_84 ?_
      refine wp_aload_n hc 1 dX4_learnErrors_85 rfl ?_
      refine wp_get hc hx hin2 (j := (16 + 12 * q1)) (Nat.zero_le _) (by have := haq1; omega) (ce_1 (kd_st haq1)) rfl 1 (by decide) hf115 rfl dX4_learnErrors_86 ?_
      refine wp_iload_n hc 3 dX4_learnErrors_89 rfl ?_
      refine wp_iald hc hx (j := (16 + 12 * q1 + 2)) (Nat.zero_le _) (by have := haq1; omega) (kd_er haq1) i (nI_clamp (by omega)) (vpl 12 (ln_er haq1) (by omega) (by decide)) dX4_learnErrors_90 ?_
      refine wp_icmp_ne (tgt := 97) hc dX4_learnErrors_91 (by decide) (fun c91 => ?_) (fun c91 => ?_)
      · refine wp_iinc (v := ((nI (i)) + 1)) (lv' := [(3, .int ((nI (i)) + 1)), (0, .ref (z 1)), (1, .ref (z (16 + 12 * q1))), (2, .int (ctK (M6.1 (16 + 12 * q1 + 3)) (M6.1 (16 + 12 * q1 + 2)) (i)))]) hc 3 dX4_learnErrors_97 rfl rfl (by decide) rfl ?_
        refine wp_goto (tgt := 73) hc dX4_learnErrors_100 (by decide) ?_
        rw [nI_1]
        have hL : (ctK (M6.1 (16 + 12 * q1 + 3)) (M6.1 (16 + 12 * q1 + 2)) (i)) = ctK (M6.1 (16 + 12 * q1 + 3)) (M6.1 (16 + 12 * q1 + 2)) (i + 1) := by first | exact ctK_y c91 | exact ctK_n c91
        rw [hL]
        exact wp_lv [1, 2, 3, 0] rfl ih
      refine wp_iinc (v := ((ctK (M6.1 (16 + 12 * q1 + 3)) (M6.1 (16 + 12 * q1 + 2)) (i)) + 1)) (lv' := [(2, .int ((ctK (M6.1 (16 + 12 * q1 + 3)) (M6.1 (16 + 12 * q1 + 2)) (i)) + 1)), (0, .ref (z 1)), (1, .ref (z (16 + 12 * q1))), (3, .int (nI (i)))]) hc 2 dX4_learnErrors_94 rfl rfl (by decide) rfl ?_
      refine wp_iinc (v := ((nI (i)) + 1)) (lv' := [(3, .int ((nI (i)) + 1)), (2, .int ((ctK (M6.1 (16 + 12 * q1 + 3)) (M6.1 (16 + 12 * q1 + 2)) (i)) + 1)), (0, .ref (z 1)), (1, .ref (z (16 + 12 * q1)))]) hc 3 dX4_learnErrors_97 rfl rfl (by decide) rfl ?_
      refine wp_goto (tgt := 73) hc dX4_learnErrors_100 (by decide) ?_
      rw [nI_1]
      have hL : ((ctK (M6.1 (16 + 12 * q1 + 3)) (M6.1 (16 + 12 * q1 + 2)) (i)) + 1) = ctK (M6.1 (16 + 12 * q1 + 3)) (M6.1 (16 + 12 * q1 + 2)) (i + 1) := by first | exact ctK_y c91 | exact ctK_n c91
      rw [hL]
      exact wp_lv [2, 3, 1, 0] rfl ih
  refine wp_bipush (v := (-3)) hc dX4_learnErrors_46 (by decide) ?_
  refine wp_iret hc hr hk ?_ dX4_learnErrors_48
  show ((-3), x4.2) = sX4_learnErrors M q1
  rw [sX4_learnErrors, tk_eq hx1, if_neg c8, tk_eq hx2, if_neg c20, tk_eq hx3, if_neg c32, tk_eq hx4, if_pos c43]
set_option maxRecDepth 10000 in
theorem kfX4_learnErrors (M : Mem) (q1 : Nat) : KF2 (fun x => (2 ≤ x ∧ x ≤ 9) ∨ (16 + 12 * q1 ≤ x ∧ x < 28 + 12 * q1)) M (sX4_learnErrors M q1) := by
  unfold sX4_learnErrors
  refine tk_ind (P := KF2 (fun x => (2 ≤ x ∧ x ≤ 9) ∨ (16 + 12 * q1 ≤ x ∧ x < 28 + 12 * q1)) M) _ _ (fun x1 hx1 => ?_)
  have k1 : KF2 (fun x => (2 ≤ x ∧ x ≤ 9) ∨ (16 + 12 * q1 ≤ x ∧ x < 28 + 12 * q1)) M x1 := by rw [hx1]; exact KF2.mono (kfX4_learnLoad _ _) (fun x h => by first | exact h | ((try dsimp only at h ⊢); omega))
  refine ite_ind (P := KF2 (fun x => (2 ≤ x ∧ x ≤ 9) ∨ (16 + 12 * q1 ≤ x ∧ x < 28 + 12 * q1)) M) (fun c2 => ?_) (fun c2 => ?_)
  · exact (show KF (fun x => (2 ≤ x ∧ x ≤ 9) ∨ (16 + 12 * q1 ≤ x ∧ x < 28 + 12 * q1)) M x1.2 from k1)
  · refine tk_ind (P := KF2 (fun x => (2 ≤ x ∧ x ≤ 9) ∨ (16 + 12 * q1 ≤ x ∧ x < 28 + 12 * q1)) M) _ _ (fun x2 hx2 => ?_)
    have k3 : KF2 (fun x => (2 ≤ x ∧ x ≤ 9) ∨ (16 + 12 * q1 ≤ x ∧ x < 28 + 12 * q1)) x1.2 x2 := by rw [hx2]; exact KF2.mono (kfX4_learnEnds_0 _ _) (fun x h => by first | exact h | ((try dsimp only at h ⊢); omega))
    refine ite_ind (P := KF2 (fun x => (2 ≤ x ∧ x ≤ 9) ∨ (16 + 12 * q1 ≤ x ∧ x < 28 + 12 * q1)) M) (fun c4 => ?_) (fun c4 => ?_)
    · exact (show KF (fun x => (2 ≤ x ∧ x ≤ 9) ∨ (16 + 12 * q1 ≤ x ∧ x < 28 + 12 * q1)) M x2.2 from KF.trans k1 (k3))
    · refine tk_ind (P := KF2 (fun x => (2 ≤ x ∧ x ≤ 9) ∨ (16 + 12 * q1 ≤ x ∧ x < 28 + 12 * q1)) M) _ _ (fun x3 hx3 => ?_)
      have k5 : KF2 (fun x => (2 ≤ x ∧ x ≤ 9) ∨ (16 + 12 * q1 ≤ x ∧ x < 28 + 12 * q1)) x2.2 x3 := by rw [hx3]; exact KF2.mono (kfX4_learnEnds_1 _ _) (fun x h => by first | exact h | ((try dsimp only at h ⊢); omega))
      refine ite_ind (P := KF2 (fun x => (2 ≤ x ∧ x ≤ 9) ∨ (16 + 12 * q1 ≤ x ∧ x < 28 + 12 * q1)) M) (fun c6 => ?_) (fun c6 => ?_)
      · exact (show KF (fun x => (2 ≤ x ∧ x ≤ 9) ∨ (16 + 12 * q1 ≤ x ∧ x < 28 + 12 * q1)) M x3.2 from KF.trans k1 (KF.trans k3 (k5)))
      · refine tk_ind (P := KF2 (fun x => (2 ≤ x ∧ x ≤ 9) ∨ (16 + 12 * q1 ≤ x ∧ x < 28 + 12 * q1)) M) _ _ (fun x4 hx4 => ?_)
        have k7 : KF2 (fun x => (2 ≤ x ∧ x ≤ 9) ∨ (16 + 12 * q1 ≤ x ∧ x < 28 + 12 * q1)) x3.2 x4 := by rw [hx4]; exact KF2.mono (kfX4_learnThrough _ _) (fun x h => by first | exact h | ((try dsimp only at h ⊢); omega))
        refine ite_ind (P := KF2 (fun x => (2 ≤ x ∧ x ≤ 9) ∨ (16 + 12 * q1 ≤ x ∧ x < 28 + 12 * q1)) M) (fun c8 => ?_) (fun c8 => ?_)
        · exact (show KF (fun x => (2 ≤ x ∧ x ≤ 9) ∨ (16 + 12 * q1 ≤ x ∧ x < 28 + 12 * q1)) M x4.2 from KF.trans k1 (KF.trans k3 (KF.trans k5 (k7))))
        · refine tk_ind (P := KF2 (fun x => (2 ≤ x ∧ x ≤ 9) ∨ (16 + 12 * q1 ≤ x ∧ x < 28 + 12 * q1)) M) _ _ (fun M5 hM5 => ?_)
          have k9 : KF (fun x => (2 ≤ x ∧ x ≤ 9) ∨ (16 + 12 * q1 ≤ x ∧ x < 28 + 12 * q1)) x4.2 M5 := by rw [hM5]; first | exact kf_st (by show _; omega) | exact kf_sr (by show _; omega)
          refine tk_ind (P := KF2 (fun x => (2 ≤ x ∧ x ≤ 9) ∨ (16 + 12 * q1 ≤ x ∧ x < 28 + 12 * q1)) M) _ _ (fun M6 hM6 => ?_)
          have k10 : KF (fun x => (2 ≤ x ∧ x ≤ 9) ∨ (16 + 12 * q1 ≤ x ∧ x < 28 + 12 * q1)) M5 M6 := by rw [hM6]; first | exact kf_st (by show _; omega) | exact kf_sr (by show _; omega)
          exact (show KF (fun x => (2 ≤ x ∧ x ≤ 9) ∨ (16 + 12 * q1 ≤ x ∧ x < 28 + 12 * q1)) M M6 from KF.trans k1 (KF.trans k3 (KF.trans k5 (KF.trans k7 (KF.trans k9 (k10))))))
def sX4_addThrough (M : Mem) (q1 : Nat) : Int32 × Mem :=
  tk (sX0_fill M 8 0 10007 10007 0) fun M1 =>
  tk (sX2_addBox M1 q1 8) fun x2 =>
  (x2.1, x2.2)
set_option maxHeartbeats 4000000 in
set_option maxRecDepth 100000 in
theorem kX4_addThrough (l : Launch) (D : va_G) (cy : Nat → ClassId) (z : Nat → Nat) (hz : zI z) (M : Mem) (q1 : Nat) (haq1 : q1 < 7) : KI l yX4_addThrough wsX4_addThrough { frames := 3, cells := 0, slots := 0, locals := 66 } D cy z 0 100 [.ref (z 1), .ref (z (16 + 12 * q1))] M (fun r u => (r, u) = sX4_addThrough M q1) := by
  refine met_wp (lv := [(0, .ref (z 1)), (1, .ref (z (16 + 12 * q1)))]) hz (by decide) (by decide) rfl rfl (Nat.le_of_ble_eq_true rfl) rfl ?_
  intro p e s m below meth c hc hx hr hk
  have hNW := hx.2.1
  have hin4 : ∀ w ∈ wsX40, w ∈ wsX4_addThrough := by decide +kernel
  have hf33 : Cond.fieldLink RX4 33 (TX4 6).1 (TX4 6).2.1 (TX4 6).2.2.1 ∈ wsX4_addThrough := by decide +kernel
  have cw40 : CallW ({ frames := 3, cells := 0, slots := 0, locals := 66 }) s _ RX4 RX0 40 yX0_fill cX0_fill 5 none wsX0_fill ({ frames := 0, cells := 0, slots := 0, locals := 0 }) 0 0 4 := cwV 4 hc.2.2.2.2 gX4_addThrough_X0_fill rfl rfl rfl (by decide +kernel) ⟨Nat.le_of_ble_eq_true rfl, Nat.le_of_ble_eq_true rfl⟩
  have cw44 : CallW ({ frames := 3, cells := 0, slots := 0, locals := 66 }) s _ RX4 RX2 44 yX2_addBox cX2_addBox 2 (some .int) wsX2_addBox ({ frames := 2, cells := 0, slots := 0, locals := 45 }) 0 0 1 := cwV 1 hc.2.2.2.2 gX4_addThrough_X2_addBox rfl rfl rfl (by decide +kernel) ⟨Nat.le_of_ble_eq_true rfl, Nat.le_of_ble_eq_true rfl⟩
  refine wp_aload_n hc 0 dX4_addThrough_0 rfl ?_
  refine wp_get hc hx hin4 (j := 1) (by decide) (by decide) (ce_3 rfl) rfl 6 (by decide) hf33 rfl dX4_addThrough_1 ?_
  refine wp_iconst (v := 0) hc dX4_addThrough_4 (by decide) ?_
  refine wp_sipush (v := 10007) hc dX4_addThrough_5 (by decide) ?_
  refine wp_sipush (v := 10007) hc dX4_addThrough_8 (by decide) ?_
  refine wp_iconst (v := 0) hc dX4_addThrough_11 (by decide) ?_
  refine wp_callVvw (As := [.int 0, .int 10007, .int 10007, .int 0]) (rest := []) (j := 8) (w := sX0_fill M 8 0 10007 10007 0) hc hx (kX0_fill l D cy z hz M 8 0 10007 10007 0 (by decide) rfl) cw40 (by decide) (by decide) (ce_0 rfl) rfl rfl rfl rfl (Nat.le_of_ble_eq_true rfl) dX4_addThrough_12 (fun M1 hM1 => ?_)
  refine wp_aload_n hc 1 dX4_addThrough_15 rfl ?_
  refine wp_aload_n hc 0 dX4_addThrough_16 rfl ?_
  refine wp_get hc hx hin4 (j := 1) (by decide) (by decide) (ce_3 rfl) rfl 6 (by decide) hf33 rfl dX4_addThrough_17 ?_
  refine wp_callVw (As := [.ref (z 8)]) (rest := []) (j := (16 + 12 * q1)) (w := sX2_addBox M1 q1 8) hc hx (kX2_addBox l D cy z hz M1 q1 8 haq1 (by decide) rfl) cw44 (Nat.zero_le _) (by have := haq1; omega) (ce_1 (kd_st haq1)) rfl rfl rfl rfl (Nat.le_of_ble_eq_true rfl) dX4_addThrough_20 (fun x2 hx2 => ?_)
  refine wp_iret hc hr hk ?_ dX4_addThrough_23
  show (x2.1, x2.2) = sX4_addThrough M q1
  rw [sX4_addThrough, tk_eq hM1, tk_eq hx2]
set_option maxRecDepth 10000 in
theorem kfX4_addThrough (M : Mem) (q1 : Nat) : KF2 (fun x => (2 ≤ x ∧ x ≤ 9) ∨ (16 + 12 * q1 ≤ x ∧ x < 28 + 12 * q1)) M (sX4_addThrough M q1) := by
  unfold sX4_addThrough
  refine tk_ind (P := KF2 (fun x => (2 ≤ x ∧ x ≤ 9) ∨ (16 + 12 * q1 ≤ x ∧ x < 28 + 12 * q1)) M) _ _ (fun M1 hM1 => ?_)
  have k1 : KF (fun x => (2 ≤ x ∧ x ≤ 9) ∨ (16 + 12 * q1 ≤ x ∧ x < 28 + 12 * q1)) M M1 := by rw [hM1]; exact KF.mono (kfX0_fill _ _ _ _ _ _) (fun x h => by first | exact h | ((try dsimp only at h ⊢); omega))
  refine tk_ind (P := KF2 (fun x => (2 ≤ x ∧ x ≤ 9) ∨ (16 + 12 * q1 ≤ x ∧ x < 28 + 12 * q1)) M) _ _ (fun x2 hx2 => ?_)
  have k2 : KF2 (fun x => (2 ≤ x ∧ x ≤ 9) ∨ (16 + 12 * q1 ≤ x ∧ x < 28 + 12 * q1)) M1 x2 := by rw [hx2]; exact KF2.mono (kfX2_addBox _ _ _) (fun x h => by first | exact h | ((try dsimp only at h ⊢); omega))
  exact (show KF (fun x => (2 ≤ x ∧ x ≤ 9) ∨ (16 + 12 * q1 ≤ x ∧ x < 28 + 12 * q1)) M x2.2 from KF.trans k1 (k2))
def sX4_addGiven (M : Mem) (q1 : Nat) (i3 : Int32) : Int32 × Mem :=
  if (fX1_isGiven (fX3_numberOf M i3 0) (fX3_numberOf M i3 1)) = 0 then
  ((-2), M)
  else
  tk (sX0_put M 8 0 (fX1_made (fX3_numberOf M i3 0) (fX3_numberOf M i3 1))) fun M1 =>
  if (fX1_isGiven (fX3_numberOf M1 i3 2) (fX3_numberOf M1 i3 3)) = 0 then
  ((-2), M1)
  else
  tk (sX0_put M1 8 1 (fX1_made (fX3_numberOf M1 i3 2) (fX3_numberOf M1 i3 3))) fun M2 =>
  if (fX1_isGiven (fX3_numberOf M2 i3 4) (fX3_numberOf M2 i3 5)) = 0 then
  ((-2), M2)
  else
  tk (sX0_put M2 8 2 (fX1_made (fX3_numberOf M2 i3 4) (fX3_numberOf M2 i3 5))) fun M3 =>
  if (fX1_isGiven (fX3_numberOf M3 i3 6) (fX3_numberOf M3 i3 7)) = 0 then
  ((-2), M3)
  else
  tk (sX0_put M3 8 3 (fX1_made (fX3_numberOf M3 i3 6) (fX3_numberOf M3 i3 7))) fun M4 =>
  tk (sX2_addBox M4 q1 8) fun x5 =>
  (x5.1, x5.2)
set_option maxHeartbeats 4000000 in
set_option maxRecDepth 100000 in
theorem kX4_addGiven (l : Launch) (D : va_G) (cy : Nat → ClassId) (z : Nat → Nat) (hz : zI z) (M : Mem) (q1 : Nat) (i3 : Int32) (haq1 : q1 < 7) : KI l yX4_addGiven wsX4_addGiven { frames := 3, cells := 0, slots := 0, locals := 66 } D cy z 0 100 [.ref (z 1), .ref (z (16 + 12 * q1)), .ref (z 10), .int i3] M (fun r u => (r, u) = sX4_addGiven M q1 i3) := by
  refine met_wp (lv := [(0, .ref (z 1)), (1, .ref (z (16 + 12 * q1))), (2, .ref (z 10)), (3, .int i3)]) hz (by decide) (by decide) rfl rfl (Nat.le_of_ble_eq_true rfl) rfl ?_
  intro p e s m below meth c hc hx hr hk
  have hNW := hx.2.1
  have hin4 : ∀ w ∈ wsX40, w ∈ wsX4_addGiven := by decide +kernel
  have hf33 : Cond.fieldLink RX4 33 (TX4 6).1 (TX4 6).2.1 (TX4 6).2.2.1 ∈ wsX4_addGiven := by decide +kernel
  have cw44 : CallW ({ frames := 3, cells := 0, slots := 0, locals := 66 }) s _ RX4 RX2 44 yX2_addBox cX2_addBox 2 (some .int) wsX2_addBox ({ frames := 2, cells := 0, slots := 0, locals := 45 }) 0 0 1 := cwV 1 hc.2.2.2.2 gX4_addGiven_X2_addBox rfl rfl rfl (by decide +kernel) ⟨Nat.le_of_ble_eq_true rfl, Nat.le_of_ble_eq_true rfl⟩
  have cw50 : CallW ({ frames := 3, cells := 0, slots := 0, locals := 66 }) s _ RX4 RX3 50 yX3_numberOf cX3_numberOf 4 (some .int) wsX3_numberOf ({ frames := 1, cells := 0, slots := 0, locals := 21 }) 0 0 2 := cwV 2 hc.2.2.2.2 gX4_addGiven_X3_numberOf rfl rfl rfl (by decide +kernel) ⟨Nat.le_of_ble_eq_true rfl, Nat.le_of_ble_eq_true rfl⟩
  have cw56 : CallB ({ frames := 3, cells := 0, slots := 0, locals := 66 }) s _ RX4 56 yX1_isGiven cX1_isGiven 2 (some .boolean) wsX1_isGiven ({ frames := 1, cells := 0, slots := 0, locals := 21 }) 0 0 2 ∧ (Cond.static yX1_isGiven).before _ s = true := va_cwS 2 hc.2.2.2.2 gX4_addGiven_X1_isGiven rfl rfl rfl (by decide +kernel) ⟨Nat.le_of_ble_eq_true rfl, Nat.le_of_ble_eq_true rfl⟩
  have cw62 : CallB ({ frames := 3, cells := 0, slots := 0, locals := 66 }) s _ RX4 62 yX1_made cX1_made 4 (some .int) wsX1_made ({ frames := 0, cells := 0, slots := 0, locals := 0 }) 0 0 2 ∧ (Cond.static yX1_made).before _ s = true := va_cwS 2 hc.2.2.2.2 gX4_addGiven_X1_made rfl rfl rfl (by decide +kernel) ⟨Nat.le_of_ble_eq_true rfl, Nat.le_of_ble_eq_true rfl⟩
  have cw65 : CallW ({ frames := 3, cells := 0, slots := 0, locals := 66 }) s _ RX4 RX0 65 yX0_put cX0_put 3 none wsX0_put ({ frames := 0, cells := 0, slots := 0, locals := 0 }) 0 0 2 := cwV 2 hc.2.2.2.2 gX4_addGiven_X0_put rfl rfl rfl (by decide +kernel) ⟨Nat.le_of_ble_eq_true rfl, Nat.le_of_ble_eq_true rfl⟩
  refine wp_iconst (v := 0) hc dX4_addGiven_0 (by decide) ?_
  refine wp_istore (lv' := [(4, .int 0), (0, .ref (z 1)), (1, .ref (z (16 + 12 * q1))), (2, .ref (z 10)), (3, .int i3)]) hc dX4_addGiven_1 (by decide) rfl ?_
  refine wp_iload hc 0 dX4_addGiven_3 rfl ?_
  refine wp_iconst (v := 4) hc dX4_addGiven_5 (by decide) ?_
  refine wp_icmp_ge (tgt := 68) hc dX4_addGiven_6 (by decide) (fun c => absurd c (by decide)) (fun _ => ?_)
  refine wp_aload_n hc 3 dX4_addGiven_9 rfl ?_
  refine wp_iload_n hc 4 dX4_addGiven_10 rfl ?_
  refine wp_iconst (v := 2) hc dX4_addGiven_11 (by decide) ?_
  refine wp_iload hc 0 dX4_addGiven_12 rfl ?_
  refine wp_imul hc dX4_addGiven_14 ?_
  refine wp_cvt (v := 0) (by decide) ?_
  refine wp_callVf (As := [.int i3, .int 0]) (rest := []) (j := 10) (v := (fX3_numberOf M i3 0)) hc hx (kX3_numberOf l D cy z hz M i3 0) cw50 (by decide) (by decide) (ce_2 rfl) rfl rfl rfl rfl (Nat.le_of_ble_eq_true rfl) dX4_addGiven_15 ?_
  refine wp_istore (lv' := [(5, .int (fX3_numberOf M i3 0)), (4, .int 0), (0, .ref (z 1)), (1, .ref (z (16 + 12 * q1))), (2, .ref (z 10)), (3, .int i3)]) hc dX4_addGiven_18 (by decide) rfl ?_
  refine wp_aload_n hc 4 dX4_addGiven_20 rfl ?_
  refine wp_iload_n hc 5 dX4_addGiven_21 rfl ?_
  refine wp_iconst (v := 2) hc dX4_addGiven_22 (by decide) ?_
  refine wp_iload hc 1 dX4_addGiven_23 rfl ?_
  refine wp_imul hc dX4_addGiven_25 ?_
  refine wp_cvt (v := 0) (by decide) ?_
  refine wp_iconst (v := 1) hc dX4_addGiven_26 (by decide) ?_
  refine wp_iadd hc dX4_addGiven_27 ?_
  refine wp_cvt (v := 1) (by decide) ?_
  refine wp_callVf (As := [.int i3, .int 1]) (rest := []) (j := 10) (v := (fX3_numberOf M i3 1)) hc hx (kX3_numberOf l D cy z hz M i3 1) cw50 (by decide) (by decide) (ce_2 rfl) rfl rfl rfl rfl (Nat.le_of_ble_eq_true rfl) dX4_addGiven_28 ?_
  refine wp_istore (lv' := [(6, .int (fX3_numberOf M i3 1)), (5, .int (fX3_numberOf M i3 0)), (4, .int 0), (0, .ref (z 1)), (1, .ref (z (16 + 12 * q1))), (2, .ref (z 10)), (3, .int i3)]) hc dX4_addGiven_31 (by decide) rfl ?_
  refine wp_iload hc 1 dX4_addGiven_33 rfl ?_
  refine wp_iload hc 0 dX4_addGiven_35 rfl ?_
  refine wp_callSg (As := [.int (fX3_numberOf M i3 0), .int (fX3_numberOf M i3 1)]) (rest := []) (v := (fX1_isGiven (fX3_numberOf M i3 0) (fX3_numberOf M i3 1))) hc hNW (kX1_isGiven l (fX3_numberOf M i3 0) (fX3_numberOf M i3 1)) cw56 rfl rfl (Nat.le_of_ble_eq_true rfl) dX4_addGiven_37 ?_
  refine wp_if_ne (tgt := 46) hc dX4_addGiven_40 (by decide) (fun c40 => ?_) (fun c40 => ?_)
  · refine wp_aload_n hc 3 dX4_addGiven_46 rfl ?_
    refine wp_get hc hx hin4 (j := 1) (by decide) (by decide) (ce_3 rfl) rfl 6 (by decide) hf33 rfl dX4_addGiven_47 ?_
    refine wp_iload hc 2 dX4_addGiven_50 rfl ?_
    refine wp_iload hc 1 dX4_addGiven_52 rfl ?_
    refine wp_iload hc 0 dX4_addGiven_54 rfl ?_
    refine wp_callSg (As := [.int (fX3_numberOf M i3 0), .int (fX3_numberOf M i3 1)]) (rest := [.int 0, .ref (z 8)]) (v := (fX1_made (fX3_numberOf M i3 0) (fX3_numberOf M i3 1))) hc hNW (kX1_made l (fX3_numberOf M i3 0) (fX3_numberOf M i3 1)) cw62 rfl rfl (Nat.le_of_ble_eq_true rfl) dX4_addGiven_56 ?_
    refine wp_callVvw (As := [.int 0, .int (fX1_made (fX3_numberOf M i3 0) (fX3_numberOf M i3 1))]) (rest := []) (j := 8) (w := sX0_put M 8 0 (fX1_made (fX3_numberOf M i3 0) (fX3_numberOf M i3 1))) hc hx (kX0_put l D cy z hz M 8 0 (fX1_made (fX3_numberOf M i3 0) (fX3_numberOf M i3 1)) (by decide) rfl) cw65 (by decide) (by decide) (ce_0 rfl) rfl rfl rfl rfl (Nat.le_of_ble_eq_true rfl) dX4_addGiven_59 (fun M1 hM1 => ?_)
    refine wp_iinc (v := 1) (lv' := [(4, .int 1), (6, .int (fX3_numberOf M i3 1)), (5, .int (fX3_numberOf M i3 0)), (0, .ref (z 1)), (1, .ref (z (16 + 12 * q1))), (2, .ref (z 10)), (3, .int i3)]) hc 2 dX4_addGiven_62 rfl (by decide) (by decide) rfl ?_
    refine wp_goto (tgt := 3) hc dX4_addGiven_65 (by decide) ?_
    refine wp_iload hc 0 dX4_addGiven_3 rfl ?_
    refine wp_iconst (v := 4) hc dX4_addGiven_5 (by decide) ?_
    refine wp_icmp_ge (tgt := 68) hc dX4_addGiven_6 (by decide) (fun c => absurd c (by decide)) (fun _ => ?_)
    refine wp_aload_n hc 5 dX4_addGiven_9 rfl ?_
    refine wp_iload_n hc 6 dX4_addGiven_10 rfl ?_
    refine wp_iconst (v := 2) hc dX4_addGiven_11 (by decide) ?_
    refine wp_iload hc 0 dX4_addGiven_12 rfl ?_
    refine wp_imul hc dX4_addGiven_14 ?_
    refine wp_cvt (v := 2) (by decide) ?_
    refine wp_callVf (As := [.int i3, .int 2]) (rest := []) (j := 10) (v := (fX3_numberOf M1 i3 2)) hc hx (kX3_numberOf l D cy z hz M1 i3 2) cw50 (by decide) (by decide) (ce_2 rfl) rfl rfl rfl rfl (Nat.le_of_ble_eq_true rfl) dX4_addGiven_15 ?_
    refine wp_istore (lv' := [(5, .int (fX3_numberOf M1 i3 2)), (4, .int 1), (6, .int (fX3_numberOf M i3 1)), (0, .ref (z 1)), (1, .ref (z (16 + 12 * q1))), (2, .ref (z 10)), (3, .int i3)]) hc dX4_addGiven_18 (by decide) rfl ?_
    refine wp_aload_n hc 5 dX4_addGiven_20 rfl ?_
    refine wp_iload_n hc 6 dX4_addGiven_21 rfl ?_
    refine wp_iconst (v := 2) hc dX4_addGiven_22 (by decide) ?_
    refine wp_iload hc 1 dX4_addGiven_23 rfl ?_
    refine wp_imul hc dX4_addGiven_25 ?_
    refine wp_cvt (v := 2) (by decide) ?_
    refine wp_iconst (v := 1) hc dX4_addGiven_26 (by decide) ?_
    refine wp_iadd hc dX4_addGiven_27 ?_
    refine wp_cvt (v := 3) (by decide) ?_
    refine wp_callVf (As := [.int i3, .int 3]) (rest := []) (j := 10) (v := (fX3_numberOf M1 i3 3)) hc hx (kX3_numberOf l D cy z hz M1 i3 3) cw50 (by decide) (by decide) (ce_2 rfl) rfl rfl rfl rfl (Nat.le_of_ble_eq_true rfl) dX4_addGiven_28 ?_
    refine wp_istore (lv' := [(6, .int (fX3_numberOf M1 i3 3)), (5, .int (fX3_numberOf M1 i3 2)), (4, .int 1), (0, .ref (z 1)), (1, .ref (z (16 + 12 * q1))), (2, .ref (z 10)), (3, .int i3)]) hc dX4_addGiven_31 (by decide) rfl ?_
    refine wp_iload hc 1 dX4_addGiven_33 rfl ?_
    refine wp_iload hc 0 dX4_addGiven_35 rfl ?_
    refine wp_callSg (As := [.int (fX3_numberOf M1 i3 2), .int (fX3_numberOf M1 i3 3)]) (rest := []) (v := (fX1_isGiven (fX3_numberOf M1 i3 2) (fX3_numberOf M1 i3 3))) hc hNW (kX1_isGiven l (fX3_numberOf M1 i3 2) (fX3_numberOf M1 i3 3)) cw56 rfl rfl (Nat.le_of_ble_eq_true rfl) dX4_addGiven_37 ?_
    refine wp_if_ne (tgt := 46) hc dX4_addGiven_40 (by decide) (fun c40_2 => ?_) (fun c40_2 => ?_)
    · refine wp_aload_n hc 3 dX4_addGiven_46 rfl ?_
      refine wp_get hc hx hin4 (j := 1) (by decide) (by decide) (ce_3 rfl) rfl 6 (by decide) hf33 rfl dX4_addGiven_47 ?_
      refine wp_iload hc 2 dX4_addGiven_50 rfl ?_
      refine wp_iload hc 1 dX4_addGiven_52 rfl ?_
      refine wp_iload hc 0 dX4_addGiven_54 rfl ?_
      refine wp_callSg (As := [.int (fX3_numberOf M1 i3 2), .int (fX3_numberOf M1 i3 3)]) (rest := [.int 1, .ref (z 8)]) (v := (fX1_made (fX3_numberOf M1 i3 2) (fX3_numberOf M1 i3 3))) hc hNW (kX1_made l (fX3_numberOf M1 i3 2) (fX3_numberOf M1 i3 3)) cw62 rfl rfl (Nat.le_of_ble_eq_true rfl) dX4_addGiven_56 ?_
      refine wp_callVvw (As := [.int 1, .int (fX1_made (fX3_numberOf M1 i3 2) (fX3_numberOf M1 i3 3))]) (rest := []) (j := 8) (w := sX0_put M1 8 1 (fX1_made (fX3_numberOf M1 i3 2) (fX3_numberOf M1 i3 3))) hc hx (kX0_put l D cy z hz M1 8 1 (fX1_made (fX3_numberOf M1 i3 2) (fX3_numberOf M1 i3 3)) (by decide) rfl) cw65 (by decide) (by decide) (ce_0 rfl) rfl rfl rfl rfl (Nat.le_of_ble_eq_true rfl) dX4_addGiven_59 (fun M2 hM2 => ?_)
      refine wp_iinc (v := 2) (lv' := [(4, .int 2), (6, .int (fX3_numberOf M1 i3 3)), (5, .int (fX3_numberOf M1 i3 2)), (0, .ref (z 1)), (1, .ref (z (16 + 12 * q1))), (2, .ref (z 10)), (3, .int i3)]) hc 2 dX4_addGiven_62 rfl (by decide) (by decide) rfl ?_
      refine wp_goto (tgt := 3) hc dX4_addGiven_65 (by decide) ?_
      refine wp_iload hc 0 dX4_addGiven_3 rfl ?_
      refine wp_iconst (v := 4) hc dX4_addGiven_5 (by decide) ?_
      refine wp_icmp_ge (tgt := 68) hc dX4_addGiven_6 (by decide) (fun c => absurd c (by decide)) (fun _ => ?_)
      refine wp_aload_n hc 5 dX4_addGiven_9 rfl ?_
      refine wp_iload_n hc 6 dX4_addGiven_10 rfl ?_
      refine wp_iconst (v := 2) hc dX4_addGiven_11 (by decide) ?_
      refine wp_iload hc 0 dX4_addGiven_12 rfl ?_
      refine wp_imul hc dX4_addGiven_14 ?_
      refine wp_cvt (v := 4) (by decide) ?_
      refine wp_callVf (As := [.int i3, .int 4]) (rest := []) (j := 10) (v := (fX3_numberOf M2 i3 4)) hc hx (kX3_numberOf l D cy z hz M2 i3 4) cw50 (by decide) (by decide) (ce_2 rfl) rfl rfl rfl rfl (Nat.le_of_ble_eq_true rfl) dX4_addGiven_15 ?_
      refine wp_istore (lv' := [(5, .int (fX3_numberOf M2 i3 4)), (4, .int 2), (6, .int (fX3_numberOf M1 i3 3)), (0, .ref (z 1)), (1, .ref (z (16 + 12 * q1))), (2, .ref (z 10)), (3, .int i3)]) hc dX4_addGiven_18 (by decide) rfl ?_
      refine wp_aload_n hc 5 dX4_addGiven_20 rfl ?_
      refine wp_iload_n hc 6 dX4_addGiven_21 rfl ?_
      refine wp_iconst (v := 2) hc dX4_addGiven_22 (by decide) ?_
      refine wp_iload hc 1 dX4_addGiven_23 rfl ?_
      refine wp_imul hc dX4_addGiven_25 ?_
      refine wp_cvt (v := 4) (by decide) ?_
      refine wp_iconst (v := 1) hc dX4_addGiven_26 (by decide) ?_
      refine wp_iadd hc dX4_addGiven_27 ?_
      refine wp_cvt (v := 5) (by decide) ?_
      refine wp_callVf (As := [.int i3, .int 5]) (rest := []) (j := 10) (v := (fX3_numberOf M2 i3 5)) hc hx (kX3_numberOf l D cy z hz M2 i3 5) cw50 (by decide) (by decide) (ce_2 rfl) rfl rfl rfl rfl (Nat.le_of_ble_eq_true rfl) dX4_addGiven_28 ?_
      refine wp_istore (lv' := [(6, .int (fX3_numberOf M2 i3 5)), (5, .int (fX3_numberOf M2 i3 4)), (4, .int 2), (0, .ref (z 1)), (1, .ref (z (16 + 12 * q1))), (2, .ref (z 10)), (3, .int i3)]) hc dX4_addGiven_31 (by decide) rfl ?_
      refine wp_iload hc 1 dX4_addGiven_33 rfl ?_
      refine wp_iload hc 0 dX4_addGiven_35 rfl ?_
      refine wp_callSg (As := [.int (fX3_numberOf M2 i3 4), .int (fX3_numberOf M2 i3 5)]) (rest := []) (v := (fX1_isGiven (fX3_numberOf M2 i3 4) (fX3_numberOf M2 i3 5))) hc hNW (kX1_isGiven l (fX3_numberOf M2 i3 4) (fX3_numberOf M2 i3 5)) cw56 rfl rfl (Nat.le_of_ble_eq_true rfl) dX4_addGiven_37 ?_
      refine wp_if_ne (tgt := 46) hc dX4_addGiven_40 (by decide) (fun c40_3 => ?_) (fun c40_3 => ?_)
      · refine wp_aload_n hc 3 dX4_addGiven_46 rfl ?_
        refine wp_get hc hx hin4 (j := 1) (by decide) (by decide) (ce_3 rfl) rfl 6 (by decide) hf33 rfl dX4_addGiven_47 ?_
        refine wp_iload hc 2 dX4_addGiven_50 rfl ?_
        refine wp_iload hc 1 dX4_addGiven_52 rfl ?_
        refine wp_iload hc 0 dX4_addGiven_54 rfl ?_
        refine wp_callSg (As := [.int (fX3_numberOf M2 i3 4), .int (fX3_numberOf M2 i3 5)]) (rest := [.int 2, .ref (z 8)]) (v := (fX1_made (fX3_numberOf M2 i3 4) (fX3_numberOf M2 i3 5))) hc hNW (kX1_made l (fX3_numberOf M2 i3 4) (fX3_numberOf M2 i3 5)) cw62 rfl rfl (Nat.le_of_ble_eq_true rfl) dX4_addGiven_56 ?_
        refine wp_callVvw (As := [.int 2, .int (fX1_made (fX3_numberOf M2 i3 4) (fX3_numberOf M2 i3 5))]) (rest := []) (j := 8) (w := sX0_put M2 8 2 (fX1_made (fX3_numberOf M2 i3 4) (fX3_numberOf M2 i3 5))) hc hx (kX0_put l D cy z hz M2 8 2 (fX1_made (fX3_numberOf M2 i3 4) (fX3_numberOf M2 i3 5)) (by decide) rfl) cw65 (by decide) (by decide) (ce_0 rfl) rfl rfl rfl rfl (Nat.le_of_ble_eq_true rfl) dX4_addGiven_59 (fun M3 hM3 => ?_)
        refine wp_iinc (v := 3) (lv' := [(4, .int 3), (6, .int (fX3_numberOf M2 i3 5)), (5, .int (fX3_numberOf M2 i3 4)), (0, .ref (z 1)), (1, .ref (z (16 + 12 * q1))), (2, .ref (z 10)), (3, .int i3)]) hc 2 dX4_addGiven_62 rfl (by decide) (by decide) rfl ?_
        refine wp_goto (tgt := 3) hc dX4_addGiven_65 (by decide) ?_
        refine wp_iload hc 0 dX4_addGiven_3 rfl ?_
        refine wp_iconst (v := 4) hc dX4_addGiven_5 (by decide) ?_
        refine wp_icmp_ge (tgt := 68) hc dX4_addGiven_6 (by decide) (fun c => absurd c (by decide)) (fun _ => ?_)
        refine wp_aload_n hc 5 dX4_addGiven_9 rfl ?_
        refine wp_iload_n hc 6 dX4_addGiven_10 rfl ?_
        refine wp_iconst (v := 2) hc dX4_addGiven_11 (by decide) ?_
        refine wp_iload hc 0 dX4_addGiven_12 rfl ?_
        refine wp_imul hc dX4_addGiven_14 ?_
        refine wp_cvt (v := 6) (by decide) ?_
        refine wp_callVf (As := [.int i3, .int 6]) (rest := []) (j := 10) (v := (fX3_numberOf M3 i3 6)) hc hx (kX3_numberOf l D cy z hz M3 i3 6) cw50 (by decide) (by decide) (ce_2 rfl) rfl rfl rfl rfl (Nat.le_of_ble_eq_true rfl) dX4_addGiven_15 ?_
        refine wp_istore (lv' := [(5, .int (fX3_numberOf M3 i3 6)), (4, .int 3), (6, .int (fX3_numberOf M2 i3 5)), (0, .ref (z 1)), (1, .ref (z (16 + 12 * q1))), (2, .ref (z 10)), (3, .int i3)]) hc dX4_addGiven_18 (by decide) rfl ?_
        refine wp_aload_n hc 5 dX4_addGiven_20 rfl ?_
        refine wp_iload_n hc 6 dX4_addGiven_21 rfl ?_
        refine wp_iconst (v := 2) hc dX4_addGiven_22 (by decide) ?_
        refine wp_iload hc 1 dX4_addGiven_23 rfl ?_
        refine wp_imul hc dX4_addGiven_25 ?_
        refine wp_cvt (v := 6) (by decide) ?_
        refine wp_iconst (v := 1) hc dX4_addGiven_26 (by decide) ?_
        refine wp_iadd hc dX4_addGiven_27 ?_
        refine wp_cvt (v := 7) (by decide) ?_
        refine wp_callVf (As := [.int i3, .int 7]) (rest := []) (j := 10) (v := (fX3_numberOf M3 i3 7)) hc hx (kX3_numberOf l D cy z hz M3 i3 7) cw50 (by decide) (by decide) (ce_2 rfl) rfl rfl rfl rfl (Nat.le_of_ble_eq_true rfl) dX4_addGiven_28 ?_
        refine wp_istore (lv' := [(6, .int (fX3_numberOf M3 i3 7)), (5, .int (fX3_numberOf M3 i3 6)), (4, .int 3), (0, .ref (z 1)), (1, .ref (z (16 + 12 * q1))), (2, .ref (z 10)), (3, .int i3)]) hc dX4_addGiven_31 (by decide) rfl ?_
        refine wp_iload hc 1 dX4_addGiven_33 rfl ?_
        refine wp_iload hc 0 dX4_addGiven_35 rfl ?_
        refine wp_callSg (As := [.int (fX3_numberOf M3 i3 6), .int (fX3_numberOf M3 i3 7)]) (rest := []) (v := (fX1_isGiven (fX3_numberOf M3 i3 6) (fX3_numberOf M3 i3 7))) hc hNW (kX1_isGiven l (fX3_numberOf M3 i3 6) (fX3_numberOf M3 i3 7)) cw56 rfl rfl (Nat.le_of_ble_eq_true rfl) dX4_addGiven_37 ?_
        refine wp_if_ne (tgt := 46) hc dX4_addGiven_40 (by decide) (fun c40_4 => ?_) (fun c40_4 => ?_)
        · refine wp_aload_n hc 3 dX4_addGiven_46 rfl ?_
          refine wp_get hc hx hin4 (j := 1) (by decide) (by decide) (ce_3 rfl) rfl 6 (by decide) hf33 rfl dX4_addGiven_47 ?_
          refine wp_iload hc 2 dX4_addGiven_50 rfl ?_
          refine wp_iload hc 1 dX4_addGiven_52 rfl ?_
          refine wp_iload hc 0 dX4_addGiven_54 rfl ?_
          refine wp_callSg (As := [.int (fX3_numberOf M3 i3 6), .int (fX3_numberOf M3 i3 7)]) (rest := [.int 3, .ref (z 8)]) (v := (fX1_made (fX3_numberOf M3 i3 6) (fX3_numberOf M3 i3 7))) hc hNW (kX1_made l (fX3_numberOf M3 i3 6) (fX3_numberOf M3 i3 7)) cw62 rfl rfl (Nat.le_of_ble_eq_true rfl) dX4_addGiven_56 ?_
          refine wp_callVvw (As := [.int 3, .int (fX1_made (fX3_numberOf M3 i3 6) (fX3_numberOf M3 i3 7))]) (rest := []) (j := 8) (w := sX0_put M3 8 3 (fX1_made (fX3_numberOf M3 i3 6) (fX3_numberOf M3 i3 7))) hc hx (kX0_put l D cy z hz M3 8 3 (fX1_made (fX3_numberOf M3 i3 6) (fX3_numberOf M3 i3 7)) (by decide) rfl) cw65 (by decide) (by decide) (ce_0 rfl) rfl rfl rfl rfl (Nat.le_of_ble_eq_true rfl) dX4_addGiven_59 (fun M4 hM4 => ?_)
          refine wp_iinc (v := 4) (lv' := [(4, .int 4), (6, .int (fX3_numberOf M3 i3 7)), (5, .int (fX3_numberOf M3 i3 6)), (0, .ref (z 1)), (1, .ref (z (16 + 12 * q1))), (2, .ref (z 10)), (3, .int i3)]) hc 2 dX4_addGiven_62 rfl (by decide) (by decide) rfl ?_
          refine wp_goto (tgt := 3) hc dX4_addGiven_65 (by decide) ?_
          refine wp_iload hc 0 dX4_addGiven_3 rfl ?_
          refine wp_iconst (v := 4) hc dX4_addGiven_5 (by decide) ?_
          refine wp_icmp_ge (tgt := 68) hc dX4_addGiven_6 (by decide) (fun _ => ?_) (fun c => absurd c (by decide))
          refine wp_aload_n hc 4 dX4_addGiven_68 rfl ?_
          refine wp_aload_n hc 3 dX4_addGiven_69 rfl ?_
          refine wp_get hc hx hin4 (j := 1) (by decide) (by decide) (ce_3 rfl) rfl 6 (by decide) hf33 rfl dX4_addGiven_70 ?_
          refine wp_callVw (As := [.ref (z 8)]) (rest := []) (j := (16 + 12 * q1)) (w := sX2_addBox M4 q1 8) hc hx (kX2_addBox l D cy z hz M4 q1 8 haq1 (by decide) rfl) cw44 (Nat.zero_le _) (by have := haq1; omega) (ce_1 (kd_st haq1)) rfl rfl rfl rfl (Nat.le_of_ble_eq_true rfl) dX4_addGiven_73 (fun x5 hx5 => ?_)
          refine wp_iret hc hr hk ?_ dX4_addGiven_76
          show (x5.1, x5.2) = sX4_addGiven M q1 i3
          rw [sX4_addGiven, if_neg c40, tk_eq hM1, if_neg c40_2, tk_eq hM2, if_neg c40_3, tk_eq hM3, if_neg c40_4, tk_eq hM4, tk_eq hx5]
        refine wp_bipush (v := (-2)) hc dX4_addGiven_43 (by decide) ?_
        refine wp_iret hc hr hk ?_ dX4_addGiven_45
        show ((-2), M3) = sX4_addGiven M q1 i3
        rw [sX4_addGiven, if_neg c40, tk_eq hM1, if_neg c40_2, tk_eq hM2, if_neg c40_3, tk_eq hM3, if_pos c40_4]
      refine wp_bipush (v := (-2)) hc dX4_addGiven_43 (by decide) ?_
      refine wp_iret hc hr hk ?_ dX4_addGiven_45
      show ((-2), M2) = sX4_addGiven M q1 i3
      rw [sX4_addGiven, if_neg c40, tk_eq hM1, if_neg c40_2, tk_eq hM2, if_pos c40_3]
    refine wp_bipush (v := (-2)) hc dX4_addGiven_43 (by decide) ?_
    refine wp_iret hc hr hk ?_ dX4_addGiven_45
    show ((-2), M1) = sX4_addGiven M q1 i3
    rw [sX4_addGiven, if_neg c40, tk_eq hM1, if_pos c40_2]
  refine wp_bipush (v := (-2)) hc dX4_addGiven_43 (by decide) ?_
  refine wp_iret hc hr hk ?_ dX4_addGiven_45
  show ((-2), M) = sX4_addGiven M q1 i3
  rw [sX4_addGiven, if_pos c40]
set_option maxRecDepth 10000 in
theorem kfX4_addGiven (M : Mem) (q1 : Nat) (i3 : Int32) : KF2 (fun x => (2 ≤ x ∧ x ≤ 9) ∨ (16 + 12 * q1 ≤ x ∧ x < 28 + 12 * q1)) M (sX4_addGiven M q1 i3) := by
  unfold sX4_addGiven
  refine ite_ind (P := KF2 (fun x => (2 ≤ x ∧ x ≤ 9) ∨ (16 + 12 * q1 ≤ x ∧ x < 28 + 12 * q1)) M) (fun c1 => ?_) (fun c1 => ?_)
  · exact (show KF (fun x => (2 ≤ x ∧ x ≤ 9) ∨ (16 + 12 * q1 ≤ x ∧ x < 28 + 12 * q1)) M M from KF.rf)
  · refine tk_ind (P := KF2 (fun x => (2 ≤ x ∧ x ≤ 9) ∨ (16 + 12 * q1 ≤ x ∧ x < 28 + 12 * q1)) M) _ _ (fun M1 hM1 => ?_)
    have k2 : KF (fun x => (2 ≤ x ∧ x ≤ 9) ∨ (16 + 12 * q1 ≤ x ∧ x < 28 + 12 * q1)) M M1 := by rw [hM1]; exact KF.mono (kfX0_put _ _ _ _) (fun x h => by first | exact h | ((try dsimp only at h ⊢); omega))
    refine ite_ind (P := KF2 (fun x => (2 ≤ x ∧ x ≤ 9) ∨ (16 + 12 * q1 ≤ x ∧ x < 28 + 12 * q1)) M) (fun c3 => ?_) (fun c3 => ?_)
    · exact (show KF (fun x => (2 ≤ x ∧ x ≤ 9) ∨ (16 + 12 * q1 ≤ x ∧ x < 28 + 12 * q1)) M M1 from k2)
    · refine tk_ind (P := KF2 (fun x => (2 ≤ x ∧ x ≤ 9) ∨ (16 + 12 * q1 ≤ x ∧ x < 28 + 12 * q1)) M) _ _ (fun M2 hM2 => ?_)
      have k4 : KF (fun x => (2 ≤ x ∧ x ≤ 9) ∨ (16 + 12 * q1 ≤ x ∧ x < 28 + 12 * q1)) M1 M2 := by rw [hM2]; exact KF.mono (kfX0_put _ _ _ _) (fun x h => by first | exact h | ((try dsimp only at h ⊢); omega))
      refine ite_ind (P := KF2 (fun x => (2 ≤ x ∧ x ≤ 9) ∨ (16 + 12 * q1 ≤ x ∧ x < 28 + 12 * q1)) M) (fun c5 => ?_) (fun c5 => ?_)
      · exact (show KF (fun x => (2 ≤ x ∧ x ≤ 9) ∨ (16 + 12 * q1 ≤ x ∧ x < 28 + 12 * q1)) M M2 from KF.trans k2 (k4))
      · refine tk_ind (P := KF2 (fun x => (2 ≤ x ∧ x ≤ 9) ∨ (16 + 12 * q1 ≤ x ∧ x < 28 + 12 * q1)) M) _ _ (fun M3 hM3 => ?_)
        have k6 : KF (fun x => (2 ≤ x ∧ x ≤ 9) ∨ (16 + 12 * q1 ≤ x ∧ x < 28 + 12 * q1)) M2 M3 := by rw [hM3]; exact KF.mono (kfX0_put _ _ _ _) (fun x h => by first | exact h | ((try dsimp only at h ⊢); omega))
        refine ite_ind (P := KF2 (fun x => (2 ≤ x ∧ x ≤ 9) ∨ (16 + 12 * q1 ≤ x ∧ x < 28 + 12 * q1)) M) (fun c7 => ?_) (fun c7 => ?_)
        · exact (show KF (fun x => (2 ≤ x ∧ x ≤ 9) ∨ (16 + 12 * q1 ≤ x ∧ x < 28 + 12 * q1)) M M3 from KF.trans k2 (KF.trans k4 (k6)))
        · refine tk_ind (P := KF2 (fun x => (2 ≤ x ∧ x ≤ 9) ∨ (16 + 12 * q1 ≤ x ∧ x < 28 + 12 * q1)) M) _ _ (fun M4 hM4 => ?_)
          have k8 : KF (fun x => (2 ≤ x ∧ x ≤ 9) ∨ (16 + 12 * q1 ≤ x ∧ x < 28 + 12 * q1)) M3 M4 := by rw [hM4]; exact KF.mono (kfX0_put _ _ _ _) (fun x h => by first | exact h | ((try dsimp only at h ⊢); omega))
          refine tk_ind (P := KF2 (fun x => (2 ≤ x ∧ x ≤ 9) ∨ (16 + 12 * q1 ≤ x ∧ x < 28 + 12 * q1)) M) _ _ (fun x5 hx5 => ?_)
          have k9 : KF2 (fun x => (2 ≤ x ∧ x ≤ 9) ∨ (16 + 12 * q1 ≤ x ∧ x < 28 + 12 * q1)) M4 x5 := by rw [hx5]; exact KF2.mono (kfX2_addBox _ _ _) (fun x h => by first | exact h | ((try dsimp only at h ⊢); omega))
          exact (show KF (fun x => (2 ≤ x ∧ x ≤ 9) ∨ (16 + 12 * q1 ≤ x ∧ x < 28 + 12 * q1)) M x5.2 from KF.trans k2 (KF.trans k4 (KF.trans k6 (KF.trans k8 (k9)))))
def sX4_addTurned (M : Mem) (q1 : Nat) (i2 : Int32) : Int32 × Mem :=
  if (fX2_hasBox M q1 i2) = 0 then
  ((-2), M)
  else
  tk (sX0_fill M 8 (M.1 (16 + 12 * q1 + 1 + 3 + i2.toNatClampNeg) 3) (M.1 (16 + 12 * q1 + 1 + 3 + i2.toNatClampNeg) 2) (M.1 (16 + 12 * q1 + 1 + 3 + i2.toNatClampNeg) 1) (M.1 (16 + 12 * q1 + 1 + 3 + i2.toNatClampNeg) 0)) fun M1 =>
  tk (sX2_addBox M1 q1 8) fun x2 =>
  (x2.1, x2.2)
set_option maxHeartbeats 4000000 in
set_option maxRecDepth 100000 in
theorem kX4_addTurned (l : Launch) (D : va_G) (cy : Nat → ClassId) (z : Nat → Nat) (hz : zI z) (M : Mem) (q1 : Nat) (i2 : Int32) (haq1 : q1 < 7) : KI l yX4_addTurned wsX4_addTurned { frames := 3, cells := 0, slots := 0, locals := 66 } D cy z 0 100 [.ref (z 1), .ref (z (16 + 12 * q1)), .int i2] M (fun r u => (r, u) = sX4_addTurned M q1 i2) := by
  refine met_wp (lv := [(0, .ref (z 1)), (1, .ref (z (16 + 12 * q1))), (2, .int i2)]) hz (by decide) (by decide) rfl rfl (Nat.le_of_ble_eq_true rfl) rfl ?_
  intro p e s m below meth c hc hx hr hk
  have hNW := hx.2.1
  have hin0 : ∀ w ∈ wsX00, w ∈ wsX4_addTurned := by decide +kernel
  have hin2 : ∀ w ∈ wsX20, w ∈ wsX4_addTurned := by decide +kernel
  have hin4 : ∀ w ∈ wsX40, w ∈ wsX4_addTurned := by decide +kernel
  have hf33 : Cond.fieldLink RX4 33 (TX4 6).1 (TX4 6).2.1 (TX4 6).2.2.1 ∈ wsX4_addTurned := by decide +kernel
  have hf73 : Cond.fieldLink RX4 73 (TX2 0).1 (TX2 0).2.1 (TX2 0).2.2.1 ∈ wsX4_addTurned := by decide +kernel
  have hf77 : Cond.fieldLink RX4 77 (TX0 3).1 (TX0 3).2.1 (TX0 3).2.2.1 ∈ wsX4_addTurned := by decide +kernel
  have hf81 : Cond.fieldLink RX4 81 (TX0 2).1 (TX0 2).2.1 (TX0 2).2.2.1 ∈ wsX4_addTurned := by decide +kernel
  have hf84 : Cond.fieldLink RX4 84 (TX0 1).1 (TX0 1).2.1 (TX0 1).2.2.1 ∈ wsX4_addTurned := by decide +kernel
  have hf87 : Cond.fieldLink RX4 87 (TX0 0).1 (TX0 0).2.1 (TX0 0).2.2.1 ∈ wsX4_addTurned := by decide +kernel
  have cw40 : CallW ({ frames := 3, cells := 0, slots := 0, locals := 66 }) s _ RX4 RX0 40 yX0_fill cX0_fill 5 none wsX0_fill ({ frames := 0, cells := 0, slots := 0, locals := 0 }) 0 0 4 := cwV 4 hc.2.2.2.2 gX4_addTurned_X0_fill rfl rfl rfl (by decide +kernel) ⟨Nat.le_of_ble_eq_true rfl, Nat.le_of_ble_eq_true rfl⟩
  have cw44 : CallW ({ frames := 3, cells := 0, slots := 0, locals := 66 }) s _ RX4 RX2 44 yX2_addBox cX2_addBox 2 (some .int) wsX2_addBox ({ frames := 2, cells := 0, slots := 0, locals := 45 }) 0 0 1 := cwV 1 hc.2.2.2.2 gX4_addTurned_X2_addBox rfl rfl rfl (by decide +kernel) ⟨Nat.le_of_ble_eq_true rfl, Nat.le_of_ble_eq_true rfl⟩
  have cw69 : CallW ({ frames := 3, cells := 0, slots := 0, locals := 66 }) s _ RX4 RX2 69 yX2_hasBox cX2_hasBox 2 (some .boolean) wsX2_hasBox ({ frames := 1, cells := 0, slots := 0, locals := 21 }) 0 0 1 := cwV 1 hc.2.2.2.2 gX4_addTurned_X2_hasBox rfl rfl rfl (by decide +kernel) ⟨Nat.le_of_ble_eq_true rfl, Nat.le_of_ble_eq_true rfl⟩
  refine wp_aload_n hc 1 dX4_addTurned_0 rfl ?_
  refine wp_iload_n hc 2 dX4_addTurned_1 rfl ?_
  refine wp_callVf (As := [.int i2]) (rest := []) (j := (16 + 12 * q1)) (v := (fX2_hasBox M q1 i2)) hc hx (kX2_hasBox l D cy z hz M q1 i2 haq1) cw69 (Nat.zero_le _) (by have := haq1; omega) (ce_1 (kd_st haq1)) rfl rfl rfl rfl (Nat.le_of_ble_eq_true rfl) dX4_addTurned_2 ?_
  refine wp_if_ne (tgt := 11) hc dX4_addTurned_5 (by decide) (fun c5 => ?_) (fun c5 => ?_)
  · refine wp_aload_n hc 1 dX4_addTurned_11 rfl ?_
    refine wp_get hc hx hin2 (j := (16 + 12 * q1)) (Nat.zero_le _) (by have := haq1; omega) (ce_1 (kd_st haq1)) rfl 0 (by decide) hf73 rfl dX4_addTurned_12 ?_
    refine wp_iload_n hc 2 dX4_addTurned_15 rfl ?_
    refine wp_aald8 hc hx (j := (16 + 12 * q1 + 1)) (Nat.zero_le _) (by have := haq1; omega) (kd_bx haq1) i2.toNatClampNeg rfl (vin8 (show 0 ≤ i2.toInt ∧ i2.toInt < (8 : Nat) from ⟨(hasBox_8 c5).1, (hasBox_8 c5).2.1⟩)) dX4_addTurned_16 ?_
    refine wp_astore_n (lv' := [(3, .ref (z (16 + 12 * q1 + 1 + 3 + i2.toNatClampNeg))), (0, .ref (z 1)), (1, .ref (z (16 + 12 * q1))), (2, .int i2)]) hc dX4_addTurned_17 (by decide) rfl ?_
    refine wp_aload_n hc 1 dX4_addTurned_18 rfl ?_
    refine wp_get hc hx hin4 (j := 1) (by decide) (by decide) (ce_3 rfl) rfl 6 (by decide) hf33 rfl dX4_addTurned_19 ?_
    refine wp_aload_n hc 0 dX4_addTurned_22 rfl ?_
    refine wp_get hc hx hin0 (j := (16 + 12 * q1 + 1 + 3 + i2.toNatClampNeg)) (Nat.zero_le _) (by have := haq1; have : i2.toNatClampNeg < 8 := (cl8 (show 0 ≤ i2.toInt ∧ i2.toInt < (8 : Nat) from ⟨(hasBox_8 c5).1, (hasBox_8 c5).2.1⟩)); omega) (ce_0 (kd_fo haq1 (cl8 (show 0 ≤ i2.toInt ∧ i2.toInt < (8 : Nat) from ⟨(hasBox_8 c5).1, (hasBox_8 c5).2.1⟩)))) rfl 3 (by decide) hf77 rfl dX4_addTurned_23 ?_
    refine wp_aload_n hc 0 dX4_addTurned_26 rfl ?_
    refine wp_get hc hx hin0 (j := (16 + 12 * q1 + 1 + 3 + i2.toNatClampNeg)) (Nat.zero_le _) (by have := haq1; have : i2.toNatClampNeg < 8 := (cl8 (show 0 ≤ i2.toInt ∧ i2.toInt < (8 : Nat) from ⟨(hasBox_8 c5).1, (hasBox_8 c5).2.1⟩)); omega) (ce_0 (kd_fo haq1 (cl8 (show 0 ≤ i2.toInt ∧ i2.toInt < (8 : Nat) from ⟨(hasBox_8 c5).1, (hasBox_8 c5).2.1⟩)))) rfl 2 (by decide) hf81 rfl dX4_addTurned_27 ?_
    refine wp_aload_n hc 0 dX4_addTurned_30 rfl ?_
    refine wp_get hc hx hin0 (j := (16 + 12 * q1 + 1 + 3 + i2.toNatClampNeg)) (Nat.zero_le _) (by have := haq1; have : i2.toNatClampNeg < 8 := (cl8 (show 0 ≤ i2.toInt ∧ i2.toInt < (8 : Nat) from ⟨(hasBox_8 c5).1, (hasBox_8 c5).2.1⟩)); omega) (ce_0 (kd_fo haq1 (cl8 (show 0 ≤ i2.toInt ∧ i2.toInt < (8 : Nat) from ⟨(hasBox_8 c5).1, (hasBox_8 c5).2.1⟩)))) rfl 1 (by decide) hf84 rfl dX4_addTurned_31 ?_
    refine wp_aload_n hc 0 dX4_addTurned_34 rfl ?_
    refine wp_get hc hx hin0 (j := (16 + 12 * q1 + 1 + 3 + i2.toNatClampNeg)) (Nat.zero_le _) (by have := haq1; have : i2.toNatClampNeg < 8 := (cl8 (show 0 ≤ i2.toInt ∧ i2.toInt < (8 : Nat) from ⟨(hasBox_8 c5).1, (hasBox_8 c5).2.1⟩)); omega) (ce_0 (kd_fo haq1 (cl8 (show 0 ≤ i2.toInt ∧ i2.toInt < (8 : Nat) from ⟨(hasBox_8 c5).1, (hasBox_8 c5).2.1⟩)))) rfl 0 (by decide) hf87 rfl dX4_addTurned_35 ?_
    refine wp_callVvw (As := [.int (M.1 (16 + 12 * q1 + 1 + 3 + i2.toNatClampNeg) 3), .int (M.1 (16 + 12 * q1 + 1 + 3 + i2.toNatClampNeg) 2), .int (M.1 (16 + 12 * q1 + 1 + 3 + i2.toNatClampNeg) 1), .int (M.1 (16 + 12 * q1 + 1 + 3 + i2.toNatClampNeg) 0)]) (rest := []) (j := 8) (w := sX0_fill M 8 (M.1 (16 + 12 * q1 + 1 + 3 + i2.toNatClampNeg) 3) (M.1 (16 + 12 * q1 + 1 + 3 + i2.toNatClampNeg) 2) (M.1 (16 + 12 * q1 + 1 + 3 + i2.toNatClampNeg) 1) (M.1 (16 + 12 * q1 + 1 + 3 + i2.toNatClampNeg) 0)) hc hx (kX0_fill l D cy z hz M 8 (M.1 (16 + 12 * q1 + 1 + 3 + i2.toNatClampNeg) 3) (M.1 (16 + 12 * q1 + 1 + 3 + i2.toNatClampNeg) 2) (M.1 (16 + 12 * q1 + 1 + 3 + i2.toNatClampNeg) 1) (M.1 (16 + 12 * q1 + 1 + 3 + i2.toNatClampNeg) 0) (by decide) rfl) cw40 (by decide) (by decide) (ce_0 rfl) rfl rfl rfl rfl (Nat.le_of_ble_eq_true rfl) dX4_addTurned_38 (fun M1 hM1 => ?_)
    refine wp_aload_n hc 2 dX4_addTurned_41 rfl ?_
    refine wp_aload_n hc 1 dX4_addTurned_42 rfl ?_
    refine wp_get hc hx hin4 (j := 1) (by decide) (by decide) (ce_3 rfl) rfl 6 (by decide) hf33 rfl dX4_addTurned_43 ?_
    refine wp_callVw (As := [.ref (z 8)]) (rest := []) (j := (16 + 12 * q1)) (w := sX2_addBox M1 q1 8) hc hx (kX2_addBox l D cy z hz M1 q1 8 haq1 (by decide) rfl) cw44 (Nat.zero_le _) (by have := haq1; omega) (ce_1 (kd_st haq1)) rfl rfl rfl rfl (Nat.le_of_ble_eq_true rfl) dX4_addTurned_46 (fun x2 hx2 => ?_)
    refine wp_iret hc hr hk ?_ dX4_addTurned_49
    show (x2.1, x2.2) = sX4_addTurned M q1 i2
    rw [sX4_addTurned, if_neg c5, tk_eq hM1, tk_eq hx2]
  refine wp_bipush (v := (-2)) hc dX4_addTurned_8 (by decide) ?_
  refine wp_iret hc hr hk ?_ dX4_addTurned_10
  show ((-2), M) = sX4_addTurned M q1 i2
  rw [sX4_addTurned, if_pos c5]
set_option maxRecDepth 10000 in
theorem kfX4_addTurned (M : Mem) (q1 : Nat) (i2 : Int32) : KF2 (fun x => (2 ≤ x ∧ x ≤ 9) ∨ (16 + 12 * q1 ≤ x ∧ x < 28 + 12 * q1)) M (sX4_addTurned M q1 i2) := by
  unfold sX4_addTurned
  refine ite_ind (P := KF2 (fun x => (2 ≤ x ∧ x ≤ 9) ∨ (16 + 12 * q1 ≤ x ∧ x < 28 + 12 * q1)) M) (fun c1 => ?_) (fun c1 => ?_)
  · exact (show KF (fun x => (2 ≤ x ∧ x ≤ 9) ∨ (16 + 12 * q1 ≤ x ∧ x < 28 + 12 * q1)) M M from KF.rf)
  · refine tk_ind (P := KF2 (fun x => (2 ≤ x ∧ x ≤ 9) ∨ (16 + 12 * q1 ≤ x ∧ x < 28 + 12 * q1)) M) _ _ (fun M1 hM1 => ?_)
    have k2 : KF (fun x => (2 ≤ x ∧ x ≤ 9) ∨ (16 + 12 * q1 ≤ x ∧ x < 28 + 12 * q1)) M M1 := by rw [hM1]; exact KF.mono (kfX0_fill _ _ _ _ _ _) (fun x h => by first | exact h | ((try dsimp only at h ⊢); omega))
    refine tk_ind (P := KF2 (fun x => (2 ≤ x ∧ x ≤ 9) ∨ (16 + 12 * q1 ≤ x ∧ x < 28 + 12 * q1)) M) _ _ (fun x2 hx2 => ?_)
    have k3 : KF2 (fun x => (2 ≤ x ∧ x ≤ 9) ∨ (16 + 12 * q1 ≤ x ∧ x < 28 + 12 * q1)) M1 x2 := by rw [hx2]; exact KF2.mono (kfX2_addBox _ _ _) (fun x h => by first | exact h | ((try dsimp only at h ⊢); omega))
    exact (show KF (fun x => (2 ≤ x ∧ x ≤ 9) ∨ (16 + 12 * q1 ≤ x ∧ x < 28 + 12 * q1)) M x2.2 from KF.trans k2 (k3))
def sX4_addChain (M : Mem) (q1 : Nat) (i2 : Int32) (i3 : Int32) : Int32 × Mem :=
  if (fX2_hasBox M q1 i2) = 0 then
  ((-2), M)
  else
  if (fX2_hasBox M q1 i3) = 0 then
  ((-2), M)
  else
  tk (sX0_becomeTransfer M 5 (16 + 12 * q1 + 1 + 3 + i2.toNatClampNeg)) fun x1 =>
  if x1.1 = 0 then
  ((-3), x1.2)
  else
  tk (sX0_becomeTransfer x1.2 6 (16 + 12 * q1 + 1 + 3 + i3.toNatClampNeg)) fun x2 =>
  if x2.1 = 0 then
  ((-3), x2.2)
  else
  tk (sX0_becomeProduct x2.2 7 5 6) fun M3 =>
  tk (sX0_becomeBoxOf M3 8 7) fun x4 =>
  if x4.1 = 0 then
  ((-3), x4.2)
  else
  tk (sX2_addBox x4.2 q1 8) fun x5 =>
  (x5.1, x5.2)
set_option maxHeartbeats 4000000 in
set_option maxRecDepth 100000 in
theorem kX4_addChain (l : Launch) (D : va_G) (cy : Nat → ClassId) (z : Nat → Nat) (hz : zI z) (M : Mem) (q1 : Nat) (i2 : Int32) (i3 : Int32) (haq1 : q1 < 7) : KI l yX4_addChain wsX4_addChain { frames := 4, cells := 0, slots := 0, locals := 95 } D cy z 0 100 [.ref (z 1), .ref (z (16 + 12 * q1)), .int i2, .int i3] M (fun r u => (r, u) = sX4_addChain M q1 i2 i3) := by
  refine met_wp (lv := [(0, .ref (z 1)), (1, .ref (z (16 + 12 * q1))), (2, .int i2), (3, .int i3)]) hz (by decide) (by decide) rfl rfl (Nat.le_of_ble_eq_true rfl) rfl ?_
  intro p e s m below meth c hc hx hr hk
  have hNW := hx.2.1
  have hin2 : ∀ w ∈ wsX20, w ∈ wsX4_addChain := by decide +kernel
  have hin4 : ∀ w ∈ wsX40, w ∈ wsX4_addChain := by decide +kernel
  have hf24 : Cond.fieldLink RX4 24 (TX4 3).1 (TX4 3).2.1 (TX4 3).2.2.1 ∈ wsX4_addChain := by decide +kernel
  have hf27 : Cond.fieldLink RX4 27 (TX4 4).1 (TX4 4).2.1 (TX4 4).2.2.1 ∈ wsX4_addChain := by decide +kernel
  have hf30 : Cond.fieldLink RX4 30 (TX4 5).1 (TX4 5).2.1 (TX4 5).2.2.1 ∈ wsX4_addChain := by decide +kernel
  have hf33 : Cond.fieldLink RX4 33 (TX4 6).1 (TX4 6).2.1 (TX4 6).2.2.1 ∈ wsX4_addChain := by decide +kernel
  have hf73 : Cond.fieldLink RX4 73 (TX2 0).1 (TX2 0).2.1 (TX2 0).2.2.1 ∈ wsX4_addChain := by decide +kernel
  have cw44 : CallW ({ frames := 4, cells := 0, slots := 0, locals := 95 }) s _ RX4 RX2 44 yX2_addBox cX2_addBox 2 (some .int) wsX2_addBox ({ frames := 2, cells := 0, slots := 0, locals := 45 }) 0 0 1 := cwV 1 hc.2.2.2.2 gX4_addChain_X2_addBox rfl rfl rfl (by decide +kernel) ⟨Nat.le_of_ble_eq_true rfl, Nat.le_of_ble_eq_true rfl⟩
  have cw69 : CallW ({ frames := 4, cells := 0, slots := 0, locals := 95 }) s _ RX4 RX2 69 yX2_hasBox cX2_hasBox 2 (some .boolean) wsX2_hasBox ({ frames := 1, cells := 0, slots := 0, locals := 21 }) 0 0 1 := cwV 1 hc.2.2.2.2 gX4_addChain_X2_hasBox rfl rfl rfl (by decide +kernel) ⟨Nat.le_of_ble_eq_true rfl, Nat.le_of_ble_eq_true rfl⟩
  have cw90 : CallW ({ frames := 4, cells := 0, slots := 0, locals := 95 }) s _ RX4 RX0 90 yX0_becomeTransfer cX0_becomeTransfer 3 (some .boolean) wsX0_becomeTransfer ({ frames := 3, cells := 0, slots := 0, locals := 73 }) 0 0 1 := cwV 1 hc.2.2.2.2 gX4_addChain_X0_becomeTransfer rfl rfl rfl (by decide +kernel) ⟨Nat.le_of_ble_eq_true rfl, Nat.le_of_ble_eq_true rfl⟩
  have cw94 : CallW ({ frames := 4, cells := 0, slots := 0, locals := 95 }) s _ RX4 RX0 94 yX0_becomeProduct cX0_becomeProduct 3 none wsX0_becomeProduct ({ frames := 3, cells := 0, slots := 0, locals := 71 }) 0 0 2 := cwV 2 hc.2.2.2.2 gX4_addChain_X0_becomeProduct rfl rfl rfl (by decide +kernel) ⟨Nat.le_of_ble_eq_true rfl, Nat.le_of_ble_eq_true rfl⟩
  have cw98 : CallW ({ frames := 4, cells := 0, slots := 0, locals := 95 }) s _ RX4 RX0 98 yX0_becomeBoxOf cX0_becomeBoxOf 3 (some .boolean) wsX0_becomeBoxOf ({ frames := 3, cells := 0, slots := 0, locals := 73 }) 0 0 1 := cwV 1 hc.2.2.2.2 gX4_addChain_X0_becomeBoxOf rfl rfl rfl (by decide +kernel) ⟨Nat.le_of_ble_eq_true rfl, Nat.le_of_ble_eq_true rfl⟩
  refine wp_aload_n hc 1 dX4_addChain_0 rfl ?_
  refine wp_iload_n hc 2 dX4_addChain_1 rfl ?_
  refine wp_callVf (As := [.int i2]) (rest := []) (j := (16 + 12 * q1)) (v := (fX2_hasBox M q1 i2)) hc hx (kX2_hasBox l D cy z hz M q1 i2 haq1) cw69 (Nat.zero_le _) (by have := haq1; omega) (ce_1 (kd_st haq1)) rfl rfl rfl rfl (Nat.le_of_ble_eq_true rfl) dX4_addChain_2 ?_
  refine wp_if_eq (tgt := 16) hc dX4_addChain_5 (by decide) (fun c5 => ?_) (fun c5 => ?_)
  · refine wp_bipush (v := (-2)) hc dX4_addChain_16 (by decide) ?_
    refine wp_iret hc hr hk ?_ dX4_addChain_18
    show ((-2), M) = sX4_addChain M q1 i2 i3
    rw [sX4_addChain, if_pos c5]
  refine wp_aload_n hc 1 dX4_addChain_8 rfl ?_
  refine wp_iload_n hc 3 dX4_addChain_9 rfl ?_
  refine wp_callVf (As := [.int i3]) (rest := []) (j := (16 + 12 * q1)) (v := (fX2_hasBox M q1 i3)) hc hx (kX2_hasBox l D cy z hz M q1 i3 haq1) cw69 (Nat.zero_le _) (by have := haq1; omega) (ce_1 (kd_st haq1)) rfl rfl rfl rfl (Nat.le_of_ble_eq_true rfl) dX4_addChain_10 ?_
  refine wp_if_ne (tgt := 19) hc dX4_addChain_13 (by decide) (fun c13 => ?_) (fun c13 => ?_)
  · refine wp_aload_n hc 0 dX4_addChain_19 rfl ?_
    refine wp_get hc hx hin4 (j := 1) (by decide) (by decide) (ce_3 rfl) rfl 3 (by decide) hf24 rfl dX4_addChain_20 ?_
    refine wp_aload_n hc 1 dX4_addChain_23 rfl ?_
    refine wp_get hc hx hin2 (j := (16 + 12 * q1)) (Nat.zero_le _) (by have := haq1; omega) (ce_1 (kd_st haq1)) rfl 0 (by decide) hf73 rfl dX4_addChain_24 ?_
    refine wp_iload_n hc 2 dX4_addChain_27 rfl ?_
    refine wp_aald8 hc hx (j := (16 + 12 * q1 + 1)) (Nat.zero_le _) (by have := haq1; omega) (kd_bx haq1) i2.toNatClampNeg rfl (vin8 (show 0 ≤ i2.toInt ∧ i2.toInt < (8 : Nat) from ⟨(hasBox_8 c5).1, (hasBox_8 c5).2.1⟩)) dX4_addChain_28 ?_
    refine wp_callVw (As := [.ref (z (16 + 12 * q1 + 1 + 3 + i2.toNatClampNeg))]) (rest := []) (j := 5) (w := sX0_becomeTransfer M 5 (16 + 12 * q1 + 1 + 3 + i2.toNatClampNeg)) hc hx (kX0_becomeTransfer l D cy z hz M 5 (16 + 12 * q1 + 1 + 3 + i2.toNatClampNeg) (by decide) rfl (by have := haq1; have : i2.toNatClampNeg < 8 := (cl8 (show 0 ≤ i2.toInt ∧ i2.toInt < (8 : Nat) from ⟨(hasBox_8 c5).1, (hasBox_8 c5).2.1⟩)); omega) (kd_fo haq1 (cl8 (show 0 ≤ i2.toInt ∧ i2.toInt < (8 : Nat) from ⟨(hasBox_8 c5).1, (hasBox_8 c5).2.1⟩)))) cw90 (by decide) (by decide) (ce_0 rfl) rfl rfl rfl rfl (Nat.le_of_ble_eq_true rfl) dX4_addChain_29 (fun x1 hx1 => ?_)
    refine wp_if_eq (tgt := 51) hc dX4_addChain_32 (by decide) (fun c32 => ?_) (fun c32 => ?_)
    · refine wp_bipush (v := (-3)) hc dX4_addChain_51 (by decide) ?_
      refine wp_iret hc hr hk ?_ dX4_addChain_53
      show ((-3), x1.2) = sX4_addChain M q1 i2 i3
      rw [sX4_addChain, if_neg c5, if_neg c13, tk_eq hx1, if_pos c32]
    refine wp_aload_n hc 0 dX4_addChain_35 rfl ?_
    refine wp_get hc hx hin4 (j := 1) (by decide) (by decide) (ce_3 rfl) rfl 4 (by decide) hf27 rfl dX4_addChain_36 ?_
    refine wp_aload_n hc 1 dX4_addChain_39 rfl ?_
    refine wp_get hc hx hin2 (j := (16 + 12 * q1)) (Nat.zero_le _) (by have := haq1; omega) (ce_1 (kd_st haq1)) rfl 0 (by decide) hf73 rfl dX4_addChain_40 ?_
    refine wp_iload_n hc 3 dX4_addChain_43 rfl ?_
    refine wp_aald8 hc hx (j := (16 + 12 * q1 + 1)) (Nat.zero_le _) (by have := haq1; omega) (kd_bx haq1) i3.toNatClampNeg rfl (vin8 (show 0 ≤ i3.toInt ∧ i3.toInt < (8 : Nat) from ⟨(hasBox_8 c13).1, (hasBox_8 c13).2.1⟩)) dX4_addChain_44 ?_
    refine wp_callVw (As := [.ref (z (16 + 12 * q1 + 1 + 3 + i3.toNatClampNeg))]) (rest := []) (j := 6) (w := sX0_becomeTransfer x1.2 6 (16 + 12 * q1 + 1 + 3 + i3.toNatClampNeg)) hc hx (kX0_becomeTransfer l D cy z hz x1.2 6 (16 + 12 * q1 + 1 + 3 + i3.toNatClampNeg) (by decide) rfl (by have := haq1; have : i3.toNatClampNeg < 8 := (cl8 (show 0 ≤ i3.toInt ∧ i3.toInt < (8 : Nat) from ⟨(hasBox_8 c13).1, (hasBox_8 c13).2.1⟩)); omega) (kd_fo haq1 (cl8 (show 0 ≤ i3.toInt ∧ i3.toInt < (8 : Nat) from ⟨(hasBox_8 c13).1, (hasBox_8 c13).2.1⟩)))) cw90 (by decide) (by decide) (ce_0 rfl) rfl rfl rfl rfl (Nat.le_of_ble_eq_true rfl) dX4_addChain_45 (fun x2 hx2 => ?_)
    refine wp_if_ne (tgt := 54) hc dX4_addChain_48 (by decide) (fun c48 => ?_) (fun c48 => ?_)
    · refine wp_aload_n hc 0 dX4_addChain_54 rfl ?_
      refine wp_get hc hx hin4 (j := 1) (by decide) (by decide) (ce_3 rfl) rfl 5 (by decide) hf30 rfl dX4_addChain_55 ?_
      refine wp_aload_n hc 0 dX4_addChain_58 rfl ?_
      refine wp_get hc hx hin4 (j := 1) (by decide) (by decide) (ce_3 rfl) rfl 3 (by decide) hf24 rfl dX4_addChain_59 ?_
      refine wp_aload_n hc 0 dX4_addChain_62 rfl ?_
      refine wp_get hc hx hin4 (j := 1) (by decide) (by decide) (ce_3 rfl) rfl 4 (by decide) hf27 rfl dX4_addChain_63 ?_
      refine wp_callVvw (As := [.ref (z 5), .ref (z 6)]) (rest := []) (j := 7) (w := sX0_becomeProduct x2.2 7 5 6) hc hx (kX0_becomeProduct l D cy z hz x2.2 7 5 6 (by decide) rfl (by decide) rfl (by decide) rfl) cw94 (by decide) (by decide) (ce_0 rfl) rfl rfl rfl rfl (Nat.le_of_ble_eq_true rfl) dX4_addChain_66 (fun M3 hM3 => ?_)
      refine wp_aload_n hc 0 dX4_addChain_69 rfl ?_
      refine wp_get hc hx hin4 (j := 1) (by decide) (by decide) (ce_3 rfl) rfl 6 (by decide) hf33 rfl dX4_addChain_70 ?_
      refine wp_aload_n hc 0 dX4_addChain_73 rfl ?_
      refine wp_get hc hx hin4 (j := 1) (by decide) (by decide) (ce_3 rfl) rfl 5 (by decide) hf30 rfl dX4_addChain_74 ?_
      refine wp_callVw (As := [.ref (z 7)]) (rest := []) (j := 8) (w := sX0_becomeBoxOf M3 8 7) hc hx (kX0_becomeBoxOf l D cy z hz M3 8 7 (by decide) rfl (by decide) rfl) cw98 (by decide) (by decide) (ce_0 rfl) rfl rfl rfl rfl (Nat.le_of_ble_eq_true rfl) dX4_addChain_77 (fun x4 hx4 => ?_)
      refine wp_if_eq (tgt := 94) hc dX4_addChain_80 (by decide) (fun c80 => ?_) (fun c80 => ?_)
      · refine wp_bipush (v := (-3)) hc dX4_addChain_94 (by decide) ?_
        refine wp_iret hc hr hk ?_ dX4_addChain_96
        show ((-3), x4.2) = sX4_addChain M q1 i2 i3
        rw [sX4_addChain, if_neg c5, if_neg c13, tk_eq hx1, if_neg c32, tk_eq hx2, if_neg c48, tk_eq hM3, tk_eq hx4, if_pos c80]
      refine wp_aload_n hc 1 dX4_addChain_83 rfl ?_
      refine wp_aload_n hc 0 dX4_addChain_84 rfl ?_
      refine wp_get hc hx hin4 (j := 1) (by decide) (by decide) (ce_3 rfl) rfl 6 (by decide) hf33 rfl dX4_addChain_85 ?_
      refine wp_callVw (As := [.ref (z 8)]) (rest := []) (j := (16 + 12 * q1)) (w := sX2_addBox x4.2 q1 8) hc hx (kX2_addBox l D cy z hz x4.2 q1 8 haq1 (by decide) rfl) cw44 (Nat.zero_le _) (by have := haq1; omega) (ce_1 (kd_st haq1)) rfl rfl rfl rfl (Nat.le_of_ble_eq_true rfl) dX4_addChain_88 (fun x5 hx5 => ?_)
      refine wp_goto (tgt := 96) hc dX4_addChain_91 (by decide) ?_
      refine wp_iret hc hr hk ?_ dX4_addChain_96
      show (x5.1, x5.2) = sX4_addChain M q1 i2 i3
      rw [sX4_addChain, if_neg c5, if_neg c13, tk_eq hx1, if_neg c32, tk_eq hx2, if_neg c48, tk_eq hM3, tk_eq hx4, if_neg c80, tk_eq hx5]
    refine wp_bipush (v := (-3)) hc dX4_addChain_51 (by decide) ?_
    refine wp_iret hc hr hk ?_ dX4_addChain_53
    show ((-3), x2.2) = sX4_addChain M q1 i2 i3
    rw [sX4_addChain, if_neg c5, if_neg c13, tk_eq hx1, if_neg c32, tk_eq hx2, if_pos c48]
  refine wp_bipush (v := (-2)) hc dX4_addChain_16 (by decide) ?_
  refine wp_iret hc hr hk ?_ dX4_addChain_18
  show ((-2), M) = sX4_addChain M q1 i2 i3
  rw [sX4_addChain, if_neg c5, if_pos c13]
set_option maxRecDepth 10000 in
theorem kfX4_addChain (M : Mem) (q1 : Nat) (i2 : Int32) (i3 : Int32) : KF2 (fun x => (2 ≤ x ∧ x ≤ 9) ∨ (16 + 12 * q1 ≤ x ∧ x < 28 + 12 * q1)) M (sX4_addChain M q1 i2 i3) := by
  unfold sX4_addChain
  refine ite_ind (P := KF2 (fun x => (2 ≤ x ∧ x ≤ 9) ∨ (16 + 12 * q1 ≤ x ∧ x < 28 + 12 * q1)) M) (fun c1 => ?_) (fun c1 => ?_)
  · exact (show KF (fun x => (2 ≤ x ∧ x ≤ 9) ∨ (16 + 12 * q1 ≤ x ∧ x < 28 + 12 * q1)) M M from KF.rf)
  · refine ite_ind (P := KF2 (fun x => (2 ≤ x ∧ x ≤ 9) ∨ (16 + 12 * q1 ≤ x ∧ x < 28 + 12 * q1)) M) (fun c2 => ?_) (fun c2 => ?_)
    · exact (show KF (fun x => (2 ≤ x ∧ x ≤ 9) ∨ (16 + 12 * q1 ≤ x ∧ x < 28 + 12 * q1)) M M from KF.rf)
    · refine tk_ind (P := KF2 (fun x => (2 ≤ x ∧ x ≤ 9) ∨ (16 + 12 * q1 ≤ x ∧ x < 28 + 12 * q1)) M) _ _ (fun x1 hx1 => ?_)
      have k3 : KF2 (fun x => (2 ≤ x ∧ x ≤ 9) ∨ (16 + 12 * q1 ≤ x ∧ x < 28 + 12 * q1)) M x1 := by rw [hx1]; exact KF2.mono (kfX0_becomeTransfer _ _ _) (fun x h => by first | exact h | ((try dsimp only at h ⊢); omega))
      refine ite_ind (P := KF2 (fun x => (2 ≤ x ∧ x ≤ 9) ∨ (16 + 12 * q1 ≤ x ∧ x < 28 + 12 * q1)) M) (fun c4 => ?_) (fun c4 => ?_)
      · exact (show KF (fun x => (2 ≤ x ∧ x ≤ 9) ∨ (16 + 12 * q1 ≤ x ∧ x < 28 + 12 * q1)) M x1.2 from k3)
      · refine tk_ind (P := KF2 (fun x => (2 ≤ x ∧ x ≤ 9) ∨ (16 + 12 * q1 ≤ x ∧ x < 28 + 12 * q1)) M) _ _ (fun x2 hx2 => ?_)
        have k5 : KF2 (fun x => (2 ≤ x ∧ x ≤ 9) ∨ (16 + 12 * q1 ≤ x ∧ x < 28 + 12 * q1)) x1.2 x2 := by rw [hx2]; exact KF2.mono (kfX0_becomeTransfer _ _ _) (fun x h => by first | exact h | ((try dsimp only at h ⊢); omega))
        refine ite_ind (P := KF2 (fun x => (2 ≤ x ∧ x ≤ 9) ∨ (16 + 12 * q1 ≤ x ∧ x < 28 + 12 * q1)) M) (fun c6 => ?_) (fun c6 => ?_)
        · exact (show KF (fun x => (2 ≤ x ∧ x ≤ 9) ∨ (16 + 12 * q1 ≤ x ∧ x < 28 + 12 * q1)) M x2.2 from KF.trans k3 (k5))
        · refine tk_ind (P := KF2 (fun x => (2 ≤ x ∧ x ≤ 9) ∨ (16 + 12 * q1 ≤ x ∧ x < 28 + 12 * q1)) M) _ _ (fun M3 hM3 => ?_)
          have k7 : KF (fun x => (2 ≤ x ∧ x ≤ 9) ∨ (16 + 12 * q1 ≤ x ∧ x < 28 + 12 * q1)) x2.2 M3 := by rw [hM3]; exact KF.mono (kfX0_becomeProduct _ _ _ _) (fun x h => by first | exact h | ((try dsimp only at h ⊢); omega))
          refine tk_ind (P := KF2 (fun x => (2 ≤ x ∧ x ≤ 9) ∨ (16 + 12 * q1 ≤ x ∧ x < 28 + 12 * q1)) M) _ _ (fun x4 hx4 => ?_)
          have k8 : KF2 (fun x => (2 ≤ x ∧ x ≤ 9) ∨ (16 + 12 * q1 ≤ x ∧ x < 28 + 12 * q1)) M3 x4 := by rw [hx4]; exact KF2.mono (kfX0_becomeBoxOf _ _ _) (fun x h => by first | exact h | ((try dsimp only at h ⊢); omega))
          refine ite_ind (P := KF2 (fun x => (2 ≤ x ∧ x ≤ 9) ∨ (16 + 12 * q1 ≤ x ∧ x < 28 + 12 * q1)) M) (fun c9 => ?_) (fun c9 => ?_)
          · exact (show KF (fun x => (2 ≤ x ∧ x ≤ 9) ∨ (16 + 12 * q1 ≤ x ∧ x < 28 + 12 * q1)) M x4.2 from KF.trans k3 (KF.trans k5 (KF.trans k7 (k8))))
          · refine tk_ind (P := KF2 (fun x => (2 ≤ x ∧ x ≤ 9) ∨ (16 + 12 * q1 ≤ x ∧ x < 28 + 12 * q1)) M) _ _ (fun x5 hx5 => ?_)
            have k10 : KF2 (fun x => (2 ≤ x ∧ x ≤ 9) ∨ (16 + 12 * q1 ≤ x ∧ x < 28 + 12 * q1)) x4.2 x5 := by rw [hx5]; exact KF2.mono (kfX2_addBox _ _ _) (fun x h => by first | exact h | ((try dsimp only at h ⊢); omega))
            exact (show KF (fun x => (2 ≤ x ∧ x ≤ 9) ∨ (16 + 12 * q1 ≤ x ∧ x < 28 + 12 * q1)) M x5.2 from KF.trans k3 (KF.trans k5 (KF.trans k7 (KF.trans k8 (k10)))))
def sX4_addPeeled (M : Mem) (q1 : Nat) (i2 : Int32) (i3 : Int32) (i4 : Int32) : Int32 × Mem :=
  if (fX2_hasBox M q1 i2) = 0 then
  ((-2), M)
  else
  if (fX2_hasBox M q1 i3) = 0 then
  ((-2), M)
  else
  if (fX2_hasBox M q1 i4) = 0 then
  ((-2), M)
  else
  tk (sX0_becomeTransfer M 7 (16 + 12 * q1 + 1 + 3 + i2.toNatClampNeg)) fun x1 =>
  if x1.1 = 0 then
  ((-3), x1.2)
  else
  tk (sX0_becomeTransfer x1.2 5 (16 + 12 * q1 + 1 + 3 + i3.toNatClampNeg)) fun x2 =>
  if x2.1 = 0 then
  ((-3), x2.2)
  else
  tk (sX0_becomeTransfer x2.2 6 (16 + 12 * q1 + 1 + 3 + i4.toNatClampNeg)) fun x3 =>
  if x3.1 = 0 then
  ((-3), x3.2)
  else
  tk (sX0_invert x3.2 5) fun x4 =>
  if x4.1 = 0 then
  ((-3), x4.2)
  else
  tk (sX0_invert x4.2 6) fun x5 =>
  if x5.1 = 0 then
  ((-3), x5.2)
  else
  tk (sX0_becomeProduct x5.2 7 5 7) fun M6 =>
  tk (sX0_becomeProduct M6 7 7 6) fun M7 =>
  tk (sX0_becomeBoxOf M7 8 7) fun x8 =>
  if x8.1 = 0 then
  ((-3), x8.2)
  else
  tk (sX2_addBox x8.2 q1 8) fun x9 =>
  (x9.1, x9.2)
set_option maxHeartbeats 4000000 in
set_option maxRecDepth 100000 in
theorem kX4_addPeeled (l : Launch) (D : va_G) (cy : Nat → ClassId) (z : Nat → Nat) (hz : zI z) (M : Mem) (q1 : Nat) (i2 : Int32) (i3 : Int32) (i4 : Int32) (haq1 : q1 < 7) : KI l yX4_addPeeled wsX4_addPeeled { frames := 4, cells := 0, slots := 0, locals := 95 } D cy z 0 100 [.ref (z 1), .ref (z (16 + 12 * q1)), .int i2, .int i3, .int i4] M (fun r u => (r, u) = sX4_addPeeled M q1 i2 i3 i4) := by
  refine met_wp (lv := [(0, .ref (z 1)), (1, .ref (z (16 + 12 * q1))), (2, .int i2), (3, .int i3), (4, .int i4)]) hz (by decide) (by decide) rfl rfl (Nat.le_of_ble_eq_true rfl) rfl ?_
  intro p e s m below meth c hc hx hr hk
  have hNW := hx.2.1
  have hin2 : ∀ w ∈ wsX20, w ∈ wsX4_addPeeled := by decide +kernel
  have hin4 : ∀ w ∈ wsX40, w ∈ wsX4_addPeeled := by decide +kernel
  have hf24 : Cond.fieldLink RX4 24 (TX4 3).1 (TX4 3).2.1 (TX4 3).2.2.1 ∈ wsX4_addPeeled := by decide +kernel
  have hf27 : Cond.fieldLink RX4 27 (TX4 4).1 (TX4 4).2.1 (TX4 4).2.2.1 ∈ wsX4_addPeeled := by decide +kernel
  have hf30 : Cond.fieldLink RX4 30 (TX4 5).1 (TX4 5).2.1 (TX4 5).2.2.1 ∈ wsX4_addPeeled := by decide +kernel
  have hf33 : Cond.fieldLink RX4 33 (TX4 6).1 (TX4 6).2.1 (TX4 6).2.2.1 ∈ wsX4_addPeeled := by decide +kernel
  have hf73 : Cond.fieldLink RX4 73 (TX2 0).1 (TX2 0).2.1 (TX2 0).2.2.1 ∈ wsX4_addPeeled := by decide +kernel
  have cw44 : CallW ({ frames := 4, cells := 0, slots := 0, locals := 95 }) s _ RX4 RX2 44 yX2_addBox cX2_addBox 2 (some .int) wsX2_addBox ({ frames := 2, cells := 0, slots := 0, locals := 45 }) 0 0 1 := cwV 1 hc.2.2.2.2 gX4_addPeeled_X2_addBox rfl rfl rfl (by decide +kernel) ⟨Nat.le_of_ble_eq_true rfl, Nat.le_of_ble_eq_true rfl⟩
  have cw69 : CallW ({ frames := 4, cells := 0, slots := 0, locals := 95 }) s _ RX4 RX2 69 yX2_hasBox cX2_hasBox 2 (some .boolean) wsX2_hasBox ({ frames := 1, cells := 0, slots := 0, locals := 21 }) 0 0 1 := cwV 1 hc.2.2.2.2 gX4_addPeeled_X2_hasBox rfl rfl rfl (by decide +kernel) ⟨Nat.le_of_ble_eq_true rfl, Nat.le_of_ble_eq_true rfl⟩
  have cw90 : CallW ({ frames := 4, cells := 0, slots := 0, locals := 95 }) s _ RX4 RX0 90 yX0_becomeTransfer cX0_becomeTransfer 3 (some .boolean) wsX0_becomeTransfer ({ frames := 3, cells := 0, slots := 0, locals := 73 }) 0 0 1 := cwV 1 hc.2.2.2.2 gX4_addPeeled_X0_becomeTransfer rfl rfl rfl (by decide +kernel) ⟨Nat.le_of_ble_eq_true rfl, Nat.le_of_ble_eq_true rfl⟩
  have cw94 : CallW ({ frames := 4, cells := 0, slots := 0, locals := 95 }) s _ RX4 RX0 94 yX0_becomeProduct cX0_becomeProduct 3 none wsX0_becomeProduct ({ frames := 3, cells := 0, slots := 0, locals := 71 }) 0 0 2 := cwV 2 hc.2.2.2.2 gX4_addPeeled_X0_becomeProduct rfl rfl rfl (by decide +kernel) ⟨Nat.le_of_ble_eq_true rfl, Nat.le_of_ble_eq_true rfl⟩
  have cw98 : CallW ({ frames := 4, cells := 0, slots := 0, locals := 95 }) s _ RX4 RX0 98 yX0_becomeBoxOf cX0_becomeBoxOf 3 (some .boolean) wsX0_becomeBoxOf ({ frames := 3, cells := 0, slots := 0, locals := 73 }) 0 0 1 := cwV 1 hc.2.2.2.2 gX4_addPeeled_X0_becomeBoxOf rfl rfl rfl (by decide +kernel) ⟨Nat.le_of_ble_eq_true rfl, Nat.le_of_ble_eq_true rfl⟩
  have cw101 : CallW ({ frames := 4, cells := 0, slots := 0, locals := 95 }) s _ RX4 RX0 101 yX0_invert cX0_invert 2 (some .boolean) wsX0_invert ({ frames := 3, cells := 0, slots := 0, locals := 73 }) 0 0 0 := cwV 0 hc.2.2.2.2 gX4_addPeeled_X0_invert rfl rfl rfl (by decide +kernel) ⟨Nat.le_of_ble_eq_true rfl, Nat.le_of_ble_eq_true rfl⟩
  refine wp_aload_n hc 1 dX4_addPeeled_0 rfl ?_
  refine wp_iload_n hc 2 dX4_addPeeled_1 rfl ?_
  refine wp_callVf (As := [.int i2]) (rest := []) (j := (16 + 12 * q1)) (v := (fX2_hasBox M q1 i2)) hc hx (kX2_hasBox l D cy z hz M q1 i2 haq1) cw69 (Nat.zero_le _) (by have := haq1; omega) (ce_1 (kd_st haq1)) rfl rfl rfl rfl (Nat.le_of_ble_eq_true rfl) dX4_addPeeled_2 ?_
  refine wp_if_eq (tgt := 25) hc dX4_addPeeled_5 (by decide) (fun c5 => ?_) (fun c5 => ?_)
  · refine wp_bipush (v := (-2)) hc dX4_addPeeled_25 (by decide) ?_
    refine wp_iret hc hr hk ?_ dX4_addPeeled_27
    show ((-2), M) = sX4_addPeeled M q1 i2 i3 i4
    rw [sX4_addPeeled, if_pos c5]
  refine wp_aload_n hc 1 dX4_addPeeled_8 rfl ?_
  refine wp_iload_n hc 3 dX4_addPeeled_9 rfl ?_
  refine wp_callVf (As := [.int i3]) (rest := []) (j := (16 + 12 * q1)) (v := (fX2_hasBox M q1 i3)) hc hx (kX2_hasBox l D cy z hz M q1 i3 haq1) cw69 (Nat.zero_le _) (by have := haq1; omega) (ce_1 (kd_st haq1)) rfl rfl rfl rfl (Nat.le_of_ble_eq_true rfl) dX4_addPeeled_10 ?_
  refine wp_if_eq (tgt := 25) hc dX4_addPeeled_13 (by decide) (fun c13 => ?_) (fun c13 => ?_)
  · refine wp_bipush (v := (-2)) hc dX4_addPeeled_25 (by decide) ?_
    refine wp_iret hc hr hk ?_ dX4_addPeeled_27
    show ((-2), M) = sX4_addPeeled M q1 i2 i3 i4
    rw [sX4_addPeeled, if_neg c5, if_pos c13]
  refine wp_aload_n hc 1 dX4_addPeeled_16 rfl ?_
  refine wp_iload hc 4 dX4_addPeeled_17 rfl ?_
  refine wp_callVf (As := [.int i4]) (rest := []) (j := (16 + 12 * q1)) (v := (fX2_hasBox M q1 i4)) hc hx (kX2_hasBox l D cy z hz M q1 i4 haq1) cw69 (Nat.zero_le _) (by have := haq1; omega) (ce_1 (kd_st haq1)) rfl rfl rfl rfl (Nat.le_of_ble_eq_true rfl) dX4_addPeeled_19 ?_
  refine wp_if_ne (tgt := 28) hc dX4_addPeeled_22 (by decide) (fun c22 => ?_) (fun c22 => ?_)
  · refine wp_aload_n hc 0 dX4_addPeeled_28 rfl ?_
    refine wp_get hc hx hin4 (j := 1) (by decide) (by decide) (ce_3 rfl) rfl 5 (by decide) hf30 rfl dX4_addPeeled_29 ?_
    refine wp_aload_n hc 1 dX4_addPeeled_32 rfl ?_
    refine wp_get hc hx hin2 (j := (16 + 12 * q1)) (Nat.zero_le _) (by have := haq1; omega) (ce_1 (kd_st haq1)) rfl 0 (by decide) hf73 rfl dX4_addPeeled_33 ?_
    refine wp_iload_n hc 2 dX4_addPeeled_36 rfl ?_
    refine wp_aald8 hc hx (j := (16 + 12 * q1 + 1)) (Nat.zero_le _) (by have := haq1; omega) (kd_bx haq1) i2.toNatClampNeg rfl (vin8 (show 0 ≤ i2.toInt ∧ i2.toInt < (8 : Nat) from ⟨(hasBox_8 c5).1, (hasBox_8 c5).2.1⟩)) dX4_addPeeled_37 ?_
    refine wp_callVw (As := [.ref (z (16 + 12 * q1 + 1 + 3 + i2.toNatClampNeg))]) (rest := []) (j := 7) (w := sX0_becomeTransfer M 7 (16 + 12 * q1 + 1 + 3 + i2.toNatClampNeg)) hc hx (kX0_becomeTransfer l D cy z hz M 7 (16 + 12 * q1 + 1 + 3 + i2.toNatClampNeg) (by decide) rfl (by have := haq1; have : i2.toNatClampNeg < 8 := (cl8 (show 0 ≤ i2.toInt ∧ i2.toInt < (8 : Nat) from ⟨(hasBox_8 c5).1, (hasBox_8 c5).2.1⟩)); omega) (kd_fo haq1 (cl8 (show 0 ≤ i2.toInt ∧ i2.toInt < (8 : Nat) from ⟨(hasBox_8 c5).1, (hasBox_8 c5).2.1⟩)))) cw90 (by decide) (by decide) (ce_0 rfl) rfl rfl rfl rfl (Nat.le_of_ble_eq_true rfl) dX4_addPeeled_38 (fun x1 hx1 => ?_)
    refine wp_if_eq (tgt := 97) hc dX4_addPeeled_41 (by decide) (fun c41 => ?_) (fun c41 => ?_)
    · refine wp_bipush (v := (-3)) hc dX4_addPeeled_97 (by decide) ?_
      refine wp_iret hc hr hk ?_ dX4_addPeeled_99
      show ((-3), x1.2) = sX4_addPeeled M q1 i2 i3 i4
      rw [sX4_addPeeled, if_neg c5, if_neg c13, if_neg c22, tk_eq hx1, if_pos c41]
    refine wp_aload_n hc 0 dX4_addPeeled_44 rfl ?_
    refine wp_get hc hx hin4 (j := 1) (by decide) (by decide) (ce_3 rfl) rfl 3 (by decide) hf24 rfl dX4_addPeeled_45 ?_
    refine wp_aload_n hc 1 dX4_addPeeled_48 rfl ?_
    refine wp_get hc hx hin2 (j := (16 + 12 * q1)) (Nat.zero_le _) (by have := haq1; omega) (ce_1 (kd_st haq1)) rfl 0 (by decide) hf73 rfl dX4_addPeeled_49 ?_
    refine wp_iload_n hc 3 dX4_addPeeled_52 rfl ?_
    refine wp_aald8 hc hx (j := (16 + 12 * q1 + 1)) (Nat.zero_le _) (by have := haq1; omega) (kd_bx haq1) i3.toNatClampNeg rfl (vin8 (show 0 ≤ i3.toInt ∧ i3.toInt < (8 : Nat) from ⟨(hasBox_8 c13).1, (hasBox_8 c13).2.1⟩)) dX4_addPeeled_53 ?_
    refine wp_callVw (As := [.ref (z (16 + 12 * q1 + 1 + 3 + i3.toNatClampNeg))]) (rest := []) (j := 5) (w := sX0_becomeTransfer x1.2 5 (16 + 12 * q1 + 1 + 3 + i3.toNatClampNeg)) hc hx (kX0_becomeTransfer l D cy z hz x1.2 5 (16 + 12 * q1 + 1 + 3 + i3.toNatClampNeg) (by decide) rfl (by have := haq1; have : i3.toNatClampNeg < 8 := (cl8 (show 0 ≤ i3.toInt ∧ i3.toInt < (8 : Nat) from ⟨(hasBox_8 c13).1, (hasBox_8 c13).2.1⟩)); omega) (kd_fo haq1 (cl8 (show 0 ≤ i3.toInt ∧ i3.toInt < (8 : Nat) from ⟨(hasBox_8 c13).1, (hasBox_8 c13).2.1⟩)))) cw90 (by decide) (by decide) (ce_0 rfl) rfl rfl rfl rfl (Nat.le_of_ble_eq_true rfl) dX4_addPeeled_54 (fun x2 hx2 => ?_)
    refine wp_if_eq (tgt := 97) hc dX4_addPeeled_57 (by decide) (fun c57 => ?_) (fun c57 => ?_)
    · refine wp_bipush (v := (-3)) hc dX4_addPeeled_97 (by decide) ?_
      refine wp_iret hc hr hk ?_ dX4_addPeeled_99
      show ((-3), x2.2) = sX4_addPeeled M q1 i2 i3 i4
      rw [sX4_addPeeled, if_neg c5, if_neg c13, if_neg c22, tk_eq hx1, if_neg c41, tk_eq hx2, if_pos c57]
    refine wp_aload_n hc 0 dX4_addPeeled_60 rfl ?_
    refine wp_get hc hx hin4 (j := 1) (by decide) (by decide) (ce_3 rfl) rfl 4 (by decide) hf27 rfl dX4_addPeeled_61 ?_
    refine wp_aload_n hc 1 dX4_addPeeled_64 rfl ?_
    refine wp_get hc hx hin2 (j := (16 + 12 * q1)) (Nat.zero_le _) (by have := haq1; omega) (ce_1 (kd_st haq1)) rfl 0 (by decide) hf73 rfl dX4_addPeeled_65 ?_
    refine wp_iload hc 4 dX4_addPeeled_68 rfl ?_
    refine wp_aald8 hc hx (j := (16 + 12 * q1 + 1)) (Nat.zero_le _) (by have := haq1; omega) (kd_bx haq1) i4.toNatClampNeg rfl (vin8 (show 0 ≤ i4.toInt ∧ i4.toInt < (8 : Nat) from ⟨(hasBox_8 c22).1, (hasBox_8 c22).2.1⟩)) dX4_addPeeled_70 ?_
    refine wp_callVw (As := [.ref (z (16 + 12 * q1 + 1 + 3 + i4.toNatClampNeg))]) (rest := []) (j := 6) (w := sX0_becomeTransfer x2.2 6 (16 + 12 * q1 + 1 + 3 + i4.toNatClampNeg)) hc hx (kX0_becomeTransfer l D cy z hz x2.2 6 (16 + 12 * q1 + 1 + 3 + i4.toNatClampNeg) (by decide) rfl (by have := haq1; have : i4.toNatClampNeg < 8 := (cl8 (show 0 ≤ i4.toInt ∧ i4.toInt < (8 : Nat) from ⟨(hasBox_8 c22).1, (hasBox_8 c22).2.1⟩)); omega) (kd_fo haq1 (cl8 (show 0 ≤ i4.toInt ∧ i4.toInt < (8 : Nat) from ⟨(hasBox_8 c22).1, (hasBox_8 c22).2.1⟩)))) cw90 (by decide) (by decide) (ce_0 rfl) rfl rfl rfl rfl (Nat.le_of_ble_eq_true rfl) dX4_addPeeled_71 (fun x3 hx3 => ?_)
    refine wp_if_eq (tgt := 97) hc dX4_addPeeled_74 (by decide) (fun c74 => ?_) (fun c74 => ?_)
    · refine wp_bipush (v := (-3)) hc dX4_addPeeled_97 (by decide) ?_
      refine wp_iret hc hr hk ?_ dX4_addPeeled_99
      show ((-3), x3.2) = sX4_addPeeled M q1 i2 i3 i4
      rw [sX4_addPeeled, if_neg c5, if_neg c13, if_neg c22, tk_eq hx1, if_neg c41, tk_eq hx2, if_neg c57, tk_eq hx3, if_pos c74]
    refine wp_aload_n hc 0 dX4_addPeeled_77 rfl ?_
    refine wp_get hc hx hin4 (j := 1) (by decide) (by decide) (ce_3 rfl) rfl 3 (by decide) hf24 rfl dX4_addPeeled_78 ?_
    refine wp_callVw (As := []) (rest := []) (j := 5) (w := sX0_invert x3.2 5) hc hx (kX0_invert l D cy z hz x3.2 5 (by decide) rfl) cw101 (by decide) (by decide) (ce_0 rfl) rfl rfl rfl rfl (Nat.le_of_ble_eq_true rfl) dX4_addPeeled_81 (fun x4 hx4 => ?_)
    refine wp_if_eq (tgt := 97) hc dX4_addPeeled_84 (by decide) (fun c84 => ?_) (fun c84 => ?_)
    · refine wp_bipush (v := (-3)) hc dX4_addPeeled_97 (by decide) ?_
      refine wp_iret hc hr hk ?_ dX4_addPeeled_99
      show ((-3), x4.2) = sX4_addPeeled M q1 i2 i3 i4
      rw [sX4_addPeeled, if_neg c5, if_neg c13, if_neg c22, tk_eq hx1, if_neg c41, tk_eq hx2, if_neg c57, tk_eq hx3, if_neg c74, tk_eq hx4, if_pos c84]
    refine wp_aload_n hc 0 dX4_addPeeled_87 rfl ?_
    refine wp_get hc hx hin4 (j := 1) (by decide) (by decide) (ce_3 rfl) rfl 4 (by decide) hf27 rfl dX4_addPeeled_88 ?_
    refine wp_callVw (As := []) (rest := []) (j := 6) (w := sX0_invert x4.2 6) hc hx (kX0_invert l D cy z hz x4.2 6 (by decide) rfl) cw101 (by decide) (by decide) (ce_0 rfl) rfl rfl rfl rfl (Nat.le_of_ble_eq_true rfl) dX4_addPeeled_91 (fun x5 hx5 => ?_)
    refine wp_if_ne (tgt := 100) hc dX4_addPeeled_94 (by decide) (fun c94 => ?_) (fun c94 => ?_)
    · refine wp_aload_n hc 0 dX4_addPeeled_100 rfl ?_
      refine wp_get hc hx hin4 (j := 1) (by decide) (by decide) (ce_3 rfl) rfl 5 (by decide) hf30 rfl dX4_addPeeled_101 ?_
      refine wp_aload_n hc 0 dX4_addPeeled_104 rfl ?_
      refine wp_get hc hx hin4 (j := 1) (by decide) (by decide) (ce_3 rfl) rfl 3 (by decide) hf24 rfl dX4_addPeeled_105 ?_
      refine wp_aload_n hc 0 dX4_addPeeled_108 rfl ?_
      refine wp_get hc hx hin4 (j := 1) (by decide) (by decide) (ce_3 rfl) rfl 5 (by decide) hf30 rfl dX4_addPeeled_109 ?_
      refine wp_callVvw (As := [.ref (z 5), .ref (z 7)]) (rest := []) (j := 7) (w := sX0_becomeProduct x5.2 7 5 7) hc hx (kX0_becomeProduct l D cy z hz x5.2 7 5 7 (by decide) rfl (by decide) rfl (by decide) rfl) cw94 (by decide) (by decide) (ce_0 rfl) rfl rfl rfl rfl (Nat.le_of_ble_eq_true rfl) dX4_addPeeled_112 (fun M6 hM6 => ?_)
      refine wp_aload_n hc 0 dX4_addPeeled_115 rfl ?_
      refine wp_get hc hx hin4 (j := 1) (by decide) (by decide) (ce_3 rfl) rfl 5 (by decide) hf30 rfl dX4_addPeeled_116 ?_
      refine wp_aload_n hc 0 dX4_addPeeled_119 rfl ?_
      refine wp_get hc hx hin4 (j := 1) (by decide) (by decide) (ce_3 rfl) rfl 5 (by decide) hf30 rfl dX4_addPeeled_120 ?_
      refine wp_aload_n hc 0 dX4_addPeeled_123 rfl ?_
      refine wp_get hc hx hin4 (j := 1) (by decide) (by decide) (ce_3 rfl) rfl 4 (by decide) hf27 rfl dX4_addPeeled_124 ?_
      refine wp_callVvw (As := [.ref (z 7), .ref (z 6)]) (rest := []) (j := 7) (w := sX0_becomeProduct M6 7 7 6) hc hx (kX0_becomeProduct l D cy z hz M6 7 7 6 (by decide) rfl (by decide) rfl (by decide) rfl) cw94 (by decide) (by decide) (ce_0 rfl) rfl rfl rfl rfl (Nat.le_of_ble_eq_true rfl) dX4_addPeeled_127 (fun M7 hM7 => ?_)
      refine wp_aload_n hc 0 dX4_addPeeled_130 rfl ?_
      refine wp_get hc hx hin4 (j := 1) (by decide) (by decide) (ce_3 rfl) rfl 6 (by decide) hf33 rfl dX4_addPeeled_131 ?_
      refine wp_aload_n hc 0 dX4_addPeeled_134 rfl ?_
      refine wp_get hc hx hin4 (j := 1) (by decide) (by decide) (ce_3 rfl) rfl 5 (by decide) hf30 rfl dX4_addPeeled_135 ?_
      refine wp_callVw (As := [.ref (z 7)]) (rest := []) (j := 8) (w := sX0_becomeBoxOf M7 8 7) hc hx (kX0_becomeBoxOf l D cy z hz M7 8 7 (by decide) rfl (by decide) rfl) cw98 (by decide) (by decide) (ce_0 rfl) rfl rfl rfl rfl (Nat.le_of_ble_eq_true rfl) dX4_addPeeled_138 (fun x8 hx8 => ?_)
      refine wp_if_eq (tgt := 155) hc dX4_addPeeled_141 (by decide) (fun c141 => ?_) (fun c141 => ?_)
      · refine wp_bipush (v := (-3)) hc dX4_addPeeled_155 (by decide) ?_
        refine wp_iret hc hr hk ?_ dX4_addPeeled_157
        show ((-3), x8.2) = sX4_addPeeled M q1 i2 i3 i4
        rw [sX4_addPeeled, if_neg c5, if_neg c13, if_neg c22, tk_eq hx1, if_neg c41, tk_eq hx2, if_neg c57, tk_eq hx3, if_neg c74, tk_eq hx4, if_neg c84, tk_eq hx5, if_neg c94, tk_eq hM6, tk_eq hM7, tk_eq hx8, if_pos c141]
      refine wp_aload_n hc 1 dX4_addPeeled_144 rfl ?_
      refine wp_aload_n hc 0 dX4_addPeeled_145 rfl ?_
      refine wp_get hc hx hin4 (j := 1) (by decide) (by decide) (ce_3 rfl) rfl 6 (by decide) hf33 rfl dX4_addPeeled_146 ?_
      refine wp_callVw (As := [.ref (z 8)]) (rest := []) (j := (16 + 12 * q1)) (w := sX2_addBox x8.2 q1 8) hc hx (kX2_addBox l D cy z hz x8.2 q1 8 haq1 (by decide) rfl) cw44 (Nat.zero_le _) (by have := haq1; omega) (ce_1 (kd_st haq1)) rfl rfl rfl rfl (Nat.le_of_ble_eq_true rfl) dX4_addPeeled_149 (fun x9 hx9 => ?_)
      refine wp_goto (tgt := 157) hc dX4_addPeeled_152 (by decide) ?_
      refine wp_iret hc hr hk ?_ dX4_addPeeled_157
      show (x9.1, x9.2) = sX4_addPeeled M q1 i2 i3 i4
      rw [sX4_addPeeled, if_neg c5, if_neg c13, if_neg c22, tk_eq hx1, if_neg c41, tk_eq hx2, if_neg c57, tk_eq hx3, if_neg c74, tk_eq hx4, if_neg c84, tk_eq hx5, if_neg c94, tk_eq hM6, tk_eq hM7, tk_eq hx8, if_neg c141, tk_eq hx9]
    refine wp_bipush (v := (-3)) hc dX4_addPeeled_97 (by decide) ?_
    refine wp_iret hc hr hk ?_ dX4_addPeeled_99
    show ((-3), x5.2) = sX4_addPeeled M q1 i2 i3 i4
    rw [sX4_addPeeled, if_neg c5, if_neg c13, if_neg c22, tk_eq hx1, if_neg c41, tk_eq hx2, if_neg c57, tk_eq hx3, if_neg c74, tk_eq hx4, if_neg c84, tk_eq hx5, if_pos c94]
  refine wp_bipush (v := (-2)) hc dX4_addPeeled_25 (by decide) ?_
  refine wp_iret hc hr hk ?_ dX4_addPeeled_27
  show ((-2), M) = sX4_addPeeled M q1 i2 i3 i4
  rw [sX4_addPeeled, if_neg c5, if_neg c13, if_pos c22]
set_option maxRecDepth 10000 in
theorem kfX4_addPeeled (M : Mem) (q1 : Nat) (i2 : Int32) (i3 : Int32) (i4 : Int32) : KF2 (fun x => (2 ≤ x ∧ x ≤ 9) ∨ (16 + 12 * q1 ≤ x ∧ x < 28 + 12 * q1)) M (sX4_addPeeled M q1 i2 i3 i4) := by
  unfold sX4_addPeeled
  refine ite_ind (P := KF2 (fun x => (2 ≤ x ∧ x ≤ 9) ∨ (16 + 12 * q1 ≤ x ∧ x < 28 + 12 * q1)) M) (fun c1 => ?_) (fun c1 => ?_)
  · exact (show KF (fun x => (2 ≤ x ∧ x ≤ 9) ∨ (16 + 12 * q1 ≤ x ∧ x < 28 + 12 * q1)) M M from KF.rf)
  · refine ite_ind (P := KF2 (fun x => (2 ≤ x ∧ x ≤ 9) ∨ (16 + 12 * q1 ≤ x ∧ x < 28 + 12 * q1)) M) (fun c2 => ?_) (fun c2 => ?_)
    · exact (show KF (fun x => (2 ≤ x ∧ x ≤ 9) ∨ (16 + 12 * q1 ≤ x ∧ x < 28 + 12 * q1)) M M from KF.rf)
    · refine ite_ind (P := KF2 (fun x => (2 ≤ x ∧ x ≤ 9) ∨ (16 + 12 * q1 ≤ x ∧ x < 28 + 12 * q1)) M) (fun c3 => ?_) (fun c3 => ?_)
      · exact (show KF (fun x => (2 ≤ x ∧ x ≤ 9) ∨ (16 + 12 * q1 ≤ x ∧ x < 28 + 12 * q1)) M M from KF.rf)
      · refine tk_ind (P := KF2 (fun x => (2 ≤ x ∧ x ≤ 9) ∨ (16 + 12 * q1 ≤ x ∧ x < 28 + 12 * q1)) M) _ _ (fun x1 hx1 => ?_)
        have k4 : KF2 (fun x => (2 ≤ x ∧ x ≤ 9) ∨ (16 + 12 * q1 ≤ x ∧ x < 28 + 12 * q1)) M x1 := by rw [hx1]; exact KF2.mono (kfX0_becomeTransfer _ _ _) (fun x h => by first | exact h | ((try dsimp only at h ⊢); omega))
        refine ite_ind (P := KF2 (fun x => (2 ≤ x ∧ x ≤ 9) ∨ (16 + 12 * q1 ≤ x ∧ x < 28 + 12 * q1)) M) (fun c5 => ?_) (fun c5 => ?_)
        · exact (show KF (fun x => (2 ≤ x ∧ x ≤ 9) ∨ (16 + 12 * q1 ≤ x ∧ x < 28 + 12 * q1)) M x1.2 from k4)
        · refine tk_ind (P := KF2 (fun x => (2 ≤ x ∧ x ≤ 9) ∨ (16 + 12 * q1 ≤ x ∧ x < 28 + 12 * q1)) M) _ _ (fun x2 hx2 => ?_)
          have k6 : KF2 (fun x => (2 ≤ x ∧ x ≤ 9) ∨ (16 + 12 * q1 ≤ x ∧ x < 28 + 12 * q1)) x1.2 x2 := by rw [hx2]; exact KF2.mono (kfX0_becomeTransfer _ _ _) (fun x h => by first | exact h | ((try dsimp only at h ⊢); omega))
          refine ite_ind (P := KF2 (fun x => (2 ≤ x ∧ x ≤ 9) ∨ (16 + 12 * q1 ≤ x ∧ x < 28 + 12 * q1)) M) (fun c7 => ?_) (fun c7 => ?_)
          · exact (show KF (fun x => (2 ≤ x ∧ x ≤ 9) ∨ (16 + 12 * q1 ≤ x ∧ x < 28 + 12 * q1)) M x2.2 from KF.trans k4 (k6))
          · refine tk_ind (P := KF2 (fun x => (2 ≤ x ∧ x ≤ 9) ∨ (16 + 12 * q1 ≤ x ∧ x < 28 + 12 * q1)) M) _ _ (fun x3 hx3 => ?_)
            have k8 : KF2 (fun x => (2 ≤ x ∧ x ≤ 9) ∨ (16 + 12 * q1 ≤ x ∧ x < 28 + 12 * q1)) x2.2 x3 := by rw [hx3]; exact KF2.mono (kfX0_becomeTransfer _ _ _) (fun x h => by first | exact h | ((try dsimp only at h ⊢); omega))
            refine ite_ind (P := KF2 (fun x => (2 ≤ x ∧ x ≤ 9) ∨ (16 + 12 * q1 ≤ x ∧ x < 28 + 12 * q1)) M) (fun c9 => ?_) (fun c9 => ?_)
            · exact (show KF (fun x => (2 ≤ x ∧ x ≤ 9) ∨ (16 + 12 * q1 ≤ x ∧ x < 28 + 12 * q1)) M x3.2 from KF.trans k4 (KF.trans k6 (k8)))
            · refine tk_ind (P := KF2 (fun x => (2 ≤ x ∧ x ≤ 9) ∨ (16 + 12 * q1 ≤ x ∧ x < 28 + 12 * q1)) M) _ _ (fun x4 hx4 => ?_)
              have k10 : KF2 (fun x => (2 ≤ x ∧ x ≤ 9) ∨ (16 + 12 * q1 ≤ x ∧ x < 28 + 12 * q1)) x3.2 x4 := by rw [hx4]; exact KF2.mono (kfX0_invert _ _) (fun x h => by first | exact h | ((try dsimp only at h ⊢); omega))
              refine ite_ind (P := KF2 (fun x => (2 ≤ x ∧ x ≤ 9) ∨ (16 + 12 * q1 ≤ x ∧ x < 28 + 12 * q1)) M) (fun c11 => ?_) (fun c11 => ?_)
              · exact (show KF (fun x => (2 ≤ x ∧ x ≤ 9) ∨ (16 + 12 * q1 ≤ x ∧ x < 28 + 12 * q1)) M x4.2 from KF.trans k4 (KF.trans k6 (KF.trans k8 (k10))))
              · refine tk_ind (P := KF2 (fun x => (2 ≤ x ∧ x ≤ 9) ∨ (16 + 12 * q1 ≤ x ∧ x < 28 + 12 * q1)) M) _ _ (fun x5 hx5 => ?_)
                have k12 : KF2 (fun x => (2 ≤ x ∧ x ≤ 9) ∨ (16 + 12 * q1 ≤ x ∧ x < 28 + 12 * q1)) x4.2 x5 := by rw [hx5]; exact KF2.mono (kfX0_invert _ _) (fun x h => by first | exact h | ((try dsimp only at h ⊢); omega))
                refine ite_ind (P := KF2 (fun x => (2 ≤ x ∧ x ≤ 9) ∨ (16 + 12 * q1 ≤ x ∧ x < 28 + 12 * q1)) M) (fun c13 => ?_) (fun c13 => ?_)
                · exact (show KF (fun x => (2 ≤ x ∧ x ≤ 9) ∨ (16 + 12 * q1 ≤ x ∧ x < 28 + 12 * q1)) M x5.2 from KF.trans k4 (KF.trans k6 (KF.trans k8 (KF.trans k10 (k12)))))
                · refine tk_ind (P := KF2 (fun x => (2 ≤ x ∧ x ≤ 9) ∨ (16 + 12 * q1 ≤ x ∧ x < 28 + 12 * q1)) M) _ _ (fun M6 hM6 => ?_)
                  have k14 : KF (fun x => (2 ≤ x ∧ x ≤ 9) ∨ (16 + 12 * q1 ≤ x ∧ x < 28 + 12 * q1)) x5.2 M6 := by rw [hM6]; exact KF.mono (kfX0_becomeProduct _ _ _ _) (fun x h => by first | exact h | ((try dsimp only at h ⊢); omega))
                  refine tk_ind (P := KF2 (fun x => (2 ≤ x ∧ x ≤ 9) ∨ (16 + 12 * q1 ≤ x ∧ x < 28 + 12 * q1)) M) _ _ (fun M7 hM7 => ?_)
                  have k15 : KF (fun x => (2 ≤ x ∧ x ≤ 9) ∨ (16 + 12 * q1 ≤ x ∧ x < 28 + 12 * q1)) M6 M7 := by rw [hM7]; exact KF.mono (kfX0_becomeProduct _ _ _ _) (fun x h => by first | exact h | ((try dsimp only at h ⊢); omega))
                  refine tk_ind (P := KF2 (fun x => (2 ≤ x ∧ x ≤ 9) ∨ (16 + 12 * q1 ≤ x ∧ x < 28 + 12 * q1)) M) _ _ (fun x8 hx8 => ?_)
                  have k16 : KF2 (fun x => (2 ≤ x ∧ x ≤ 9) ∨ (16 + 12 * q1 ≤ x ∧ x < 28 + 12 * q1)) M7 x8 := by rw [hx8]; exact KF2.mono (kfX0_becomeBoxOf _ _ _) (fun x h => by first | exact h | ((try dsimp only at h ⊢); omega))
                  refine ite_ind (P := KF2 (fun x => (2 ≤ x ∧ x ≤ 9) ∨ (16 + 12 * q1 ≤ x ∧ x < 28 + 12 * q1)) M) (fun c17 => ?_) (fun c17 => ?_)
                  · exact (show KF (fun x => (2 ≤ x ∧ x ≤ 9) ∨ (16 + 12 * q1 ≤ x ∧ x < 28 + 12 * q1)) M x8.2 from KF.trans k4 (KF.trans k6 (KF.trans k8 (KF.trans k10 (KF.trans k12 (KF.trans k14 (KF.trans k15 (k16))))))))
                  · refine tk_ind (P := KF2 (fun x => (2 ≤ x ∧ x ≤ 9) ∨ (16 + 12 * q1 ≤ x ∧ x < 28 + 12 * q1)) M) _ _ (fun x9 hx9 => ?_)
                    have k18 : KF2 (fun x => (2 ≤ x ∧ x ≤ 9) ∨ (16 + 12 * q1 ≤ x ∧ x < 28 + 12 * q1)) x8.2 x9 := by rw [hx9]; exact KF2.mono (kfX2_addBox _ _ _) (fun x h => by first | exact h | ((try dsimp only at h ⊢); omega))
                    exact (show KF (fun x => (2 ≤ x ∧ x ≤ 9) ∨ (16 + 12 * q1 ≤ x ∧ x < 28 + 12 * q1)) M x9.2 from KF.trans k4 (KF.trans k6 (KF.trans k8 (KF.trans k10 (KF.trans k12 (KF.trans k14 (KF.trans k15 (KF.trans k16 (k18)))))))))
def sX4_formNumber (M : Mem) (q1 : Nat) (i2 : Int32) (i3 : Int32) (i4 : Int32) : Int32 × Mem :=
  if (fX2_hasBox M q1 i2) = 0 then
  ((-2), M)
  else
  if (fX5_isBelow i4 4) = 0 then
  ((-2), M)
  else
  if i3 < 1 then
  ((-2), M)
  else
  if i3 ≤ 3 then
  if i3 = 1 then
  tk (sX0_becomeTransfer M 5 (16 + 12 * q1 + 1 + 3 + i2.toNatClampNeg)) fun x3 =>
  if x3.1 = 0 then
  ((-3), x3.2)
  else
  ((fX0_at x3.2 5 i4), x3.2)
  else
  tk (sX0_becomeSecondForm M 5 (16 + 12 * q1 + 1 + 3 + i2.toNatClampNeg)) fun x1 =>
  if x1.1 = 0 then
  ((-3), x1.2)
  else
  if i3 = 2 then
  ((fX0_at x1.2 5 i4), x1.2)
  else
  tk (sX0_invert x1.2 5) fun x2 =>
  if x2.1 = 0 then
  ((-3), x2.2)
  else
  ((fX0_at x2.2 5 i4), x2.2)
  else
  ((-2), M)
set_option maxHeartbeats 4000000 in
set_option maxRecDepth 100000 in
theorem kX4_formNumber (l : Launch) (D : va_G) (cy : Nat → ClassId) (z : Nat → Nat) (hz : zI z) (M : Mem) (q1 : Nat) (i2 : Int32) (i3 : Int32) (i4 : Int32) (haq1 : q1 < 7) : KI l yX4_formNumber wsX4_formNumber { frames := 4, cells := 0, slots := 0, locals := 100 } D cy z 0 100 [.ref (z 1), .ref (z (16 + 12 * q1)), .int i2, .int i3, .int i4] M (fun r u => (r, u) = sX4_formNumber M q1 i2 i3 i4) := by
  refine met_wp (lv := [(0, .ref (z 1)), (1, .ref (z (16 + 12 * q1))), (2, .int i2), (3, .int i3), (4, .int i4)]) hz (by decide) (by decide) rfl rfl (Nat.le_of_ble_eq_true rfl) rfl ?_
  intro p e s m below meth c hc hx hr hk
  have hNW := hx.2.1
  have hin2 : ∀ w ∈ wsX20, w ∈ wsX4_formNumber := by decide +kernel
  have hin4 : ∀ w ∈ wsX40, w ∈ wsX4_formNumber := by decide +kernel
  have hf24 : Cond.fieldLink RX4 24 (TX4 3).1 (TX4 3).2.1 (TX4 3).2.2.1 ∈ wsX4_formNumber := by decide +kernel
  have hf73 : Cond.fieldLink RX4 73 (TX2 0).1 (TX2 0).2.1 (TX2 0).2.2.1 ∈ wsX4_formNumber := by decide +kernel
  have cw69 : CallW ({ frames := 4, cells := 0, slots := 0, locals := 100 }) s _ RX4 RX2 69 yX2_hasBox cX2_hasBox 2 (some .boolean) wsX2_hasBox ({ frames := 1, cells := 0, slots := 0, locals := 21 }) 0 0 1 := cwV 1 hc.2.2.2.2 gX4_formNumber_X2_hasBox rfl rfl rfl (by decide +kernel) ⟨Nat.le_of_ble_eq_true rfl, Nat.le_of_ble_eq_true rfl⟩
  have cw90 : CallW ({ frames := 4, cells := 0, slots := 0, locals := 100 }) s _ RX4 RX0 90 yX0_becomeTransfer cX0_becomeTransfer 3 (some .boolean) wsX0_becomeTransfer ({ frames := 3, cells := 0, slots := 0, locals := 73 }) 0 0 1 := cwV 1 hc.2.2.2.2 gX4_formNumber_X0_becomeTransfer rfl rfl rfl (by decide +kernel) ⟨Nat.le_of_ble_eq_true rfl, Nat.le_of_ble_eq_true rfl⟩
  have cw101 : CallW ({ frames := 4, cells := 0, slots := 0, locals := 100 }) s _ RX4 RX0 101 yX0_invert cX0_invert 2 (some .boolean) wsX0_invert ({ frames := 3, cells := 0, slots := 0, locals := 73 }) 0 0 0 := cwV 0 hc.2.2.2.2 gX4_formNumber_X0_invert rfl rfl rfl (by decide +kernel) ⟨Nat.le_of_ble_eq_true rfl, Nat.le_of_ble_eq_true rfl⟩
  have cw105 : va_CN ({ frames := 4, cells := 0, slots := 0, locals := 100 }) s _ RX4 105 yX5_isBelow RX5 cX5_isBelow 2 (some .boolean) wsX5_isBelow ({ frames := 0, cells := 0, slots := 0, locals := 0 }) 0 0 2 ∧ (Cond.static yX5_isBelow).before _ s = true ∧ True := ⟨va_cnB 2 hc.2.2.2.2 gX4_formNumber_X5_isBelow_n105 rfl rfl rfl hNW.2.2.1 (hc.2.2.2.2 _ (by decide +kernel)) (by decide +kernel) ⟨Nat.le_of_ble_eq_true rfl, Nat.le_of_ble_eq_true rfl⟩, hc.2.2.2.2 _ (by decide +kernel), trivial⟩
  have cw108 : CallW ({ frames := 4, cells := 0, slots := 0, locals := 100 }) s _ RX4 RX0 108 yX0_becomeSecondForm cX0_becomeSecondForm 8 (some .boolean) wsX0_becomeSecondForm ({ frames := 3, cells := 0, slots := 0, locals := 73 }) 0 0 1 := cwV 1 hc.2.2.2.2 gX4_formNumber_X0_becomeSecondForm rfl rfl rfl (by decide +kernel) ⟨Nat.le_of_ble_eq_true rfl, Nat.le_of_ble_eq_true rfl⟩
  have cw111 : CallW ({ frames := 4, cells := 0, slots := 0, locals := 100 }) s _ RX4 RX0 111 yX0_at cX0_at 2 (some .int) wsX0_at ({ frames := 0, cells := 0, slots := 0, locals := 0 }) 0 0 1 := cwV 1 hc.2.2.2.2 gX4_formNumber_X0_at rfl rfl rfl (by decide +kernel) ⟨Nat.le_of_ble_eq_true rfl, Nat.le_of_ble_eq_true rfl⟩
  refine wp_aload_n hc 1 dX4_formNumber_0 rfl ?_
  refine wp_iload_n hc 2 dX4_formNumber_1 rfl ?_
  refine wp_callVf (As := [.int i2]) (rest := []) (j := (16 + 12 * q1)) (v := (fX2_hasBox M q1 i2)) hc hx (kX2_hasBox l D cy z hz M q1 i2 haq1) cw69 (Nat.zero_le _) (by have := haq1; omega) (ce_1 (kd_st haq1)) rfl rfl rfl rfl (Nat.le_of_ble_eq_true rfl) dX4_formNumber_2 ?_
  refine wp_if_eq (tgt := 27) hc dX4_formNumber_5 (by decide) (fun c5 => ?_) (fun c5 => ?_)
  · refine wp_bipush (v := (-2)) hc dX4_formNumber_27 (by decide) ?_
    refine wp_iret hc hr hk ?_ dX4_formNumber_29
    show ((-2), M) = sX4_formNumber M q1 i2 i3 i4
    rw [sX4_formNumber, if_pos c5]
  refine wp_iload hc 4 dX4_formNumber_8 rfl ?_
  refine wp_iconst (v := 4) hc dX4_formNumber_10 (by decide) ?_
  refine wp_callNg (As := [.int i4, .int 4]) (rest := []) (v := (fX5_isBelow i4 4)) hc hNW (kX5_isBelow l i4 4) cw105 rfl rfl (Nat.le_of_ble_eq_true rfl) dX4_formNumber_11 ?_
  refine wp_if_eq (tgt := 27) hc dX4_formNumber_14 (by decide) (fun c14 => ?_) (fun c14 => ?_)
  · refine wp_bipush (v := (-2)) hc dX4_formNumber_27 (by decide) ?_
    refine wp_iret hc hr hk ?_ dX4_formNumber_29
    show ((-2), M) = sX4_formNumber M q1 i2 i3 i4
    rw [sX4_formNumber, if_neg c5, if_pos c14]
  refine wp_iload_n hc 3 dX4_formNumber_17 rfl ?_
  refine wp_iconst (v := 1) hc dX4_formNumber_18 (by decide) ?_
  refine wp_icmp_lt (tgt := 27) hc dX4_formNumber_19 (by decide) (fun c19 => ?_) (fun c19 => ?_)
  · refine wp_bipush (v := (-2)) hc dX4_formNumber_27 (by decide) ?_
    refine wp_iret hc hr hk ?_ dX4_formNumber_29
    show ((-2), M) = sX4_formNumber M q1 i2 i3 i4
    rw [sX4_formNumber, if_neg c5, if_neg c14, if_pos c19]
  refine wp_iload_n hc 3 dX4_formNumber_22 rfl ?_
  refine wp_iconst (v := 3) hc dX4_formNumber_23 (by decide) ?_
  refine wp_icmp_le (tgt := 30) hc dX4_formNumber_24 (by decide) (fun c24 => ?_) (fun c24 => ?_)
  · refine wp_iload_n hc 3 dX4_formNumber_30 rfl ?_
    refine wp_iconst (v := 1) hc dX4_formNumber_31 (by decide) ?_
    refine wp_icmp_ne (tgt := 53) hc dX4_formNumber_32 (by decide) (fun c32 => ?_) (fun c32 => ?_)
    · refine wp_aload_n hc 0 dX4_formNumber_53 rfl ?_
      refine wp_get hc hx hin4 (j := 1) (by decide) (by decide) (ce_3 rfl) rfl 3 (by decide) hf24 rfl dX4_formNumber_54 ?_
      refine wp_aload_n hc 1 dX4_formNumber_57 rfl ?_
      refine wp_get hc hx hin2 (j := (16 + 12 * q1)) (Nat.zero_le _) (by have := haq1; omega) (ce_1 (kd_st haq1)) rfl 0 (by decide) hf73 rfl dX4_formNumber_58 ?_
      refine wp_iload_n hc 2 dX4_formNumber_61 rfl ?_
      refine wp_aald8 hc hx (j := (16 + 12 * q1 + 1)) (Nat.zero_le _) (by have := haq1; omega) (kd_bx haq1) i2.toNatClampNeg rfl (vin8 (show 0 ≤ i2.toInt ∧ i2.toInt < (8 : Nat) from ⟨(hasBox_8 c5).1, (hasBox_8 c5).2.1⟩)) dX4_formNumber_62 ?_
      refine wp_callVw (As := [.ref (z (16 + 12 * q1 + 1 + 3 + i2.toNatClampNeg))]) (rest := []) (j := 5) (w := sX0_becomeSecondForm M 5 (16 + 12 * q1 + 1 + 3 + i2.toNatClampNeg)) hc hx (kX0_becomeSecondForm l D cy z hz M 5 (16 + 12 * q1 + 1 + 3 + i2.toNatClampNeg) (by decide) rfl (by have := haq1; have : i2.toNatClampNeg < 8 := (cl8 (show 0 ≤ i2.toInt ∧ i2.toInt < (8 : Nat) from ⟨(hasBox_8 c5).1, (hasBox_8 c5).2.1⟩)); omega) (kd_fo haq1 (cl8 (show 0 ≤ i2.toInt ∧ i2.toInt < (8 : Nat) from ⟨(hasBox_8 c5).1, (hasBox_8 c5).2.1⟩)))) cw108 (by decide) (by decide) (ce_0 rfl) rfl rfl rfl rfl (Nat.le_of_ble_eq_true rfl) dX4_formNumber_63 (fun x1 hx1 => ?_)
      refine wp_if_eq (tgt := 88) hc dX4_formNumber_66 (by decide) (fun c66 => ?_) (fun c66 => ?_)
      · refine wp_iconst (v := 0) hc dX4_formNumber_88 (by decide) ?_
        refine wp_istore (lv' := [(5, .int 0), (0, .ref (z 1)), (1, .ref (z (16 + 12 * q1))), (2, .int i2), (3, .int i3), (4, .int i4)]) hc dX4_formNumber_89 (by decide) rfl ?_
        refine wp_iload hc 0 dX4_formNumber_91 rfl ?_
        refine wp_if_eq (tgt := 108) hc dX4_formNumber_93 (by decide) (fun _ => ?_) (fun c => absurd c (by decide))
        refine wp_bipush (v := (-3)) hc dX4_formNumber_108 (by decide) ?_
        refine wp_iret hc hr hk ?_ dX4_formNumber_110
        show ((-3), x1.2) = sX4_formNumber M q1 i2 i3 i4
        rw [sX4_formNumber, if_neg c5, if_neg c14, if_neg c19, if_pos c24, if_neg c32, tk_eq hx1, if_pos c66]
      refine wp_iload_n hc 3 dX4_formNumber_69 rfl ?_
      refine wp_iconst (v := 2) hc dX4_formNumber_70 (by decide) ?_
      refine wp_icmp_eq (tgt := 84) hc dX4_formNumber_71 (by decide) (fun c71 => ?_) (fun c71 => ?_)
      · refine wp_iconst (v := 1) hc dX4_formNumber_84 (by decide) ?_
        refine wp_goto (tgt := 89) hc dX4_formNumber_85 (by decide) ?_
        refine wp_istore (lv' := [(5, .int 1), (0, .ref (z 1)), (1, .ref (z (16 + 12 * q1))), (2, .int i2), (3, .int i3), (4, .int i4)]) hc dX4_formNumber_89 (by decide) rfl ?_
        refine wp_iload hc 0 dX4_formNumber_91 rfl ?_
        refine wp_if_eq (tgt := 108) hc dX4_formNumber_93 (by decide) (fun c => absurd c (by decide)) (fun _ => ?_)
        refine wp_aload_n hc 1 dX4_formNumber_96 rfl ?_
        refine wp_get hc hx hin4 (j := 1) (by decide) (by decide) (ce_3 rfl) rfl 3 (by decide) hf24 rfl dX4_formNumber_97 ?_
        refine wp_iload hc 5 dX4_formNumber_100 rfl ?_
        refine wp_callVf (As := [.int i4]) (rest := []) (j := 5) (v := (fX0_at x1.2 5 i4)) hc hx (kX0_at l D cy z hz x1.2 5 i4 (by decide) rfl) cw111 (by decide) (by decide) (ce_0 rfl) rfl rfl rfl rfl (Nat.le_of_ble_eq_true rfl) dX4_formNumber_102 ?_
        refine wp_goto (tgt := 110) hc dX4_formNumber_105 (by decide) ?_
        refine wp_iret hc hr hk ?_ dX4_formNumber_110
        show ((fX0_at x1.2 5 i4), x1.2) = sX4_formNumber M q1 i2 i3 i4
        rw [sX4_formNumber, if_neg c5, if_neg c14, if_neg c19, if_pos c24, if_neg c32, tk_eq hx1, if_neg c66, if_pos c71]
      refine wp_aload_n hc 0 dX4_formNumber_74 rfl ?_
      refine wp_get hc hx hin4 (j := 1) (by decide) (by decide) (ce_3 rfl) rfl 3 (by decide) hf24 rfl dX4_formNumber_75 ?_
      refine wp_callVw (As := []) (rest := []) (j := 5) (w := sX0_invert x1.2 5) hc hx (kX0_invert l D cy z hz x1.2 5 (by decide) rfl) cw101 (by decide) (by decide) (ce_0 rfl) rfl rfl rfl rfl (Nat.le_of_ble_eq_true rfl) dX4_formNumber_78 (fun x2 hx2 => ?_)
      refine wp_if_eq (tgt := 88) hc dX4_formNumber_81 (by decide) (fun c81 => ?_) (fun c81 => ?_)
      · refine wp_iconst (v := 0) hc dX4_formNumber_88 (by decide) ?_
        refine wp_istore (lv' := [(5, .int 0), (0, .ref (z 1)), (1, .ref (z (16 + 12 * q1))), (2, .int i2), (3, .int i3), (4, .int i4)]) hc dX4_formNumber_89 (by decide) rfl ?_
        refine wp_iload hc 0 dX4_formNumber_91 rfl ?_
        refine wp_if_eq (tgt := 108) hc dX4_formNumber_93 (by decide) (fun _ => ?_) (fun c => absurd c (by decide))
        refine wp_bipush (v := (-3)) hc dX4_formNumber_108 (by decide) ?_
        refine wp_iret hc hr hk ?_ dX4_formNumber_110
        show ((-3), x2.2) = sX4_formNumber M q1 i2 i3 i4
        rw [sX4_formNumber, if_neg c5, if_neg c14, if_neg c19, if_pos c24, if_neg c32, tk_eq hx1, if_neg c66, if_neg c71, tk_eq hx2, if_pos c81]
      refine wp_iconst (v := 1) hc dX4_formNumber_84 (by decide) ?_
      refine wp_goto (tgt := 89) hc dX4_formNumber_85 (by decide) ?_
      refine wp_istore (lv' := [(5, .int 1), (0, .ref (z 1)), (1, .ref (z (16 + 12 * q1))), (2, .int i2), (3, .int i3), (4, .int i4)]) hc dX4_formNumber_89 (by decide) rfl ?_
      refine wp_iload hc 0 dX4_formNumber_91 rfl ?_
      refine wp_if_eq (tgt := 108) hc dX4_formNumber_93 (by decide) (fun c => absurd c (by decide)) (fun _ => ?_)
      refine wp_aload_n hc 1 dX4_formNumber_96 rfl ?_
      refine wp_get hc hx hin4 (j := 1) (by decide) (by decide) (ce_3 rfl) rfl 3 (by decide) hf24 rfl dX4_formNumber_97 ?_
      refine wp_iload hc 5 dX4_formNumber_100 rfl ?_
      refine wp_callVf (As := [.int i4]) (rest := []) (j := 5) (v := (fX0_at x2.2 5 i4)) hc hx (kX0_at l D cy z hz x2.2 5 i4 (by decide) rfl) cw111 (by decide) (by decide) (ce_0 rfl) rfl rfl rfl rfl (Nat.le_of_ble_eq_true rfl) dX4_formNumber_102 ?_
      refine wp_goto (tgt := 110) hc dX4_formNumber_105 (by decide) ?_
      refine wp_iret hc hr hk ?_ dX4_formNumber_110
      show ((fX0_at x2.2 5 i4), x2.2) = sX4_formNumber M q1 i2 i3 i4
      rw [sX4_formNumber, if_neg c5, if_neg c14, if_neg c19, if_pos c24, if_neg c32, tk_eq hx1, if_neg c66, if_neg c71, tk_eq hx2, if_neg c81]
    refine wp_aload_n hc 0 dX4_formNumber_35 rfl ?_
    refine wp_get hc hx hin4 (j := 1) (by decide) (by decide) (ce_3 rfl) rfl 3 (by decide) hf24 rfl dX4_formNumber_36 ?_
    refine wp_aload_n hc 1 dX4_formNumber_39 rfl ?_
    refine wp_get hc hx hin2 (j := (16 + 12 * q1)) (Nat.zero_le _) (by have := haq1; omega) (ce_1 (kd_st haq1)) rfl 0 (by decide) hf73 rfl dX4_formNumber_40 ?_
    refine wp_iload_n hc 2 dX4_formNumber_43 rfl ?_
    refine wp_aald8 hc hx (j := (16 + 12 * q1 + 1)) (Nat.zero_le _) (by have := haq1; omega) (kd_bx haq1) i2.toNatClampNeg rfl (vin8 (show 0 ≤ i2.toInt ∧ i2.toInt < (8 : Nat) from ⟨(hasBox_8 c5).1, (hasBox_8 c5).2.1⟩)) dX4_formNumber_44 ?_
    refine wp_callVw (As := [.ref (z (16 + 12 * q1 + 1 + 3 + i2.toNatClampNeg))]) (rest := []) (j := 5) (w := sX0_becomeTransfer M 5 (16 + 12 * q1 + 1 + 3 + i2.toNatClampNeg)) hc hx (kX0_becomeTransfer l D cy z hz M 5 (16 + 12 * q1 + 1 + 3 + i2.toNatClampNeg) (by decide) rfl (by have := haq1; have : i2.toNatClampNeg < 8 := (cl8 (show 0 ≤ i2.toInt ∧ i2.toInt < (8 : Nat) from ⟨(hasBox_8 c5).1, (hasBox_8 c5).2.1⟩)); omega) (kd_fo haq1 (cl8 (show 0 ≤ i2.toInt ∧ i2.toInt < (8 : Nat) from ⟨(hasBox_8 c5).1, (hasBox_8 c5).2.1⟩)))) cw90 (by decide) (by decide) (ce_0 rfl) rfl rfl rfl rfl (Nat.le_of_ble_eq_true rfl) dX4_formNumber_45 (fun x3 hx3 => ?_)
    refine wp_istore (lv' := [(5, .int x3.1), (0, .ref (z 1)), (1, .ref (z (16 + 12 * q1))), (2, .int i2), (3, .int i3), (4, .int i4)]) hc dX4_formNumber_48 (by decide) rfl ?_
    refine wp_goto (tgt := 91) hc dX4_formNumber_50 (by decide) ?_
    refine wp_iload hc 0 dX4_formNumber_91 rfl ?_
    refine wp_if_eq (tgt := 108) hc dX4_formNumber_93 (by decide) (fun c93 => ?_) (fun c93 => ?_)
    · refine wp_bipush (v := (-3)) hc dX4_formNumber_108 (by decide) ?_
      refine wp_iret hc hr hk ?_ dX4_formNumber_110
      show ((-3), x3.2) = sX4_formNumber M q1 i2 i3 i4
      rw [sX4_formNumber, if_neg c5, if_neg c14, if_neg c19, if_pos c24, if_pos c32, tk_eq hx3, if_pos c93]
    refine wp_aload_n hc 1 dX4_formNumber_96 rfl ?_
    refine wp_get hc hx hin4 (j := 1) (by decide) (by decide) (ce_3 rfl) rfl 3 (by decide) hf24 rfl dX4_formNumber_97 ?_
    refine wp_iload hc 5 dX4_formNumber_100 rfl ?_
    refine wp_callVf (As := [.int i4]) (rest := []) (j := 5) (v := (fX0_at x3.2 5 i4)) hc hx (kX0_at l D cy z hz x3.2 5 i4 (by decide) rfl) cw111 (by decide) (by decide) (ce_0 rfl) rfl rfl rfl rfl (Nat.le_of_ble_eq_true rfl) dX4_formNumber_102 ?_
    refine wp_goto (tgt := 110) hc dX4_formNumber_105 (by decide) ?_
    refine wp_iret hc hr hk ?_ dX4_formNumber_110
    show ((fX0_at x3.2 5 i4), x3.2) = sX4_formNumber M q1 i2 i3 i4
    rw [sX4_formNumber, if_neg c5, if_neg c14, if_neg c19, if_pos c24, if_pos c32, tk_eq hx3, if_neg c93]
  refine wp_bipush (v := (-2)) hc dX4_formNumber_27 (by decide) ?_
  refine wp_iret hc hr hk ?_ dX4_formNumber_29
  show ((-2), M) = sX4_formNumber M q1 i2 i3 i4
  rw [sX4_formNumber, if_neg c5, if_neg c14, if_neg c19, if_neg c24]
set_option maxRecDepth 10000 in
theorem kfX4_formNumber (M : Mem) (q1 : Nat) (i2 : Int32) (i3 : Int32) (i4 : Int32) : KF2 (fun x => 2 ≤ x ∧ x ≤ 9) M (sX4_formNumber M q1 i2 i3 i4) := by
  unfold sX4_formNumber
  refine ite_ind (P := KF2 (fun x => 2 ≤ x ∧ x ≤ 9) M) (fun c1 => ?_) (fun c1 => ?_)
  · exact (show KF (fun x => 2 ≤ x ∧ x ≤ 9) M M from KF.rf)
  · refine ite_ind (P := KF2 (fun x => 2 ≤ x ∧ x ≤ 9) M) (fun c2 => ?_) (fun c2 => ?_)
    · exact (show KF (fun x => 2 ≤ x ∧ x ≤ 9) M M from KF.rf)
    · refine ite_ind (P := KF2 (fun x => 2 ≤ x ∧ x ≤ 9) M) (fun c3 => ?_) (fun c3 => ?_)
      · exact (show KF (fun x => 2 ≤ x ∧ x ≤ 9) M M from KF.rf)
      · refine ite_ind (P := KF2 (fun x => 2 ≤ x ∧ x ≤ 9) M) (fun c4 => ?_) (fun c4 => ?_)
        · refine ite_ind (P := KF2 (fun x => 2 ≤ x ∧ x ≤ 9) M) (fun c5 => ?_) (fun c5 => ?_)
          · refine tk_ind (P := KF2 (fun x => 2 ≤ x ∧ x ≤ 9) M) _ _ (fun x3 hx3 => ?_)
            have k6 : KF2 (fun x => 2 ≤ x ∧ x ≤ 9) M x3 := by rw [hx3]; exact KF2.mono (kfX0_becomeTransfer _ _ _) (fun x h => by first | exact h | ((try dsimp only at h ⊢); omega))
            refine ite_ind (P := KF2 (fun x => 2 ≤ x ∧ x ≤ 9) M) (fun c7 => ?_) (fun c7 => ?_)
            · exact (show KF (fun x => 2 ≤ x ∧ x ≤ 9) M x3.2 from k6)
            · exact (show KF (fun x => 2 ≤ x ∧ x ≤ 9) M x3.2 from k6)
          · refine tk_ind (P := KF2 (fun x => 2 ≤ x ∧ x ≤ 9) M) _ _ (fun x1 hx1 => ?_)
            have k8 : KF2 (fun x => 2 ≤ x ∧ x ≤ 9) M x1 := by rw [hx1]; exact KF2.mono (kfX0_becomeSecondForm _ _ _) (fun x h => by first | exact h | ((try dsimp only at h ⊢); omega))
            refine ite_ind (P := KF2 (fun x => 2 ≤ x ∧ x ≤ 9) M) (fun c9 => ?_) (fun c9 => ?_)
            · exact (show KF (fun x => 2 ≤ x ∧ x ≤ 9) M x1.2 from k8)
            · refine ite_ind (P := KF2 (fun x => 2 ≤ x ∧ x ≤ 9) M) (fun c10 => ?_) (fun c10 => ?_)
              · exact (show KF (fun x => 2 ≤ x ∧ x ≤ 9) M x1.2 from k8)
              · refine tk_ind (P := KF2 (fun x => 2 ≤ x ∧ x ≤ 9) M) _ _ (fun x2 hx2 => ?_)
                have k11 : KF2 (fun x => 2 ≤ x ∧ x ≤ 9) x1.2 x2 := by rw [hx2]; exact KF2.mono (kfX0_invert _ _) (fun x h => by first | exact h | ((try dsimp only at h ⊢); omega))
                refine ite_ind (P := KF2 (fun x => 2 ≤ x ∧ x ≤ 9) M) (fun c12 => ?_) (fun c12 => ?_)
                · exact (show KF (fun x => 2 ≤ x ∧ x ≤ 9) M x2.2 from KF.trans k8 (k11))
                · exact (show KF (fun x => 2 ≤ x ∧ x ≤ 9) M x2.2 from KF.trans k8 (k11))
        · exact (show KF (fun x => 2 ≤ x ∧ x ≤ 9) M M from KF.rf)
def sX4_toldNumber (M : Mem) (q1 : Nat) (i2 : Int32) (i3 : Int32) : Int32 × Mem :=
  if (fX2_hasBox M q1 i2) = 0 then
  ((-2), M)
  else
  if (fX5_isBelow i3 4) = 0 then
  ((-2), M)
  else
  tk (sX4_tells M (16 + 12 * q1 + 2) (16 + 12 * q1 + 1 + 3 + i2.toNatClampNeg)) fun x1 =>
  if x1.1 = 0 then
  ((-3), x1.2)
  else
  ((fX0_at x1.2 3 i3), x1.2)
set_option maxHeartbeats 4000000 in
set_option maxRecDepth 100000 in
theorem kX4_toldNumber (l : Launch) (D : va_G) (cy : Nat → ClassId) (z : Nat → Nat) (hz : zI z) (M : Mem) (q1 : Nat) (i2 : Int32) (i3 : Int32) (haq1 : q1 < 7) : KI l yX4_toldNumber wsX4_toldNumber { frames := 4, cells := 0, slots := 0, locals := 97 } D cy z 0 100 [.ref (z 1), .ref (z (16 + 12 * q1)), .int i2, .int i3] M (fun r u => (r, u) = sX4_toldNumber M q1 i2 i3) := by
  refine met_wp (lv := [(0, .ref (z 1)), (1, .ref (z (16 + 12 * q1))), (2, .int i2), (3, .int i3)]) hz (by decide) (by decide) rfl rfl (Nat.le_of_ble_eq_true rfl) rfl ?_
  intro p e s m below meth c hc hx hr hk
  have hNW := hx.2.1
  have hin2 : ∀ w ∈ wsX20, w ∈ wsX4_toldNumber := by decide +kernel
  have hin4 : ∀ w ∈ wsX40, w ∈ wsX4_toldNumber := by decide +kernel
  have hf18 : Cond.fieldLink RX4 18 (TX4 1).1 (TX4 1).2.1 (TX4 1).2.2.1 ∈ wsX4_toldNumber := by decide +kernel
  have hf73 : Cond.fieldLink RX4 73 (TX2 0).1 (TX2 0).2.1 (TX2 0).2.2.1 ∈ wsX4_toldNumber := by decide +kernel
  have hf115 : Cond.fieldLink RX4 115 (TX2 1).1 (TX2 1).2.1 (TX2 1).2.2.1 ∈ wsX4_toldNumber := by decide +kernel
  have cw69 : CallW ({ frames := 4, cells := 0, slots := 0, locals := 97 }) s _ RX4 RX2 69 yX2_hasBox cX2_hasBox 2 (some .boolean) wsX2_hasBox ({ frames := 1, cells := 0, slots := 0, locals := 21 }) 0 0 1 := cwV 1 hc.2.2.2.2 gX4_toldNumber_X2_hasBox rfl rfl rfl (by decide +kernel) ⟨Nat.le_of_ble_eq_true rfl, Nat.le_of_ble_eq_true rfl⟩
  have cw105 : va_CN ({ frames := 4, cells := 0, slots := 0, locals := 97 }) s _ RX4 105 yX5_isBelow RX5 cX5_isBelow 2 (some .boolean) wsX5_isBelow ({ frames := 0, cells := 0, slots := 0, locals := 0 }) 0 0 2 ∧ (Cond.static yX5_isBelow).before _ s = true ∧ True := ⟨va_cnB 2 hc.2.2.2.2 gX4_toldNumber_X5_isBelow_n105 rfl rfl rfl hNW.2.2.1 (hc.2.2.2.2 _ (by decide +kernel)) (by decide +kernel) ⟨Nat.le_of_ble_eq_true rfl, Nat.le_of_ble_eq_true rfl⟩, hc.2.2.2.2 _ (by decide +kernel), trivial⟩
  have cw111 : CallW ({ frames := 4, cells := 0, slots := 0, locals := 97 }) s _ RX4 RX0 111 yX0_at cX0_at 2 (some .int) wsX0_at ({ frames := 0, cells := 0, slots := 0, locals := 0 }) 0 0 1 := cwV 1 hc.2.2.2.2 gX4_toldNumber_X0_at rfl rfl rfl (by decide +kernel) ⟨Nat.le_of_ble_eq_true rfl, Nat.le_of_ble_eq_true rfl⟩
  have cw118 : CallW ({ frames := 4, cells := 0, slots := 0, locals := 97 }) s _ RX4 RX4 118 yX4_tells cX4_tells 10 (some .boolean) wsX4_tells ({ frames := 3, cells := 0, slots := 0, locals := 68 }) 0 0 2 := cwV 2 hc.2.2.2.2 gX4_toldNumber_X4_tells rfl rfl rfl (by decide +kernel) ⟨Nat.le_of_ble_eq_true rfl, Nat.le_of_ble_eq_true rfl⟩
  refine wp_aload_n hc 1 dX4_toldNumber_0 rfl ?_
  refine wp_iload_n hc 2 dX4_toldNumber_1 rfl ?_
  refine wp_callVf (As := [.int i2]) (rest := []) (j := (16 + 12 * q1)) (v := (fX2_hasBox M q1 i2)) hc hx (kX2_hasBox l D cy z hz M q1 i2 haq1) cw69 (Nat.zero_le _) (by have := haq1; omega) (ce_1 (kd_st haq1)) rfl rfl rfl rfl (Nat.le_of_ble_eq_true rfl) dX4_toldNumber_2 ?_
  refine wp_if_eq (tgt := 16) hc dX4_toldNumber_5 (by decide) (fun c5 => ?_) (fun c5 => ?_)
  · refine wp_bipush (v := (-2)) hc dX4_toldNumber_16 (by decide) ?_
    refine wp_iret hc hr hk ?_ dX4_toldNumber_18
    show ((-2), M) = sX4_toldNumber M q1 i2 i3
    rw [sX4_toldNumber, if_pos c5]
  refine wp_iload_n hc 3 dX4_toldNumber_8 rfl ?_
  refine wp_iconst (v := 4) hc dX4_toldNumber_9 (by decide) ?_
  refine wp_callNg (As := [.int i3, .int 4]) (rest := []) (v := (fX5_isBelow i3 4)) hc hNW (kX5_isBelow l i3 4) cw105 rfl rfl (Nat.le_of_ble_eq_true rfl) dX4_toldNumber_10 ?_
  refine wp_if_ne (tgt := 19) hc dX4_toldNumber_13 (by decide) (fun c13 => ?_) (fun c13 => ?_)
  · refine wp_aload_n hc 0 dX4_toldNumber_19 rfl ?_
    refine wp_aload_n hc 1 dX4_toldNumber_20 rfl ?_
    refine wp_get hc hx hin2 (j := (16 + 12 * q1)) (Nat.zero_le _) (by have := haq1; omega) (ce_1 (kd_st haq1)) rfl 1 (by decide) hf115 rfl dX4_toldNumber_21 ?_
    refine wp_aload_n hc 1 dX4_toldNumber_24 rfl ?_
    refine wp_get hc hx hin2 (j := (16 + 12 * q1)) (Nat.zero_le _) (by have := haq1; omega) (ce_1 (kd_st haq1)) rfl 0 (by decide) hf73 rfl dX4_toldNumber_25 ?_
    refine wp_iload_n hc 2 dX4_toldNumber_28 rfl ?_
    refine wp_aald8 hc hx (j := (16 + 12 * q1 + 1)) (Nat.zero_le _) (by have := haq1; omega) (kd_bx haq1) i2.toNatClampNeg rfl (vin8 (show 0 ≤ i2.toInt ∧ i2.toInt < (8 : Nat) from ⟨(hasBox_8 c5).1, (hasBox_8 c5).2.1⟩)) dX4_toldNumber_29 ?_
    refine wp_callVw (As := [.ref (z (16 + 12 * q1 + 2)), .ref (z (16 + 12 * q1 + 1 + 3 + i2.toNatClampNeg))]) (rest := []) (j := 1) (w := sX4_tells M (16 + 12 * q1 + 2) (16 + 12 * q1 + 1 + 3 + i2.toNatClampNeg)) hc hx (kX4_tells l D cy z hz M (16 + 12 * q1 + 2) (16 + 12 * q1 + 1 + 3 + i2.toNatClampNeg) (Nat.zero_le _) (by have := haq1; omega) (kd_er haq1) (ln_er haq1) (by have := haq1; have : i2.toNatClampNeg < 8 := (cl8 (show 0 ≤ i2.toInt ∧ i2.toInt < (8 : Nat) from ⟨(hasBox_8 c5).1, (hasBox_8 c5).2.1⟩)); omega) (kd_fo haq1 (cl8 (show 0 ≤ i2.toInt ∧ i2.toInt < (8 : Nat) from ⟨(hasBox_8 c5).1, (hasBox_8 c5).2.1⟩)))) cw118 (by decide) (by decide) (ce_3 rfl) rfl rfl rfl rfl (Nat.le_of_ble_eq_true rfl) dX4_toldNumber_30 (fun x1 hx1 => ?_)
    refine wp_if_eq (tgt := 47) hc dX4_toldNumber_33 (by decide) (fun c33 => ?_) (fun c33 => ?_)
    · refine wp_bipush (v := (-3)) hc dX4_toldNumber_47 (by decide) ?_
      refine wp_iret hc hr hk ?_ dX4_toldNumber_49
      show ((-3), x1.2) = sX4_toldNumber M q1 i2 i3
      rw [sX4_toldNumber, if_neg c5, if_neg c13, tk_eq hx1, if_pos c33]
    refine wp_aload_n hc 0 dX4_toldNumber_36 rfl ?_
    refine wp_get hc hx hin4 (j := 1) (by decide) (by decide) (ce_3 rfl) rfl 1 (by decide) hf18 rfl dX4_toldNumber_37 ?_
    refine wp_iload_n hc 3 dX4_toldNumber_40 rfl ?_
    refine wp_callVf (As := [.int i3]) (rest := []) (j := 3) (v := (fX0_at x1.2 3 i3)) hc hx (kX0_at l D cy z hz x1.2 3 i3 (by decide) rfl) cw111 (by decide) (by decide) (ce_0 rfl) rfl rfl rfl rfl (Nat.le_of_ble_eq_true rfl) dX4_toldNumber_41 ?_
    refine wp_goto (tgt := 49) hc dX4_toldNumber_44 (by decide) ?_
    refine wp_iret hc hr hk ?_ dX4_toldNumber_49
    show ((fX0_at x1.2 3 i3), x1.2) = sX4_toldNumber M q1 i2 i3
    rw [sX4_toldNumber, if_neg c5, if_neg c13, tk_eq hx1, if_neg c33]
  refine wp_bipush (v := (-2)) hc dX4_toldNumber_16 (by decide) ?_
  refine wp_iret hc hr hk ?_ dX4_toldNumber_18
  show ((-2), M) = sX4_toldNumber M q1 i2 i3
  rw [sX4_toldNumber, if_neg c5, if_pos c13]
set_option maxRecDepth 10000 in
theorem kfX4_toldNumber (M : Mem) (q1 : Nat) (i2 : Int32) (i3 : Int32) : KF2 (fun x => 2 ≤ x ∧ x ≤ 9) M (sX4_toldNumber M q1 i2 i3) := by
  unfold sX4_toldNumber
  refine ite_ind (P := KF2 (fun x => 2 ≤ x ∧ x ≤ 9) M) (fun c1 => ?_) (fun c1 => ?_)
  · exact (show KF (fun x => 2 ≤ x ∧ x ≤ 9) M M from KF.rf)
  · refine ite_ind (P := KF2 (fun x => 2 ≤ x ∧ x ≤ 9) M) (fun c2 => ?_) (fun c2 => ?_)
    · exact (show KF (fun x => 2 ≤ x ∧ x ≤ 9) M M from KF.rf)
    · refine tk_ind (P := KF2 (fun x => 2 ≤ x ∧ x ≤ 9) M) _ _ (fun x1 hx1 => ?_)
      have k3 : KF2 (fun x => 2 ≤ x ∧ x ≤ 9) M x1 := by rw [hx1]; exact KF2.mono (kfX4_tells _ _ _) (fun x h => by first | exact h | ((try dsimp only at h ⊢); omega))
      refine ite_ind (P := KF2 (fun x => 2 ≤ x ∧ x ≤ 9) M) (fun c4 => ?_) (fun c4 => ?_)
      · exact (show KF (fun x => 2 ≤ x ∧ x ≤ 9) M x1.2 from k3)
      · exact (show KF (fun x => 2 ≤ x ∧ x ≤ 9) M x1.2 from k3)
def sX4_addReading (M : Mem) (q1 : Nat) (i2 : Int32) : Int32 × Mem :=
  if (fX2_hasBox M q1 i2) = 0 then
  ((-2), M)
  else
  if (M.1 (16 + 12 * q1) 4) = 0 then
  ((-3), M)
  else
  tk (sX4_tells M (16 + 12 * q1 + 2) (16 + 12 * q1 + 1 + 3 + i2.toNatClampNeg)) fun x1 =>
  if x1.1 = 0 then
  ((-3), x1.2)
  else
  tk (sX4_strip x1.2 (16 + 12 * q1 + 3)) fun x2 =>
  if x2.1 = 0 then
  ((-3), x2.2)
  else
  tk (sX4_solve x2.2 (16 + 12 * q1 + 3)) fun x3 =>
  if x3.1 = 0 then
  ((-3), x3.2)
  else
  tk (sX2_addBox x3.2 q1 8) fun x4 =>
  (x4.1, x4.2)
set_option maxHeartbeats 4000000 in
set_option maxRecDepth 100000 in
theorem kX4_addReading (l : Launch) (D : va_G) (cy : Nat → ClassId) (z : Nat → Nat) (hz : zI z) (M : Mem) (q1 : Nat) (i2 : Int32) (haq1 : q1 < 7) : KI l yX4_addReading wsX4_addReading { frames := 4, cells := 0, slots := 0, locals := 100 } D cy z 0 100 [.ref (z 1), .ref (z (16 + 12 * q1)), .int i2] M (fun r u => (r, u) = sX4_addReading M q1 i2) := by
  refine met_wp (lv := [(0, .ref (z 1)), (1, .ref (z (16 + 12 * q1))), (2, .int i2)]) hz (by decide) (by decide) rfl rfl (Nat.le_of_ble_eq_true rfl) rfl ?_
  intro p e s m below meth c hc hx hr hk
  have hNW := hx.2.1
  have hin2 : ∀ w ∈ wsX20, w ∈ wsX4_addReading := by decide +kernel
  have hin4 : ∀ w ∈ wsX40, w ∈ wsX4_addReading := by decide +kernel
  have hf33 : Cond.fieldLink RX4 33 (TX4 6).1 (TX4 6).2.1 (TX4 6).2.2.1 ∈ wsX4_addReading := by decide +kernel
  have hf73 : Cond.fieldLink RX4 73 (TX2 0).1 (TX2 0).2.1 (TX2 0).2.2.1 ∈ wsX4_addReading := by decide +kernel
  have hf115 : Cond.fieldLink RX4 115 (TX2 1).1 (TX2 1).2.1 (TX2 1).2.2.1 ∈ wsX4_addReading := by decide +kernel
  have hf122 : Cond.fieldLink RX4 122 (TX2 4).1 (TX2 4).2.1 (TX2 4).2.2.1 ∈ wsX4_addReading := by decide +kernel
  have hf126 : Cond.fieldLink RX4 126 (TX2 2).1 (TX2 2).2.1 (TX2 2).2.2.1 ∈ wsX4_addReading := by decide +kernel
  have cw44 : CallW ({ frames := 4, cells := 0, slots := 0, locals := 100 }) s _ RX4 RX2 44 yX2_addBox cX2_addBox 2 (some .int) wsX2_addBox ({ frames := 2, cells := 0, slots := 0, locals := 45 }) 0 0 1 := cwV 1 hc.2.2.2.2 gX4_addReading_X2_addBox rfl rfl rfl (by decide +kernel) ⟨Nat.le_of_ble_eq_true rfl, Nat.le_of_ble_eq_true rfl⟩
  have cw69 : CallW ({ frames := 4, cells := 0, slots := 0, locals := 100 }) s _ RX4 RX2 69 yX2_hasBox cX2_hasBox 2 (some .boolean) wsX2_hasBox ({ frames := 1, cells := 0, slots := 0, locals := 21 }) 0 0 1 := cwV 1 hc.2.2.2.2 gX4_addReading_X2_hasBox rfl rfl rfl (by decide +kernel) ⟨Nat.le_of_ble_eq_true rfl, Nat.le_of_ble_eq_true rfl⟩
  have cw118 : CallW ({ frames := 4, cells := 0, slots := 0, locals := 100 }) s _ RX4 RX4 118 yX4_tells cX4_tells 10 (some .boolean) wsX4_tells ({ frames := 3, cells := 0, slots := 0, locals := 68 }) 0 0 2 := cwV 2 hc.2.2.2.2 gX4_addReading_X4_tells rfl rfl rfl (by decide +kernel) ⟨Nat.le_of_ble_eq_true rfl, Nat.le_of_ble_eq_true rfl⟩
  have cw129 : CallW ({ frames := 4, cells := 0, slots := 0, locals := 100 }) s _ RX4 RX4 129 yX4_strip cX4_strip 2 (some .boolean) wsX4_strip ({ frames := 2, cells := 0, slots := 0, locals := 51 }) 0 0 1 := cwV 1 hc.2.2.2.2 gX4_addReading_X4_strip rfl rfl rfl (by decide +kernel) ⟨Nat.le_of_ble_eq_true rfl, Nat.le_of_ble_eq_true rfl⟩
  have cw133 : CallW ({ frames := 4, cells := 0, slots := 0, locals := 100 }) s _ RX4 RX4 133 yX4_solve cX4_solve 8 (some .boolean) wsX4_solve ({ frames := 3, cells := 0, slots := 0, locals := 73 }) 0 0 1 := cwV 1 hc.2.2.2.2 gX4_addReading_X4_solve rfl rfl rfl (by decide +kernel) ⟨Nat.le_of_ble_eq_true rfl, Nat.le_of_ble_eq_true rfl⟩
  refine wp_aload_n hc 1 dX4_addReading_0 rfl ?_
  refine wp_iload_n hc 2 dX4_addReading_1 rfl ?_
  refine wp_callVf (As := [.int i2]) (rest := []) (j := (16 + 12 * q1)) (v := (fX2_hasBox M q1 i2)) hc hx (kX2_hasBox l D cy z hz M q1 i2 haq1) cw69 (Nat.zero_le _) (by have := haq1; omega) (ce_1 (kd_st haq1)) rfl rfl rfl rfl (Nat.le_of_ble_eq_true rfl) dX4_addReading_2 ?_
  refine wp_if_ne (tgt := 11) hc dX4_addReading_5 (by decide) (fun c5 => ?_) (fun c5 => ?_)
  · refine wp_aload_n hc 1 dX4_addReading_11 rfl ?_
    refine wp_get hc hx hin2 (j := (16 + 12 * q1)) (Nat.zero_le _) (by have := haq1; omega) (ce_1 (kd_st haq1)) rfl 4 (by decide) hf122 rfl dX4_addReading_12 ?_
    refine wp_if_eq (tgt := 57) hc dX4_addReading_15 (by decide) (fun c15 => ?_) (fun c15 => ?_)
    · refine wp_bipush (v := (-3)) hc dX4_addReading_57 (by decide) ?_
      refine wp_iret hc hr hk ?_ dX4_addReading_59
      show ((-3), M) = sX4_addReading M q1 i2
      rw [sX4_addReading, if_neg c5, if_pos c15]
    refine wp_aload_n hc 0 dX4_addReading_18 rfl ?_
    refine wp_aload_n hc 1 dX4_addReading_19 rfl ?_
    refine wp_get hc hx hin2 (j := (16 + 12 * q1)) (Nat.zero_le _) (by have := haq1; omega) (ce_1 (kd_st haq1)) rfl 1 (by decide) hf115 rfl dX4_addReading_20 ?_
    refine wp_aload_n hc 1 dX4_addReading_23 rfl ?_
    refine wp_get hc hx hin2 (j := (16 + 12 * q1)) (Nat.zero_le _) (by have := haq1; omega) (ce_1 (kd_st haq1)) rfl 0 (by decide) hf73 rfl dX4_addReading_24 ?_
    refine wp_iload_n hc 2 dX4_addReading_27 rfl ?_
    refine wp_aald8 hc hx (j := (16 + 12 * q1 + 1)) (Nat.zero_le _) (by have := haq1; omega) (kd_bx haq1) i2.toNatClampNeg rfl (vin8 (show 0 ≤ i2.toInt ∧ i2.toInt < (8 : Nat) from ⟨(hasBox_8 c5).1, (hasBox_8 c5).2.1⟩)) dX4_addReading_28 ?_
    refine wp_callVw (As := [.ref (z (16 + 12 * q1 + 2)), .ref (z (16 + 12 * q1 + 1 + 3 + i2.toNatClampNeg))]) (rest := []) (j := 1) (w := sX4_tells M (16 + 12 * q1 + 2) (16 + 12 * q1 + 1 + 3 + i2.toNatClampNeg)) hc hx (kX4_tells l D cy z hz M (16 + 12 * q1 + 2) (16 + 12 * q1 + 1 + 3 + i2.toNatClampNeg) (Nat.zero_le _) (by have := haq1; omega) (kd_er haq1) (ln_er haq1) (by have := haq1; have : i2.toNatClampNeg < 8 := (cl8 (show 0 ≤ i2.toInt ∧ i2.toInt < (8 : Nat) from ⟨(hasBox_8 c5).1, (hasBox_8 c5).2.1⟩)); omega) (kd_fo haq1 (cl8 (show 0 ≤ i2.toInt ∧ i2.toInt < (8 : Nat) from ⟨(hasBox_8 c5).1, (hasBox_8 c5).2.1⟩)))) cw118 (by decide) (by decide) (ce_3 rfl) rfl rfl rfl rfl (Nat.le_of_ble_eq_true rfl) dX4_addReading_29 (fun x1 hx1 => ?_)
    refine wp_if_eq (tgt := 57) hc dX4_addReading_32 (by decide) (fun c32 => ?_) (fun c32 => ?_)
    · refine wp_bipush (v := (-3)) hc dX4_addReading_57 (by decide) ?_
      refine wp_iret hc hr hk ?_ dX4_addReading_59
      show ((-3), x1.2) = sX4_addReading M q1 i2
      rw [sX4_addReading, if_neg c5, if_neg c15, tk_eq hx1, if_pos c32]
    refine wp_aload_n hc 0 dX4_addReading_35 rfl ?_
    refine wp_aload_n hc 1 dX4_addReading_36 rfl ?_
    refine wp_get hc hx hin2 (j := (16 + 12 * q1)) (Nat.zero_le _) (by have := haq1; omega) (ce_1 (kd_st haq1)) rfl 2 (by decide) hf126 rfl dX4_addReading_37 ?_
    refine wp_callVw (As := [.ref (z (16 + 12 * q1 + 3))]) (rest := []) (j := 1) (w := sX4_strip x1.2 (16 + 12 * q1 + 3)) hc hx (kX4_strip l D cy z hz x1.2 (16 + 12 * q1 + 3) (Nat.zero_le _) (by have := haq1; omega) (kd_kn haq1) (ln_kn haq1)) cw129 (by decide) (by decide) (ce_3 rfl) rfl rfl rfl rfl (Nat.le_of_ble_eq_true rfl) dX4_addReading_40 (fun x2 hx2 => ?_)
    refine wp_if_eq (tgt := 57) hc dX4_addReading_43 (by decide) (fun c43 => ?_) (fun c43 => ?_)
    · refine wp_bipush (v := (-3)) hc dX4_addReading_57 (by decide) ?_
      refine wp_iret hc hr hk ?_ dX4_addReading_59
      show ((-3), x2.2) = sX4_addReading M q1 i2
      rw [sX4_addReading, if_neg c5, if_neg c15, tk_eq hx1, if_neg c32, tk_eq hx2, if_pos c43]
    refine wp_aload_n hc 0 dX4_addReading_46 rfl ?_
    refine wp_aload_n hc 1 dX4_addReading_47 rfl ?_
    refine wp_get hc hx hin2 (j := (16 + 12 * q1)) (Nat.zero_le _) (by have := haq1; omega) (ce_1 (kd_st haq1)) rfl 2 (by decide) hf126 rfl dX4_addReading_48 ?_
    refine wp_callVw (As := [.ref (z (16 + 12 * q1 + 3))]) (rest := []) (j := 1) (w := sX4_solve x2.2 (16 + 12 * q1 + 3)) hc hx (kX4_solve l D cy z hz x2.2 (16 + 12 * q1 + 3) (Nat.zero_le _) (by have := haq1; omega) (kd_kn haq1) (ln_kn haq1)) cw133 (by decide) (by decide) (ce_3 rfl) rfl rfl rfl rfl (Nat.le_of_ble_eq_true rfl) dX4_addReading_51 (fun x3 hx3 => ?_)
    refine wp_if_ne (tgt := 60) hc dX4_addReading_54 (by decide) (fun c54 => ?_) (fun c54 => ?_)
    · refine wp_aload_n hc 1 dX4_addReading_60 rfl ?_
      refine wp_aload_n hc 0 dX4_addReading_61 rfl ?_
      refine wp_get hc hx hin4 (j := 1) (by decide) (by decide) (ce_3 rfl) rfl 6 (by decide) hf33 rfl dX4_addReading_62 ?_
      refine wp_callVw (As := [.ref (z 8)]) (rest := []) (j := (16 + 12 * q1)) (w := sX2_addBox x3.2 q1 8) hc hx (kX2_addBox l D cy z hz x3.2 q1 8 haq1 (by decide) rfl) cw44 (Nat.zero_le _) (by have := haq1; omega) (ce_1 (kd_st haq1)) rfl rfl rfl rfl (Nat.le_of_ble_eq_true rfl) dX4_addReading_65 (fun x4 hx4 => ?_)
      refine wp_iret hc hr hk ?_ dX4_addReading_68
      show (x4.1, x4.2) = sX4_addReading M q1 i2
      rw [sX4_addReading, if_neg c5, if_neg c15, tk_eq hx1, if_neg c32, tk_eq hx2, if_neg c43, tk_eq hx3, if_neg c54, tk_eq hx4]
    refine wp_bipush (v := (-3)) hc dX4_addReading_57 (by decide) ?_
    refine wp_iret hc hr hk ?_ dX4_addReading_59
    show ((-3), x3.2) = sX4_addReading M q1 i2
    rw [sX4_addReading, if_neg c5, if_neg c15, tk_eq hx1, if_neg c32, tk_eq hx2, if_neg c43, tk_eq hx3, if_pos c54]
  refine wp_bipush (v := (-2)) hc dX4_addReading_8 (by decide) ?_
  refine wp_iret hc hr hk ?_ dX4_addReading_10
  show ((-2), M) = sX4_addReading M q1 i2
  rw [sX4_addReading, if_pos c5]
set_option maxRecDepth 10000 in
theorem kfX4_addReading (M : Mem) (q1 : Nat) (i2 : Int32) : KF2 (fun x => (2 ≤ x ∧ x ≤ 9) ∨ (16 + 12 * q1 ≤ x ∧ x < 28 + 12 * q1)) M (sX4_addReading M q1 i2) := by
  unfold sX4_addReading
  refine ite_ind (P := KF2 (fun x => (2 ≤ x ∧ x ≤ 9) ∨ (16 + 12 * q1 ≤ x ∧ x < 28 + 12 * q1)) M) (fun c1 => ?_) (fun c1 => ?_)
  · exact (show KF (fun x => (2 ≤ x ∧ x ≤ 9) ∨ (16 + 12 * q1 ≤ x ∧ x < 28 + 12 * q1)) M M from KF.rf)
  · refine ite_ind (P := KF2 (fun x => (2 ≤ x ∧ x ≤ 9) ∨ (16 + 12 * q1 ≤ x ∧ x < 28 + 12 * q1)) M) (fun c2 => ?_) (fun c2 => ?_)
    · exact (show KF (fun x => (2 ≤ x ∧ x ≤ 9) ∨ (16 + 12 * q1 ≤ x ∧ x < 28 + 12 * q1)) M M from KF.rf)
    · refine tk_ind (P := KF2 (fun x => (2 ≤ x ∧ x ≤ 9) ∨ (16 + 12 * q1 ≤ x ∧ x < 28 + 12 * q1)) M) _ _ (fun x1 hx1 => ?_)
      have k3 : KF2 (fun x => (2 ≤ x ∧ x ≤ 9) ∨ (16 + 12 * q1 ≤ x ∧ x < 28 + 12 * q1)) M x1 := by rw [hx1]; exact KF2.mono (kfX4_tells _ _ _) (fun x h => by first | exact h | ((try dsimp only at h ⊢); omega))
      refine ite_ind (P := KF2 (fun x => (2 ≤ x ∧ x ≤ 9) ∨ (16 + 12 * q1 ≤ x ∧ x < 28 + 12 * q1)) M) (fun c4 => ?_) (fun c4 => ?_)
      · exact (show KF (fun x => (2 ≤ x ∧ x ≤ 9) ∨ (16 + 12 * q1 ≤ x ∧ x < 28 + 12 * q1)) M x1.2 from k3)
      · refine tk_ind (P := KF2 (fun x => (2 ≤ x ∧ x ≤ 9) ∨ (16 + 12 * q1 ≤ x ∧ x < 28 + 12 * q1)) M) _ _ (fun x2 hx2 => ?_)
        have k5 : KF2 (fun x => (2 ≤ x ∧ x ≤ 9) ∨ (16 + 12 * q1 ≤ x ∧ x < 28 + 12 * q1)) x1.2 x2 := by rw [hx2]; exact KF2.mono (kfX4_strip _ _) (fun x h => by first | exact h | ((try dsimp only at h ⊢); omega))
        refine ite_ind (P := KF2 (fun x => (2 ≤ x ∧ x ≤ 9) ∨ (16 + 12 * q1 ≤ x ∧ x < 28 + 12 * q1)) M) (fun c6 => ?_) (fun c6 => ?_)
        · exact (show KF (fun x => (2 ≤ x ∧ x ≤ 9) ∨ (16 + 12 * q1 ≤ x ∧ x < 28 + 12 * q1)) M x2.2 from KF.trans k3 (k5))
        · refine tk_ind (P := KF2 (fun x => (2 ≤ x ∧ x ≤ 9) ∨ (16 + 12 * q1 ≤ x ∧ x < 28 + 12 * q1)) M) _ _ (fun x3 hx3 => ?_)
          have k7 : KF2 (fun x => (2 ≤ x ∧ x ≤ 9) ∨ (16 + 12 * q1 ≤ x ∧ x < 28 + 12 * q1)) x2.2 x3 := by rw [hx3]; exact KF2.mono (kfX4_solve _ _) (fun x h => by first | exact h | ((try dsimp only at h ⊢); omega))
          refine ite_ind (P := KF2 (fun x => (2 ≤ x ∧ x ≤ 9) ∨ (16 + 12 * q1 ≤ x ∧ x < 28 + 12 * q1)) M) (fun c8 => ?_) (fun c8 => ?_)
          · exact (show KF (fun x => (2 ≤ x ∧ x ≤ 9) ∨ (16 + 12 * q1 ≤ x ∧ x < 28 + 12 * q1)) M x3.2 from KF.trans k3 (KF.trans k5 (k7)))
          · refine tk_ind (P := KF2 (fun x => (2 ≤ x ∧ x ≤ 9) ∨ (16 + 12 * q1 ≤ x ∧ x < 28 + 12 * q1)) M) _ _ (fun x4 hx4 => ?_)
            have k9 : KF2 (fun x => (2 ≤ x ∧ x ≤ 9) ∨ (16 + 12 * q1 ≤ x ∧ x < 28 + 12 * q1)) x3.2 x4 := by rw [hx4]; exact KF2.mono (kfX2_addBox _ _ _) (fun x h => by first | exact h | ((try dsimp only at h ⊢); omega))
            exact (show KF (fun x => (2 ≤ x ∧ x ≤ 9) ∨ (16 + 12 * q1 ≤ x ∧ x < 28 + 12 * q1)) M x4.2 from KF.trans k3 (KF.trans k5 (KF.trans k7 (k9))))
