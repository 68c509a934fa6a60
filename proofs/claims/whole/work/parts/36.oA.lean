def FTx (x : Nat) : Prop := 10 ≤ x ∧ x ≤ 14
theorem ktc_kf {A B : Mem} (h : KTC A B) : KF (fun x => 10 ≤ x ∧ x ≤ 14) A B := ⟨fun j hj => h.1 j (by omega) (by omega), h.2.2⟩
theorem kfX3_skipBlanks' {M : Mem} (h : TC M) : KF (fun x => 10 ≤ x ∧ x ≤ 14) M (sX3_skipBlanks M) := ktc_kf (sk_K h)
theorem kfF_readOrder (wn : Int32) (hm : wn.toInt ≤ 8) : ∀ (f : Nat) (k : Int32) (A : Mem), TC A → 0 ≤ k.toInt → KF2 (fun x => 10 ≤ x ∧ x ≤ 14) A (wX3_readOrder_69 wn f k A)
  | 0, k, A, _, _ => KF.rf
  | f + 1, k, A, hT, hk => by
    rw [wX3_readOrder_69]
    refine ite_ind (P := KF2 (fun x => 10 ≤ x ∧ x ≤ 14) A) (fun c => ?_) (fun c => ?_)
    · refine ite_ind (P := KF2 (fun x => 10 ≤ x ∧ x ≤ 14) A) (fun c2 => ?_) (fun c2 => KF.rf)
      refine tk_ind (P := KF2 (fun x => 10 ≤ x ∧ x ≤ 14) A) _ _ (fun M5 h5 => ?_)
      refine tk_ind (P := KF2 (fun x => 10 ≤ x ∧ x ≤ 14) A) _ _ (fun M6 h6 => ?_)
      exact (show KF _ A M6 from KF.trans (B := M5) (by rw [h5]; exact kf_st (by omega)) (by rw [h6]; exact kf_st (by omega)))
    · refine tk_ind (P := KF2 (fun x => 10 ≤ x ∧ x ≤ 14) A) _ _ (fun x h => ?_)
      have hp := rn_post hT
      rw [← h] at hp
      refine ite_ind (P := KF2 (fun x => 10 ≤ x ∧ x ≤ 14) A) (fun c2 => ktc_kf hp.1) (fun c2 => ?_)
      refine tk_ind (P := KF2 (fun x => 10 ≤ x ∧ x ≤ 14) A) _ _ (fun M8 h8 => ?_)
      have hn := roF_next (f := (wn.toInt - k.toInt).toNat) hT hm hk (Nat.lt_succ_self _) h h8 c
      have k8 := kfX3_skipBlanks' hp.2
      rw [← h8] at k8
      exact (show KF _ A _ from KF.trans (ktc_kf hp.1) (KF.trans k8 (kfF_readOrder wn hm f (k + 1) M8 hn.2.1 hn.2.2)))
theorem kfX3_readOrder' {M : Mem} (hT : TC M) : KF2 (fun x => 10 ≤ x ∧ x ≤ 14) M (sX3_readOrder M) := by
  unfold sX3_readOrder
  refine tk_ind (P := KF2 (fun x => 10 ≤ x ∧ x ≤ 14) M) _ _ (fun ch hch => ?_)
  refine tk_ind (P := KF2 (fun x => 10 ≤ x ∧ x ≤ 14) M) _ _ (fun wn hwn => ?_)
  refine ite_ind (P := KF2 (fun x => 10 ≤ x ∧ x ≤ 14) M) (fun c => KF.rf) (fun c => ?_)
  refine ite_ind (P := KF2 (fun x => 10 ≤ x ∧ x ≤ 14) M) (fun c2 => KF.rf) (fun c2 => ?_)
  refine tk_ind (P := KF2 (fun x => 10 ≤ x ∧ x ≤ 14) M) _ _ (fun M1 h1 => ?_)
  refine tk_ind (P := KF2 (fun x => 10 ≤ x ∧ x ≤ 14) M) _ _ (fun M2 h2 => ?_)
  refine tk_ind (P := KF2 (fun x => 10 ≤ x ∧ x ≤ 14) M) _ _ (fun M3 h3 => ?_)
  refine tk_ind (P := KF2 (fun x => 10 ≤ x ∧ x ≤ 14) M) _ _ (fun M4 h4 => ?_)
  have hwr : 0 ≤ wn.toInt ∧ wn.toInt ≤ 8 := by
    rcases wanted_rng ch with q | q
    · rw [← hwn] at q; exact absurd q c
    · rw [← hwn] at q; exact q
  have t3 := roc_start hT (wanted_here (by rw [← hch, ← hwn]; exact c)) h1 h2 h3
  have t := sk_TC t3
  have k4 := kfX3_skipBlanks' t3
  rw [← h4] at t k4
  have k1 : KF (fun x => 10 ≤ x ∧ x ≤ 14) M M1 := by rw [h1]; exact kf_st (by omega)
  have k2 : KF (fun x => 10 ≤ x ∧ x ≤ 14) M1 M2 := by rw [h2]; exact kf_st (by omega)
  have k3 : KF (fun x => 10 ≤ x ∧ x ≤ 14) M2 M3 := by rw [h3]; exact kf_st (by omega)
  exact (show KF _ M _ from KF.trans k1 (KF.trans k2 (KF.trans k3 (KF.trans k4 (kfF_readOrder wn hwr.2 9 0 M4 t (by decide))))))
theorem kfF_readOrders : ∀ (f : Nat) (n : Int32) (A : Mem), TC A → KF2 (fun x => 10 ≤ x ∧ x ≤ 14) A (wX3_readOrders_21 f n A)
  | 0, n, A, _ => KF.rf
  | f + 1, n, A, hT => by
    rw [wX3_readOrders_21]
    refine ite_ind (P := KF2 (fun x => 10 ≤ x ∧ x ≤ 14) A) (fun c => KF.rf) (fun c => ?_)
    refine tk_ind (P := KF2 (fun x => 10 ≤ x ∧ x ≤ 14) A) _ _ (fun x h => ?_)
    have hk := kfX3_readOrder' hT
    have hp := ro_post hT
    rw [← h] at hk hp
    refine ite_ind (P := KF2 (fun x => 10 ≤ x ∧ x ≤ 14) A) (fun c2 => hk) (fun c2 => ?_)
    refine tk_ind (P := KF2 (fun x => 10 ≤ x ∧ x ≤ 14) A) _ _ (fun M6 h6 => ?_)
    have k6 := kfX3_skipBlanks' (hp c2)
    have t6 := sk_TC (hp c2)
    rw [← h6] at k6 t6
    refine ite_ind (P := KF2 (fun x => 10 ≤ x ∧ x ≤ 14) A) (fun c3 => ?_) (fun c3 => ?_)
    · exact (show KF _ A _ from KF.trans hk (KF.trans k6 (kfF_readOrders f (n + 1) M6 t6)))
    · exact (show KF _ A _ from KF.trans hk k6)
theorem kf_ros {M : Mem} (hy : 0 ≤ (M.1 10 4).toInt ∧ (M.1 10 4).toInt ≤ 120) : KF2 (fun x => 10 ≤ x ∧ x ≤ 14) M (sX3_readOrders M) := by
  unfold sX3_readOrders
  refine tk_ind (P := KF2 (fun x => 10 ≤ x ∧ x ≤ 14) M) _ _ (fun M1 h1 => ?_)
  refine tk_ind (P := KF2 (fun x => 10 ≤ x ∧ x ≤ 14) M) _ _ (fun M2 h2 => ?_)
  refine tk_ind (P := KF2 (fun x => 10 ≤ x ∧ x ≤ 14) M) _ _ (fun M3 h3 => ?_)
  refine tk_ind (P := KF2 (fun x => 10 ≤ x ∧ x ≤ 14) M) _ _ (fun M4 h4 => ?_)
  have t3 := ros_start hy h1 h2 h3
  have t := sk_TC t3
  have k4 := kfX3_skipBlanks' t3
  rw [← h4] at t k4
  have k1 : KF (fun x => 10 ≤ x ∧ x ≤ 14) M M1 := by rw [h1]; exact kf_st (by omega)
  have k2 : KF (fun x => 10 ≤ x ∧ x ≤ 14) M1 M2 := by rw [h2]; exact kf_st (by omega)
  have k3 : KF (fun x => 10 ≤ x ∧ x ≤ 14) M2 M3 := by rw [h3]; exact kf_st (by omega)
  exact (show KF _ M _ from KF.trans k1 (KF.trans k2 (KF.trans k3 (KF.trans k4 (kfF_readOrders 61 0 M4 t)))))
def sX5_obeyed (M : Mem) (q1 : Nat) (i2 : Int32) : Int32 × Mem :=
  if (fX3_letterOf M i2) = 98 then
  tk (sX4_addGiven M q1 i2) fun x1 =>
  (x1.1, x1.2)
  else
  if (fX3_letterOf M i2) = 99 then
  tk (sX4_addChain M q1 (fX3_numberOf M i2 0) (fX3_numberOf M i2 1)) fun x2 =>
  (x2.1, x2.2)
  else
  if (fX3_letterOf M i2) = 101 then
  tk (sX2_putError M q1 (fX3_numberOf M i2 0) (fX3_numberOf M i2 1) (fX3_numberOf M i2 2)) fun x3 =>
  (x3.1, x3.2)
  else
  if (fX3_letterOf M i2) = 108 then
  tk (sX4_learnErrors M q1) fun x4 =>
  (x4.1, x4.2)
  else
  if (fX3_letterOf M i2) = 114 then
  tk (sX4_addReading M q1 (fX3_numberOf M i2 0)) fun x5 =>
  (x5.1, x5.2)
  else
  ((-2), M)
set_option maxHeartbeats 4000000 in
set_option maxRecDepth 100000 in
theorem kX5_obeyed (l : Launch) (D : va_G) (cy : Nat → ClassId) (z : Nat → Nat) (hz : zI z) (M : Mem) (q1 : Nat) (i2 : Int32) (haq1 : q1 < 7) : KI l yX5_obeyed wsX5_obeyed { frames := 6, cells := 0, slots := 0, locals := 146 } D cy z 0 100 [.ref (z 0), .ref (z (16 + 12 * q1)), .int i2] M (fun r u => (r, u) = sX5_obeyed M q1 i2) := by
  refine met_wp (lv := [(0, .ref (z 0)), (1, .ref (z (16 + 12 * q1))), (2, .int i2)]) hz (by decide) (by decide) rfl rfl (Nat.le_of_ble_eq_true rfl) rfl ?_
  intro p e s m below meth c hc hx hr hk
  have hNW := hx.2.1
  have hin5 : ∀ w ∈ wsX50, w ∈ wsX5_obeyed := by decide +kernel
  have hf12 : Cond.fieldLink RX5 12 (TX5 0).1 (TX5 0).2.1 (TX5 0).2.2.1 ∈ wsX5_obeyed := by decide +kernel
  have hf19 : Cond.fieldLink RX5 19 (TX5 1).1 (TX5 1).2.1 (TX5 1).2.2.1 ∈ wsX5_obeyed := by decide +kernel
  have cw53 : CallW ({ frames := 6, cells := 0, slots := 0, locals := 146 }) s _ RX5 RX2 53 yX2_putError cX2_putError 5 (some .int) wsX2_putError ({ frames := 2, cells := 0, slots := 0, locals := 42 }) 0 0 3 := cwV 3 hc.2.2.2.2 gX5_obeyed_X2_putError rfl rfl rfl (by decide +kernel) ⟨Nat.le_of_ble_eq_true rfl, Nat.le_of_ble_eq_true rfl⟩
  have cw88 : CallW ({ frames := 6, cells := 0, slots := 0, locals := 146 }) s _ RX5 RX4 88 yX4_learnErrors cX4_learnErrors 4 (some .int) wsX4_learnErrors ({ frames := 5, cells := 0, slots := 0, locals := 123 }) 0 0 1 := cwV 1 hc.2.2.2.2 gX5_obeyed_X4_learnErrors rfl rfl rfl (by decide +kernel) ⟨Nat.le_of_ble_eq_true rfl, Nat.le_of_ble_eq_true rfl⟩
  have cw98 : CallW ({ frames := 6, cells := 0, slots := 0, locals := 146 }) s _ RX5 RX4 98 yX4_addReading cX4_addReading 3 (some .int) wsX4_addReading ({ frames := 4, cells := 0, slots := 0, locals := 100 }) 0 0 2 := cwV 2 hc.2.2.2.2 gX5_obeyed_X4_addReading rfl rfl rfl (by decide +kernel) ⟨Nat.le_of_ble_eq_true rfl, Nat.le_of_ble_eq_true rfl⟩
  have cw102 : CallW ({ frames := 6, cells := 0, slots := 0, locals := 146 }) s _ RX5 RX4 102 yX4_addChain cX4_addChain 4 (some .int) wsX4_addChain ({ frames := 4, cells := 0, slots := 0, locals := 95 }) 0 0 3 := cwV 3 hc.2.2.2.2 gX5_obeyed_X4_addChain rfl rfl rfl (by decide +kernel) ⟨Nat.le_of_ble_eq_true rfl, Nat.le_of_ble_eq_true rfl⟩
  have cw197 : CallW ({ frames := 6, cells := 0, slots := 0, locals := 146 }) s _ RX5 RX3 197 yX3_letterOf cX3_letterOf 2 (some .int) wsX3_letterOf ({ frames := 1, cells := 0, slots := 0, locals := 21 }) 0 0 1 := cwV 1 hc.2.2.2.2 gX5_obeyed_X3_letterOf rfl rfl rfl (by decide +kernel) ⟨Nat.le_of_ble_eq_true rfl, Nat.le_of_ble_eq_true rfl⟩
  have cw200 : CallW ({ frames := 6, cells := 0, slots := 0, locals := 146 }) s _ RX5 RX4 200 yX4_addGiven cX4_addGiven 7 (some .int) wsX4_addGiven ({ frames := 3, cells := 0, slots := 0, locals := 66 }) 0 0 3 := cwV 3 hc.2.2.2.2 gX5_obeyed_X4_addGiven rfl rfl rfl (by decide +kernel) ⟨Nat.le_of_ble_eq_true rfl, Nat.le_of_ble_eq_true rfl⟩
  have cw204 : CallW ({ frames := 6, cells := 0, slots := 0, locals := 146 }) s _ RX5 RX3 204 yX3_numberOf cX3_numberOf 4 (some .int) wsX3_numberOf ({ frames := 1, cells := 0, slots := 0, locals := 21 }) 0 0 2 := cwV 2 hc.2.2.2.2 gX5_obeyed_X3_numberOf rfl rfl rfl (by decide +kernel) ⟨Nat.le_of_ble_eq_true rfl, Nat.le_of_ble_eq_true rfl⟩
  refine wp_aload_n hc 0 dX5_obeyed_0 rfl ?_
  refine wp_get hc hx hin5 (j := 0) (by decide) (by decide) (ce_4 rfl) rfl 1 (by decide) hf19 rfl dX5_obeyed_1 ?_
  refine wp_iload_n hc 2 dX5_obeyed_4 rfl ?_
  refine wp_callVf (As := [.int i2]) (rest := []) (j := 10) (v := (fX3_letterOf M i2)) hc hx (kX3_letterOf l D cy z hz M i2) cw197 (by decide) (by decide) (ce_2 rfl) rfl rfl rfl rfl (Nat.le_of_ble_eq_true rfl) dX5_obeyed_5 ?_
  by_cases c8_98 : (fX3_letterOf M i2) = 98
  · refine wp_cvt c8_98 ?_
    refine wp_lookup (tgt := 60) (off := 52) hc dX5_obeyed_8 (by decide) (by decide) (by decide) ?_
    refine wp_aload_n hc 0 dX5_obeyed_60 rfl ?_
    refine wp_get hc hx hin5 (j := 0) (by decide) (by decide) (ce_4 rfl) rfl 0 (by decide) hf12 rfl dX5_obeyed_61 ?_
    refine wp_aload_n hc 1 dX5_obeyed_64 rfl ?_
    refine wp_aload_n hc 0 dX5_obeyed_65 rfl ?_
    refine wp_get hc hx hin5 (j := 0) (by decide) (by decide) (ce_4 rfl) rfl 1 (by decide) hf19 rfl dX5_obeyed_66 ?_
    refine wp_iload_n hc 2 dX5_obeyed_69 rfl ?_
    refine wp_callVw (As := [.ref (z (16 + 12 * q1)), .ref (z 10), .int i2]) (rest := []) (j := 1) (w := sX4_addGiven M q1 i2) hc hx (kX4_addGiven l D cy z hz M q1 i2 haq1) cw200 (by decide) (by decide) (ce_3 rfl) rfl rfl rfl rfl (Nat.le_of_ble_eq_true rfl) dX5_obeyed_70 (fun x1 hx1 => ?_)
    refine wp_iret hc hr hk ?_ dX5_obeyed_73
    show (x1.1, x1.2) = sX5_obeyed M q1 i2
    rw [sX5_obeyed, if_pos c8_98, tk_eq hx1]
  by_cases c8_99 : (fX3_letterOf M i2) = 99
  · refine wp_cvt c8_99 ?_
    refine wp_lookup (tgt := 133) (off := 125) hc dX5_obeyed_8 (by decide) (by decide) (by decide) ?_
    refine wp_aload_n hc 0 dX5_obeyed_133 rfl ?_
    refine wp_get hc hx hin5 (j := 0) (by decide) (by decide) (ce_4 rfl) rfl 0 (by decide) hf12 rfl dX5_obeyed_134 ?_
    refine wp_aload_n hc 1 dX5_obeyed_137 rfl ?_
    refine wp_aload_n hc 0 dX5_obeyed_138 rfl ?_
    refine wp_get hc hx hin5 (j := 0) (by decide) (by decide) (ce_4 rfl) rfl 1 (by decide) hf19 rfl dX5_obeyed_139 ?_
    refine wp_iload_n hc 2 dX5_obeyed_142 rfl ?_
    refine wp_iconst (v := 0) hc dX5_obeyed_143 (by decide) ?_
    refine wp_callVf (As := [.int i2, .int 0]) (rest := [.ref (z (16 + 12 * q1)), .ref (z 1)]) (j := 10) (v := (fX3_numberOf M i2 0)) hc hx (kX3_numberOf l D cy z hz M i2 0) cw204 (by decide) (by decide) (ce_2 rfl) rfl rfl rfl rfl (Nat.le_of_ble_eq_true rfl) dX5_obeyed_144 ?_
    refine wp_aload_n hc 0 dX5_obeyed_147 rfl ?_
    refine wp_get hc hx hin5 (j := 0) (by decide) (by decide) (ce_4 rfl) rfl 1 (by decide) hf19 rfl dX5_obeyed_148 ?_
    refine wp_iload_n hc 2 dX5_obeyed_151 rfl ?_
    refine wp_iconst (v := 1) hc dX5_obeyed_152 (by decide) ?_
    refine wp_callVf (As := [.int i2, .int 1]) (rest := [.int (fX3_numberOf M i2 0), .ref (z (16 + 12 * q1)), .ref (z 1)]) (j := 10) (v := (fX3_numberOf M i2 1)) hc hx (kX3_numberOf l D cy z hz M i2 1) cw204 (by decide) (by decide) (ce_2 rfl) rfl rfl rfl rfl (Nat.le_of_ble_eq_true rfl) dX5_obeyed_153 ?_
    refine wp_callVw (As := [.ref (z (16 + 12 * q1)), .int (fX3_numberOf M i2 0), .int (fX3_numberOf M i2 1)]) (rest := []) (j := 1) (w := sX4_addChain M q1 (fX3_numberOf M i2 0) (fX3_numberOf M i2 1)) hc hx (kX4_addChain l D cy z hz M q1 (fX3_numberOf M i2 0) (fX3_numberOf M i2 1) haq1) cw102 (by decide) (by decide) (ce_3 rfl) rfl rfl rfl rfl (Nat.le_of_ble_eq_true rfl) dX5_obeyed_156 (fun x2 hx2 => ?_)
    refine wp_iret hc hr hk ?_ dX5_obeyed_159
    show (x2.1, x2.2) = sX5_obeyed M q1 i2
    rw [sX5_obeyed, if_neg c8_98, if_pos c8_99, tk_eq hx2]
  by_cases c8_101 : (fX3_letterOf M i2) = 101
  · refine wp_cvt c8_101 ?_
    refine wp_lookup (tgt := 74) (off := 66) hc dX5_obeyed_8 (by decide) (by decide) (by decide) ?_
    refine wp_aload_n hc 1 dX5_obeyed_74 rfl ?_
    refine wp_aload_n hc 0 dX5_obeyed_75 rfl ?_
    refine wp_get hc hx hin5 (j := 0) (by decide) (by decide) (ce_4 rfl) rfl 1 (by decide) hf19 rfl dX5_obeyed_76 ?_
    refine wp_iload_n hc 2 dX5_obeyed_79 rfl ?_
    refine wp_iconst (v := 0) hc dX5_obeyed_80 (by decide) ?_
    refine wp_callVf (As := [.int i2, .int 0]) (rest := [.ref (z (16 + 12 * q1))]) (j := 10) (v := (fX3_numberOf M i2 0)) hc hx (kX3_numberOf l D cy z hz M i2 0) cw204 (by decide) (by decide) (ce_2 rfl) rfl rfl rfl rfl (Nat.le_of_ble_eq_true rfl) dX5_obeyed_81 ?_
    refine wp_aload_n hc 0 dX5_obeyed_84 rfl ?_
    refine wp_get hc hx hin5 (j := 0) (by decide) (by decide) (ce_4 rfl) rfl 1 (by decide) hf19 rfl dX5_obeyed_85 ?_
    refine wp_iload_n hc 2 dX5_obeyed_88 rfl ?_
    refine wp_iconst (v := 1) hc dX5_obeyed_89 (by decide) ?_
    refine wp_callVf (As := [.int i2, .int 1]) (rest := [.int (fX3_numberOf M i2 0), .ref (z (16 + 12 * q1))]) (j := 10) (v := (fX3_numberOf M i2 1)) hc hx (kX3_numberOf l D cy z hz M i2 1) cw204 (by decide) (by decide) (ce_2 rfl) rfl rfl rfl rfl (Nat.le_of_ble_eq_true rfl) dX5_obeyed_90 ?_
    refine wp_aload_n hc 0 dX5_obeyed_93 rfl ?_
    refine wp_get hc hx hin5 (j := 0) (by decide) (by decide) (ce_4 rfl) rfl 1 (by decide) hf19 rfl dX5_obeyed_94 ?_
    refine wp_iload_n hc 2 dX5_obeyed_97 rfl ?_
    refine wp_iconst (v := 2) hc dX5_obeyed_98 (by decide) ?_
    refine wp_callVf (As := [.int i2, .int 2]) (rest := [.int (fX3_numberOf M i2 1), .int (fX3_numberOf M i2 0), .ref (z (16 + 12 * q1))]) (j := 10) (v := (fX3_numberOf M i2 2)) hc hx (kX3_numberOf l D cy z hz M i2 2) cw204 (by decide) (by decide) (ce_2 rfl) rfl rfl rfl rfl (Nat.le_of_ble_eq_true rfl) dX5_obeyed_99 ?_
    refine wp_callVw (As := [.int (fX3_numberOf M i2 0), .int (fX3_numberOf M i2 1), .int (fX3_numberOf M i2 2)]) (rest := []) (j := (16 + 12 * q1)) (w := sX2_putError M q1 (fX3_numberOf M i2 0) (fX3_numberOf M i2 1) (fX3_numberOf M i2 2)) hc hx (kX2_putError l D cy z hz M q1 (fX3_numberOf M i2 0) (fX3_numberOf M i2 1) (fX3_numberOf M i2 2) haq1) cw53 (Nat.zero_le _) (by have := haq1; omega) (ce_1 (kd_st haq1)) rfl rfl rfl rfl (Nat.le_of_ble_eq_true rfl) dX5_obeyed_102 (fun x3 hx3 => ?_)
    refine wp_iret hc hr hk ?_ dX5_obeyed_105
    show (x3.1, x3.2) = sX5_obeyed M q1 i2
    rw [sX5_obeyed, if_neg c8_98, if_neg c8_99, if_pos c8_101, tk_eq hx3]
  by_cases c8_108 : (fX3_letterOf M i2) = 108
  · refine wp_cvt c8_108 ?_
    refine wp_lookup (tgt := 106) (off := 98) hc dX5_obeyed_8 (by decide) (by decide) (by decide) ?_
    refine wp_aload_n hc 0 dX5_obeyed_106 rfl ?_
    refine wp_get hc hx hin5 (j := 0) (by decide) (by decide) (ce_4 rfl) rfl 0 (by decide) hf12 rfl dX5_obeyed_107 ?_
    refine wp_aload_n hc 1 dX5_obeyed_110 rfl ?_
    refine wp_callVw (As := [.ref (z (16 + 12 * q1))]) (rest := []) (j := 1) (w := sX4_learnErrors M q1) hc hx (kX4_learnErrors l D cy z hz M q1 haq1) cw88 (by decide) (by decide) (ce_3 rfl) rfl rfl rfl rfl (Nat.le_of_ble_eq_true rfl) dX5_obeyed_111 (fun x4 hx4 => ?_)
    refine wp_iret hc hr hk ?_ dX5_obeyed_114
    show (x4.1, x4.2) = sX5_obeyed M q1 i2
    rw [sX5_obeyed, if_neg c8_98, if_neg c8_99, if_neg c8_101, if_pos c8_108, tk_eq hx4]
  by_cases c8_114 : (fX3_letterOf M i2) = 114
  · refine wp_cvt c8_114 ?_
    refine wp_lookup (tgt := 115) (off := 107) hc dX5_obeyed_8 (by decide) (by decide) (by decide) ?_
    refine wp_aload_n hc 0 dX5_obeyed_115 rfl ?_
    refine wp_get hc hx hin5 (j := 0) (by decide) (by decide) (ce_4 rfl) rfl 0 (by decide) hf12 rfl dX5_obeyed_116 ?_
    refine wp_aload_n hc 1 dX5_obeyed_119 rfl ?_
    refine wp_aload_n hc 0 dX5_obeyed_120 rfl ?_
    refine wp_get hc hx hin5 (j := 0) (by decide) (by decide) (ce_4 rfl) rfl 1 (by decide) hf19 rfl dX5_obeyed_121 ?_
    refine wp_iload_n hc 2 dX5_obeyed_124 rfl ?_
    refine wp_iconst (v := 0) hc dX5_obeyed_125 (by decide) ?_
    refine wp_callVf (As := [.int i2, .int 0]) (rest := [.ref (z (16 + 12 * q1)), .ref (z 1)]) (j := 10) (v := (fX3_numberOf M i2 0)) hc hx (kX3_numberOf l D cy z hz M i2 0) cw204 (by decide) (by decide) (ce_2 rfl) rfl rfl rfl rfl (Nat.le_of_ble_eq_true rfl) dX5_obeyed_126 ?_
    refine wp_callVw (As := [.ref (z (16 + 12 * q1)), .int (fX3_numberOf M i2 0)]) (rest := []) (j := 1) (w := sX4_addReading M q1 (fX3_numberOf M i2 0)) hc hx (kX4_addReading l D cy z hz M q1 (fX3_numberOf M i2 0) haq1) cw98 (by decide) (by decide) (ce_3 rfl) rfl rfl rfl rfl (Nat.le_of_ble_eq_true rfl) dX5_obeyed_129 (fun x5 hx5 => ?_)
    refine wp_iret hc hr hk ?_ dX5_obeyed_132
    show (x5.1, x5.2) = sX5_obeyed M q1 i2
    rw [sX5_obeyed, if_neg c8_98, if_neg c8_99, if_neg c8_101, if_neg c8_108, if_pos c8_114, tk_eq hx5]
  refine wp_lookup (tgt := 160) (off := 152) hc dX5_obeyed_8 (by decide) (by rw [lv_osw c8_98 (by decide), lv_osw c8_99 (by decide), lv_osw c8_101 (by decide), lv_osw c8_108 (by decide), lv_osw c8_114 (by decide)]; rfl) (by decide) ?_
  refine wp_bipush (v := (-2)) hc dX5_obeyed_160 (by decide) ?_
  refine wp_iret hc hr hk ?_ dX5_obeyed_162
  show ((-2), M) = sX5_obeyed M q1 i2
  rw [sX5_obeyed, if_neg c8_98, if_neg c8_99, if_neg c8_101, if_neg c8_108, if_neg c8_114]
set_option maxRecDepth 10000 in
theorem kfX5_obeyed (M : Mem) (q1 : Nat) (i2 : Int32) : KF2 (fun x => (2 ≤ x ∧ x ≤ 9) ∨ (16 + 12 * q1 ≤ x ∧ x < 28 + 12 * q1)) M (sX5_obeyed M q1 i2) := by
  unfold sX5_obeyed
  refine ite_ind (P := KF2 (fun x => (2 ≤ x ∧ x ≤ 9) ∨ (16 + 12 * q1 ≤ x ∧ x < 28 + 12 * q1)) M) (fun c1 => ?_) (fun c1 => ?_)
  · refine tk_ind (P := KF2 (fun x => (2 ≤ x ∧ x ≤ 9) ∨ (16 + 12 * q1 ≤ x ∧ x < 28 + 12 * q1)) M) _ _ (fun x1 hx1 => ?_)
    have k2 : KF2 (fun x => (2 ≤ x ∧ x ≤ 9) ∨ (16 + 12 * q1 ≤ x ∧ x < 28 + 12 * q1)) M x1 := by rw [hx1]; exact KF2.mono (kfX4_addGiven _ _ _) (fun x h => by first | exact h | ((try dsimp only at h ⊢); omega))
    exact (show KF (fun x => (2 ≤ x ∧ x ≤ 9) ∨ (16 + 12 * q1 ≤ x ∧ x < 28 + 12 * q1)) M x1.2 from k2)
  · refine ite_ind (P := KF2 (fun x => (2 ≤ x ∧ x ≤ 9) ∨ (16 + 12 * q1 ≤ x ∧ x < 28 + 12 * q1)) M) (fun c3 => ?_) (fun c3 => ?_)
    · refine tk_ind (P := KF2 (fun x => (2 ≤ x ∧ x ≤ 9) ∨ (16 + 12 * q1 ≤ x ∧ x < 28 + 12 * q1)) M) _ _ (fun x2 hx2 => ?_)
      have k4 : KF2 (fun x => (2 ≤ x ∧ x ≤ 9) ∨ (16 + 12 * q1 ≤ x ∧ x < 28 + 12 * q1)) M x2 := by rw [hx2]; exact KF2.mono (kfX4_addChain _ _ _ _) (fun x h => by first | exact h | ((try dsimp only at h ⊢); omega))
      exact (show KF (fun x => (2 ≤ x ∧ x ≤ 9) ∨ (16 + 12 * q1 ≤ x ∧ x < 28 + 12 * q1)) M x2.2 from k4)
    · refine ite_ind (P := KF2 (fun x => (2 ≤ x ∧ x ≤ 9) ∨ (16 + 12 * q1 ≤ x ∧ x < 28 + 12 * q1)) M) (fun c5 => ?_) (fun c5 => ?_)
      · refine tk_ind (P := KF2 (fun x => (2 ≤ x ∧ x ≤ 9) ∨ (16 + 12 * q1 ≤ x ∧ x < 28 + 12 * q1)) M) _ _ (fun x3 hx3 => ?_)
        have k6 : KF2 (fun x => (2 ≤ x ∧ x ≤ 9) ∨ (16 + 12 * q1 ≤ x ∧ x < 28 + 12 * q1)) M x3 := by rw [hx3]; exact KF2.mono (kfX2_putError _ _ _ _ _) (fun x h => by first | exact h | ((try dsimp only at h ⊢); omega))
        exact (show KF (fun x => (2 ≤ x ∧ x ≤ 9) ∨ (16 + 12 * q1 ≤ x ∧ x < 28 + 12 * q1)) M x3.2 from k6)
      · refine ite_ind (P := KF2 (fun x => (2 ≤ x ∧ x ≤ 9) ∨ (16 + 12 * q1 ≤ x ∧ x < 28 + 12 * q1)) M) (fun c7 => ?_) (fun c7 => ?_)
        · refine tk_ind (P := KF2 (fun x => (2 ≤ x ∧ x ≤ 9) ∨ (16 + 12 * q1 ≤ x ∧ x < 28 + 12 * q1)) M) _ _ (fun x4 hx4 => ?_)
          have k8 : KF2 (fun x => (2 ≤ x ∧ x ≤ 9) ∨ (16 + 12 * q1 ≤ x ∧ x < 28 + 12 * q1)) M x4 := by rw [hx4]; exact KF2.mono (kfX4_learnErrors _ _) (fun x h => by first | exact h | ((try dsimp only at h ⊢); omega))
          exact (show KF (fun x => (2 ≤ x ∧ x ≤ 9) ∨ (16 + 12 * q1 ≤ x ∧ x < 28 + 12 * q1)) M x4.2 from k8)
        · refine ite_ind (P := KF2 (fun x => (2 ≤ x ∧ x ≤ 9) ∨ (16 + 12 * q1 ≤ x ∧ x < 28 + 12 * q1)) M) (fun c9 => ?_) (fun c9 => ?_)
          · refine tk_ind (P := KF2 (fun x => (2 ≤ x ∧ x ≤ 9) ∨ (16 + 12 * q1 ≤ x ∧ x < 28 + 12 * q1)) M) _ _ (fun x5 hx5 => ?_)
            have k10 : KF2 (fun x => (2 ≤ x ∧ x ≤ 9) ∨ (16 + 12 * q1 ≤ x ∧ x < 28 + 12 * q1)) M x5 := by rw [hx5]; exact KF2.mono (kfX4_addReading _ _ _) (fun x h => by first | exact h | ((try dsimp only at h ⊢); omega))
            exact (show KF (fun x => (2 ≤ x ∧ x ≤ 9) ∨ (16 + 12 * q1 ≤ x ∧ x < 28 + 12 * q1)) M x5.2 from k10)
          · exact (show KF (fun x => (2 ≤ x ∧ x ≤ 9) ∨ (16 + 12 * q1 ≤ x ∧ x < 28 + 12 * q1)) M M from KF.rf)
