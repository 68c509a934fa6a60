def mx (h : Int64) (v : Int32) : Int64 := 31 * h + v.toInt64
def bxD (M : Mem) (b : Int32) (h : Int64) : Int64 :=
  mx (mx (mx (mx (mx (mx (mx (mx (mx (mx h (M.1 101 ((fX6_boxAt M b) + 0).toNatClampNeg)) (M.1 101 ((fX6_boxAt M b) + 1).toNatClampNeg)) (M.1 101 ((fX6_boxAt M b) + 2).toNatClampNeg)) (M.1 101 ((fX6_boxAt M b) + 3).toNatClampNeg)) (fX6_detBox M b)) (fX6_testOf M b 0)) (fX6_testOf M b 1)) (fX6_testOf M b 2)) (fX6_testOf M b 3)) (fX6_likeOf M b)
def dgB (M : Mem) : Nat → Int64
  | 0 => M.2.2
  | i + 1 => bxD M (nI i) (dgB M i)
def dgE (M : Mem) : Nat → Int64
  | 0 => M.2.2
  | i + 1 => mx (dgE M i) (M.1 101 (33 + i))
def dgL (M : Mem) : Nat → Int64
  | 0 => M.2.2
  | i + 1 => mx (dgL M i) (M.1 101 (46 + i))
def dgN (M : Mem) : Nat → Int64
  | 0 => M.2.2
  | i + 1 => 31 * dgN M i + -1
theorem sh_self (M : Mem) : sh M M.2.2 = M := rfl
theorem mixE (M : Mem) (v : Int64) : sX6_mix M v = sh M (31 * M.2.2 + v) := rfl
theorem sh_1 (M : Mem) (h : Int64) : (sh M h).1 = M.1 := rfl
theorem sh_2 (M : Mem) (h : Int64) : (sh M h).2.2 = h := rfl
theorem sh_sh (M : Mem) (h g : Int64) : sh (sh M h) g = sh M g := rfl
theorem sh_at (M : Mem) (h : Int64) (b : Int32) : fX6_boxAt (sh M h) b = fX6_boxAt M b := rfl
theorem sh_dt (M : Mem) (h : Int64) (b : Int32) : fX6_detBox (sh M h) b = fX6_detBox M b := rfl
theorem sh_so (M : Mem) (h : Int64) (a w : Int32) : fX6_isSo (sh M h) a w = fX6_isSo M a w := rfl
theorem sh_ts (M : Mem) (h : Int64) (b w : Int32) : fX6_testOf (sh M h) b w = fX6_testOf M b w := by
  unfold fX6_testOf
  rw [sh_at, sh_so]
theorem sh_lF (M : Mem) (h : Int64) (b : Int32) : ∀ n, lkF (sh M h) b n = lkF M b n
  | 0 => rfl
  | n + 1 => by
    rw [lkF, lkF, sh_lF M h b n]
    rfl
theorem sh_lk (M : Mem) (h : Int64) (b : Int32) : fX6_likeOf (sh M h) b = fX6_likeOf M b := by
  unfold fX6_likeOf
  exact sh_lF M h b _
def sX6_digest (M : Mem)  : Int64 × Mem :=
  tk (sh M 2693) fun M1 =>
  tk (sX6_mix M1 (fX6_countOf M1 0).toInt64) fun M2 =>
  tk (sX6_mix M2 (fX6_countOf M2 1).toInt64) fun M3 =>
  tk (sX6_mix M3 (fX6_countOf M3 2).toInt64) fun M4 =>
  tk (sX6_mix M4 (fX6_countOf M4 3).toInt64) fun M5 =>
  tk (sX6_mix M5 (fX6_countOf M5 4).toInt64) fun M6 =>
  tk (sX6_mix M6 (fX6_countOf M6 5).toInt64) fun M7 =>
  tk (sX6_mix M7 (fX6_countOf M7 6).toInt64) fun M8 =>
  tk (sh M8 (dgB M8 ((M8.1 101 0).toNatClampNeg))) fun M9 =>
  tk (sh M9 (dgE M9 (12))) fun M10 =>
  if M10.1 101 45 = 1 then
  tk (sh M10 (dgL M10 (12))) fun M11 =>
  (M11.2.2, M11)
  else
  tk (sh M10 (dgN M10 (12))) fun M14 =>
  (M14.2.2, M14)
set_option maxHeartbeats 4000000 in
set_option maxRecDepth 100000 in
theorem kX6_digest (l : Launch) (D : va_G) (cy : Nat → ClassId) (z : Nat → Nat) (hz : zI z) (M : Mem)  (hn : 0 ≤ (M.1 101 0).toInt ∧ (M.1 101 0).toInt ≤ 8) : KL l yX6_digest wsX6_digest { frames := 6, cells := 0, slots := 0, locals := 134 } D cy z 100 15 [.ref (z 100)] M (fun r u => (r, u) = sX6_digest M) := by
  refine met_wp (lv := [(0, .ref (z 100))]) hz (by decide) (by decide) rfl rfl (Nat.le_of_ble_eq_true rfl) rfl ?_
  intro p e s m below meth c hc hx hr hk
  have hNW := hx.2.1
  have hin6 : ∀ w ∈ wsX60, w ∈ wsX6_digest := by decide +kernel
  have hf7 : Cond.fieldLink RX6 7 (TX6 0).1 (TX6 0).2.1 (TX6 0).2.2.1 ∈ wsX6_digest := by decide +kernel
  have hf276 : Cond.fieldLink RX6 276 (TX6 20).1 (TX6 20).2.1 (TX6 20).2.2.1 ∈ wsX6_digest := by decide +kernel
  have cw85 : CallW ({ frames := 6, cells := 0, slots := 0, locals := 134 }) s _ RX6 RX6 85 yX6_boxAt cX6_boxAt 2 (some .int) wsX6_boxAt ({ frames := 0, cells := 0, slots := 0, locals := 0 }) 0 0 1 := cwV 1 hc.2.2.2.2 gX6_digest_X6_boxAt rfl rfl rfl (by decide +kernel) ⟨Nat.le_of_ble_eq_true rfl, Nat.le_of_ble_eq_true rfl⟩
  have cw175 : CallW ({ frames := 6, cells := 0, slots := 0, locals := 134 }) s _ RX6 RX6 175 yX6_detBox cX6_detBox 3 (some .int) wsX6_detBox ({ frames := 4, cells := 0, slots := 0, locals := 90 }) 0 0 1 := cwV 1 hc.2.2.2.2 gX6_digest_X6_detBox rfl rfl rfl (by decide +kernel) ⟨Nat.le_of_ble_eq_true rfl, Nat.le_of_ble_eq_true rfl⟩
  have cw213 : CallW ({ frames := 6, cells := 0, slots := 0, locals := 134 }) s _ RX6 RX6 213 yX6_testOf cX6_testOf 3 (some .int) wsX6_testOf ({ frames := 5, cells := 0, slots := 0, locals := 112 }) 0 0 2 := cwV 2 hc.2.2.2.2 gX6_digest_X6_testOf rfl rfl rfl (by decide +kernel) ⟨Nat.le_of_ble_eq_true rfl, Nat.le_of_ble_eq_true rfl⟩
  have cw216 : CallW ({ frames := 6, cells := 0, slots := 0, locals := 134 }) s _ RX6 RX6 216 yX6_likeOf cX6_likeOf 6 (some .int) wsX6_likeOf ({ frames := 1, cells := 0, slots := 0, locals := 21 }) 0 0 1 := cwV 1 hc.2.2.2.2 gX6_digest_X6_likeOf rfl rfl rfl (by decide +kernel) ⟨Nat.le_of_ble_eq_true rfl, Nat.le_of_ble_eq_true rfl⟩
  have cw271 : CallW ({ frames := 6, cells := 0, slots := 0, locals := 134 }) s _ RX6 RX6 271 yX6_countOf cX6_countOf 2 (some .int) wsX6_countOf ({ frames := 0, cells := 0, slots := 0, locals := 0 }) 0 0 1 := cwV 1 hc.2.2.2.2 gX6_digest_X6_countOf rfl rfl rfl (by decide +kernel) ⟨Nat.le_of_ble_eq_true rfl, Nat.le_of_ble_eq_true rfl⟩
  have cw282 : CallW ({ frames := 6, cells := 0, slots := 0, locals := 134 }) s _ RX6 RX6 282 yX6_mix cX6_mix 3 none wsX6_mix ({ frames := 0, cells := 0, slots := 0, locals := 0 }) 0 0 1 := cwV 1 hc.2.2.2.2 gX6_digest_X6_mix rfl rfl rfl (by decide +kernel) ⟨Nat.le_of_ble_eq_true rfl, Nat.le_of_ble_eq_true rfl⟩
  refine wp_aload_n hc 0 dX6_digest_0 rfl ?_
  refine wp_ldc2 (v := 2693) hc (by decide +kernel) dX6_digest_1 ?_
  refine wp_put (M' := sh M 2693) hc hx hin6 tyX6 tyX6_ok nmX6 (j := 100) (by decide) (by decide) (ce_5 rfl) rfl 20 (by decide) hf276 rfl rfl rfl (Nat.le_of_ble_eq_true rfl) (by rw [ce_5 rfl]; rfl) (fun i hi => ce_sh hi) dX6_digest_4 ?_
  refine wp_nm (fun M1 hM1 => ?_)
  refine wp_iconst (v := 0) hc dX6_digest_7 (by decide) ?_
  refine wp_istore_n (lv' := [(1, .int 0), (0, .ref (z 100))]) hc dX6_digest_8 (by decide) rfl ?_
  refine wp_iload_n hc 0 dX6_digest_9 rfl ?_
  refine wp_bipush (v := 7) hc dX6_digest_10 (by decide) ?_
  refine wp_icmp_ge (tgt := 31) hc dX6_digest_12 (by decide) (fun c => absurd c (by decide)) (fun _ => ?_)
  refine wp_aload_n hc 1 dX6_digest_15 rfl ?_
  refine wp_aload_n hc 1 dX6_digest_16 rfl ?_
  refine wp_iload_n hc 0 dX6_digest_17 rfl ?_
  refine wp_callVf (As := [.int 0]) (rest := [.ref (z 100)]) (j := 100) (v := (fX6_countOf M1 0)) hc hx (kX6_countOf l D cy z hz M1 0 (by decide)) cw271 (by decide) (by decide) (ce_5 rfl) rfl rfl rfl rfl (Nat.le_of_ble_eq_true rfl) dX6_digest_18 ?_
  refine wp_i2l hc dX6_digest_21 ?_
  refine wp_callVvw (As := [.long (fX6_countOf M1 0).toInt64]) (rest := []) (j := 100) (w := sX6_mix M1 (fX6_countOf M1 0).toInt64) hc hx (kX6_mix l D cy z hz M1 (fX6_countOf M1 0).toInt64) cw282 (by decide) (by decide) (ce_5 rfl) rfl rfl rfl rfl (Nat.le_of_ble_eq_true rfl) dX6_digest_22 (fun M2 hM2 => ?_)
  refine wp_iinc (v := 1) (lv' := [(1, .int 1), (0, .ref (z 100))]) hc 0 dX6_digest_25 rfl (by decide) (by decide) rfl ?_
  refine wp_goto (tgt := 9) hc dX6_digest_28 (by decide) ?_
  refine wp_iload_n hc 0 dX6_digest_9 rfl ?_
  refine wp_bipush (v := 7) hc dX6_digest_10 (by decide) ?_
  refine wp_icmp_ge (tgt := 31) hc dX6_digest_12 (by decide) (fun c => absurd c (by decide)) (fun _ => ?_)
  refine wp_aload_n hc 1 dX6_digest_15 rfl ?_
  refine wp_aload_n hc 1 dX6_digest_16 rfl ?_
  refine wp_iload_n hc 0 dX6_digest_17 rfl ?_
  refine wp_callVf (As := [.int 1]) (rest := [.ref (z 100)]) (j := 100) (v := (fX6_countOf M2 1)) hc hx (kX6_countOf l D cy z hz M2 1 (by decide)) cw271 (by decide) (by decide) (ce_5 rfl) rfl rfl rfl rfl (Nat.le_of_ble_eq_true rfl) dX6_digest_18 ?_
  refine wp_i2l hc dX6_digest_21 ?_
  refine wp_callVvw (As := [.long (fX6_countOf M2 1).toInt64]) (rest := []) (j := 100) (w := sX6_mix M2 (fX6_countOf M2 1).toInt64) hc hx (kX6_mix l D cy z hz M2 (fX6_countOf M2 1).toInt64) cw282 (by decide) (by decide) (ce_5 rfl) rfl rfl rfl rfl (Nat.le_of_ble_eq_true rfl) dX6_digest_22 (fun M3 hM3 => ?_)
  refine wp_iinc (v := 2) (lv' := [(1, .int 2), (0, .ref (z 100))]) hc 0 dX6_digest_25 rfl (by decide) (by decide) rfl ?_
  refine wp_goto (tgt := 9) hc dX6_digest_28 (by decide) ?_
  refine wp_iload_n hc 0 dX6_digest_9 rfl ?_
  refine wp_bipush (v := 7) hc dX6_digest_10 (by decide) ?_
  refine wp_icmp_ge (tgt := 31) hc dX6_digest_12 (by decide) (fun c => absurd c (by decide)) (fun _ => ?_)
  refine wp_aload_n hc 1 dX6_digest_15 rfl ?_
  refine wp_aload_n hc 1 dX6_digest_16 rfl ?_
  refine wp_iload_n hc 0 dX6_digest_17 rfl ?_
  refine wp_callVf (As := [.int 2]) (rest := [.ref (z 100)]) (j := 100) (v := (fX6_countOf M3 2)) hc hx (kX6_countOf l D cy z hz M3 2 (by decide)) cw271 (by decide) (by decide) (ce_5 rfl) rfl rfl rfl rfl (Nat.le_of_ble_eq_true rfl) dX6_digest_18 ?_
  refine wp_i2l hc dX6_digest_21 ?_
  refine wp_callVvw (As := [.long (fX6_countOf M3 2).toInt64]) (rest := []) (j := 100) (w := sX6_mix M3 (fX6_countOf M3 2).toInt64) hc hx (kX6_mix l D cy z hz M3 (fX6_countOf M3 2).toInt64) cw282 (by decide) (by decide) (ce_5 rfl) rfl rfl rfl rfl (Nat.le_of_ble_eq_true rfl) dX6_digest_22 (fun M4 hM4 => ?_)
  refine wp_iinc (v := 3) (lv' := [(1, .int 3), (0, .ref (z 100))]) hc 0 dX6_digest_25 rfl (by decide) (by decide) rfl ?_
  refine wp_goto (tgt := 9) hc dX6_digest_28 (by decide) ?_
  refine wp_iload_n hc 0 dX6_digest_9 rfl ?_
  refine wp_bipush (v := 7) hc dX6_digest_10 (by decide) ?_
  refine wp_icmp_ge (tgt := 31) hc dX6_digest_12 (by decide) (fun c => absurd c (by decide)) (fun _ => ?_)
  refine wp_aload_n hc 1 dX6_digest_15 rfl ?_
  refine wp_aload_n hc 1 dX6_digest_16 rfl ?_
  refine wp_iload_n hc 0 dX6_digest_17 rfl ?_
  refine wp_callVf (As := [.int 3]) (rest := [.ref (z 100)]) (j := 100) (v := (fX6_countOf M4 3)) hc hx (kX6_countOf l D cy z hz M4 3 (by decide)) cw271 (by decide) (by decide) (ce_5 rfl) rfl rfl rfl rfl (Nat.le_of_ble_eq_true rfl) dX6_digest_18 ?_
  refine wp_i2l hc dX6_digest_21 ?_
  refine wp_callVvw (As := [.long (fX6_countOf M4 3).toInt64]) (rest := []) (j := 100) (w := sX6_mix M4 (fX6_countOf M4 3).toInt64) hc hx (kX6_mix l D cy z hz M4 (fX6_countOf M4 3).toInt64) cw282 (by decide) (by decide) (ce_5 rfl) rfl rfl rfl rfl (Nat.le_of_ble_eq_true rfl) dX6_digest_22 (fun M5 hM5 => ?_)
  refine wp_iinc (v := 4) (lv' := [(1, .int 4), (0, .ref (z 100))]) hc 0 dX6_digest_25 rfl (by decide) (by decide) rfl ?_
  refine wp_goto (tgt := 9) hc dX6_digest_28 (by decide) ?_
  refine wp_iload_n hc 0 dX6_digest_9 rfl ?_
  refine wp_bipush (v := 7) hc dX6_digest_10 (by decide) ?_
  refine wp_icmp_ge (tgt := 31) hc dX6_digest_12 (by decide) (fun c => absurd c (by decide)) (fun _ => ?_)
  refine wp_aload_n hc 1 dX6_digest_15 rfl ?_
  refine wp_aload_n hc 1 dX6_digest_16 rfl ?_
  refine wp_iload_n hc 0 dX6_digest_17 rfl ?_
  refine wp_callVf (As := [.int 4]) (rest := [.ref (z 100)]) (j := 100) (v := (fX6_countOf M5 4)) hc hx (kX6_countOf l D cy z hz M5 4 (by decide)) cw271 (by decide) (by decide) (ce_5 rfl) rfl rfl rfl rfl (Nat.le_of_ble_eq_true rfl) dX6_digest_18 ?_
  refine wp_i2l hc dX6_digest_21 ?_
  refine wp_callVvw (As := [.long (fX6_countOf M5 4).toInt64]) (rest := []) (j := 100) (w := sX6_mix M5 (fX6_countOf M5 4).toInt64) hc hx (kX6_mix l D cy z hz M5 (fX6_countOf M5 4).toInt64) cw282 (by decide) (by decide) (ce_5 rfl) rfl rfl rfl rfl (Nat.le_of_ble_eq_true rfl) dX6_digest_22 (fun M6 hM6 => ?_)
  refine wp_iinc (v := 5) (lv' := [(1, .int 5), (0, .ref (z 100))]) hc 0 dX6_digest_25 rfl (by decide) (by decide) rfl ?_
  refine wp_goto (tgt := 9) hc dX6_digest_28 (by decide) ?_
  refine wp_iload_n hc 0 dX6_digest_9 rfl ?_
  refine wp_bipush (v := 7) hc dX6_digest_10 (by decide) ?_
  refine wp_icmp_ge (tgt := 31) hc dX6_digest_12 (by decide) (fun c => absurd c (by decide)) (fun _ => ?_)
  refine wp_aload_n hc 1 dX6_digest_15 rfl ?_
  refine wp_aload_n hc 1 dX6_digest_16 rfl ?_
  refine wp_iload_n hc 0 dX6_digest_17 rfl ?_
  refine wp_callVf (As := [.int 5]) (rest := [.ref (z 100)]) (j := 100) (v := (fX6_countOf M6 5)) hc hx (kX6_countOf l D cy z hz M6 5 (by decide)) cw271 (by decide) (by decide) (ce_5 rfl) rfl rfl rfl rfl (Nat.le_of_ble_eq_true rfl) dX6_digest_18 ?_
  refine wp_i2l hc dX6_digest_21 ?_
  refine wp_callVvw (As := [.long (fX6_countOf M6 5).toInt64]) (rest := []) (j := 100) (w := sX6_mix M6 (fX6_countOf M6 5).toInt64) hc hx (kX6_mix l D cy z hz M6 (fX6_countOf M6 5).toInt64) cw282 (by decide) (by decide) (ce_5 rfl) rfl rfl rfl rfl (Nat.le_of_ble_eq_true rfl) dX6_digest_22 (fun M7 hM7 => ?_)
  refine wp_iinc (v := 6) (lv' := [(1, .int 6), (0, .ref (z 100))]) hc 0 dX6_digest_25 rfl (by decide) (by decide) rfl ?_
  refine wp_goto (tgt := 9) hc dX6_digest_28 (by decide) ?_
  refine wp_iload_n hc 0 dX6_digest_9 rfl ?_
  refine wp_bipush (v := 7) hc dX6_digest_10 (by decide) ?_
  refine wp_icmp_ge (tgt := 31) hc dX6_digest_12 (by decide) (fun c => absurd c (by decide)) (fun _ => ?_)
  refine wp_aload_n hc 1 dX6_digest_15 rfl ?_
  refine wp_aload_n hc 1 dX6_digest_16 rfl ?_
  refine wp_iload_n hc 0 dX6_digest_17 rfl ?_
  refine wp_callVf (As := [.int 6]) (rest := [.ref (z 100)]) (j := 100) (v := (fX6_countOf M7 6)) hc hx (kX6_countOf l D cy z hz M7 6 (by decide)) cw271 (by decide) (by decide) (ce_5 rfl) rfl rfl rfl rfl (Nat.le_of_ble_eq_true rfl) dX6_digest_18 ?_
  refine wp_i2l hc dX6_digest_21 ?_
  refine wp_callVvw (As := [.long (fX6_countOf M7 6).toInt64]) (rest := []) (j := 100) (w := sX6_mix M7 (fX6_countOf M7 6).toInt64) hc hx (kX6_mix l D cy z hz M7 (fX6_countOf M7 6).toInt64) cw282 (by decide) (by decide) (ce_5 rfl) rfl rfl rfl rfl (Nat.le_of_ble_eq_true rfl) dX6_digest_22 (fun M8 hM8 => ?_)
  refine wp_iinc (v := 7) (lv' := [(1, .int 7), (0, .ref (z 100))]) hc 0 dX6_digest_25 rfl (by decide) (by decide) rfl ?_
  refine wp_goto (tgt := 9) hc dX6_digest_28 (by decide) ?_
  refine wp_iload_n hc 0 dX6_digest_9 rfl ?_
  refine wp_bipush (v := 7) hc dX6_digest_10 (by decide) ?_
  refine wp_icmp_ge (tgt := 31) hc dX6_digest_12 (by decide) (fun _ => ?_) (fun c => absurd c (by decide))
  refine wp_iconst (v := 0) hc dX6_digest_31 (by decide) ?_
  refine wp_istore_n (lv' := [(1, .int 0), (0, .ref (z 100))]) hc dX6_digest_32 (by decide) rfl ?_
  have hn7 : 0 ≤ (M8.1 101 0).toInt ∧ (M8.1 101 0).toInt ≤ 8 := by
    have e7 : M8.1 = M.1 := by subst_vars; simp only [mixE, sh_1]
    rw [e7]; exact hn
  have n7 := cl_T hn7.1
  refine wp_eqM (M' := sh M8 (dgB M8 (0))) (sh_self _) ?_
  refine wp_lv (lv' := [(0, .ref (z 100)), (1, .int (nI (0)))]) [1, 0] rfl ?_
  refine wp_loop ((M8.1 101 0).toNatClampNeg) (fun i => sh M8 (dgB M8 (i))) (fun i => [(0, .ref (z 100)), (1, .int (nI (i)))]) ?_ ?_ 0 (by omega)
  · show WP _ _ _ _ _ _ _ _ _ _ _ _ _ (sh M8 (dgB M8 ((M8.1 101 0).toNatClampNeg))) [(0, .ref (z 100)), (1, .int (nI ((M8.1 101 0).toNatClampNeg)))] _ _
    refine wp_nm (fun M9 hM9 => ?_)
    have hb0 : M9.1 101 0 = nI ((M8.1 101 0).toNatClampNeg) := by rw [hM9]; exact nI_cl hn7.1
    refine wp_iload_n hc 1 dX6_digest_33 rfl ?_
    refine wp_aload_n hc 0 dX6_digest_34 rfl ?_
    refine wp_get hc hx hin6 (j := 100) (by decide) (by decide) (ce_5 rfl) rfl 0 (by decide) hf7 rfl dX6_digest_35 ?_
    refine wp_iconst (v := 0) hc dX6_digest_38 (by decide) ?_
    refine wp_iald hc hx (j := 101) (by decide) (by decide) rfl 0 rfl (vin (by decide)) dX6_digest_39 ?_
    refine wp_icmp_ge (tgt := 123) hc dX6_digest_40 (by decide) (fun _ => ?_) (fun c => absurd c (fun q => q (by rw [hb0]; exact nI_le (Nat.le_refl _) (by omega))))
    refine wp_iconst (v := 0) hc dX6_digest_123 (by decide) ?_
    refine wp_istore_n (lv' := [(1, .int 0), (0, .ref (z 100))]) hc dX6_digest_124 (by decide) rfl ?_
    refine wp_eqM (M' := sh M9 (dgE M9 (0))) (sh_self _) ?_
    refine wp_lv (lv' := [(0, .ref (z 100)), (1, .int (nI (0)))]) [1, 0] rfl ?_
    refine wp_loop (12) (fun i => sh M9 (dgE M9 (i))) (fun i => [(0, .ref (z 100)), (1, .int (nI (i)))]) ?_ ?_ 0 (by omega)
    · show WP _ _ _ _ _ _ _ _ _ _ _ _ _ (sh M9 (dgE M9 (12))) [(0, .ref (z 100)), (1, .int (nI (12)))] _ _
      refine wp_nm (fun M10 hM10 => ?_)
      refine wp_iload_n hc 1 dX6_digest_125 rfl ?_
      refine wp_bipush (v := 12) hc dX6_digest_126 (by decide) ?_
      refine wp_icmp_ge (tgt := 151) hc dX6_digest_128 (by decide) (fun _ => ?_) (fun c => absurd c (by decide))
      by_cases hkn : M10.1 101 45 = 1
      · refine wp_iconst (v := 0) hc dX6_digest_151 (by decide) ?_
        refine wp_istore_n (lv' := [(1, .int 0), (0, .ref (z 100))]) hc dX6_digest_152 (by decide) rfl ?_
        refine wp_eqM (M' := sh M10 (dgL M10 (0))) (sh_self _) ?_
        refine wp_lv (lv' := [(0, .ref (z 100)), (1, .int (nI (0)))]) [1, 0] rfl ?_
        refine wp_loop (12) (fun i => sh M10 (dgL M10 (i))) (fun i => [(0, .ref (z 100)), (1, .int (nI (i)))]) ?_ ?_ 0 (by omega)
        · show WP _ _ _ _ _ _ _ _ _ _ _ _ _ (sh M10 (dgL M10 (12))) [(0, .ref (z 100)), (1, .int (nI (12)))] _ _
          refine wp_nm (fun M11 hM11 => ?_)
          refine wp_iload_n hc 1 dX6_digest_153 rfl ?_
          refine wp_bipush (v := 12) hc dX6_digest_154 (by decide) ?_
          refine wp_icmp_ge (tgt := 196) hc dX6_digest_156 (by decide) (fun _ => ?_) (fun c => absurd c (by decide))
          refine wp_aload_n hc 0 dX6_digest_196 rfl ?_
          refine wp_get hc hx hin6 (j := 100) (by decide) (by decide) (ce_5 rfl) rfl 20 (by decide) hf276 rfl dX6_digest_197 ?_
          refine wp_lret hc hr hk ?_ dX6_digest_200
          show (M11.2.2, M11) = sX6_digest M
          rw [sX6_digest, tk_eq hM1, tk_eq hM2, tk_eq hM3, tk_eq hM4, tk_eq hM5, tk_eq hM6, tk_eq hM7, tk_eq hM8, tk_eq hM9, tk_eq hM10, if_pos hkn, tk_eq hM11]
        · intro i hi ih
          show WP _ _ _ _ _ _ _ _ _ _ _ _ _ (sh M10 (dgL M10 (i))) [(0, .ref (z 100)), (1, .int (nI (i)))] _ _
          refine wp_nm (fun M12 hM12 => ?_)
          refine wp_iload_n hc 1 dX6_digest_153 rfl ?_
          refine wp_bipush (v := 12) hc dX6_digest_154 (by decide) ?_
          refine wp_icmp_ge (tgt := 196) hc dX6_digest_156 (by decide) (fun c => absurd c (nIlt hi (by decide))) (fun _ => ?_)
          refine wp_aload_n hc 0 dX6_digest_159 rfl ?_
          refine wp_aload_n hc 0 dX6_digest_160 rfl ?_
          refine wp_get hc hx hin6 (j := 100) (by decide) (by decide) (ce_5 rfl) rfl 0 (by decide) hf7 rfl dX6_digest_161 ?_
          refine wp_bipush (v := 45) hc dX6_digest_164 (by decide) ?_
          refine wp_iald hc hx (j := 101) (by decide) (by decide) rfl 45 rfl (vin (by decide)) dX6_digest_166 ?_
          refine wp_iconst (v := 1) hc dX6_digest_167 (by decide) ?_
          refine wp_icmp_ne (tgt := 184) hc dX6_digest_168 (by decide) (fun c => absurd c (fun q => q (by rw [hM12]; exact hkn))) (fun _ => ?_)
          refine wp_aload_n hc 0 dX6_digest_171 rfl ?_
          refine wp_get hc hx hin6 (j := 100) (by decide) (by decide) (ce_5 rfl) rfl 0 (by decide) hf7 rfl dX6_digest_172 ?_
          refine wp_bipush (v := 46) hc dX6_digest_175 (by decide) ?_
          refine wp_iload_n hc 1 dX6_digest_177 rfl ?_
          refine wp_iadd hc dX6_digest_178 ?_
          refine wp_iald hc hx (j := 101) (by decide) (by decide) rfl (46 + i) (by rw [show 46 + nI (i) = nI (46 + i) from nI_add 46 i]; exact nI_clamp (by omega)) (by rw [show 46 + nI (i) = nI (46 + i) from nI_add 46 i]; exact (vpl 58 rfl (by omega) (by decide))) dX6_digest_179 ?_
          refine wp_i2l hc dX6_digest_180 ?_
          refine wp_goto (tgt := 187) hc dX6_digest_181 (by decide) ?_
          refine wp_callVvw (As := [.long (M12.1 101 (46 + i)).toInt64]) (rest := []) (j := 100) (w := sX6_mix M12 (M12.1 101 (46 + i)).toInt64) hc hx (kX6_mix l D cy z hz M12 (M12.1 101 (46 + i)).toInt64) cw282 (by decide) (by decide) (ce_5 rfl) rfl rfl rfl rfl (Nat.le_of_ble_eq_true rfl) dX6_digest_187 (fun M13 hM13 => ?_)
          refine wp_iinc (v := ((nI (i)) + 1)) (lv' := [(1, .int ((nI (i)) + 1)), (0, .ref (z 100))]) hc 1 dX6_digest_190 rfl rfl (by decide) rfl ?_
          refine wp_goto (tgt := 153) hc dX6_digest_193 (by decide) ?_
          rw [nI_1]
          have hEq : sh M10 (dgL M10 (i + 1)) = M13 := by
            rw [hM13, hM12]
            rfl
          exact wp_eqM hEq (wp_lv [1, 0] rfl ih)
      refine wp_iconst (v := 0) hc dX6_digest_151 (by decide) ?_
      refine wp_istore_n (lv' := [(1, .int 0), (0, .ref (z 100))]) hc dX6_digest_152 (by decide) rfl ?_
      refine wp_eqM (M' := sh M10 (dgN M10 (0))) (sh_self _) ?_
      refine wp_lv (lv' := [(0, .ref (z 100)), (1, .int (nI (0)))]) [1, 0] rfl ?_
      refine wp_loop (12) (fun i => sh M10 (dgN M10 (i))) (fun i => [(0, .ref (z 100)), (1, .int (nI (i)))]) ?_ ?_ 0 (by omega)
      · show WP _ _ _ _ _ _ _ _ _ _ _ _ _ (sh M10 (dgN M10 (12))) [(0, .ref (z 100)), (1, .int (nI (12)))] _ _
        refine wp_nm (fun M14 hM14 => ?_)
        refine wp_iload_n hc 1 dX6_digest_153 rfl ?_
        refine wp_bipush (v := 12) hc dX6_digest_154 (by decide) ?_
        refine wp_icmp_ge (tgt := 196) hc dX6_digest_156 (by decide) (fun _ => ?_) (fun c => absurd c (by decide))
        refine wp_aload_n hc 0 dX6_digest_196 rfl ?_
        refine wp_get hc hx hin6 (j := 100) (by decide) (by decide) (ce_5 rfl) rfl 20 (by decide) hf276 rfl dX6_digest_197 ?_
        refine wp_lret hc hr hk ?_ dX6_digest_200
        show (M14.2.2, M14) = sX6_digest M
        rw [sX6_digest, tk_eq hM1, tk_eq hM2, tk_eq hM3, tk_eq hM4, tk_eq hM5, tk_eq hM6, tk_eq hM7, tk_eq hM8, tk_eq hM9, tk_eq hM10, if_neg hkn, tk_eq hM14]
      · intro i hi ih
        show WP _ _ _ _ _ _ _ _ _ _ _ _ _ (sh M10 (dgN M10 (i))) [(0, .ref (z 100)), (1, .int (nI (i)))] _ _
        refine wp_nm (fun M15 hM15 => ?_)
        refine wp_iload_n hc 1 dX6_digest_153 rfl ?_
        refine wp_bipush (v := 12) hc dX6_digest_154 (by decide) ?_
        refine wp_icmp_ge (tgt := 196) hc dX6_digest_156 (by decide) (fun c => absurd c (nIlt hi (by decide))) (fun _ => ?_)
        refine wp_aload_n hc 0 dX6_digest_159 rfl ?_
        refine wp_aload_n hc 0 dX6_digest_160 rfl ?_
        refine wp_get hc hx hin6 (j := 100) (by decide) (by decide) (ce_5 rfl) rfl 0 (by decide) hf7 rfl dX6_digest_161 ?_
        refine wp_bipush (v := 45) hc dX6_digest_164 (by decide) ?_
        refine wp_iald hc hx (j := 101) (by decide) (by decide) rfl 45 rfl (vin (by decide)) dX6_digest_166 ?_
        refine wp_iconst (v := 1) hc dX6_digest_167 (by decide) ?_
        refine wp_icmp_ne (tgt := 184) hc dX6_digest_168 (by decide) (fun _ => ?_) (fun c => absurd c (fun q => hkn (by rw [hM15] at q; exact q)))
        refine wp_ldc2 (v := (-1)) hc (by decide +kernel) dX6_digest_184 ?_
        refine wp_callVvw (As := [.long (-1)]) (rest := []) (j := 100) (w := sX6_mix M15 (-1)) hc hx (kX6_mix l D cy z hz M15 (-1)) cw282 (by decide) (by decide) (ce_5 rfl) rfl rfl rfl rfl (Nat.le_of_ble_eq_true rfl) dX6_digest_187 (fun M16 hM16 => ?_)
        refine wp_iinc (v := ((nI (i)) + 1)) (lv' := [(1, .int ((nI (i)) + 1)), (0, .ref (z 100))]) hc 1 dX6_digest_190 rfl rfl (by decide) rfl ?_
        refine wp_goto (tgt := 153) hc dX6_digest_193 (by decide) ?_
        rw [nI_1]
        have hEq : sh M10 (dgN M10 (i + 1)) = M16 := by
          rw [hM16, hM15]
          rfl
        exact wp_eqM hEq (wp_lv [1, 0] rfl ih)
    · intro i hi ih
      show WP _ _ _ _ _ _ _ _ _ _ _ _ _ (sh M9 (dgE M9 (i))) [(0, .ref (z 100)), (1, .int (nI (i)))] _ _
      refine wp_nm (fun M17 hM17 => ?_)
      refine wp_iload_n hc 1 dX6_digest_125 rfl ?_
      refine wp_bipush (v := 12) hc dX6_digest_126 (by decide) ?_
      refine wp_icmp_ge (tgt := 151) hc dX6_digest_128 (by decide) (fun c => absurd c (nIlt hi (by decide))) (fun _ => ?_)
      refine wp_aload_n hc 0 dX6_digest_131 rfl ?_
      refine wp_aload_n hc 0 dX6_digest_132 rfl ?_
      refine wp_get hc hx hin6 (j := 100) (by decide) (by decide) (ce_5 rfl) rfl 0 (by decide) hf7 rfl dX6_digest_133 ?_
      refine wp_bipush (v := 33) hc dX6_digest_136 (by decide) ?_
      refine wp_iload_n hc 1 dX6_digest_138 rfl ?_
      refine wp_iadd hc dX6_digest_139 ?_
      refine wp_iald hc hx (j := 101) (by decide) (by decide) rfl (33 + i) (by rw [show 33 + nI (i) = nI (33 + i) from nI_add 33 i]; exact nI_clamp (by omega)) (by rw [show 33 + nI (i) = nI (33 + i) from nI_add 33 i]; exact (vpl 58 rfl (by omega) (by decide))) dX6_digest_140 ?_
      refine wp_i2l hc dX6_digest_141 ?_
      refine wp_callVvw (As := [.long (M17.1 101 (33 + i)).toInt64]) (rest := []) (j := 100) (w := sX6_mix M17 (M17.1 101 (33 + i)).toInt64) hc hx (kX6_mix l D cy z hz M17 (M17.1 101 (33 + i)).toInt64) cw282 (by decide) (by decide) (ce_5 rfl) rfl rfl rfl rfl (Nat.le_of_ble_eq_true rfl) dX6_digest_142 (fun M18 hM18 => ?_)
      refine wp_iinc (v := ((nI (i)) + 1)) (lv' := [(1, .int ((nI (i)) + 1)), (0, .ref (z 100))]) hc 1 dX6_digest_145 rfl rfl (by decide) rfl ?_
      refine wp_goto (tgt := 125) hc dX6_digest_148 (by decide) ?_
      rw [nI_1]
      have hEq : sh M9 (dgE M9 (i + 1)) = M18 := by
        rw [hM18, hM17]
        rfl
      exact wp_eqM hEq (wp_lv [1, 0] rfl ih)
  · intro i hi ih
    show WP _ _ _ _ _ _ _ _ _ _ _ _ _ (sh M8 (dgB M8 (i))) [(0, .ref (z 100)), (1, .int (nI (i)))] _ _
    refine wp_nm (fun M19 hM19 => ?_)
    have hb0 : M19.1 101 0 = nI ((M8.1 101 0).toNatClampNeg) := by rw [hM19]; exact nI_cl hn7.1
    have hbi : 0 ≤ (nI i).toInt ∧ (nI i).toInt < 8 := by rw [nI_T (by omega)]; omega
    refine wp_iload_n hc 1 dX6_digest_33 rfl ?_
    refine wp_aload_n hc 0 dX6_digest_34 rfl ?_
    refine wp_get hc hx hin6 (j := 100) (by decide) (by decide) (ce_5 rfl) rfl 0 (by decide) hf7 rfl dX6_digest_35 ?_
    refine wp_iconst (v := 0) hc dX6_digest_38 (by decide) ?_
    refine wp_iald hc hx (j := 101) (by decide) (by decide) rfl 0 rfl (vin (by decide)) dX6_digest_39 ?_
    refine wp_icmp_ge (tgt := 123) hc dX6_digest_40 (by decide) (fun c => absurd c (by rw [hb0]; exact nI_ge hi (by omega))) (fun _ => ?_)
    refine wp_iconst (v := 0) hc dX6_digest_43 (by decide) ?_
    refine wp_istore_n (lv' := [(2, .int 0), (0, .ref (z 100)), (1, .int (nI (i)))]) hc dX6_digest_44 (by decide) rfl ?_
    refine wp_iload_n hc 0 dX6_digest_45 rfl ?_
    refine wp_iconst (v := 4) hc dX6_digest_46 (by decide) ?_
    refine wp_icmp_ge (tgt := 73) hc dX6_digest_47 (by decide) (fun c => absurd c (by decide)) (fun _ => ?_)
    refine wp_aload_n hc 1 dX6_digest_50 rfl ?_
    refine wp_aload_n hc 1 dX6_digest_51 rfl ?_
    refine wp_get hc hx hin6 (j := 100) (by decide) (by decide) (ce_5 rfl) rfl 0 (by decide) hf7 rfl dX6_digest_52 ?_
    refine wp_aload_n hc 1 dX6_digest_55 rfl ?_
    refine wp_iload_n hc 2 dX6_digest_56 rfl ?_
    refine wp_callVf (As := [.int (nI (i))]) (rest := [.ref (z 101), .ref (z 100)]) (j := 100) (v := (fX6_boxAt M19 (nI (i)))) hc hx (kX6_boxAt l D cy z hz M19 (nI (i))) cw85 (by decide) (by decide) (ce_5 rfl) rfl rfl rfl rfl (Nat.le_of_ble_eq_true rfl) dX6_digest_57 ?_
    refine wp_iload_n hc 0 dX6_digest_60 rfl ?_
    refine wp_iadd hc dX6_digest_61 ?_
    refine wp_iald hc hx (j := 101) (by decide) (by decide) rfl ((fX6_boxAt M19 (nI (i))) + 0).toNatClampNeg rfl (ixbk hbi (by decide)) dX6_digest_62 ?_
    refine wp_i2l hc dX6_digest_63 ?_
    refine wp_callVvw (As := [.long (M19.1 101 ((fX6_boxAt M19 (nI (i))) + 0).toNatClampNeg).toInt64]) (rest := []) (j := 100) (w := sX6_mix M19 (M19.1 101 ((fX6_boxAt M19 (nI (i))) + 0).toNatClampNeg).toInt64) hc hx (kX6_mix l D cy z hz M19 (M19.1 101 ((fX6_boxAt M19 (nI (i))) + 0).toNatClampNeg).toInt64) cw282 (by decide) (by decide) (ce_5 rfl) rfl rfl rfl rfl (Nat.le_of_ble_eq_true rfl) dX6_digest_64 (fun M20 hM20 => ?_)
    refine wp_iinc (v := 1) (lv' := [(2, .int 1), (0, .ref (z 100)), (1, .int (nI (i)))]) hc 0 dX6_digest_67 rfl (by decide) (by decide) rfl ?_
    refine wp_goto (tgt := 45) hc dX6_digest_70 (by decide) ?_
    refine wp_iload_n hc 0 dX6_digest_45 rfl ?_
    refine wp_iconst (v := 4) hc dX6_digest_46 (by decide) ?_
    refine wp_icmp_ge (tgt := 73) hc dX6_digest_47 (by decide) (fun c => absurd c (by decide)) (fun _ => ?_)
    refine wp_aload_n hc 1 dX6_digest_50 rfl ?_
    refine wp_aload_n hc 1 dX6_digest_51 rfl ?_
    refine wp_get hc hx hin6 (j := 100) (by decide) (by decide) (ce_5 rfl) rfl 0 (by decide) hf7 rfl dX6_digest_52 ?_
    refine wp_aload_n hc 1 dX6_digest_55 rfl ?_
    refine wp_iload_n hc 2 dX6_digest_56 rfl ?_
    refine wp_callVf (As := [.int (nI (i))]) (rest := [.ref (z 101), .ref (z 100)]) (j := 100) (v := (fX6_boxAt M20 (nI (i)))) hc hx (kX6_boxAt l D cy z hz M20 (nI (i))) cw85 (by decide) (by decide) (ce_5 rfl) rfl rfl rfl rfl (Nat.le_of_ble_eq_true rfl) dX6_digest_57 ?_
    refine wp_iload_n hc 0 dX6_digest_60 rfl ?_
    refine wp_iadd hc dX6_digest_61 ?_
    refine wp_iald hc hx (j := 101) (by decide) (by decide) rfl ((fX6_boxAt M20 (nI (i))) + 1).toNatClampNeg rfl (ixbk hbi (by decide)) dX6_digest_62 ?_
    refine wp_i2l hc dX6_digest_63 ?_
    refine wp_callVvw (As := [.long (M20.1 101 ((fX6_boxAt M20 (nI (i))) + 1).toNatClampNeg).toInt64]) (rest := []) (j := 100) (w := sX6_mix M20 (M20.1 101 ((fX6_boxAt M20 (nI (i))) + 1).toNatClampNeg).toInt64) hc hx (kX6_mix l D cy z hz M20 (M20.1 101 ((fX6_boxAt M20 (nI (i))) + 1).toNatClampNeg).toInt64) cw282 (by decide) (by decide) (ce_5 rfl) rfl rfl rfl rfl (Nat.le_of_ble_eq_true rfl) dX6_digest_64 (fun M21 hM21 => ?_)
    refine wp_iinc (v := 2) (lv' := [(2, .int 2), (0, .ref (z 100)), (1, .int (nI (i)))]) hc 0 dX6_digest_67 rfl (by decide) (by decide) rfl ?_
    refine wp_goto (tgt := 45) hc dX6_digest_70 (by decide) ?_
    refine wp_iload_n hc 0 dX6_digest_45 rfl ?_
    refine wp_iconst (v := 4) hc dX6_digest_46 (by decide) ?_
    refine wp_icmp_ge (tgt := 73) hc dX6_digest_47 (by decide) (fun c => absurd c (by decide)) (fun _ => ?_)
    refine wp_aload_n hc 1 dX6_digest_50 rfl ?_
    refine wp_aload_n hc 1 dX6_digest_51 rfl ?_
    refine wp_get hc hx hin6 (j := 100) (by decide) (by decide) (ce_5 rfl) rfl 0 (by decide) hf7 rfl dX6_digest_52 ?_
    refine wp_aload_n hc 1 dX6_digest_55 rfl ?_
    refine wp_iload_n hc 2 dX6_digest_56 rfl ?_
    refine wp_callVf (As := [.int (nI (i))]) (rest := [.ref (z 101), .ref (z 100)]) (j := 100) (v := (fX6_boxAt M21 (nI (i)))) hc hx (kX6_boxAt l D cy z hz M21 (nI (i))) cw85 (by decide) (by decide) (ce_5 rfl) rfl rfl rfl rfl (Nat.le_of_ble_eq_true rfl) dX6_digest_57 ?_
    refine wp_iload_n hc 0 dX6_digest_60 rfl ?_
    refine wp_iadd hc dX6_digest_61 ?_
    refine wp_iald hc hx (j := 101) (by decide) (by decide) rfl ((fX6_boxAt M21 (nI (i))) + 2).toNatClampNeg rfl (ixbk hbi (by decide)) dX6_digest_62 ?_
    refine wp_i2l hc dX6_digest_63 ?_
    refine wp_callVvw (As := [.long (M21.1 101 ((fX6_boxAt M21 (nI (i))) + 2).toNatClampNeg).toInt64]) (rest := []) (j := 100) (w := sX6_mix M21 (M21.1 101 ((fX6_boxAt M21 (nI (i))) + 2).toNatClampNeg).toInt64) hc hx (kX6_mix l D cy z hz M21 (M21.1 101 ((fX6_boxAt M21 (nI (i))) + 2).toNatClampNeg).toInt64) cw282 (by decide) (by decide) (ce_5 rfl) rfl rfl rfl rfl (Nat.le_of_ble_eq_true rfl) dX6_digest_64 (fun M22 hM22 => ?_)
    refine wp_iinc (v := 3) (lv' := [(2, .int 3), (0, .ref (z 100)), (1, .int (nI (i)))]) hc 0 dX6_digest_67 rfl (by decide) (by decide) rfl ?_
    refine wp_goto (tgt := 45) hc dX6_digest_70 (by decide) ?_
    refine wp_iload_n hc 0 dX6_digest_45 rfl ?_
    refine wp_iconst (v := 4) hc dX6_digest_46 (by decide) ?_
    refine wp_icmp_ge (tgt := 73) hc dX6_digest_47 (by decide) (fun c => absurd c (by decide)) (fun _ => ?_)
    refine wp_aload_n hc 1 dX6_digest_50 rfl ?_
    refine wp_aload_n hc 1 dX6_digest_51 rfl ?_
    refine wp_get hc hx hin6 (j := 100) (by decide) (by decide) (ce_5 rfl) rfl 0 (by decide) hf7 rfl dX6_digest_52 ?_
    refine wp_aload_n hc 1 dX6_digest_55 rfl ?_
    refine wp_iload_n hc 2 dX6_digest_56 rfl ?_
    refine wp_callVf (As := [.int (nI (i))]) (rest := [.ref (z 101), .ref (z 100)]) (j := 100) (v := (fX6_boxAt M22 (nI (i)))) hc hx (kX6_boxAt l D cy z hz M22 (nI (i))) cw85 (by decide) (by decide) (ce_5 rfl) rfl rfl rfl rfl (Nat.le_of_ble_eq_true rfl) dX6_digest_57 ?_
    refine wp_iload_n hc 0 dX6_digest_60 rfl ?_
    refine wp_iadd hc dX6_digest_61 ?_
    refine wp_iald hc hx (j := 101) (by decide) (by decide) rfl ((fX6_boxAt M22 (nI (i))) + 3).toNatClampNeg rfl (ixbk hbi (by decide)) dX6_digest_62 ?_
    refine wp_i2l hc dX6_digest_63 ?_
    refine wp_callVvw (As := [.long (M22.1 101 ((fX6_boxAt M22 (nI (i))) + 3).toNatClampNeg).toInt64]) (rest := []) (j := 100) (w := sX6_mix M22 (M22.1 101 ((fX6_boxAt M22 (nI (i))) + 3).toNatClampNeg).toInt64) hc hx (kX6_mix l D cy z hz M22 (M22.1 101 ((fX6_boxAt M22 (nI (i))) + 3).toNatClampNeg).toInt64) cw282 (by decide) (by decide) (ce_5 rfl) rfl rfl rfl rfl (Nat.le_of_ble_eq_true rfl) dX6_digest_64 (fun M23 hM23 => ?_)
    refine wp_iinc (v := 4) (lv' := [(2, .int 4), (0, .ref (z 100)), (1, .int (nI (i)))]) hc 0 dX6_digest_67 rfl (by decide) (by decide) rfl ?_
    refine wp_goto (tgt := 45) hc dX6_digest_70 (by decide) ?_
    refine wp_iload_n hc 0 dX6_digest_45 rfl ?_
    refine wp_iconst (v := 4) hc dX6_digest_46 (by decide) ?_
    refine wp_icmp_ge (tgt := 73) hc dX6_digest_47 (by decide) (fun _ => ?_) (fun c => absurd c (by decide))
    refine wp_aload_n hc 1 dX6_digest_73 rfl ?_
    refine wp_aload_n hc 1 dX6_digest_74 rfl ?_
    refine wp_iload_n hc 2 dX6_digest_75 rfl ?_
    refine wp_callVf (As := [.int (nI (i))]) (rest := [.ref (z 100)]) (j := 100) (v := (fX6_detBox M23 (nI (i)))) hc hx (kX6_detBox l D cy z hz M23 (nI (i)) hbi) cw175 (by decide) (by decide) (ce_5 rfl) rfl rfl rfl rfl (Nat.le_of_ble_eq_true rfl) dX6_digest_76 ?_
    refine wp_i2l hc dX6_digest_79 ?_
    refine wp_callVvw (As := [.long (fX6_detBox M23 (nI (i))).toInt64]) (rest := []) (j := 100) (w := sX6_mix M23 (fX6_detBox M23 (nI (i))).toInt64) hc hx (kX6_mix l D cy z hz M23 (fX6_detBox M23 (nI (i))).toInt64) cw282 (by decide) (by decide) (ce_5 rfl) rfl rfl rfl rfl (Nat.le_of_ble_eq_true rfl) dX6_digest_80 (fun M24 hM24 => ?_)
    refine wp_iconst (v := 0) hc dX6_digest_83 (by decide) ?_
    refine wp_istore_n (lv' := [(2, .int 0), (0, .ref (z 100)), (1, .int (nI (i)))]) hc dX6_digest_84 (by decide) rfl ?_
    refine wp_iload_n hc 0 dX6_digest_85 rfl ?_
    refine wp_iconst (v := 4) hc dX6_digest_86 (by decide) ?_
    refine wp_icmp_ge (tgt := 107) hc dX6_digest_87 (by decide) (fun c => absurd c (by decide)) (fun _ => ?_)
    refine wp_aload_n hc 1 dX6_digest_90 rfl ?_
    refine wp_aload_n hc 1 dX6_digest_91 rfl ?_
    refine wp_iload_n hc 2 dX6_digest_92 rfl ?_
    refine wp_iload_n hc 0 dX6_digest_93 rfl ?_
    refine wp_callVf (As := [.int (nI (i)), .int 0]) (rest := [.ref (z 100)]) (j := 100) (v := (fX6_testOf M24 (nI (i)) 0)) hc hx (kX6_testOf l D cy z hz M24 (nI (i)) 0 hbi) cw213 (by decide) (by decide) (ce_5 rfl) rfl rfl rfl rfl (Nat.le_of_ble_eq_true rfl) dX6_digest_94 ?_
    refine wp_i2l hc dX6_digest_97 ?_
    refine wp_callVvw (As := [.long (fX6_testOf M24 (nI (i)) 0).toInt64]) (rest := []) (j := 100) (w := sX6_mix M24 (fX6_testOf M24 (nI (i)) 0).toInt64) hc hx (kX6_mix l D cy z hz M24 (fX6_testOf M24 (nI (i)) 0).toInt64) cw282 (by decide) (by decide) (ce_5 rfl) rfl rfl rfl rfl (Nat.le_of_ble_eq_true rfl) dX6_digest_98 (fun M25 hM25 => ?_)
    refine wp_iinc (v := 1) (lv' := [(2, .int 1), (0, .ref (z 100)), (1, .int (nI (i)))]) hc 0 dX6_digest_101 rfl (by decide) (by decide) rfl ?_
    refine wp_goto (tgt := 85) hc dX6_digest_104 (by decide) ?_
    refine wp_iload_n hc 0 dX6_digest_85 rfl ?_
    refine wp_iconst (v := 4) hc dX6_digest_86 (by decide) ?_
    refine wp_icmp_ge (tgt := 107) hc dX6_digest_87 (by decide) (fun c => absurd c (by decide)) (fun _ => ?_)
    refine wp_aload_n hc 1 dX6_digest_90 rfl ?_
    refine wp_aload_n hc 1 dX6_digest_91 rfl ?_
    refine wp_iload_n hc 2 dX6_digest_92 rfl ?_
    refine wp_iload_n hc 0 dX6_digest_93 rfl ?_
    refine wp_callVf (As := [.int (nI (i)), .int 1]) (rest := [.ref (z 100)]) (j := 100) (v := (fX6_testOf M25 (nI (i)) 1)) hc hx (kX6_testOf l D cy z hz M25 (nI (i)) 1 hbi) cw213 (by decide) (by decide) (ce_5 rfl) rfl rfl rfl rfl (Nat.le_of_ble_eq_true rfl) dX6_digest_94 ?_
    refine wp_i2l hc dX6_digest_97 ?_
    refine wp_callVvw (As := [.long (fX6_testOf M25 (nI (i)) 1).toInt64]) (rest := []) (j := 100) (w := sX6_mix M25 (fX6_testOf M25 (nI (i)) 1).toInt64) hc hx (kX6_mix l D cy z hz M25 (fX6_testOf M25 (nI (i)) 1).toInt64) cw282 (by decide) (by decide) (ce_5 rfl) rfl rfl rfl rfl (Nat.le_of_ble_eq_true rfl) dX6_digest_98 (fun M26 hM26 => ?_)
    refine wp_iinc (v := 2) (lv' := [(2, .int 2), (0, .ref (z 100)), (1, .int (nI (i)))]) hc 0 dX6_digest_101 rfl (by decide) (by decide) rfl ?_
    refine wp_goto (tgt := 85) hc dX6_digest_104 (by decide) ?_
    refine wp_iload_n hc 0 dX6_digest_85 rfl ?_
    refine wp_iconst (v := 4) hc dX6_digest_86 (by decide) ?_
    refine wp_icmp_ge (tgt := 107) hc dX6_digest_87 (by decide) (fun c => absurd c (by decide)) (fun _ => ?_)
    refine wp_aload_n hc 1 dX6_digest_90 rfl ?_
    refine wp_aload_n hc 1 dX6_digest_91 rfl ?_
    refine wp_iload_n hc 2 dX6_digest_92 rfl ?_
    refine wp_iload_n hc 0 dX6_digest_93 rfl ?_
    refine wp_callVf (As := [.int (nI (i)), .int 2]) (rest := [.ref (z 100)]) (j := 100) (v := (fX6_testOf M26 (nI (i)) 2)) hc hx (kX6_testOf l D cy z hz M26 (nI (i)) 2 hbi) cw213 (by decide) (by decide) (ce_5 rfl) rfl rfl rfl rfl (Nat.le_of_ble_eq_true rfl) dX6_digest_94 ?_
    refine wp_i2l hc dX6_digest_97 ?_
    refine wp_callVvw (As := [.long (fX6_testOf M26 (nI (i)) 2).toInt64]) (rest := []) (j := 100) (w := sX6_mix M26 (fX6_testOf M26 (nI (i)) 2).toInt64) hc hx (kX6_mix l D cy z hz M26 (fX6_testOf M26 (nI (i)) 2).toInt64) cw282 (by decide) (by decide) (ce_5 rfl) rfl rfl rfl rfl (Nat.le_of_ble_eq_true rfl) dX6_digest_98 (fun M27 hM27 => ?_)
    refine wp_iinc (v := 3) (lv' := [(2, .int 3), (0, .ref (z 100)), (1, .int (nI (i)))]) hc 0 dX6_digest_101 rfl (by decide) (by decide) rfl ?_
    refine wp_goto (tgt := 85) hc dX6_digest_104 (by decide) ?_
    refine wp_iload_n hc 0 dX6_digest_85 rfl ?_
    refine wp_iconst (v := 4) hc dX6_digest_86 (by decide) ?_
    refine wp_icmp_ge (tgt := 107) hc dX6_digest_87 (by decide) (fun c => absurd c (by decide)) (fun _ => ?_)
    refine wp_aload_n hc 1 dX6_digest_90 rfl ?_
    refine wp_aload_n hc 1 dX6_digest_91 rfl ?_
    refine wp_iload_n hc 2 dX6_digest_92 rfl ?_
    refine wp_iload_n hc 0 dX6_digest_93 rfl ?_
    refine wp_callVf (As := [.int (nI (i)), .int 3]) (rest := [.ref (z 100)]) (j := 100) (v := (fX6_testOf M27 (nI (i)) 3)) hc hx (kX6_testOf l D cy z hz M27 (nI (i)) 3 hbi) cw213 (by decide) (by decide) (ce_5 rfl) rfl rfl rfl rfl (Nat.le_of_ble_eq_true rfl) dX6_digest_94 ?_
    refine wp_i2l hc dX6_digest_97 ?_
    refine wp_callVvw (As := [.long (fX6_testOf M27 (nI (i)) 3).toInt64]) (rest := []) (j := 100) (w := sX6_mix M27 (fX6_testOf M27 (nI (i)) 3).toInt64) hc hx (kX6_mix l D cy z hz M27 (fX6_testOf M27 (nI (i)) 3).toInt64) cw282 (by decide) (by decide) (ce_5 rfl) rfl rfl rfl rfl (Nat.le_of_ble_eq_true rfl) dX6_digest_98 (fun M28 hM28 => ?_)
    refine wp_iinc (v := 4) (lv' := [(2, .int 4), (0, .ref (z 100)), (1, .int (nI (i)))]) hc 0 dX6_digest_101 rfl (by decide) (by decide) rfl ?_
    refine wp_goto (tgt := 85) hc dX6_digest_104 (by decide) ?_
    refine wp_iload_n hc 0 dX6_digest_85 rfl ?_
    refine wp_iconst (v := 4) hc dX6_digest_86 (by decide) ?_
    refine wp_icmp_ge (tgt := 107) hc dX6_digest_87 (by decide) (fun _ => ?_) (fun c => absurd c (by decide))
    refine wp_aload_n hc 1 dX6_digest_107 rfl ?_
    refine wp_aload_n hc 1 dX6_digest_108 rfl ?_
    refine wp_iload_n hc 2 dX6_digest_109 rfl ?_
    refine wp_callVf (As := [.int (nI (i))]) (rest := [.ref (z 100)]) (j := 100) (v := (fX6_likeOf M28 (nI (i)))) hc hx (kX6_likeOf l D cy z hz M28 (nI (i)) hbi) cw216 (by decide) (by decide) (ce_5 rfl) rfl rfl rfl rfl (Nat.le_of_ble_eq_true rfl) dX6_digest_110 ?_
    refine wp_i2l hc dX6_digest_113 ?_
    refine wp_callVvw (As := [.long (fX6_likeOf M28 (nI (i))).toInt64]) (rest := []) (j := 100) (w := sX6_mix M28 (fX6_likeOf M28 (nI (i))).toInt64) hc hx (kX6_mix l D cy z hz M28 (fX6_likeOf M28 (nI (i))).toInt64) cw282 (by decide) (by decide) (ce_5 rfl) rfl rfl rfl rfl (Nat.le_of_ble_eq_true rfl) dX6_digest_114 (fun M29 hM29 => ?_)
    refine wp_iinc (v := ((nI (i)) + 1)) (lv' := [(1, .int ((nI (i)) + 1)), (2, .int 4), (0, .ref (z 100))]) hc 2 dX6_digest_117 rfl rfl (by decide) rfl ?_
    refine wp_goto (tgt := 33) hc dX6_digest_120 (by decide) ?_
    rw [nI_1]
    have hEq : sh M8 (dgB M8 (i + 1)) = M29 := by
      rw [hM29, hM28, hM27, hM26, hM25, hM24, hM23, hM22, hM21, hM20, hM19]
      rw [dgB, bxD]
      simp only [mixE, sh_1, sh_2, sh_sh, sh_at, sh_dt, sh_ts, sh_lk, mx]
    exact wp_eqM hEq (wp_lv [2, 0] rfl ih)
