theorem ixf {k : Int32} (h : 0 ≤ k.toInt ∧ k.toInt < 60) : vp_in k (ln 113) := vin (by show _ ∧ _ < ((61 : Nat) : Int); omega)
theorem ixl {k : Int32} (h : 0 ≤ k.toInt ∧ k.toInt < 60) : vp_in k (ln 112) := vin (by show _ ∧ _ < ((60 : Nat) : Int); omega)
/-- where an order's numbers lie, and how many they are -/
def FQ (M : Mem) (k : Int32) : Prop := 0 ≤ (M.1 113 k.toNatClampNeg).toInt ∧ 0 ≤ (fX6_manyOf (M.1 112 k.toNatClampNeg)).toInt ∧ (M.1 113 k.toNatClampNeg).toInt + (fX6_manyOf (M.1 112 k.toNatClampNeg)).toInt ≤ 118
theorem ixn0 {M : Mem} {k : Int32} (h : FQ M k) : vp_in (M.1 113 k.toNatClampNeg) (ln 114) := vin (by unfold FQ at h; show _ ∧ _ < ((120 : Nat) : Int); omega)
theorem ixn1 {M : Mem} {k : Int32} (h : FQ M k) : vp_in (M.1 113 k.toNatClampNeg + 1) (ln 114) := by
  unfold FQ at h
  have e1 : (1 : Int32).toInt = 1 := rfl
  refine vin ?_
  rw [fb_addI (by rw [e1]; omega) (by rw [e1]; omega), e1]
  show _ ∧ _ < ((120 : Nat) : Int)
  omega
theorem many98 {c : Int32} (h : c = 98) : (fX6_manyOf c).toInt = 8 := by subst h; rfl
theorem many101 {c : Int32} (h : c = 101) : (fX6_manyOf c).toInt = 3 := by subst h; rfl
theorem ixnE {M : Mem} {k : Int32} (h : FQ M k) (c : M.1 112 k.toNatClampNeg = 101) : vp_in (M.1 113 k.toNatClampNeg + 2) (ln 114) := by
  unfold FQ at h
  rw [many101 c] at h
  have e1 : (2 : Int32).toInt = 2 := rfl
  refine vin ?_
  rw [fb_addI (by rw [e1]; omega) (by rw [e1]; omega), e1]
  show _ ∧ _ < ((120 : Nat) : Int)
  omega
theorem atB {M : Mem} {k : Int32} (h : FQ M k) (c : M.1 112 k.toNatClampNeg = 98) : 0 ≤ (M.1 113 k.toNatClampNeg).toInt ∧ (M.1 113 k.toNatClampNeg).toInt ≤ 112 := by
  unfold FQ at h
  rw [many98 c] at h
  omega
def sX6_obeys (M : Mem) (i1 : Int32) : Int32 × Mem :=
  if (M.1 112 i1.toNatClampNeg) = 98 then
  tk (sX6_comesTold M (M.1 113 i1.toNatClampNeg)) fun x1 =>
  (x1.1, x1.2)
  else
  if (M.1 112 i1.toNatClampNeg) = 101 then
  tk (sX6_errsTold M (M.1 114 (M.1 113 i1.toNatClampNeg).toNatClampNeg) (M.1 114 ((M.1 113 i1.toNatClampNeg) + 1).toNatClampNeg) (M.1 114 ((M.1 113 i1.toNatClampNeg) + 2).toNatClampNeg)) fun x2 =>
  (x2.1, x2.2)
  else
  if (M.1 112 i1.toNatClampNeg) = 108 then
  tk (sX6_canLearn M) fun x3 =>
  if x3.1 = 0 then
  (0, x3.2)
  else
  tk (sX6_learnsNow x3.2) fun x4 =>
  if x4.1 < 0 then
  (0, x4.2)
  else
  (1, x4.2)
  else
  if (M.1 112 i1.toNatClampNeg) = 114 then
  if (fX6_isBox M (M.1 114 (M.1 113 i1.toNatClampNeg).toNatClampNeg)) = 0 then
  (0, M)
  else
  tk (sX6_canRead M (M.1 114 (M.1 113 i1.toNatClampNeg).toNatClampNeg)) fun x5 =>
  tk (sX6_comesBy x5.2 x5.1) fun x6 =>
  if x6.1 = 0 then
  (0, x6.2)
  else
  (1, x6.2)
  else
  if (fX6_isBox M (M.1 114 (M.1 113 i1.toNatClampNeg).toNatClampNeg)) = 0 then
  (0, M)
  else
  if (fX6_isBox M (M.1 114 ((M.1 113 i1.toNatClampNeg) + 1).toNatClampNeg)) = 0 then
  (0, M)
  else
  tk (sX6_canChain M (M.1 114 (M.1 113 i1.toNatClampNeg).toNatClampNeg) (M.1 114 ((M.1 113 i1.toNatClampNeg) + 1).toNatClampNeg)) fun x7 =>
  tk (sX6_comesBy x7.2 x7.1) fun x8 =>
  if x8.1 = 0 then
  (0, x8.2)
  else
  (1, x8.2)
set_option maxHeartbeats 4000000 in
set_option maxRecDepth 100000 in
theorem kX6_obeys (l : Launch) (D : va_G) (cy : Nat → ClassId) (z : Nat → Nat) (hz : zI z) (M : Mem) (i1 : Int32) (hn : 0 ≤ (M.1 101 0).toInt ∧ (M.1 101 0).toInt ≤ 8) (h1 : 0 ≤ i1.toInt ∧ i1.toInt < 60) (hq : FQ M i1) : KI l yX6_obeys wsX6_obeys { frames := 9, cells := 0, slots := 0, locals := 216 } D cy z 100 15 [.ref (z 100), .int i1] M (fun r u => (r, u) = sX6_obeys M i1) := by
  refine met_wp (lv := [(0, .ref (z 100)), (1, .int i1)]) hz (by decide) (by decide) rfl rfl (Nat.le_of_ble_eq_true rfl) rfl ?_
  intro p e s m below meth c hc hx hr hk
  have hNW := hx.2.1
  have hin6 : ∀ w ∈ wsX60, w ∈ wsX6_obeys := by decide +kernel
  have hf43 : Cond.fieldLink RX6 43 (TX6 14).1 (TX6 14).2.1 (TX6 14).2.2.1 ∈ wsX6_obeys := by decide +kernel
  have hf46 : Cond.fieldLink RX6 46 (TX6 15).1 (TX6 15).2.1 (TX6 15).2.2.1 ∈ wsX6_obeys := by decide +kernel
  have hf49 : Cond.fieldLink RX6 49 (TX6 16).1 (TX6 16).2.1 (TX6 16).2.2.1 ∈ wsX6_obeys := by decide +kernel
  have cw98 : CallW ({ frames := 9, cells := 0, slots := 0, locals := 216 }) s _ RX6 RX6 98 yX6_isBox cX6_isBox 2 (some .boolean) wsX6_isBox ({ frames := 1, cells := 0, slots := 0, locals := 22 }) 0 0 1 := cwV 1 hc.2.2.2.2 gX6_obeys_X6_isBox rfl rfl rfl (by decide +kernel) ⟨Nat.le_of_ble_eq_true rfl, Nat.le_of_ble_eq_true rfl⟩
  have cw155 : CallW ({ frames := 9, cells := 0, slots := 0, locals := 216 }) s _ RX6 RX6 155 yX6_canLearn cX6_canLearn 1 (some .boolean) wsX6_canLearn ({ frames := 7, cells := 0, slots := 0, locals := 164 }) 0 0 0 := cwV 0 hc.2.2.2.2 gX6_obeys_X6_canLearn rfl rfl rfl (by decide +kernel) ⟨Nat.le_of_ble_eq_true rfl, Nat.le_of_ble_eq_true rfl⟩
  have cw159 : CallW ({ frames := 9, cells := 0, slots := 0, locals := 216 }) s _ RX6 RX6 159 yX6_learnsNow cX6_learnsNow 3 (some .int) wsX6_learnsNow ({ frames := 0, cells := 0, slots := 0, locals := 0 }) 0 0 0 := cwV 0 hc.2.2.2.2 gX6_obeys_X6_learnsNow rfl rfl rfl (by decide +kernel) ⟨Nat.le_of_ble_eq_true rfl, Nat.le_of_ble_eq_true rfl⟩
  have cw168 : CallW ({ frames := 9, cells := 0, slots := 0, locals := 216 }) s _ RX6 RX6 168 yX6_canRead cX6_canRead 2 (some .boolean) wsX6_canRead ({ frames := 8, cells := 0, slots := 0, locals := 195 }) 0 0 1 := cwV 1 hc.2.2.2.2 gX6_obeys_X6_canRead rfl rfl rfl (by decide +kernel) ⟨Nat.le_of_ble_eq_true rfl, Nat.le_of_ble_eq_true rfl⟩
  have cw188 : CallW ({ frames := 9, cells := 0, slots := 0, locals := 216 }) s _ RX6 RX6 188 yX6_canChain cX6_canChain 3 (some .boolean) wsX6_canChain ({ frames := 6, cells := 0, slots := 0, locals := 136 }) 0 0 2 := cwV 2 hc.2.2.2.2 gX6_obeys_X6_canChain rfl rfl rfl (by decide +kernel) ⟨Nat.le_of_ble_eq_true rfl, Nat.le_of_ble_eq_true rfl⟩
  have cw252 : CallW ({ frames := 9, cells := 0, slots := 0, locals := 216 }) s _ RX6 RX6 252 yX6_comesTold cX6_comesTold 4 (some .boolean) wsX6_comesTold ({ frames := 3, cells := 0, slots := 0, locals := 64 }) 0 0 1 := cwV 1 hc.2.2.2.2 gX6_obeys_X6_comesTold rfl rfl rfl (by decide +kernel) ⟨Nat.le_of_ble_eq_true rfl, Nat.le_of_ble_eq_true rfl⟩
  have cw255 : CallW ({ frames := 9, cells := 0, slots := 0, locals := 216 }) s _ RX6 RX6 255 yX6_errsTold cX6_errsTold 5 (some .boolean) wsX6_errsTold ({ frames := 2, cells := 0, slots := 0, locals := 42 }) 0 0 3 := cwV 3 hc.2.2.2.2 gX6_obeys_X6_errsTold rfl rfl rfl (by decide +kernel) ⟨Nat.le_of_ble_eq_true rfl, Nat.le_of_ble_eq_true rfl⟩
  have cw258 : CallW ({ frames := 9, cells := 0, slots := 0, locals := 216 }) s _ RX6 RX6 258 yX6_comesBy cX6_comesBy 2 (some .boolean) wsX6_comesBy ({ frames := 2, cells := 0, slots := 0, locals := 46 }) 0 0 1 := cwV 1 hc.2.2.2.2 gX6_obeys_X6_comesBy rfl rfl rfl (by decide +kernel) ⟨Nat.le_of_ble_eq_true rfl, Nat.le_of_ble_eq_true rfl⟩
  refine wp_aload_n hc 0 dX6_obeys_0 rfl ?_
  refine wp_get hc hx hin6 (j := 100) (by decide) (by decide) (ce_5 rfl) rfl 15 (by decide) hf46 rfl dX6_obeys_1 ?_
  refine wp_iload_n hc 1 dX6_obeys_4 rfl ?_
  refine wp_iald hc hx (j := 113) (by decide) (by decide) rfl i1.toNatClampNeg rfl (ixf h1) dX6_obeys_5 ?_
  refine wp_istore_n (lv' := [(2, .int (M.1 113 i1.toNatClampNeg)), (0, .ref (z 100)), (1, .int i1)]) hc dX6_obeys_6 (by decide) rfl ?_
  refine wp_aload_n hc 1 dX6_obeys_7 rfl ?_
  refine wp_get hc hx hin6 (j := 100) (by decide) (by decide) (ce_5 rfl) rfl 16 (by decide) hf49 rfl dX6_obeys_8 ?_
  refine wp_iload_n hc 0 dX6_obeys_11 rfl ?_
  refine wp_iald hc hx (j := 114) (by decide) (by decide) rfl (M.1 113 i1.toNatClampNeg).toNatClampNeg rfl (ixn0 hq) dX6_obeys_12 ?_
  refine wp_istore_n (lv' := [(3, .int (M.1 114 (M.1 113 i1.toNatClampNeg).toNatClampNeg)), (2, .int (M.1 113 i1.toNatClampNeg)), (0, .ref (z 100)), (1, .int i1)]) hc dX6_obeys_13 (by decide) rfl ?_
  refine wp_aload_n hc 2 dX6_obeys_14 rfl ?_
  refine wp_get hc hx hin6 (j := 100) (by decide) (by decide) (ce_5 rfl) rfl 16 (by decide) hf49 rfl dX6_obeys_15 ?_
  refine wp_iload_n hc 1 dX6_obeys_18 rfl ?_
  refine wp_iconst (v := 1) hc dX6_obeys_19 (by decide) ?_
  refine wp_iadd hc dX6_obeys_20 ?_
  refine wp_iald hc hx (j := 114) (by decide) (by decide) rfl ((M.1 113 i1.toNatClampNeg) + 1).toNatClampNeg rfl (ixn1 hq) dX6_obeys_21 ?_
  refine wp_istore (lv' := [(4, .int (M.1 114 ((M.1 113 i1.toNatClampNeg) + 1).toNatClampNeg)), (3, .int (M.1 114 (M.1 113 i1.toNatClampNeg).toNatClampNeg)), (2, .int (M.1 113 i1.toNatClampNeg)), (0, .ref (z 100)), (1, .int i1)]) hc dX6_obeys_22 (by decide) rfl ?_
  refine wp_aload_n hc 3 dX6_obeys_24 rfl ?_
  refine wp_get hc hx hin6 (j := 100) (by decide) (by decide) (ce_5 rfl) rfl 14 (by decide) hf43 rfl dX6_obeys_25 ?_
  refine wp_iload_n hc 4 dX6_obeys_28 rfl ?_
  refine wp_iald hc hx (j := 112) (by decide) (by decide) rfl i1.toNatClampNeg rfl (ixl h1) dX6_obeys_29 ?_
  by_cases c30_98 : (M.1 112 i1.toNatClampNeg) = 98
  · refine wp_cvt c30_98 ?_
    refine wp_lookup (tgt := 72) (off := 42) hc dX6_obeys_30 (by decide) (by decide) (by decide) ?_
    refine wp_aload_n hc 3 dX6_obeys_72 rfl ?_
    refine wp_iload_n hc 2 dX6_obeys_73 rfl ?_
    refine wp_callVw (As := [.int (M.1 113 i1.toNatClampNeg)]) (rest := []) (j := 100) (w := sX6_comesTold M (M.1 113 i1.toNatClampNeg)) hc hx (kX6_comesTold l D cy z hz M (M.1 113 i1.toNatClampNeg) (atB hq c30_98) hn) cw252 (by decide) (by decide) (ce_5 rfl) rfl rfl rfl rfl (Nat.le_of_ble_eq_true rfl) dX6_obeys_74 (fun x1 hx1 => ?_)
    refine wp_zret hc hr hk (nz (show B01 x1 from by rw [hx1]; exact bX6_comesTold M (M.1 113 i1.toNatClampNeg))) ?_ dX6_obeys_77
    show (x1.1, x1.2) = sX6_obeys M i1
    rw [sX6_obeys, if_pos c30_98, tk_eq hx1]
  by_cases c30_101 : (M.1 112 i1.toNatClampNeg) = 101
  · refine wp_cvt c30_101 ?_
    refine wp_lookup (tgt := 78) (off := 48) hc dX6_obeys_30 (by decide) (by decide) (by decide) ?_
    refine wp_aload_n hc 3 dX6_obeys_78 rfl ?_
    refine wp_iload_n hc 1 dX6_obeys_79 rfl ?_
    refine wp_iload hc 0 dX6_obeys_80 rfl ?_
    refine wp_aload_n hc 3 dX6_obeys_82 rfl ?_
    refine wp_get hc hx hin6 (j := 100) (by decide) (by decide) (ce_5 rfl) rfl 16 (by decide) hf49 rfl dX6_obeys_83 ?_
    refine wp_iload_n hc 2 dX6_obeys_86 rfl ?_
    refine wp_iconst (v := 2) hc dX6_obeys_87 (by decide) ?_
    refine wp_iadd hc dX6_obeys_88 ?_
    refine wp_iald hc hx (j := 114) (by decide) (by decide) rfl ((M.1 113 i1.toNatClampNeg) + 2).toNatClampNeg rfl (ixnE hq c30_101) dX6_obeys_89 ?_
    refine wp_callVw (As := [.int (M.1 114 (M.1 113 i1.toNatClampNeg).toNatClampNeg), .int (M.1 114 ((M.1 113 i1.toNatClampNeg) + 1).toNatClampNeg), .int (M.1 114 ((M.1 113 i1.toNatClampNeg) + 2).toNatClampNeg)]) (rest := []) (j := 100) (w := sX6_errsTold M (M.1 114 (M.1 113 i1.toNatClampNeg).toNatClampNeg) (M.1 114 ((M.1 113 i1.toNatClampNeg) + 1).toNatClampNeg) (M.1 114 ((M.1 113 i1.toNatClampNeg) + 2).toNatClampNeg)) hc hx (kX6_errsTold l D cy z hz M (M.1 114 (M.1 113 i1.toNatClampNeg).toNatClampNeg) (M.1 114 ((M.1 113 i1.toNatClampNeg) + 1).toNatClampNeg) (M.1 114 ((M.1 113 i1.toNatClampNeg) + 2).toNatClampNeg)) cw255 (by decide) (by decide) (ce_5 rfl) rfl rfl rfl rfl (Nat.le_of_ble_eq_true rfl) dX6_obeys_90 (fun x2 hx2 => ?_)
    refine wp_zret hc hr hk (nz (show B01 x2 from by rw [hx2]; exact bX6_errsTold M (M.1 114 (M.1 113 i1.toNatClampNeg).toNatClampNeg) (M.1 114 ((M.1 113 i1.toNatClampNeg) + 1).toNatClampNeg) (M.1 114 ((M.1 113 i1.toNatClampNeg) + 2).toNatClampNeg))) ?_ dX6_obeys_93
    show (x2.1, x2.2) = sX6_obeys M i1
    rw [sX6_obeys, if_neg c30_98, if_pos c30_101, tk_eq hx2]
  by_cases c30_108 : (M.1 112 i1.toNatClampNeg) = 108
  · refine wp_cvt c30_108 ?_
    refine wp_lookup (tgt := 94) (off := 64) hc dX6_obeys_30 (by decide) (by decide) (by decide) ?_
    refine wp_aload_n hc 3 dX6_obeys_94 rfl ?_
    refine wp_callVw (As := []) (rest := []) (j := 100) (w := sX6_canLearn M) hc hx (kX6_canLearn l D cy z hz M) cw155 (by decide) (by decide) (ce_5 rfl) rfl rfl rfl rfl (Nat.le_of_ble_eq_true rfl) dX6_obeys_95 (fun x3 hx3 => ?_)
    refine wp_if_eq (tgt := 112) hc dX6_obeys_98 (by decide) (fun c98 => ?_) (fun c98 => ?_)
    · refine wp_iconst (v := 0) hc dX6_obeys_112 (by decide) ?_
      refine wp_zret hc hr hk rfl ?_ dX6_obeys_113
      show (0, x3.2) = sX6_obeys M i1
      rw [sX6_obeys, if_neg c30_98, if_neg c30_101, if_pos c30_108, tk_eq hx3, if_pos c98]
    refine wp_aload_n hc 3 dX6_obeys_101 rfl ?_
    refine wp_callVw (As := []) (rest := []) (j := 100) (w := sX6_learnsNow x3.2) hc hx (kX6_learnsNow l D cy z hz x3.2) cw159 (by decide) (by decide) (ce_5 rfl) rfl rfl rfl rfl (Nat.le_of_ble_eq_true rfl) dX6_obeys_102 (fun x4 hx4 => ?_)
    refine wp_if_lt (tgt := 112) hc dX6_obeys_105 (by decide) (fun c105 => ?_) (fun c105 => ?_)
    · refine wp_iconst (v := 0) hc dX6_obeys_112 (by decide) ?_
      refine wp_zret hc hr hk rfl ?_ dX6_obeys_113
      show (0, x4.2) = sX6_obeys M i1
      rw [sX6_obeys, if_neg c30_98, if_neg c30_101, if_pos c30_108, tk_eq hx3, if_neg c98, tk_eq hx4, if_pos c105]
    refine wp_iconst (v := 1) hc dX6_obeys_108 (by decide) ?_
    refine wp_goto (tgt := 113) hc dX6_obeys_109 (by decide) ?_
    refine wp_zret hc hr hk rfl ?_ dX6_obeys_113
    show (1, x4.2) = sX6_obeys M i1
    rw [sX6_obeys, if_neg c30_98, if_neg c30_101, if_pos c30_108, tk_eq hx3, if_neg c98, tk_eq hx4, if_neg c105]
  by_cases c30_114 : (M.1 112 i1.toNatClampNeg) = 114
  · refine wp_cvt c30_114 ?_
    refine wp_lookup (tgt := 114) (off := 84) hc dX6_obeys_30 (by decide) (by decide) (by decide) ?_
    refine wp_aload_n hc 3 dX6_obeys_114 rfl ?_
    refine wp_iload_n hc 1 dX6_obeys_115 rfl ?_
    refine wp_callVf (As := [.int (M.1 114 (M.1 113 i1.toNatClampNeg).toNatClampNeg)]) (rest := []) (j := 100) (v := (fX6_isBox M (M.1 114 (M.1 113 i1.toNatClampNeg).toNatClampNeg))) hc hx (kX6_isBox l D cy z hz M (M.1 114 (M.1 113 i1.toNatClampNeg).toNatClampNeg)) cw98 (by decide) (by decide) (ce_5 rfl) rfl rfl rfl rfl (Nat.le_of_ble_eq_true rfl) dX6_obeys_116 ?_
    refine wp_if_eq (tgt := 138) hc dX6_obeys_119 (by decide) (fun c119 => ?_) (fun c119 => ?_)
    · refine wp_iconst (v := 0) hc dX6_obeys_138 (by decide) ?_
      refine wp_zret hc hr hk rfl ?_ dX6_obeys_139
      show (0, M) = sX6_obeys M i1
      rw [sX6_obeys, if_neg c30_98, if_neg c30_101, if_neg c30_108, if_pos c30_114, if_pos c119]
    refine wp_aload_n hc 3 dX6_obeys_122 rfl ?_
    refine wp_aload_n hc 3 dX6_obeys_123 rfl ?_
    refine wp_iload_n hc 1 dX6_obeys_124 rfl ?_
    refine wp_callVw (As := [.int (M.1 114 (M.1 113 i1.toNatClampNeg).toNatClampNeg)]) (rest := [.ref (z 100)]) (j := 100) (w := sX6_canRead M (M.1 114 (M.1 113 i1.toNatClampNeg).toNatClampNeg)) hc hx (kX6_canRead l D cy z hz M (M.1 114 (M.1 113 i1.toNatClampNeg).toNatClampNeg) (isBox_8 hn c119)) cw168 (by decide) (by decide) (ce_5 rfl) rfl rfl rfl rfl (Nat.le_of_ble_eq_true rfl) dX6_obeys_125 (fun x5 hx5 => ?_)
    refine wp_callVw (As := [.int x5.1]) (rest := []) (j := 100) (w := sX6_comesBy x5.2 x5.1) hc hx (kX6_comesBy l D cy z hz x5.2 x5.1 (KP.hn (show KP2 M x5 from by rw [hx5]; apply kpX6_canRead) hn)) cw258 (by decide) (by decide) (ce_5 rfl) rfl rfl rfl rfl (Nat.le_of_ble_eq_true rfl) dX6_obeys_128 (fun x6 hx6 => ?_)
    refine wp_if_eq (tgt := 138) hc dX6_obeys_131 (by decide) (fun c131 => ?_) (fun c131 => ?_)
    · refine wp_iconst (v := 0) hc dX6_obeys_138 (by decide) ?_
      refine wp_zret hc hr hk rfl ?_ dX6_obeys_139
      show (0, x6.2) = sX6_obeys M i1
      rw [sX6_obeys, if_neg c30_98, if_neg c30_101, if_neg c30_108, if_pos c30_114, if_neg c119, tk_eq hx5, tk_eq hx6, if_pos c131]
    refine wp_iconst (v := 1) hc dX6_obeys_134 (by decide) ?_
    refine wp_goto (tgt := 139) hc dX6_obeys_135 (by decide) ?_
    refine wp_zret hc hr hk rfl ?_ dX6_obeys_139
    show (1, x6.2) = sX6_obeys M i1
    rw [sX6_obeys, if_neg c30_98, if_neg c30_101, if_neg c30_108, if_pos c30_114, if_neg c119, tk_eq hx5, tk_eq hx6, if_neg c131]
  refine wp_lookup (tgt := 140) (off := 110) hc dX6_obeys_30 (by decide) (by rw [lv_osw c30_98 (by decide), lv_osw c30_101 (by decide), lv_osw c30_108 (by decide), lv_osw c30_114 (by decide)]; rfl) (by decide) ?_
  refine wp_aload_n hc 3 dX6_obeys_140 rfl ?_
  refine wp_iload_n hc 1 dX6_obeys_141 rfl ?_
  refine wp_callVf (As := [.int (M.1 114 (M.1 113 i1.toNatClampNeg).toNatClampNeg)]) (rest := []) (j := 100) (v := (fX6_isBox M (M.1 114 (M.1 113 i1.toNatClampNeg).toNatClampNeg))) hc hx (kX6_isBox l D cy z hz M (M.1 114 (M.1 113 i1.toNatClampNeg).toNatClampNeg)) cw98 (by decide) (by decide) (ce_5 rfl) rfl rfl rfl rfl (Nat.le_of_ble_eq_true rfl) dX6_obeys_142 ?_
  refine wp_if_eq (tgt := 175) hc dX6_obeys_145 (by decide) (fun c145 => ?_) (fun c145 => ?_)
  · refine wp_iconst (v := 0) hc dX6_obeys_175 (by decide) ?_
    refine wp_zret hc hr hk rfl ?_ dX6_obeys_176
    show (0, M) = sX6_obeys M i1
    rw [sX6_obeys, if_neg c30_98, if_neg c30_101, if_neg c30_108, if_neg c30_114, if_pos c145]
  refine wp_aload_n hc 3 dX6_obeys_148 rfl ?_
  refine wp_iload hc 0 dX6_obeys_149 rfl ?_
  refine wp_callVf (As := [.int (M.1 114 ((M.1 113 i1.toNatClampNeg) + 1).toNatClampNeg)]) (rest := []) (j := 100) (v := (fX6_isBox M (M.1 114 ((M.1 113 i1.toNatClampNeg) + 1).toNatClampNeg))) hc hx (kX6_isBox l D cy z hz M (M.1 114 ((M.1 113 i1.toNatClampNeg) + 1).toNatClampNeg)) cw98 (by decide) (by decide) (ce_5 rfl) rfl rfl rfl rfl (Nat.le_of_ble_eq_true rfl) dX6_obeys_151 ?_
  refine wp_if_eq (tgt := 175) hc dX6_obeys_154 (by decide) (fun c154 => ?_) (fun c154 => ?_)
  · refine wp_iconst (v := 0) hc dX6_obeys_175 (by decide) ?_
    refine wp_zret hc hr hk rfl ?_ dX6_obeys_176
    show (0, M) = sX6_obeys M i1
    rw [sX6_obeys, if_neg c30_98, if_neg c30_101, if_neg c30_108, if_neg c30_114, if_neg c145, if_pos c154]
  refine wp_aload_n hc 3 dX6_obeys_157 rfl ?_
  refine wp_aload_n hc 3 dX6_obeys_158 rfl ?_
  refine wp_iload_n hc 1 dX6_obeys_159 rfl ?_
  refine wp_iload hc 0 dX6_obeys_160 rfl ?_
  refine wp_callVw (As := [.int (M.1 114 (M.1 113 i1.toNatClampNeg).toNatClampNeg), .int (M.1 114 ((M.1 113 i1.toNatClampNeg) + 1).toNatClampNeg)]) (rest := [.ref (z 100)]) (j := 100) (w := sX6_canChain M (M.1 114 (M.1 113 i1.toNatClampNeg).toNatClampNeg) (M.1 114 ((M.1 113 i1.toNatClampNeg) + 1).toNatClampNeg)) hc hx (kX6_canChain l D cy z hz M (M.1 114 (M.1 113 i1.toNatClampNeg).toNatClampNeg) (M.1 114 ((M.1 113 i1.toNatClampNeg) + 1).toNatClampNeg) (isBox_8 hn c145) (isBox_8 hn c154)) cw188 (by decide) (by decide) (ce_5 rfl) rfl rfl rfl rfl (Nat.le_of_ble_eq_true rfl) dX6_obeys_162 (fun x7 hx7 => ?_)
  refine wp_callVw (As := [.int x7.1]) (rest := []) (j := 100) (w := sX6_comesBy x7.2 x7.1) hc hx (kX6_comesBy l D cy z hz x7.2 x7.1 (KP.hn (show KP2 M x7 from by rw [hx7]; apply kpX6_canChain) hn)) cw258 (by decide) (by decide) (ce_5 rfl) rfl rfl rfl rfl (Nat.le_of_ble_eq_true rfl) dX6_obeys_165 (fun x8 hx8 => ?_)
  refine wp_if_eq (tgt := 175) hc dX6_obeys_168 (by decide) (fun c168 => ?_) (fun c168 => ?_)
  · refine wp_iconst (v := 0) hc dX6_obeys_175 (by decide) ?_
    refine wp_zret hc hr hk rfl ?_ dX6_obeys_176
    show (0, x8.2) = sX6_obeys M i1
    rw [sX6_obeys, if_neg c30_98, if_neg c30_101, if_neg c30_108, if_neg c30_114, if_neg c145, if_neg c154, tk_eq hx7, tk_eq hx8, if_pos c168]
  refine wp_iconst (v := 1) hc dX6_obeys_171 (by decide) ?_
  refine wp_goto (tgt := 176) hc dX6_obeys_172 (by decide) ?_
  refine wp_zret hc hr hk rfl ?_ dX6_obeys_176
  show (1, x8.2) = sX6_obeys M i1
  rw [sX6_obeys, if_neg c30_98, if_neg c30_101, if_neg c30_108, if_neg c30_114, if_neg c145, if_neg c154, tk_eq hx7, tk_eq hx8, if_neg c168]
theorem bX6_obeys (M : Mem) (i1 : Int32) : B01 (sX6_obeys M i1) := by
  unfold sX6_obeys
  refine ite_ind (P := B01) (fun _ => ?_) (fun _ => ?_)
  · refine tk_ind (P := B01) _ _ (fun x1 hx1 => ?_)
    exact (show _ ∨ _ from (show B01 x1 from by rw [hx1]; exact bX6_comesTold M (M.1 113 i1.toNatClampNeg)))
  · refine ite_ind (P := B01) (fun _ => ?_) (fun _ => ?_)
    · refine tk_ind (P := B01) _ _ (fun x2 hx2 => ?_)
      exact (show _ ∨ _ from (show B01 x2 from by rw [hx2]; exact bX6_errsTold M (M.1 114 (M.1 113 i1.toNatClampNeg).toNatClampNeg) (M.1 114 ((M.1 113 i1.toNatClampNeg) + 1).toNatClampNeg) (M.1 114 ((M.1 113 i1.toNatClampNeg) + 2).toNatClampNeg)))
    · refine ite_ind (P := B01) (fun _ => ?_) (fun _ => ?_)
      · refine tk_ind (P := B01) _ _ (fun x3 hx3 => ?_)
        refine ite_ind (P := B01) (fun _ => ?_) (fun _ => ?_)
        · exact (show _ ∨ _ from Or.inl rfl)
        · refine tk_ind (P := B01) _ _ (fun x4 hx4 => ?_)
          refine ite_ind (P := B01) (fun _ => ?_) (fun _ => ?_)
          · exact (show _ ∨ _ from Or.inl rfl)
          · exact (show _ ∨ _ from Or.inr rfl)
      · refine ite_ind (P := B01) (fun _ => ?_) (fun _ => ?_)
        · refine ite_ind (P := B01) (fun _ => ?_) (fun _ => ?_)
          · exact (show _ ∨ _ from Or.inl rfl)
          · refine tk_ind (P := B01) _ _ (fun x5 hx5 => ?_)
            refine tk_ind (P := B01) _ _ (fun x6 hx6 => ?_)
            refine ite_ind (P := B01) (fun _ => ?_) (fun _ => ?_)
            · exact (show _ ∨ _ from Or.inl rfl)
            · exact (show _ ∨ _ from Or.inr rfl)
        · refine ite_ind (P := B01) (fun _ => ?_) (fun _ => ?_)
          · exact (show _ ∨ _ from Or.inl rfl)
          · refine ite_ind (P := B01) (fun _ => ?_) (fun _ => ?_)
            · exact (show _ ∨ _ from Or.inl rfl)
            · refine tk_ind (P := B01) _ _ (fun x7 hx7 => ?_)
              refine tk_ind (P := B01) _ _ (fun x8 hx8 => ?_)
              refine ite_ind (P := B01) (fun _ => ?_) (fun _ => ?_)
              · exact (show _ ∨ _ from Or.inl rfl)
              · exact (show _ ∨ _ from Or.inr rfl)
