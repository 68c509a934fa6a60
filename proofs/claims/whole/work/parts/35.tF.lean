def POC (u : Int32 × Mem) : Prop := ¬ u.1 = 0 → TC u.2
theorem POC.no {M : Mem} : POC (0, M) := fun h => absurd rfl h
theorem roc_start {M M1 M2 M3 : Mem} {a b : Nat} {x y : Int32} (hT : TC M) (hlt : ¬ M.1 10 4 ≤ M.1 10 7) (h1 : M1 = st M 12 a x) (h2 : M2 = st M1 13 b y) (h3 : M3 = st M2 10 7 (M2.1 10 7 + 1)) : TC M3 := by
  have r2 : M2.1 10 = M.1 10 := by rw [h2, st_ne _ _ _ (by decide), h1, st_ne _ _ _ (by decide)]
  have hT2 : TC M2 := by unfold TC; rw [r2]; exact hT
  have hq := TC.inc hT2 (by rw [r2]; exact hlt)
  rw [← h3] at hq
  exact hq.1
theorem roF_next {A M5 : Mem} {x : Int32 × Mem} {k wn : Int32} {f : Nat} (hT : TC A) (hm : wn.toInt ≤ 8) (hk : 0 ≤ k.toInt) (hf : (wn.toInt - k.toInt).toNat < f + 1) (hx : x = sX3_readNumber A) (h5 : M5 = sX3_skipBlanks x.2) (hlt : ¬ wn ≤ k) : (wn.toInt - (k + 1).toInt).toNat < f ∧ (TC M5 ∧ 0 ≤ (k + 1).toInt) := by
  have hp := rn_post hT
  rw [← hx] at hp
  have hkk := le_nT hlt
  have e := inc_T (x := k) (by omega)
  rw [e, h5]
  exact ⟨by omega, sk_TC hp.2, by omega⟩
def wX3_readOrder_69 (wn : Int32) : Nat → Int32 → Mem → Int32 × Mem
  | 0, _, A69 => (0, A69)
  | f + 1, k, A69 =>
  if wn ≤ k then
  if (fX3_here A69) = 59 then
  tk (st A69 10 7 ((A69.1 10 7) + 1)) fun M5 =>
  tk (st M5 10 5 ((M5.1 10 5) + 1)) fun M6 =>
  (1, M6)
  else
  (0, A69)
  else
  tk (sX3_readNumber A69) fun x7 =>
  if x7.1 = 0 then
  (0, x7.2)
  else
  tk (sX3_skipBlanks x7.2) fun M8 =>
  wX3_readOrder_69 wn f (k + 1) M8
def sX3_readOrder (M : Mem)  : Int32 × Mem :=
  tk ((fX3_here M)) fun ch =>
  tk ((fX3_numbersWanted ch)) fun wn =>
  if wn = (-1) then
  (0, M)
  else
  if (fX5_isBelow (M.1 10 5) 60) = 0 then
  (0, M)
  else
  tk (st M 12 (M.1 10 5).toNatClampNeg (vp_nar .byte ch.toInt8.toInt32)) fun M1 =>
  tk (st M1 13 (M1.1 10 5).toNatClampNeg (M1.1 10 6)) fun M2 =>
  tk (st M2 10 7 ((M2.1 10 7) + 1)) fun M3 =>
  tk (sX3_skipBlanks M3) fun M4 =>
  wX3_readOrder_69 wn 9 0 M4
set_option maxHeartbeats 4000000 in
set_option maxRecDepth 100000 in
theorem kX3_readOrder (l : Launch) (D : va_G) (cy : Nat → ClassId) (z : Nat → Nat) (hz : zI z) (M : Mem)  (hT : TC M) : KI l yX3_readOrder wsX3_readOrder { frames := 3, cells := 0, slots := 0, locals := 63 } D cy z 0 100 [.ref (z 10)] M (fun r u => (r, u) = sX3_readOrder M) := by
  refine met_wp (lv := [(0, .ref (z 10))]) hz (by decide) (by decide) rfl rfl (Nat.le_of_ble_eq_true rfl) rfl ?_
  intro p e s m below meth c hc hx hr hk
  have hNW := hx.2.1
  have hin3 : ∀ w ∈ wsX30, w ∈ wsX3_readOrder := by decide +kernel
  have hf15 : Cond.fieldLink RX3 15 (TX3 1).1 (TX3 1).2.1 (TX3 1).2.2.1 ∈ wsX3_readOrder := by decide +kernel
  have hf18 : Cond.fieldLink RX3 18 (TX3 2).1 (TX3 2).2.1 (TX3 2).2.2.1 ∈ wsX3_readOrder := by decide +kernel
  have hf33 : Cond.fieldLink RX3 33 (TX3 5).1 (TX3 5).2.1 (TX3 5).2.2.1 ∈ wsX3_readOrder := by decide +kernel
  have hf36 : Cond.fieldLink RX3 36 (TX3 6).1 (TX3 6).2.1 (TX3 6).2.2.1 ∈ wsX3_readOrder := by decide +kernel
  have hf39 : Cond.fieldLink RX3 39 (TX3 7).1 (TX3 7).2.1 (TX3 7).2.2.1 ∈ wsX3_readOrder := by decide +kernel
  have cw25 : va_CN ({ frames := 3, cells := 0, slots := 0, locals := 63 }) s _ RX3 25 yX5_isBelow RX5 cX5_isBelow 2 (some .boolean) wsX5_isBelow ({ frames := 0, cells := 0, slots := 0, locals := 0 }) 0 0 2 ∧ (Cond.static yX5_isBelow).before _ s = true ∧ True := ⟨va_cnB 2 hc.2.2.2.2 gX3_readOrder_X5_isBelow_n25 rfl rfl rfl hNW.2.2.2.1 (hc.2.2.2.2 _ (by decide +kernel)) (by decide +kernel) ⟨Nat.le_of_ble_eq_true rfl, Nat.le_of_ble_eq_true rfl⟩, hc.2.2.2.2 _ (by decide +kernel), trivial⟩
  have cw42 : CallW ({ frames := 3, cells := 0, slots := 0, locals := 63 }) s _ RX3 RX3 42 yX3_skipBlanks cX3_skipBlanks 1 none wsX3_skipBlanks ({ frames := 2, cells := 0, slots := 0, locals := 41 }) 0 0 0 := cwV 0 hc.2.2.2.2 gX3_readOrder_X3_skipBlanks rfl rfl rfl (by decide +kernel) ⟨Nat.le_of_ble_eq_true rfl, Nat.le_of_ble_eq_true rfl⟩
  have cw49 : CallW ({ frames := 3, cells := 0, slots := 0, locals := 63 }) s _ RX3 RX3 49 yX3_here cX3_here 1 (some .int) wsX3_here ({ frames := 1, cells := 0, slots := 0, locals := 21 }) 0 0 0 := cwV 0 hc.2.2.2.2 gX3_readOrder_X3_here rfl rfl rfl (by decide +kernel) ⟨Nat.le_of_ble_eq_true rfl, Nat.le_of_ble_eq_true rfl⟩
  have cw53 : CallB ({ frames := 3, cells := 0, slots := 0, locals := 63 }) s _ RX3 53 yX3_numbersWanted cX3_numbersWanted 1 (some .int) wsX3_numbersWanted ({ frames := 0, cells := 0, slots := 0, locals := 0 }) 0 0 1 ∧ (Cond.static yX3_numbersWanted).before _ s = true := va_cwS 1 hc.2.2.2.2 gX3_readOrder_X3_numbersWanted rfl rfl rfl (by decide +kernel) ⟨Nat.le_of_ble_eq_true rfl, Nat.le_of_ble_eq_true rfl⟩
  have cw57 : CallW ({ frames := 3, cells := 0, slots := 0, locals := 63 }) s _ RX3 RX3 57 yX3_readNumber cX3_readNumber 3 (some .boolean) wsX3_readNumber ({ frames := 2, cells := 0, slots := 0, locals := 41 }) 0 0 0 := cwV 0 hc.2.2.2.2 gX3_readOrder_X3_readNumber rfl rfl rfl (by decide +kernel) ⟨Nat.le_of_ble_eq_true rfl, Nat.le_of_ble_eq_true rfl⟩
  refine wp_aload_n hc 0 dX3_readOrder_0 rfl ?_
  refine wp_callVf (As := []) (rest := []) (j := 10) (v := (fX3_here M)) hc hx (kX3_here l D cy z hz M) cw49 (by decide) (by decide) (ce_2 rfl) rfl rfl rfl rfl (Nat.le_of_ble_eq_true rfl) dX3_readOrder_1 ?_
  refine wp_topi (fun ch hch => ?_)
  refine wp_istore_n (lv' := [(1, .int ch), (0, .ref (z 10))]) hc dX3_readOrder_4 (by decide) rfl ?_
  refine wp_iload_n hc 0 dX3_readOrder_5 rfl ?_
  refine wp_callSg (As := [.int ch]) (rest := []) (v := (fX3_numbersWanted ch)) hc hNW (kX3_numbersWanted l ch) cw53 rfl rfl (Nat.le_of_ble_eq_true rfl) dX3_readOrder_6 ?_
  refine wp_topi (fun wn hwn => ?_)
  refine wp_istore_n (lv' := [(2, .int wn), (1, .int ch), (0, .ref (z 10))]) hc dX3_readOrder_9 (by decide) rfl ?_
  refine wp_iload_n hc 0 dX3_readOrder_10 rfl ?_
  refine wp_iconst (v := (-1)) hc dX3_readOrder_11 (by decide) ?_
  refine wp_icmp_eq (tgt := 27) hc dX3_readOrder_12 (by decide) (fun c12 => ?_) (fun c12 => ?_)
  · refine wp_iconst (v := 0) hc dX3_readOrder_27 (by decide) ?_
    refine wp_zret hc hr hk rfl ?_ dX3_readOrder_28
    show (0, M) = sX3_readOrder M
    rw [sX3_readOrder, tk_eq hch, tk_eq hwn, if_pos c12]
  refine wp_aload_n hc 2 dX3_readOrder_15 rfl ?_
  refine wp_get hc hx hin3 (j := 10) (by decide) (by decide) (ce_2 rfl) rfl 5 (by decide) hf33 rfl dX3_readOrder_16 ?_
  refine wp_bipush (v := 60) hc dX3_readOrder_19 (by decide) ?_
  refine wp_callNg (As := [.int (M.1 10 5), .int 60]) (rest := []) (v := (fX5_isBelow (M.1 10 5) 60)) hc hNW (kX5_isBelow l (M.1 10 5) 60) cw25 rfl rfl (Nat.le_of_ble_eq_true rfl) dX3_readOrder_21 ?_
  refine wp_if_ne (tgt := 29) hc dX3_readOrder_24 (by decide) (fun c24 => ?_) (fun c24 => ?_)
  · refine wp_aload_n hc 2 dX3_readOrder_29 rfl ?_
    refine wp_get hc hx hin3 (j := 10) (by decide) (by decide) (ce_2 rfl) rfl 1 (by decide) hf15 rfl dX3_readOrder_30 ?_
    refine wp_aload_n hc 2 dX3_readOrder_33 rfl ?_
    refine wp_get hc hx hin3 (j := 10) (by decide) (by decide) (ce_2 rfl) rfl 5 (by decide) hf33 rfl dX3_readOrder_34 ?_
    refine wp_iload_n hc 1 dX3_readOrder_37 rfl ?_
    refine wp_i2b hc dX3_readOrder_38 ?_
    refine wp_bast hc hx (j := 12) (by decide) (by decide) rfl (M.1 10 5).toNatClampNeg rfl (show vp_in _ 60 from vin8 (below_in c24)) dX3_readOrder_39 ?_
    refine wp_nm (fun M1 hM1 => ?_)
    refine wp_aload_n hc 2 dX3_readOrder_40 rfl ?_
    refine wp_get hc hx hin3 (j := 10) (by decide) (by decide) (ce_2 rfl) rfl 2 (by decide) hf18 rfl dX3_readOrder_41 ?_
    refine wp_aload_n hc 2 dX3_readOrder_44 rfl ?_
    refine wp_get hc hx hin3 (j := 10) (by decide) (by decide) (ce_2 rfl) rfl 5 (by decide) hf33 rfl dX3_readOrder_45 ?_
    refine wp_aload_n hc 2 dX3_readOrder_48 rfl ?_
    refine wp_get hc hx hin3 (j := 10) (by decide) (by decide) (ce_2 rfl) rfl 6 (by decide) hf36 rfl dX3_readOrder_49 ?_
    refine wp_iast hc hx (j := 13) (by decide) (by decide) rfl (M1.1 10 5).toNatClampNeg rfl (show vp_in _ 60 from by rw [hM1, st_ne _ _ _ (by decide)]; exact vin8 (below_in c24)) dX3_readOrder_52 ?_
    refine wp_nm (fun M2 hM2 => ?_)
    refine wp_aload_n hc 2 dX3_readOrder_53 rfl ?_
    refine wp_dup hc dX3_readOrder_54 rfl ?_
    refine wp_get hc hx hin3 (j := 10) (by decide) (by decide) (ce_2 rfl) rfl 7 (by decide) hf39 rfl dX3_readOrder_55 ?_
    refine wp_iconst (v := 1) hc dX3_readOrder_58 (by decide) ?_
    refine wp_iadd hc dX3_readOrder_59 ?_
    refine wp_put (M' := st M2 10 7 ((M2.1 10 7) + 1)) hc hx hin3 tyX3 tyX3_ok nmX3 (j := 10) (by decide) (by decide) (ce_2 rfl) rfl 7 (by decide) hf39 rfl rfl rfl (Nat.le_of_ble_eq_true rfl) (by rw [ce_2 rfl]; exact ce_stT7 _ _ _) (fun i hi => ce_row (va_up_ne _ _ hi) rfl) dX3_readOrder_60 ?_
    refine wp_nm (fun M3 hM3 => ?_)
    refine wp_aload_n hc 2 dX3_readOrder_63 rfl ?_
    refine wp_callVvw (As := []) (rest := []) (j := 10) (w := sX3_skipBlanks M3) hc hx (kX3_skipBlanks l D cy z hz M3 (roc_start hT (wanted_here (by rw [← hch, ← hwn]; exact c12)) hM1 hM2 hM3)) cw42 (by decide) (by decide) (ce_2 rfl) rfl rfl rfl rfl (Nat.le_of_ble_eq_true rfl) dX3_readOrder_64 (fun M4 hM4 => ?_)
    refine wp_iconst (v := 0) hc dX3_readOrder_67 (by decide) ?_
    refine wp_istore_n (lv' := [(3, .int 0), (2, .int wn), (1, .int ch), (0, .ref (z 10))]) hc dX3_readOrder_68 (by decide) rfl ?_
    have hwr : 0 ≤ wn.toInt ∧ wn.toInt ≤ 8 := by
      rcases wanted_rng ch with q | q
      · rw [← hwn] at q; exact absurd q c12
      · rw [← hwn] at q; exact q
    refine wp_lv (lv' := [(0, .ref (z 10)), (2, .int wn), (3, .int 0)]) [3, 1, 0] rfl ?_
    refine wp_rec (α := Int32 × Mem) (fun a => a.2.2) (fun a => [(0, .ref (z 10)), (2, .int wn), (3, .int a.2.1)]) (fun a => ((wn.toInt - a.2.1.toInt).toNat < a.1 ∧ (TC a.2.2 ∧ 0 ≤ a.2.1.toInt)) ∧ sX3_readOrder M = wX3_readOrder_69 wn a.1 a.2.1 a.2.2) ?_ (9, 0, M4) ⟨(show (wn.toInt - (0 : Int32).toInt).toNat < 9 ∧ (TC M4 ∧ 0 ≤ (0 : Int32).toInt) from (by have e0 : (0 : Int32).toInt = 0 := rfl; rw [e0, hM4]; exact ⟨by omega, sk_TC (roc_start hT (wanted_here (by rw [← hch, ← hwn]; exact c12)) hM1 hM2 hM3), by omega⟩)), by rw [sX3_readOrder, tk_eq hch, tk_eq hwn, if_neg c12, if_neg c24, tk_eq hM1, tk_eq hM2, tk_eq hM3, tk_eq hM4]⟩
    rintro ⟨f, k, A69⟩ ⟨hI, hS⟩ ih
    have hI : (wn.toInt - k.toInt).toNat < f ∧ (TC A69 ∧ 0 ≤ k.toInt) := hI
    have hS : sX3_readOrder M = wX3_readOrder_69 wn f k A69 := hS
    show WP _ _ _ _ _ _ _ _ _ _ _ _ _ A69 [(0, .ref (z 10)), (2, .int wn), (3, .int k)] _ _
    cases f with
    | zero => exact absurd hI.1 (Nat.not_lt_zero _)
    | succ f =>
      refine wp_iload_n hc 2 dX3_readOrder_69 rfl ?_
      refine wp_iload_n hc 1 dX3_readOrder_70 rfl ?_
      refine wp_icmp_ge (tgt := 93) hc dX3_readOrder_71 (by decide) (fun c71 => ?_) (fun c71 => ?_)
      · refine wp_aload_n hc 0 dX3_readOrder_93 rfl ?_
        refine wp_callVf (As := []) (rest := []) (j := 10) (v := (fX3_here A69)) hc hx (kX3_here l D cy z hz A69) cw49 (by decide) (by decide) (ce_2 rfl) rfl rfl rfl rfl (Nat.le_of_ble_eq_true rfl) dX3_readOrder_94 ?_
        refine wp_bipush (v := 59) hc dX3_readOrder_97 (by decide) ?_
        refine wp_icmp_eq (tgt := 104) hc dX3_readOrder_99 (by decide) (fun c99 => ?_) (fun c99 => ?_)
        · refine wp_aload_n hc 0 dX3_readOrder_104 rfl ?_
          refine wp_dup hc dX3_readOrder_105 rfl ?_
          refine wp_get hc hx hin3 (j := 10) (by decide) (by decide) (ce_2 rfl) rfl 7 (by decide) hf39 rfl dX3_readOrder_106 ?_
          refine wp_iconst (v := 1) hc dX3_readOrder_109 (by decide) ?_
          refine wp_iadd hc dX3_readOrder_110 ?_
          refine wp_put (M' := st A69 10 7 ((A69.1 10 7) + 1)) hc hx hin3 tyX3 tyX3_ok nmX3 (j := 10) (by decide) (by decide) (ce_2 rfl) rfl 7 (by decide) hf39 rfl rfl rfl (Nat.le_of_ble_eq_true rfl) (by rw [ce_2 rfl]; exact ce_stT7 _ _ _) (fun i hi => ce_row (va_up_ne _ _ hi) rfl) dX3_readOrder_111 ?_
          refine wp_nm (fun M5 hM5 => ?_)
          refine wp_aload_n hc 0 dX3_readOrder_114 rfl ?_
          refine wp_dup hc dX3_readOrder_115 rfl ?_
          refine wp_get hc hx hin3 (j := 10) (by decide) (by decide) (ce_2 rfl) rfl 5 (by decide) hf33 rfl dX3_readOrder_116 ?_
          refine wp_iconst (v := 1) hc dX3_readOrder_119 (by decide) ?_
          refine wp_iadd hc dX3_readOrder_120 ?_
          refine wp_put (M' := st M5 10 5 ((M5.1 10 5) + 1)) hc hx hin3 tyX3 tyX3_ok nmX3 (j := 10) (by decide) (by decide) (ce_2 rfl) rfl 5 (by decide) hf33 rfl rfl rfl (Nat.le_of_ble_eq_true rfl) (by rw [ce_2 rfl]; exact ce_stT5 _ _ _) (fun i hi => ce_row (va_up_ne _ _ hi) rfl) dX3_readOrder_121 ?_
          refine wp_nm (fun M6 hM6 => ?_)
          refine wp_iconst (v := 1) hc dX3_readOrder_124 (by decide) ?_
          refine wp_zret hc hr hk rfl ?_ dX3_readOrder_125
          show (1, M6) = sX3_readOrder M
          rw [hS, wX3_readOrder_69, if_pos c71, if_pos c99, tk_eq hM5, tk_eq hM6]
        refine wp_iconst (v := 0) hc dX3_readOrder_102 (by decide) ?_
        refine wp_zret hc hr hk rfl ?_ dX3_readOrder_103
        show (0, A69) = sX3_readOrder M
        rw [hS, wX3_readOrder_69, if_pos c71, if_neg c99]
      refine wp_aload_n hc 0 dX3_readOrder_74 rfl ?_
      refine wp_callVw (As := []) (rest := []) (j := 10) (w := sX3_readNumber A69) hc hx (kX3_readNumber l D cy z hz A69 hI.2.1) cw57 (by decide) (by decide) (ce_2 rfl) rfl rfl rfl rfl (Nat.le_of_ble_eq_true rfl) dX3_readOrder_75 (fun x7 hx7 => ?_)
      refine wp_if_ne (tgt := 83) hc dX3_readOrder_78 (by decide) (fun c78 => ?_) (fun c78 => ?_)
      · refine wp_aload_n hc 0 dX3_readOrder_83 rfl ?_
        refine wp_callVvw (As := []) (rest := []) (j := 10) (w := sX3_skipBlanks x7.2) hc hx (kX3_skipBlanks l D cy z hz x7.2 ((by have hp := rn_post hI.2.1; rw [← hx7] at hp; exact hp : PTC A69 x7).2)) cw42 (by decide) (by decide) (ce_2 rfl) rfl rfl rfl rfl (Nat.le_of_ble_eq_true rfl) dX3_readOrder_84 (fun M8 hM8 => ?_)
        refine wp_iinc (v := (k + 1)) (lv' := [(3, .int (k + 1)), (0, .ref (z 10)), (2, .int wn)]) hc 2 dX3_readOrder_87 rfl rfl (by decide) rfl ?_
        refine wp_goto (tgt := 69) hc dX3_readOrder_90 (by decide) ?_
        exact wp_lv [1, 2, 0] rfl (ih (f, (k + 1), M8) ⟨(show (wn.toInt - (k + 1).toInt).toNat < f ∧ (TC M8 ∧ 0 ≤ (k + 1).toInt) from (roF_next hI.2.1 hwr.2 hI.2.2 hI.1 hx7 hM8 c71)), by rw [hS, wX3_readOrder_69, if_neg c71, tk_eq hx7, if_neg c78, tk_eq hM8]⟩ (Nat.lt_succ_self f))
      refine wp_iconst (v := 0) hc dX3_readOrder_81 (by decide) ?_
      refine wp_zret hc hr hk rfl ?_ dX3_readOrder_82
      show (0, x7.2) = sX3_readOrder M
      rw [hS, wX3_readOrder_69, if_neg c71, tk_eq hx7, if_pos c78]
  refine wp_iconst (v := 0) hc dX3_readOrder_27 (by decide) ?_
  refine wp_zret hc hr hk rfl ?_ dX3_readOrder_28
  show (0, M) = sX3_readOrder M
  rw [sX3_readOrder, tk_eq hch, tk_eq hwn, if_neg c12, if_pos c24]
theorem roF_post (wn : Int32) (hm : wn.toInt ≤ 8) : ∀ (f : Nat) (k : Int32) (A : Mem), TC A → 0 ≤ k.toInt → POC (wX3_readOrder_69 wn f k A)
  | 0, k, A, _, _ => POC.no
  | f + 1, k, A, hT, hk => by
    rw [wX3_readOrder_69]
    refine ite_ind (P := POC) (fun c => ?_) (fun c => ?_)
    · refine ite_ind (P := POC) (fun c2 => ?_) (fun c2 => POC.no)
      refine tk_ind (P := POC) _ _ (fun M5 h5 => ?_)
      refine tk_ind (P := POC) _ _ (fun M6 h6 => ?_)
      intro _
      show TC M6
      have hq := TC.inc hT (here_lt (by rw [c2]; decide))
      rw [← h5] at hq
      have hq1 := hq.1
      unfold TC at hq1 ⊢
      rw [h6, st_at_ne _ _ _ _ (by decide), st_at_ne _ _ _ _ (by decide)]
      exact hq1
    · refine tk_ind (P := POC) _ _ (fun x h => ?_)
      refine ite_ind (P := POC) (fun c2 => POC.no) (fun c2 => ?_)
      refine tk_ind (P := POC) _ _ (fun M8 h8 => ?_)
      have hn := roF_next (f := (wn.toInt - k.toInt).toNat) hT hm hk (Nat.lt_succ_self _) h h8 c
      exact roF_post wn hm f (k + 1) M8 hn.2.1 hn.2.2
theorem ro_post {M : Mem} (hT : TC M) : POC (sX3_readOrder M) := by
  unfold sX3_readOrder
  refine tk_ind (P := POC) _ _ (fun ch hch => ?_)
  refine tk_ind (P := POC) _ _ (fun wn hwn => ?_)
  refine ite_ind (P := POC) (fun c => POC.no) (fun c => ?_)
  refine ite_ind (P := POC) (fun c2 => POC.no) (fun c2 => ?_)
  refine tk_ind (P := POC) _ _ (fun M1 h1 => ?_)
  refine tk_ind (P := POC) _ _ (fun M2 h2 => ?_)
  refine tk_ind (P := POC) _ _ (fun M3 h3 => ?_)
  refine tk_ind (P := POC) _ _ (fun M4 h4 => ?_)
  have hwr : 0 ≤ wn.toInt ∧ wn.toInt ≤ 8 := by
    rcases wanted_rng ch with q | q
    · rw [← hwn] at q; exact absurd q c
    · rw [← hwn] at q; exact q
  have t := sk_TC (roc_start hT (wanted_here (by rw [← hch, ← hwn]; exact c)) h1 h2 h3)
  rw [← h4] at t
  exact roF_post wn hwr.2 9 0 M4 t (by decide)
theorem ros_start {M M1 M2 M3 : Mem} (hy : 0 ≤ (M.1 10 4).toInt ∧ (M.1 10 4).toInt ≤ 120) (h1 : M1 = st M 10 5 0) (h2 : M2 = st M1 10 6 0) (h3 : M3 = st M2 10 7 0) : TC M3 := by
  have e0 : (0 : Int32).toInt = 0 := rfl
  unfold TC
  rw [h3, st_at, st_at_ne _ _ _ _ (by decide), h2, st_at_ne _ _ _ _ (by decide), h1, st_at_ne _ _ _ _ (by decide), e0]
  omega
theorem ros_next {n : Int32} {f : Nat} (h0 : 0 ≤ n.toInt) (hf : ((60 : Int32).toInt - n.toInt).toNat < f + 1) (c : ¬ 60 ≤ n) : ((60 : Int32).toInt - (n + 1).toInt).toNat < f ∧ 0 ≤ (n + 1).toInt := by
  have e : (60 : Int32).toInt = 60 := rfl
  rw [fa_le, e] at c
  rw [e] at hf ⊢
  rw [inc_T (by omega)]
  omega
def wX3_readOrders_21 : Nat → Int32 → Mem → Int32 × Mem
  | 0, _, A21 => (0, A21)
  | f + 1, n, A21 =>
  if 60 ≤ n then
  ((A21.1 10 7), A21)
  else
  tk (sX3_readOrder A21) fun x5 =>
  if x5.1 = 0 then
  ((x5.2.1 10 7), x5.2)
  else
  tk (sX3_skipBlanks x5.2) fun M6 =>
  if (M6.1 10 7) < (M6.1 10 4) then
  wX3_readOrders_21 f (n + 1) M6
  else
  ((-1), M6)
def sX3_readOrders (M : Mem)  : Int32 × Mem :=
  tk (st M 10 5 0) fun M1 =>
  tk (st M1 10 6 0) fun M2 =>
  tk (st M2 10 7 0) fun M3 =>
  tk (sX3_skipBlanks M3) fun M4 =>
  wX3_readOrders_21 61 0 M4
set_option maxHeartbeats 4000000 in
set_option maxRecDepth 100000 in
theorem kX3_readOrders (l : Launch) (D : va_G) (cy : Nat → ClassId) (z : Nat → Nat) (hz : zI z) (M : Mem)  (hy : 0 ≤ (M.1 10 4).toInt ∧ (M.1 10 4).toInt ≤ 120) : KI l yX3_readOrders wsX3_readOrders { frames := 4, cells := 0, slots := 0, locals := 86 } D cy z 0 100 [.ref (z 10)] M (fun r u => (r, u) = sX3_readOrders M) := by
  refine met_wp (lv := [(0, .ref (z 10))]) hz (by decide) (by decide) rfl rfl (Nat.le_of_ble_eq_true rfl) rfl ?_
  intro p e s m below meth c hc hx hr hk
  have hNW := hx.2.1
  have hin3 : ∀ w ∈ wsX30, w ∈ wsX3_readOrders := by decide +kernel
  have hf29 : Cond.fieldLink RX3 29 (TX3 4).1 (TX3 4).2.1 (TX3 4).2.2.1 ∈ wsX3_readOrders := by decide +kernel
  have hf33 : Cond.fieldLink RX3 33 (TX3 5).1 (TX3 5).2.1 (TX3 5).2.2.1 ∈ wsX3_readOrders := by decide +kernel
  have hf36 : Cond.fieldLink RX3 36 (TX3 6).1 (TX3 6).2.1 (TX3 6).2.2.1 ∈ wsX3_readOrders := by decide +kernel
  have hf39 : Cond.fieldLink RX3 39 (TX3 7).1 (TX3 7).2.1 (TX3 7).2.2.1 ∈ wsX3_readOrders := by decide +kernel
  have cw42 : CallW ({ frames := 4, cells := 0, slots := 0, locals := 86 }) s _ RX3 RX3 42 yX3_skipBlanks cX3_skipBlanks 1 none wsX3_skipBlanks ({ frames := 2, cells := 0, slots := 0, locals := 41 }) 0 0 0 := cwV 0 hc.2.2.2.2 gX3_readOrders_X3_skipBlanks rfl rfl rfl (by decide +kernel) ⟨Nat.le_of_ble_eq_true rfl, Nat.le_of_ble_eq_true rfl⟩
  have cw45 : CallW ({ frames := 4, cells := 0, slots := 0, locals := 86 }) s _ RX3 RX3 45 yX3_readOrder cX3_readOrder 4 (some .boolean) wsX3_readOrder ({ frames := 3, cells := 0, slots := 0, locals := 63 }) 0 0 0 := cwV 0 hc.2.2.2.2 gX3_readOrders_X3_readOrder rfl rfl rfl (by decide +kernel) ⟨Nat.le_of_ble_eq_true rfl, Nat.le_of_ble_eq_true rfl⟩
  refine wp_aload_n hc 0 dX3_readOrders_0 rfl ?_
  refine wp_iconst (v := 0) hc dX3_readOrders_1 (by decide) ?_
  refine wp_put (M' := st M 10 5 0) hc hx hin3 tyX3 tyX3_ok nmX3 (j := 10) (by decide) (by decide) (ce_2 rfl) rfl 5 (by decide) hf33 rfl rfl rfl (Nat.le_of_ble_eq_true rfl) (by rw [ce_2 rfl]; exact ce_stT5 _ _ _) (fun i hi => ce_row (va_up_ne _ _ hi) rfl) dX3_readOrders_2 ?_
  refine wp_nm (fun M1 hM1 => ?_)
  refine wp_aload_n hc 0 dX3_readOrders_5 rfl ?_
  refine wp_iconst (v := 0) hc dX3_readOrders_6 (by decide) ?_
  refine wp_put (M' := st M1 10 6 0) hc hx hin3 tyX3 tyX3_ok nmX3 (j := 10) (by decide) (by decide) (ce_2 rfl) rfl 6 (by decide) hf36 rfl rfl rfl (Nat.le_of_ble_eq_true rfl) (by rw [ce_2 rfl]; exact ce_stT6 _ _ _) (fun i hi => ce_row (va_up_ne _ _ hi) rfl) dX3_readOrders_7 ?_
  refine wp_nm (fun M2 hM2 => ?_)
  refine wp_aload_n hc 0 dX3_readOrders_10 rfl ?_
  refine wp_iconst (v := 0) hc dX3_readOrders_11 (by decide) ?_
  refine wp_put (M' := st M2 10 7 0) hc hx hin3 tyX3 tyX3_ok nmX3 (j := 10) (by decide) (by decide) (ce_2 rfl) rfl 7 (by decide) hf39 rfl rfl rfl (Nat.le_of_ble_eq_true rfl) (by rw [ce_2 rfl]; exact ce_stT7 _ _ _) (fun i hi => ce_row (va_up_ne _ _ hi) rfl) dX3_readOrders_12 ?_
  refine wp_nm (fun M3 hM3 => ?_)
  refine wp_aload_n hc 0 dX3_readOrders_15 rfl ?_
  refine wp_callVvw (As := []) (rest := []) (j := 10) (w := sX3_skipBlanks M3) hc hx (kX3_skipBlanks l D cy z hz M3 (ros_start hy hM1 hM2 hM3)) cw42 (by decide) (by decide) (ce_2 rfl) rfl rfl rfl rfl (Nat.le_of_ble_eq_true rfl) dX3_readOrders_16 (fun M4 hM4 => ?_)
  refine wp_iconst (v := 0) hc dX3_readOrders_19 (by decide) ?_
  refine wp_istore_n (lv' := [(1, .int 0), (0, .ref (z 10))]) hc dX3_readOrders_20 (by decide) rfl ?_
  refine wp_lv (lv' := [(0, .ref (z 10)), (1, .int 0)]) [1, 0] rfl ?_
  refine wp_rec (α := Int32 × Mem) (fun a => a.2.2) (fun a => [(0, .ref (z 10)), (1, .int a.2.1)]) (fun a => (((60 : Int32).toInt - a.2.1.toInt).toNat < a.1 ∧ (TC a.2.2 ∧ 0 ≤ a.2.1.toInt)) ∧ sX3_readOrders M = wX3_readOrders_21 a.1 a.2.1 a.2.2) ?_ (61, 0, M4) ⟨(show ((60 : Int32).toInt - (0 : Int32).toInt).toNat < 61 ∧ (TC M4 ∧ 0 ≤ (0 : Int32).toInt) from (by rw [hM4]; exact ⟨by decide, sk_TC (ros_start hy hM1 hM2 hM3), by decide⟩)), by rw [sX3_readOrders, tk_eq hM1, tk_eq hM2, tk_eq hM3, tk_eq hM4]⟩
  rintro ⟨f, n, A21⟩ ⟨hI, hS⟩ ih
  have hI : ((60 : Int32).toInt - n.toInt).toNat < f ∧ (TC A21 ∧ 0 ≤ n.toInt) := hI
  have hS : sX3_readOrders M = wX3_readOrders_21 f n A21 := hS
  show WP _ _ _ _ _ _ _ _ _ _ _ _ _ A21 [(0, .ref (z 10)), (1, .int n)] _ _
  cases f with
  | zero => exact absurd hI.1 (Nat.not_lt_zero _)
  | succ f =>
    refine wp_iload_n hc 1 dX3_readOrders_21 rfl ?_
    refine wp_bipush (v := 60) hc dX3_readOrders_22 (by decide) ?_
    refine wp_icmp_ge (tgt := 62) hc dX3_readOrders_24 (by decide) (fun c24 => ?_) (fun c24 => ?_)
    · refine wp_aload_n hc 0 dX3_readOrders_62 rfl ?_
      refine wp_get hc hx hin3 (j := 10) (by decide) (by decide) (ce_2 rfl) rfl 7 (by decide) hf39 rfl dX3_readOrders_63 ?_
      refine wp_iret hc hr hk ?_ dX3_readOrders_66
      show ((A21.1 10 7), A21) = sX3_readOrders M
      rw [hS, wX3_readOrders_21, if_pos c24]
    refine wp_aload_n hc 0 dX3_readOrders_27 rfl ?_
    refine wp_callVw (As := []) (rest := []) (j := 10) (w := sX3_readOrder A21) hc hx (kX3_readOrder l D cy z hz A21 hI.2.1) cw45 (by decide) (by decide) (ce_2 rfl) rfl rfl rfl rfl (Nat.le_of_ble_eq_true rfl) dX3_readOrders_28 (fun x5 hx5 => ?_)
    refine wp_if_ne (tgt := 39) hc dX3_readOrders_31 (by decide) (fun c31 => ?_) (fun c31 => ?_)
    · refine wp_aload_n hc 0 dX3_readOrders_39 rfl ?_
      refine wp_callVvw (As := []) (rest := []) (j := 10) (w := sX3_skipBlanks x5.2) hc hx (kX3_skipBlanks l D cy z hz x5.2 ((by have hp := ro_post hI.2.1; rw [← hx5] at hp; exact hp : POC x5) c31)) cw42 (by decide) (by decide) (ce_2 rfl) rfl rfl rfl rfl (Nat.le_of_ble_eq_true rfl) dX3_readOrders_40 (fun M6 hM6 => ?_)
      refine wp_aload_n hc 0 dX3_readOrders_43 rfl ?_
      refine wp_get hc hx hin3 (j := 10) (by decide) (by decide) (ce_2 rfl) rfl 7 (by decide) hf39 rfl dX3_readOrders_44 ?_
      refine wp_aload_n hc 0 dX3_readOrders_47 rfl ?_
      refine wp_get hc hx hin3 (j := 10) (by decide) (by decide) (ce_2 rfl) rfl 4 (by decide) hf29 rfl dX3_readOrders_48 ?_
      refine wp_icmp_lt (tgt := 56) hc dX3_readOrders_51 (by decide) (fun c51 => ?_) (fun c51 => ?_)
      · refine wp_iinc (v := (n + 1)) (lv' := [(1, .int (n + 1)), (0, .ref (z 10))]) hc 1 dX3_readOrders_56 rfl rfl (by decide) rfl ?_
        refine wp_goto (tgt := 21) hc dX3_readOrders_59 (by decide) ?_
        exact wp_lv [1, 0] rfl (ih (f, (n + 1), M6) ⟨(show ((60 : Int32).toInt - (n + 1).toInt).toNat < f ∧ (TC M6 ∧ 0 ≤ (n + 1).toInt) from (by have q := ros_next hI.2.2 hI.1 c24; exact ⟨q.1, by rw [hM6]; exact sk_TC ((by have hp := ro_post hI.2.1; rw [← hx5] at hp; exact hp : POC x5) c31), q.2⟩)), by rw [hS, wX3_readOrders_21, if_neg c24, tk_eq hx5, if_neg c31, tk_eq hM6, if_pos c51]⟩ (Nat.lt_succ_self f))
      refine wp_iconst (v := (-1)) hc dX3_readOrders_54 (by decide) ?_
      refine wp_iret hc hr hk ?_ dX3_readOrders_55
      show ((-1), M6) = sX3_readOrders M
      rw [hS, wX3_readOrders_21, if_neg c24, tk_eq hx5, if_neg c31, tk_eq hM6, if_neg c51]
    refine wp_aload_n hc 0 dX3_readOrders_34 rfl ?_
    refine wp_get hc hx hin3 (j := 10) (by decide) (by decide) (ce_2 rfl) rfl 7 (by decide) hf39 rfl dX3_readOrders_35 ?_
    refine wp_iret hc hr hk ?_ dX3_readOrders_38
    show ((x5.2.1 10 7), x5.2) = sX3_readOrders M
    rw [hS, wX3_readOrders_21, if_neg c24, tk_eq hx5, if_pos c31]
