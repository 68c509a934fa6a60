def PO (A : Mem) (u : Int32 × Mem) : Prop := ¬ u.1 = 0 → TM u.2 ∧ OQ u.2 0 ∧ (A.1 100 18).toInt < (u.2.1 100 18).toInt ∧ u.2.1 100 6 = A.1 100 6
theorem PO.no {A M : Mem} : PO A (0, M) := fun h => absurd rfl h
theorem toF_post (mn : Int32) (hm : mn.toInt ≤ 8) : ∀ (f : Nat) (k : Int32) (A : Mem), TM A → 0 ≤ k.toInt → k.toInt ≤ mn.toInt → OQ A (1 + k.toInt) → PO A (wX6_takesOrder_50 mn f k A)
  | 0, k, A, _, _, _, _ => PO.no
  | f + 1, k, A, hT, hk, hkm, hO => by
    rw [wX6_takesOrder_50]
    refine ite_ind (P := PO A) (fun c => ?_) (fun c => ?_)
    · refine tk_ind (P := PO A) _ _ (fun M3 h3 => ?_)
      refine ite_ind (P := PO A) (fun c3 => ?_) (fun c3 => ?_)
      · refine tk_ind (P := PO A) _ _ (fun x7 h7 => ?_)
        rw [h7]
        exact PO.no
      · refine tk_ind (P := PO A) _ _ (fun M4 h4 => ?_)
        refine tk_ind (P := PO A) _ _ (fun M5 h5 => ?_)
        refine tk_ind (P := PO A) _ _ (fun M6 h6 => ?_)
        intro _
        show TM M6 ∧ OQ M6 0 ∧ (A.1 100 18).toInt < (M6.1 100 18).toInt ∧ M6.1 100 6 = A.1 100 6
        obtain ⟨v, e, l1, l2⟩ := bl_form hT
        rw [← h3] at e
        have hT3 := bl_TM hT
        rw [← h3] at hT3
        have k3 : KT A M3 := by rw [e]; exact kt_st (by omega)
        have s3 : M3.1 100 18 = v := by rw [e, st_at]
        have o3 := hO.keep (e := 1 + k.toInt) k3 (by rw [s3]; omega)
        have hq := TM.inc hT3 (isAt_lt c3)
        rw [← h4] at hq
        rw [fa_le] at c
        have r6 : M6.1 100 = M5.1 100 := by rw [h6, st_ne _ _ _ (by decide)]
        have e6 : M6.1 100 6 = M3.1 100 6 := by rw [r6, h5, st_at_ne _ _ _ _ (by decide), h4, st_at_ne _ _ _ _ (by decide)]
        have e18 : M6.1 100 18 = M3.1 100 18 + 1 := by rw [r6, h5, st_at_ne _ _ _ _ (by decide), h4, st_at]
        have e17 : M6.1 100 17 = M3.1 100 17 + 1 := by rw [r6, h5, st_at, h4, st_at_ne _ _ _ _ (by decide)]
        have e17' : M5.1 100 17 = M3.1 100 17 + 1 := by rw [← r6]; exact e17
        have hT3' := hT3
        unfold TM at hT3'
        have o3' := o3
        unfold OQ at o3'
        have lt := le_nT (isAt_lt c3)
        have t18 : (M6.1 100 18).toInt = (M3.1 100 18).toInt + 1 := by rw [e18, inc_T (by omega)]
        have t17 : (M3.1 100 17 + 1).toInt = (M3.1 100 17).toInt + 1 := inc_T (by omega)
        have e1 : (1 : Int32).toInt = 1 := rfl
        have back : M3.1 100 17 + 1 - 1 = M3.1 100 17 := by
          apply Int32.toInt_inj.mp
          rw [fb_subI (by rw [t17, e1]; omega) (by rw [t17, e1]; omega), t17, e1]
          omega
        have r113 : M5.1 113 = M3.1 113 := by rw [h5, st_ne _ _ _ (by decide), h4, st_ne _ _ _ (by decide)]
        have ef : frO M6 = frO M3 + mn := by
          unfold frO
          rw [r6, h6, st_at, e17', back, r113]
        have tf : (frO M3 + mn).toInt = (frO M3).toInt + mn.toInt := fb_addI (by omega) (by omega)
        refine ⟨?_, ?_, ?_, ?_⟩
        · unfold TM
          rw [e6, t18]
          omega
        · unfold OQ
          rw [ef, tf, e17, t17, t18]
          omega
        · rw [t18, s3]
          omega
        · rw [e6]
          exact k3.2.1 6 (by decide) (by decide)
    · refine tk_ind (P := PO A) _ _ (fun x h => ?_)
      refine ite_ind (P := PO A) (fun c2 => PO.no) (fun c2 => ?_)
      have hn := to_next (f := (mn.toInt - k.toInt).toNat) hT hk hO hm (Nat.lt_succ_self _) h c2 c
      have hp := tn_post hT ((A.1 113 (A.1 100 17).toNatClampNeg) + k)
      rw [← h] at hp
      have hkk := le_nT c
      have e := inc_T (x := k) (by omega)
      intro q
      obtain ⟨a1, a2, a3, a4⟩ := toF_post mn hm f (k + 1) x.2 hn.2.1 hn.2.2.1 (by omega) hn.2.2.2 q
      exact ⟨a1, a2, by have := hp.2.2.1; omega, a4.trans (hp.1.2.1 6 (by decide) (by decide))⟩
theorem to_post {M : Mem} (hT : TM M) (hO : OQ M 0) (hlt : ¬ M.1 100 6 ≤ M.1 100 18) : PO M (sX6_takesOrder M) := by
  unfold sX6_takesOrder
  refine tk_ind (P := PO M) _ _ (fun ch hch => ?_)
  refine tk_ind (P := PO M) _ _ (fun mn hmn => ?_)
  refine ite_ind (P := PO M) (fun c => ?_) (fun c => ?_)
  · refine tk_ind (P := PO M) _ _ (fun M1 h1 => ?_)
    refine tk_ind (P := PO M) _ _ (fun M2 h2 => ?_)
    have hmr : 0 ≤ mn.toInt ∧ mn.toInt ≤ 8 := by
      rcases many_rng ch with q | q
      · rw [← hmn] at q; rw [q] at c; exact absurd c (by decide)
      · rw [← hmn] at q; exact q
    have hq := to_start hT hO hlt h1 h2
    have r1 : M1.1 100 = M.1 100 := by rw [h1, st_ne _ _ _ (by decide)]
    have e18 : (M2.1 100 18).toInt = (M.1 100 18).toInt + 1 := by rw [h2, st_at, r1, inc_T (by unfold TM at hT; omega)]
    have e6 : M2.1 100 6 = M.1 100 6 := by rw [h2, st_at_ne _ _ _ _ (by decide), r1]
    intro g
    have e0 : (0 : Int32).toInt = 0 := rfl
    obtain ⟨a1, a2, a3, a4⟩ := toF_post mn hmr.2 9 0 M2 hq.1 (by rw [e0]; omega) (by rw [e0]; omega) (by rw [e0]; exact hq.2) g
    exact ⟨a1, a2, by omega, a4.trans e6⟩
  · refine tk_ind (P := PO M) _ _ (fun x9 h9 => ?_)
    rw [h9]
    exact PO.no
theorem ir_next {A M3 : Mem} {x : Int32 × Mem} {f : Nat} (hf : muM A < f + 1) (hT : TM A) (hO : OQ A 0) (hlt : ¬ A.1 100 6 ≤ A.1 100 18) (hx : x = sX6_takesOrder A) (c : ¬ x.1 = 0) (h3 : M3 = sX6_blanks x.2) : muM M3 < f ∧ (TM M3 ∧ OQ M3 0) := by
  have hp := to_post hT hO hlt
  rw [← hx] at hp
  obtain ⟨a1, a2, a3, a4⟩ := hp c
  obtain ⟨v, e, l1, l2⟩ := bl_form a1
  rw [← h3] at e
  have hT3 := bl_TM a1
  rw [← h3] at hT3
  have k3 : KT x.2 M3 := by rw [e]; exact kt_st (by omega)
  have s3 : M3.1 100 18 = v := by rw [e, st_at]
  have e6 : M3.1 100 6 = A.1 100 6 := (k3.2.1 6 (by decide) (by decide)).trans a4
  refine ⟨?_, hT3, a2.keep k3 (by rw [s3]; omega)⟩
  have hT' := hT
  unfold TM at hT'
  unfold TM at hT3
  unfold muM at hf ⊢
  rw [e6, s3] at hT3 ⊢
  omega
theorem ir_start {M M1 M2 M3 M4 : Mem} (hy : 0 ≤ (M.1 100 6).toInt ∧ (M.1 100 6).toInt ≤ 120) (h1 : M1 = st M 100 18 0) (h2 : M2 = st M1 100 17 0) (h3 : M3 = st M2 113 0 0) : TM M3 ∧ OQ M3 0 := by
  have e0 : (0 : Int32).toInt = 0 := rfl
  have r3 : M3.1 100 = M2.1 100 := by rw [h3, st_ne _ _ _ (by decide)]
  have e18 : M3.1 100 18 = 0 := by rw [r3, h2, st_at_ne _ _ _ _ (by decide), h1, st_at]
  have e17 : M3.1 100 17 = 0 := by rw [r3, h2, st_at]
  have e6 : M3.1 100 6 = M.1 100 6 := by rw [r3, h2, st_at_ne _ _ _ _ (by decide), h1, st_at_ne _ _ _ _ (by decide)]
  have ef : frO M3 = 0 := by
    unfold frO
    rw [e17, h3]
    exact st_at _ _ _ _
  constructor
  · unfold TM
    rw [e18, e6, e0]
    omega
  · unfold OQ
    rw [ef, e17, e18, e0]
    omega
def wX6_isRead_21 : Nat → Mem → Int32 × Mem
  | 0, A21 => (0, A21)
  | f + 1, A21 =>
  if (A21.1 100 6) ≤ (A21.1 100 18) then
  if 0 < (A21.1 100 17) then
  (1, A21)
  else
  tk (sX6_fails A21 (A21.1 100 6)) fun x5 =>
  if x5.1 = 0 then
  (0, x5.2)
  else
  (1, x5.2)
  else
  tk (sX6_takesOrder A21) fun x6 =>
  if x6.1 = 0 then
  (0, x6.2)
  else
  tk (sX6_blanks x6.2) fun M7 =>
  wX6_isRead_21 f M7
def sX6_isRead (M : Mem)  : Int32 × Mem :=
  tk (st M 100 18 0) fun M1 =>
  tk (st M1 100 17 0) fun M2 =>
  tk (st M2 113 0 0) fun M3 =>
  tk (sX6_blanks M3) fun M4 =>
  wX6_isRead_21 121 M4
set_option maxHeartbeats 4000000 in
set_option maxRecDepth 100000 in
theorem kX6_isRead (l : Launch) (D : va_G) (cy : Nat → ClassId) (z : Nat → Nat) (hz : zI z) (M : Mem)  (hy : 0 ≤ (M.1 100 6).toInt ∧ (M.1 100 6).toInt ≤ 120) : KI l yX6_isRead wsX6_isRead { frames := 5, cells := 0, slots := 0, locals := 110 } D cy z 100 15 [.ref (z 100)] M (fun r u => (r, u) = sX6_isRead M) := by
  refine met_wp (lv := [(0, .ref (z 100))]) hz (by decide) (by decide) rfl rfl (Nat.le_of_ble_eq_true rfl) rfl ?_
  intro p e s m below meth c hc hx hr hk
  have hNW := hx.2.1
  have hin6 : ∀ w ∈ wsX60, w ∈ wsX6_isRead := by decide +kernel
  have hf46 : Cond.fieldLink RX6 46 (TX6 15).1 (TX6 15).2.1 (TX6 15).2.2.1 ∈ wsX6_isRead := by decide +kernel
  have hf219 : Cond.fieldLink RX6 219 (TX6 6).1 (TX6 6).2.1 (TX6 6).2.2.1 ∈ wsX6_isRead := by decide +kernel
  have hf222 : Cond.fieldLink RX6 222 (TX6 18).1 (TX6 18).2.1 (TX6 18).2.2.1 ∈ wsX6_isRead := by decide +kernel
  have hf240 : Cond.fieldLink RX6 240 (TX6 17).1 (TX6 17).2.1 (TX6 17).2.2.1 ∈ wsX6_isRead := by decide +kernel
  have cw231 : CallW ({ frames := 5, cells := 0, slots := 0, locals := 110 }) s _ RX6 RX6 231 yX6_blanks cX6_blanks 1 none wsX6_blanks ({ frames := 2, cells := 0, slots := 0, locals := 44 }) 0 0 0 := cwV 0 hc.2.2.2.2 gX6_isRead_X6_blanks rfl rfl rfl (by decide +kernel) ⟨Nat.le_of_ble_eq_true rfl, Nat.le_of_ble_eq_true rfl⟩
  have cw234 : CallW ({ frames := 5, cells := 0, slots := 0, locals := 110 }) s _ RX6 RX6 234 yX6_fails cX6_fails 2 (some .boolean) wsX6_fails ({ frames := 0, cells := 0, slots := 0, locals := 0 }) 0 0 1 := cwV 1 hc.2.2.2.2 gX6_isRead_X6_fails rfl rfl rfl (by decide +kernel) ⟨Nat.le_of_ble_eq_true rfl, Nat.le_of_ble_eq_true rfl⟩
  have cw246 : CallW ({ frames := 5, cells := 0, slots := 0, locals := 110 }) s _ RX6 RX6 246 yX6_takesOrder cX6_takesOrder 4 (some .boolean) wsX6_takesOrder ({ frames := 4, cells := 0, slots := 0, locals := 87 }) 0 0 0 := cwV 0 hc.2.2.2.2 gX6_isRead_X6_takesOrder rfl rfl rfl (by decide +kernel) ⟨Nat.le_of_ble_eq_true rfl, Nat.le_of_ble_eq_true rfl⟩
  refine wp_aload_n hc 0 dX6_isRead_0 rfl ?_
  refine wp_iconst (v := 0) hc dX6_isRead_1 (by decide) ?_
  refine wp_put (M' := st M 100 18 0) hc hx hin6 tyX6 tyX6_ok nmX6 (j := 100) (by decide) (by decide) (ce_5 rfl) rfl 18 (by decide) hf222 rfl rfl rfl (Nat.le_of_ble_eq_true rfl) (by rw [ce_5 rfl]; exact ce_stM18 _ _ _) (fun i hi => ce_row (va_up_ne _ _ hi) rfl) dX6_isRead_2 ?_
  refine wp_nm (fun M1 hM1 => ?_)
  refine wp_aload_n hc 0 dX6_isRead_5 rfl ?_
  refine wp_iconst (v := 0) hc dX6_isRead_6 (by decide) ?_
  refine wp_put (M' := st M1 100 17 0) hc hx hin6 tyX6 tyX6_ok nmX6 (j := 100) (by decide) (by decide) (ce_5 rfl) rfl 17 (by decide) hf240 rfl rfl rfl (Nat.le_of_ble_eq_true rfl) (by rw [ce_5 rfl]; exact ce_stM17 _ _ _) (fun i hi => ce_row (va_up_ne _ _ hi) rfl) dX6_isRead_7 ?_
  refine wp_nm (fun M2 hM2 => ?_)
  refine wp_aload_n hc 0 dX6_isRead_10 rfl ?_
  refine wp_get hc hx hin6 (j := 100) (by decide) (by decide) (ce_5 rfl) rfl 15 (by decide) hf46 rfl dX6_isRead_11 ?_
  refine wp_iconst (v := 0) hc dX6_isRead_14 (by decide) ?_
  refine wp_iconst (v := 0) hc dX6_isRead_15 (by decide) ?_
  refine wp_iast hc hx (j := 113) (by decide) (by decide) rfl 0 rfl (vin (by decide)) dX6_isRead_16 ?_
  refine wp_nm (fun M3 hM3 => ?_)
  refine wp_aload_n hc 0 dX6_isRead_17 rfl ?_
  refine wp_callVvw (As := []) (rest := []) (j := 100) (w := sX6_blanks M3) hc hx (kX6_blanks l D cy z hz M3 (ir_start (M4 := M) hy hM1 hM2 hM3).1) cw231 (by decide) (by decide) (ce_5 rfl) rfl rfl rfl rfl (Nat.le_of_ble_eq_true rfl) dX6_isRead_18 (fun M4 hM4 => ?_)
  refine wp_lv (lv' := [(0, .ref (z 100))]) [0] rfl ?_
  refine wp_rec (α := Mem) (fun a => a.2) (fun a => [(0, .ref (z 100))]) (fun a => (muM a.2 < a.1 ∧ (TM a.2 ∧ OQ a.2 0)) ∧ sX6_isRead M = wX6_isRead_21 a.1 a.2) ?_ (121, M4) ⟨(show muM M4 < 121 ∧ (TM M4 ∧ OQ M4 0) from (by have q := ir_start (M4 := M) hy hM1 hM2 hM3; obtain ⟨v, e, l1, l2⟩ := bl_form q.1; have t := bl_TM q.1; rw [← hM4] at e t; exact ⟨TM.mu t, t, q.2.keep (by rw [e]; exact kt_st (by omega)) (by rw [e, st_at]; omega)⟩)), by rw [sX6_isRead, tk_eq hM1, tk_eq hM2, tk_eq hM3, tk_eq hM4]⟩
  rintro ⟨f, A21⟩ ⟨hI, hS⟩ ih
  have hI : muM A21 < f ∧ (TM A21 ∧ OQ A21 0) := hI
  have hS : sX6_isRead M = wX6_isRead_21 f A21 := hS
  show WP _ _ _ _ _ _ _ _ _ _ _ _ _ A21 [(0, .ref (z 100))] _ _
  cases f with
  | zero => exact absurd hI.1 (Nat.not_lt_zero _)
  | succ f =>
    refine wp_aload_n hc 0 dX6_isRead_21 rfl ?_
    refine wp_get hc hx hin6 (j := 100) (by decide) (by decide) (ce_5 rfl) rfl 18 (by decide) hf222 rfl dX6_isRead_22 ?_
    refine wp_aload_n hc 0 dX6_isRead_25 rfl ?_
    refine wp_get hc hx hin6 (j := 100) (by decide) (by decide) (ce_5 rfl) rfl 6 (by decide) hf219 rfl dX6_isRead_26 ?_
    refine wp_icmp_ge (tgt := 48) hc dX6_isRead_29 (by decide) (fun c29 => ?_) (fun c29 => ?_)
    · refine wp_aload_n hc 0 dX6_isRead_48 rfl ?_
      refine wp_get hc hx hin6 (j := 100) (by decide) (by decide) (ce_5 rfl) rfl 17 (by decide) hf240 rfl dX6_isRead_49 ?_
      refine wp_if_gt (tgt := 66) hc dX6_isRead_52 (by decide) (fun c52 => ?_) (fun c52 => ?_)
      · refine wp_iconst (v := 1) hc dX6_isRead_66 (by decide) ?_
        refine wp_goto (tgt := 71) hc dX6_isRead_67 (by decide) ?_
        refine wp_zret hc hr hk rfl ?_ dX6_isRead_71
        show (1, A21) = sX6_isRead M
        rw [hS, wX6_isRead_21, if_pos c29, if_pos c52]
      refine wp_aload_n hc 0 dX6_isRead_55 rfl ?_
      refine wp_aload_n hc 0 dX6_isRead_56 rfl ?_
      refine wp_get hc hx hin6 (j := 100) (by decide) (by decide) (ce_5 rfl) rfl 6 (by decide) hf219 rfl dX6_isRead_57 ?_
      refine wp_callVw (As := [.int (A21.1 100 6)]) (rest := []) (j := 100) (w := sX6_fails A21 (A21.1 100 6)) hc hx (kX6_fails l D cy z hz A21 (A21.1 100 6)) cw234 (by decide) (by decide) (ce_5 rfl) rfl rfl rfl rfl (Nat.le_of_ble_eq_true rfl) dX6_isRead_60 (fun x5 hx5 => ?_)
      refine wp_if_eq (tgt := 70) hc dX6_isRead_63 (by decide) (fun c63 => ?_) (fun c63 => ?_)
      · refine wp_iconst (v := 0) hc dX6_isRead_70 (by decide) ?_
        refine wp_zret hc hr hk rfl ?_ dX6_isRead_71
        show (0, x5.2) = sX6_isRead M
        rw [hS, wX6_isRead_21, if_pos c29, if_neg c52, tk_eq hx5, if_pos c63]
      refine wp_iconst (v := 1) hc dX6_isRead_66 (by decide) ?_
      refine wp_goto (tgt := 71) hc dX6_isRead_67 (by decide) ?_
      refine wp_zret hc hr hk rfl ?_ dX6_isRead_71
      show (1, x5.2) = sX6_isRead M
      rw [hS, wX6_isRead_21, if_pos c29, if_neg c52, tk_eq hx5, if_neg c63]
    refine wp_aload_n hc 0 dX6_isRead_32 rfl ?_
    refine wp_callVw (As := []) (rest := []) (j := 100) (w := sX6_takesOrder A21) hc hx (kX6_takesOrder l D cy z hz A21 hI.2.1 hI.2.2 c29) cw246 (by decide) (by decide) (ce_5 rfl) rfl rfl rfl rfl (Nat.le_of_ble_eq_true rfl) dX6_isRead_33 (fun x6 hx6 => ?_)
    refine wp_if_ne (tgt := 41) hc dX6_isRead_36 (by decide) (fun c36 => ?_) (fun c36 => ?_)
    · refine wp_aload_n hc 0 dX6_isRead_41 rfl ?_
      refine wp_callVvw (As := []) (rest := []) (j := 100) (w := sX6_blanks x6.2) hc hx (kX6_blanks l D cy z hz x6.2 ((by have hp := to_post hI.2.1 hI.2.2 c29; rw [← hx6] at hp; exact hp : PO A21 x6) c36).1) cw231 (by decide) (by decide) (ce_5 rfl) rfl rfl rfl rfl (Nat.le_of_ble_eq_true rfl) dX6_isRead_42 (fun M7 hM7 => ?_)
      refine wp_goto (tgt := 21) hc dX6_isRead_45 (by decide) ?_
      exact wp_lv [0] rfl (ih (f, M7) ⟨(show muM M7 < f ∧ (TM M7 ∧ OQ M7 0) from (ir_next hI.1 hI.2.1 hI.2.2 c29 hx6 c36 hM7)), by rw [hS, wX6_isRead_21, if_neg c29, tk_eq hx6, if_neg c36, tk_eq hM7]⟩ (Nat.lt_succ_self f))
    refine wp_iconst (v := 0) hc dX6_isRead_39 (by decide) ?_
    refine wp_zret hc hr hk rfl ?_ dX6_isRead_40
    show (0, x6.2) = sX6_isRead M
    rw [hS, wX6_isRead_21, if_neg c29, tk_eq hx6, if_pos c36]
