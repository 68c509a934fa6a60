/-- how many orders and numbers were read, against the place -/
def frO (A : Mem) : Int32 := A.1 113 (A.1 100 17).toNatClampNeg
def OQ (A : Mem) (d : Int) : Prop := 0 ≤ (A.1 100 17).toInt ∧ 0 ≤ (frO A).toInt ∧ 2 * (A.1 100 17).toInt + (frO A).toInt + d ≤ (A.1 100 18).toInt
theorem OQ.keep {A M' : Mem} {d e : Int} (h : OQ A d) (k : KT A M') (hs : (A.1 100 18).toInt + e ≤ (M'.1 100 18).toInt + d) : OQ M' e := by
  have e1 : M'.1 100 17 = A.1 100 17 := k.2.1 17 (by decide) (by decide)
  have e2 : frO M' = frO A := by unfold frO; rw [e1, k.1 113 (by decide) (by decide)]
  unfold OQ at h ⊢
  rw [e1, e2]
  omega
theorem ord_in {A : Mem} (h : TM A) (o : OQ A 0) (c : ¬ A.1 100 6 ≤ A.1 100 18) : vp_in (A.1 100 17) (ln 112) := by
  unfold TM at h
  unfold OQ at o
  rw [fa_le] at c
  refine vin ?_
  show _ ∧ _ < ((60 : Nat) : Int)
  omega
theorem fr_in {A : Mem} (h : TM A) {d : Int} (hd : 0 ≤ d) (o : OQ A d) : vp_in (A.1 100 17) (ln 113) := by
  unfold TM at h
  unfold OQ at o
  refine vin ?_
  show _ ∧ _ < ((61 : Nat) : Int)
  omega
theorem at_in {A : Mem} {k : Int32} (h : TM A) (hk : 0 ≤ k.toInt) (o : OQ A (1 + k.toInt)) : 0 ≤ (frO A + k).toInt ∧ (frO A + k).toInt < 120 := by
  unfold TM at h
  unfold OQ at o
  rw [fb_addI (by omega) (by omega)]
  omega
theorem le_nT {a b : Int32} (h : ¬ a ≤ b) : b.toInt < a.toInt := by
  rw [fa_le] at h
  omega
theorem to_start {M M1 M2 : Mem} {ch : Int32} {q : Nat} (hT : TM M) (hO : OQ M 0) (hlt : ¬ M.1 100 6 ≤ M.1 100 18) (h1 : M1 = st M 112 q ch) (h2 : M2 = st M1 100 18 (M1.1 100 18 + 1)) : TM M2 ∧ OQ M2 1 := by
  have r1 : M1.1 100 = M.1 100 := by rw [h1, st_ne _ _ _ (by decide)]
  have hT1 : TM M1 := by unfold TM; rw [r1]; exact hT
  have hq := TM.inc hT1 (by rw [r1]; exact hlt)
  rw [← h2] at hq
  have e17 : M2.1 100 17 = M.1 100 17 := by rw [h2, st_at_ne _ _ _ _ (by decide), r1]
  have e113 : M2.1 113 = M.1 113 := by rw [h2, st_ne _ _ _ (by decide), h1, st_ne _ _ _ (by decide)]
  have e18 : (M2.1 100 18).toInt = (M.1 100 18).toInt + 1 := by rw [h2, st_at, r1, inc_T (by unfold TM at hT; omega)]
  refine ⟨hq.1, ?_⟩
  unfold OQ frO at hO ⊢
  rw [e17, e113]
  omega
theorem to_next {A : Mem} {x : Int32 × Mem} {k mn : Int32} {f : Nat} {i : Int32} (hT : TM A) (hk : 0 ≤ k.toInt) (hO : OQ A (1 + k.toInt)) (hm : mn.toInt ≤ 8) (hf : (mn.toInt - k.toInt).toNat < f + 1) (hx : x = sX6_takesNumber A i) (c : ¬ x.1 = 0) (hlt : ¬ mn ≤ k) : (mn.toInt - (k + 1).toInt).toNat < f ∧ (TM x.2 ∧ 0 ≤ (k + 1).toInt ∧ OQ x.2 (1 + (k + 1).toInt)) := by
  have hp := tn_post hT i
  rw [← hx] at hp
  have hkk := le_nT hlt
  have e := inc_T (x := k) (by omega)
  have h4 := hp.2.2.2 c
  rw [e]
  exact ⟨by omega, hp.2.1, by omega, hO.keep hp.1 (by omega)⟩
theorem to_ix {A M3 M4 M5 : Mem} {k : Int32} (hT : TM A) (hk : 0 ≤ k.toInt) (hO : OQ A (1 + k.toInt)) (h3 : M3 = sX6_blanks A) (c : ¬ fX6_isAt M3 59 59 = 0) (h4 : M4 = st M3 100 18 (M3.1 100 18 + 1)) (h5 : M5 = st M4 100 17 (M4.1 100 17 + 1)) : vp_in (M5.1 100 17) (ln 113) ∧ vp_in (M5.1 100 17 - 1) (ln 113) := by
  obtain ⟨v, e, l1, l2⟩ := bl_form hT
  rw [← h3] at e
  have hT3 := bl_TM hT
  rw [← h3] at hT3
  have k3 : KT A M3 := by rw [e]; exact kt_st (by omega)
  have s3 : M3.1 100 18 = v := by rw [e, st_at]
  have o3 := hO.keep (e := 1 + k.toInt) k3 (by rw [s3]; omega)
  have lt := le_nT (isAt_lt c)
  have e17 : M5.1 100 17 = M3.1 100 17 + 1 := by rw [h5, st_at, h4, st_at_ne _ _ _ _ (by decide)]
  unfold TM at hT3
  unfold OQ at o3
  have e5 := inc_T (x := M3.1 100 17) (by omega)
  rw [e17]
  constructor
  · refine vin ?_
    rw [e5]
    show _ ∧ _ < ((61 : Nat) : Int)
    omega
  · refine vin ?_
    have e1 : (1 : Int32).toInt = 1 := rfl
    rw [fb_subI (by rw [e5, e1]; omega) (by rw [e5, e1]; omega), e5, e1]
    show _ ∧ _ < ((61 : Nat) : Int)
    omega
def wX6_takesOrder_50 (mn : Int32) : Nat → Int32 → Mem → Int32 × Mem
  | 0, _, A50 => (0, A50)
  | f + 1, k, A50 =>
  if mn ≤ k then
  tk (sX6_blanks A50) fun M3 =>
  if (fX6_isAt M3 59 59) = 0 then
  tk (sX6_fails M3 (M3.1 100 18)) fun x7 =>
  (x7.1, x7.2)
  else
  tk (st M3 100 18 ((M3.1 100 18) + 1)) fun M4 =>
  tk (st M4 100 17 ((M4.1 100 17) + 1)) fun M5 =>
  tk (st M5 113 (M5.1 100 17).toNatClampNeg ((M5.1 113 ((M5.1 100 17) - 1).toNatClampNeg) + mn)) fun M6 =>
  (1, M6)
  else
  tk (sX6_takesNumber A50 ((A50.1 113 (A50.1 100 17).toNatClampNeg) + k)) fun x8 =>
  if x8.1 = 0 then
  (0, x8.2)
  else
  wX6_takesOrder_50 mn f (k + 1) x8.2
def sX6_takesOrder (M : Mem)  : Int32 × Mem :=
  tk ((M.1 105 (M.1 100 18).toNatClampNeg)) fun ch =>
  tk ((fX6_manyOf ch)) fun mn =>
  if 0 ≤ mn then
  tk (st M 112 (M.1 100 17).toNatClampNeg ch) fun M1 =>
  tk (st M1 100 18 ((M1.1 100 18) + 1)) fun M2 =>
  wX6_takesOrder_50 mn 9 0 M2
  else
  tk (sX6_fails M (M.1 100 18)) fun x9 =>
  (x9.1, x9.2)
set_option maxHeartbeats 4000000 in
set_option maxRecDepth 100000 in
theorem kX6_takesOrder (l : Launch) (D : va_G) (cy : Nat → ClassId) (z : Nat → Nat) (hz : zI z) (M : Mem)  (hT : TM M) (hO : OQ M 0) (hlt : ¬ M.1 100 6 ≤ M.1 100 18) : KI l yX6_takesOrder wsX6_takesOrder { frames := 4, cells := 0, slots := 0, locals := 87 } D cy z 100 15 [.ref (z 100)] M (fun r u => (r, u) = sX6_takesOrder M) := by
  refine met_wp (lv := [(0, .ref (z 100))]) hz (by decide) (by decide) rfl rfl (Nat.le_of_ble_eq_true rfl) rfl ?_
  intro p e s m below meth c hc hx hr hk
  have hNW := hx.2.1
  have hin6 : ∀ w ∈ wsX60, w ∈ wsX6_takesOrder := by decide +kernel
  have hf22 : Cond.fieldLink RX6 22 (TX6 5).1 (TX6 5).2.1 (TX6 5).2.2.1 ∈ wsX6_takesOrder := by decide +kernel
  have hf43 : Cond.fieldLink RX6 43 (TX6 14).1 (TX6 14).2.1 (TX6 14).2.2.1 ∈ wsX6_takesOrder := by decide +kernel
  have hf46 : Cond.fieldLink RX6 46 (TX6 15).1 (TX6 15).2.1 (TX6 15).2.2.1 ∈ wsX6_takesOrder := by decide +kernel
  have hf222 : Cond.fieldLink RX6 222 (TX6 18).1 (TX6 18).2.1 (TX6 18).2.2.1 ∈ wsX6_takesOrder := by decide +kernel
  have hf240 : Cond.fieldLink RX6 240 (TX6 17).1 (TX6 17).2.1 (TX6 17).2.2.1 ∈ wsX6_takesOrder := by decide +kernel
  have cw225 : CallW ({ frames := 4, cells := 0, slots := 0, locals := 87 }) s _ RX6 RX6 225 yX6_isAt cX6_isAt 3 (some .boolean) wsX6_isAt ({ frames := 1, cells := 0, slots := 0, locals := 22 }) 0 0 2 := cwV 2 hc.2.2.2.2 gX6_takesOrder_X6_isAt rfl rfl rfl (by decide +kernel) ⟨Nat.le_of_ble_eq_true rfl, Nat.le_of_ble_eq_true rfl⟩
  have cw231 : CallW ({ frames := 4, cells := 0, slots := 0, locals := 87 }) s _ RX6 RX6 231 yX6_blanks cX6_blanks 1 none wsX6_blanks ({ frames := 2, cells := 0, slots := 0, locals := 44 }) 0 0 0 := cwV 0 hc.2.2.2.2 gX6_takesOrder_X6_blanks rfl rfl rfl (by decide +kernel) ⟨Nat.le_of_ble_eq_true rfl, Nat.le_of_ble_eq_true rfl⟩
  have cw234 : CallW ({ frames := 4, cells := 0, slots := 0, locals := 87 }) s _ RX6 RX6 234 yX6_fails cX6_fails 2 (some .boolean) wsX6_fails ({ frames := 0, cells := 0, slots := 0, locals := 0 }) 0 0 1 := cwV 1 hc.2.2.2.2 gX6_takesOrder_X6_fails rfl rfl rfl (by decide +kernel) ⟨Nat.le_of_ble_eq_true rfl, Nat.le_of_ble_eq_true rfl⟩
  have cw237 : CallB ({ frames := 4, cells := 0, slots := 0, locals := 87 }) s _ RX6 237 yX6_manyOf cX6_manyOf 1 (some .int) wsX6_manyOf ({ frames := 0, cells := 0, slots := 0, locals := 0 }) 0 0 1 ∧ (Cond.static yX6_manyOf).before _ s = true := va_cwS 1 hc.2.2.2.2 gX6_takesOrder_X6_manyOf rfl rfl rfl (by decide +kernel) ⟨Nat.le_of_ble_eq_true rfl, Nat.le_of_ble_eq_true rfl⟩
  have cw243 : CallW ({ frames := 4, cells := 0, slots := 0, locals := 87 }) s _ RX6 RX6 243 yX6_takesNumber cX6_takesNumber 4 (some .boolean) wsX6_takesNumber ({ frames := 3, cells := 0, slots := 0, locals := 64 }) 0 0 1 := cwV 1 hc.2.2.2.2 gX6_takesOrder_X6_takesNumber rfl rfl rfl (by decide +kernel) ⟨Nat.le_of_ble_eq_true rfl, Nat.le_of_ble_eq_true rfl⟩
  refine wp_aload_n hc 0 dX6_takesOrder_0 rfl ?_
  refine wp_get hc hx hin6 (j := 100) (by decide) (by decide) (ce_5 rfl) rfl 5 (by decide) hf22 rfl dX6_takesOrder_1 ?_
  refine wp_aload_n hc 0 dX6_takesOrder_4 rfl ?_
  refine wp_get hc hx hin6 (j := 100) (by decide) (by decide) (ce_5 rfl) rfl 18 (by decide) hf222 rfl dX6_takesOrder_5 ?_
  refine wp_iald hc hx (j := 105) (by decide) (by decide) rfl (M.1 100 18).toNatClampNeg rfl (tx_in hT hlt) dX6_takesOrder_8 ?_
  refine wp_topi (fun ch hch => ?_)
  refine wp_istore_n (lv' := [(1, .int ch), (0, .ref (z 100))]) hc dX6_takesOrder_9 (by decide) rfl ?_
  refine wp_iload_n hc 0 dX6_takesOrder_10 rfl ?_
  refine wp_callSg (As := [.int ch]) (rest := []) (v := (fX6_manyOf ch)) hc hNW (kX6_manyOf l ch) cw237 rfl rfl (Nat.le_of_ble_eq_true rfl) dX6_takesOrder_11 ?_
  refine wp_topi (fun mn hmn => ?_)
  refine wp_istore_n (lv' := [(2, .int mn), (1, .int ch), (0, .ref (z 100))]) hc dX6_takesOrder_14 (by decide) rfl ?_
  refine wp_iload_n hc 0 dX6_takesOrder_15 rfl ?_
  refine wp_if_ge (tgt := 28) hc dX6_takesOrder_16 (by decide) (fun c16 => ?_) (fun c16 => ?_)
  · refine wp_aload_n hc 2 dX6_takesOrder_28 rfl ?_
    refine wp_get hc hx hin6 (j := 100) (by decide) (by decide) (ce_5 rfl) rfl 14 (by decide) hf43 rfl dX6_takesOrder_29 ?_
    refine wp_aload_n hc 2 dX6_takesOrder_32 rfl ?_
    refine wp_get hc hx hin6 (j := 100) (by decide) (by decide) (ce_5 rfl) rfl 17 (by decide) hf240 rfl dX6_takesOrder_33 ?_
    refine wp_iload_n hc 1 dX6_takesOrder_36 rfl ?_
    refine wp_iast hc hx (j := 112) (by decide) (by decide) rfl (M.1 100 17).toNatClampNeg rfl (ord_in hT hO hlt) dX6_takesOrder_37 ?_
    refine wp_nm (fun M1 hM1 => ?_)
    refine wp_aload_n hc 2 dX6_takesOrder_38 rfl ?_
    refine wp_dup hc dX6_takesOrder_39 rfl ?_
    refine wp_get hc hx hin6 (j := 100) (by decide) (by decide) (ce_5 rfl) rfl 18 (by decide) hf222 rfl dX6_takesOrder_40 ?_
    refine wp_iconst (v := 1) hc dX6_takesOrder_43 (by decide) ?_
    refine wp_iadd hc dX6_takesOrder_44 ?_
    refine wp_put (M' := st M1 100 18 ((M1.1 100 18) + 1)) hc hx hin6 tyX6 tyX6_ok nmX6 (j := 100) (by decide) (by decide) (ce_5 rfl) rfl 18 (by decide) hf222 rfl rfl rfl (Nat.le_of_ble_eq_true rfl) (by rw [ce_5 rfl]; exact ce_stM18 _ _ _) (fun i hi => ce_row (va_up_ne _ _ hi) rfl) dX6_takesOrder_45 ?_
    refine wp_nm (fun M2 hM2 => ?_)
    refine wp_iconst (v := 0) hc dX6_takesOrder_48 (by decide) ?_
    refine wp_istore_n (lv' := [(3, .int 0), (2, .int mn), (1, .int ch), (0, .ref (z 100))]) hc dX6_takesOrder_49 (by decide) rfl ?_
    have hmr : 0 ≤ mn.toInt ∧ mn.toInt ≤ 8 := by
      rcases many_rng ch with q | q
      · rw [← hmn] at q; rw [q] at c16; exact absurd c16 (by decide)
      · rw [← hmn] at q; exact q
    refine wp_lv (lv' := [(0, .ref (z 100)), (2, .int mn), (3, .int 0)]) [3, 1, 0] rfl ?_
    refine wp_rec (α := Int32 × Mem) (fun a => a.2.2) (fun a => [(0, .ref (z 100)), (2, .int mn), (3, .int a.2.1)]) (fun a => ((mn.toInt - a.2.1.toInt).toNat < a.1 ∧ (TM a.2.2 ∧ 0 ≤ a.2.1.toInt ∧ OQ a.2.2 (1 + a.2.1.toInt))) ∧ sX6_takesOrder M = wX6_takesOrder_50 mn a.1 a.2.1 a.2.2) ?_ (9, 0, M2) ⟨(show (mn.toInt - (0 : Int32).toInt).toNat < 9 ∧ (TM M2 ∧ 0 ≤ (0 : Int32).toInt ∧ OQ M2 (1 + (0 : Int32).toInt)) from (by have hq := to_start hT hO hlt hM1 hM2; have e0 : (0 : Int32).toInt = 0 := rfl; rw [e0]; exact ⟨by omega, hq.1, by omega, hq.2⟩)), by rw [sX6_takesOrder, tk_eq hch, tk_eq hmn, if_pos c16, tk_eq hM1, tk_eq hM2]⟩
    rintro ⟨f, k, A50⟩ ⟨hI, hS⟩ ih
    have hI : (mn.toInt - k.toInt).toNat < f ∧ (TM A50 ∧ 0 ≤ k.toInt ∧ OQ A50 (1 + k.toInt)) := hI
    have hS : sX6_takesOrder M = wX6_takesOrder_50 mn f k A50 := hS
    show WP _ _ _ _ _ _ _ _ _ _ _ _ _ A50 [(0, .ref (z 100)), (2, .int mn), (3, .int k)] _ _
    cases f with
    | zero => exact absurd hI.1 (Nat.not_lt_zero _)
    | succ f =>
      refine wp_iload_n hc 2 dX6_takesOrder_50 rfl ?_
      refine wp_iload_n hc 1 dX6_takesOrder_51 rfl ?_
      refine wp_icmp_ge (tgt := 81) hc dX6_takesOrder_52 (by decide) (fun c52 => ?_) (fun c52 => ?_)
      · refine wp_aload_n hc 0 dX6_takesOrder_81 rfl ?_
        refine wp_callVvw (As := []) (rest := []) (j := 100) (w := sX6_blanks A50) hc hx (kX6_blanks l D cy z hz A50 hI.2.1) cw231 (by decide) (by decide) (ce_5 rfl) rfl rfl rfl rfl (Nat.le_of_ble_eq_true rfl) dX6_takesOrder_82 (fun M3 hM3 => ?_)
        refine wp_aload_n hc 0 dX6_takesOrder_85 rfl ?_
        refine wp_bipush (v := 59) hc dX6_takesOrder_86 (by decide) ?_
        refine wp_bipush (v := 59) hc dX6_takesOrder_88 (by decide) ?_
        refine wp_callVf (As := [.int 59, .int 59]) (rest := []) (j := 100) (v := (fX6_isAt M3 59 59)) hc hx (kX6_isAt l D cy z hz M3 59 59 (by have q := bl_TM hI.2.1; rw [← hM3] at q; exact q)) cw225 (by decide) (by decide) (ce_5 rfl) rfl rfl rfl rfl (Nat.le_of_ble_eq_true rfl) dX6_takesOrder_90 ?_
        refine wp_if_ne (tgt := 105) hc dX6_takesOrder_93 (by decide) (fun c93 => ?_) (fun c93 => ?_)
        · refine wp_aload_n hc 0 dX6_takesOrder_105 rfl ?_
          refine wp_dup hc dX6_takesOrder_106 rfl ?_
          refine wp_get hc hx hin6 (j := 100) (by decide) (by decide) (ce_5 rfl) rfl 18 (by decide) hf222 rfl dX6_takesOrder_107 ?_
          refine wp_iconst (v := 1) hc dX6_takesOrder_110 (by decide) ?_
          refine wp_iadd hc dX6_takesOrder_111 ?_
          refine wp_put (M' := st M3 100 18 ((M3.1 100 18) + 1)) hc hx hin6 tyX6 tyX6_ok nmX6 (j := 100) (by decide) (by decide) (ce_5 rfl) rfl 18 (by decide) hf222 rfl rfl rfl (Nat.le_of_ble_eq_true rfl) (by rw [ce_5 rfl]; exact ce_stM18 _ _ _) (fun i hi => ce_row (va_up_ne _ _ hi) rfl) dX6_takesOrder_112 ?_
          refine wp_nm (fun M4 hM4 => ?_)
          refine wp_aload_n hc 0 dX6_takesOrder_115 rfl ?_
          refine wp_dup hc dX6_takesOrder_116 rfl ?_
          refine wp_get hc hx hin6 (j := 100) (by decide) (by decide) (ce_5 rfl) rfl 17 (by decide) hf240 rfl dX6_takesOrder_117 ?_
          refine wp_iconst (v := 1) hc dX6_takesOrder_120 (by decide) ?_
          refine wp_iadd hc dX6_takesOrder_121 ?_
          refine wp_put (M' := st M4 100 17 ((M4.1 100 17) + 1)) hc hx hin6 tyX6 tyX6_ok nmX6 (j := 100) (by decide) (by decide) (ce_5 rfl) rfl 17 (by decide) hf240 rfl rfl rfl (Nat.le_of_ble_eq_true rfl) (by rw [ce_5 rfl]; exact ce_stM17 _ _ _) (fun i hi => ce_row (va_up_ne _ _ hi) rfl) dX6_takesOrder_122 ?_
          refine wp_nm (fun M5 hM5 => ?_)
          have hix := to_ix hI.2.1 hI.2.2.1 hI.2.2.2 hM3 c93 hM4 hM5
          refine wp_aload_n hc 0 dX6_takesOrder_125 rfl ?_
          refine wp_get hc hx hin6 (j := 100) (by decide) (by decide) (ce_5 rfl) rfl 15 (by decide) hf46 rfl dX6_takesOrder_126 ?_
          refine wp_aload_n hc 0 dX6_takesOrder_129 rfl ?_
          refine wp_get hc hx hin6 (j := 100) (by decide) (by decide) (ce_5 rfl) rfl 17 (by decide) hf240 rfl dX6_takesOrder_130 ?_
          refine wp_aload_n hc 0 dX6_takesOrder_133 rfl ?_
          refine wp_get hc hx hin6 (j := 100) (by decide) (by decide) (ce_5 rfl) rfl 15 (by decide) hf46 rfl dX6_takesOrder_134 ?_
          refine wp_aload_n hc 0 dX6_takesOrder_137 rfl ?_
          refine wp_get hc hx hin6 (j := 100) (by decide) (by decide) (ce_5 rfl) rfl 17 (by decide) hf240 rfl dX6_takesOrder_138 ?_
          refine wp_iconst (v := 1) hc dX6_takesOrder_141 (by decide) ?_
          refine wp_isub hc dX6_takesOrder_142 ?_
          refine wp_iald hc hx (j := 113) (by decide) (by decide) rfl ((M5.1 100 17) - 1).toNatClampNeg rfl hix.2 dX6_takesOrder_143 ?_
          refine wp_iload_n hc 1 dX6_takesOrder_144 rfl ?_
          refine wp_iadd hc dX6_takesOrder_145 ?_
          refine wp_iast hc hx (j := 113) (by decide) (by decide) rfl (M5.1 100 17).toNatClampNeg rfl hix.1 dX6_takesOrder_146 ?_
          refine wp_nm (fun M6 hM6 => ?_)
          refine wp_iconst (v := 1) hc dX6_takesOrder_147 (by decide) ?_
          refine wp_zret hc hr hk rfl ?_ dX6_takesOrder_148
          show (1, M6) = sX6_takesOrder M
          rw [hS, wX6_takesOrder_50, if_pos c52, tk_eq hM3, if_neg c93, tk_eq hM4, tk_eq hM5, tk_eq hM6]
        refine wp_aload_n hc 0 dX6_takesOrder_96 rfl ?_
        refine wp_aload_n hc 0 dX6_takesOrder_97 rfl ?_
        refine wp_get hc hx hin6 (j := 100) (by decide) (by decide) (ce_5 rfl) rfl 18 (by decide) hf222 rfl dX6_takesOrder_98 ?_
        refine wp_callVw (As := [.int (M3.1 100 18)]) (rest := []) (j := 100) (w := sX6_fails M3 (M3.1 100 18)) hc hx (kX6_fails l D cy z hz M3 (M3.1 100 18)) cw234 (by decide) (by decide) (ce_5 rfl) rfl rfl rfl rfl (Nat.le_of_ble_eq_true rfl) dX6_takesOrder_101 (fun x7 hx7 => ?_)
        refine wp_zret hc hr hk (nz (show B01 x7 from by rw [hx7]; exact bX6_fails M3 (M3.1 100 18))) ?_ dX6_takesOrder_104
        show (x7.1, x7.2) = sX6_takesOrder M
        rw [hS, wX6_takesOrder_50, if_pos c52, tk_eq hM3, if_pos c93, tk_eq hx7]
      refine wp_aload_n hc 0 dX6_takesOrder_55 rfl ?_
      refine wp_aload_n hc 0 dX6_takesOrder_56 rfl ?_
      refine wp_get hc hx hin6 (j := 100) (by decide) (by decide) (ce_5 rfl) rfl 15 (by decide) hf46 rfl dX6_takesOrder_57 ?_
      refine wp_aload_n hc 0 dX6_takesOrder_60 rfl ?_
      refine wp_get hc hx hin6 (j := 100) (by decide) (by decide) (ce_5 rfl) rfl 17 (by decide) hf240 rfl dX6_takesOrder_61 ?_
      refine wp_iald hc hx (j := 113) (by decide) (by decide) rfl (A50.1 100 17).toNatClampNeg rfl (fr_in hI.2.1 (by have := hI.2.2.1; omega) hI.2.2.2) dX6_takesOrder_64 ?_
      refine wp_iload_n hc 2 dX6_takesOrder_65 rfl ?_
      refine wp_iadd hc dX6_takesOrder_66 ?_
      refine wp_callVw (As := [.int ((A50.1 113 (A50.1 100 17).toNatClampNeg) + k)]) (rest := []) (j := 100) (w := sX6_takesNumber A50 ((A50.1 113 (A50.1 100 17).toNatClampNeg) + k)) hc hx (kX6_takesNumber l D cy z hz A50 ((A50.1 113 (A50.1 100 17).toNatClampNeg) + k) hI.2.1 (at_in hI.2.1 hI.2.2.1 hI.2.2.2)) cw243 (by decide) (by decide) (ce_5 rfl) rfl rfl rfl rfl (Nat.le_of_ble_eq_true rfl) dX6_takesOrder_67 (fun x8 hx8 => ?_)
      refine wp_if_ne (tgt := 75) hc dX6_takesOrder_70 (by decide) (fun c70 => ?_) (fun c70 => ?_)
      · refine wp_iinc (v := (k + 1)) (lv' := [(3, .int (k + 1)), (0, .ref (z 100)), (2, .int mn)]) hc 2 dX6_takesOrder_75 rfl rfl (by decide) rfl ?_
        refine wp_goto (tgt := 50) hc dX6_takesOrder_78 (by decide) ?_
        exact wp_lv [1, 2, 0] rfl (ih (f, (k + 1), x8.2) ⟨(show (mn.toInt - (k + 1).toInt).toNat < f ∧ (TM x8.2 ∧ 0 ≤ (k + 1).toInt ∧ OQ x8.2 (1 + (k + 1).toInt)) from (to_next hI.2.1 hI.2.2.1 hI.2.2.2 hmr.2 hI.1 hx8 c70 c52)), by rw [hS, wX6_takesOrder_50, if_neg c52, tk_eq hx8, if_neg c70]⟩ (Nat.lt_succ_self f))
      refine wp_iconst (v := 0) hc dX6_takesOrder_73 (by decide) ?_
      refine wp_zret hc hr hk rfl ?_ dX6_takesOrder_74
      show (0, x8.2) = sX6_takesOrder M
      rw [hS, wX6_takesOrder_50, if_neg c52, tk_eq hx8, if_pos c70]
  refine wp_aload_n hc 2 dX6_takesOrder_19 rfl ?_
  refine wp_aload_n hc 2 dX6_takesOrder_20 rfl ?_
  refine wp_get hc hx hin6 (j := 100) (by decide) (by decide) (ce_5 rfl) rfl 18 (by decide) hf222 rfl dX6_takesOrder_21 ?_
  refine wp_callVw (As := [.int (M.1 100 18)]) (rest := []) (j := 100) (w := sX6_fails M (M.1 100 18)) hc hx (kX6_fails l D cy z hz M (M.1 100 18)) cw234 (by decide) (by decide) (ce_5 rfl) rfl rfl rfl rfl (Nat.le_of_ble_eq_true rfl) dX6_takesOrder_24 (fun x9 hx9 => ?_)
  refine wp_zret hc hr hk (nz (show B01 x9 from by rw [hx9]; exact bX6_fails M (M.1 100 18))) ?_ dX6_takesOrder_27
  show (x9.1, x9.2) = sX6_takesOrder M
  rw [sX6_takesOrder, tk_eq hch, tk_eq hmn, if_neg c16, tk_eq hx9]
