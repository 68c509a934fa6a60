theorem st_self (M : Mem) (j k : Nat) : st M j k (M.1 j k) = M := by
  unfold st
  have : upd (M.1 j) k (M.1 j k) = M.1 j := by
    funext q
    by_cases h : q = k
    · subst h; rw [pk_us]
    · rw [pk_un h]
  rw [this]
  exact sr_self M j
theorem st_st (M : Mem) (j k : Nat) (a b : Int32) : st (st M j k a) j k b = st M j k b := by
  have e : st M j k a = sr M j (upd (M.1 j) k a) := rfl
  rw [e, st_sr]
  have : upd (upd (M.1 j) k a) k b = upd (M.1 j) k b := by
    funext q
    by_cases h : q = k
    · subst h; rw [pk_us, pk_us]
    · rw [pk_un h, pk_un h, pk_un h]
  rw [this]
  rfl
theorem blF_form : ∀ (f : Nat) (A : Mem), TM A → ∃ v : Int32, wX6_blanks_0 f A = st A 100 18 v ∧ (A.1 100 18).toInt ≤ v.toInt ∧ v.toInt ≤ (A.1 100 6).toInt
  | 0, A, h => ⟨A.1 100 18, (st_self A 100 18).symm, by omega, h.2.1⟩
  | f + 1, A, h => by
    rw [wX6_blanks_0]
    by_cases c : fX6_isAt A 32 32 = 0
    · rw [if_pos c]
      exact ⟨A.1 100 18, (st_self A 100 18).symm, by omega, h.2.1⟩
    · rw [if_neg c]
      have q := TM.inc h (isAt_lt c)
      obtain ⟨v, e, l1, l2⟩ := blF_form f (st A 100 18 (A.1 100 18 + 1)) q.1
      refine ⟨v, ?_, ?_, ?_⟩
      · show wX6_blanks_0 f (st A 100 18 (A.1 100 18 + 1)) = _
        rw [e, st_st]
      · rw [st_at, inc_T (by unfold TM at h; omega)] at l1
        omega
      · rw [st_at_ne _ _ _ _ (by decide)] at l2
        exact l2
theorem bl_form {M : Mem} (h : TM M) : ∃ v : Int32, sX6_blanks M = st M 100 18 v ∧ (M.1 100 18).toInt ≤ v.toInt ∧ v.toInt ≤ (M.1 100 6).toInt := blF_form 121 M h
theorem bl_TM {M : Mem} (h : TM M) : TM (sX6_blanks M) := by
  obtain ⟨v, e, l1, l2⟩ := bl_form h
  rw [e]
  unfold TM at h ⊢
  rw [st_at, st_at_ne _ _ _ _ (by decide)]
  omega
theorem skF_form : ∀ (f : Nat) (A : Mem), TC A → ∃ v : Int32, wX3_skipBlanks_0 f A = st A 10 7 v ∧ (A.1 10 7).toInt ≤ v.toInt ∧ v.toInt ≤ (A.1 10 4).toInt
  | 0, A, h => ⟨A.1 10 7, (st_self A 10 7).symm, by omega, h.2.1⟩
  | f + 1, A, h => by
    rw [wX3_skipBlanks_0]
    by_cases c : A.1 10 4 ≤ A.1 10 7
    · rw [if_pos c]
      exact ⟨A.1 10 7, (st_self A 10 7).symm, by omega, h.2.1⟩
    · rw [if_neg c]
      by_cases c2 : fX3_here A = 32
      · rw [if_pos c2]
        have q := TC.inc h c
        obtain ⟨v, e, l1, l2⟩ := skF_form f (st A 10 7 (A.1 10 7 + 1)) q.1
        refine ⟨v, ?_, ?_, ?_⟩
        · show wX3_skipBlanks_0 f (st A 10 7 (A.1 10 7 + 1)) = _
          rw [e, st_st]
        · rw [st_at, inc_T (by unfold TC at h; omega)] at l1
          omega
        · rw [st_at_ne _ _ _ _ (by decide)] at l2
          exact l2
      · rw [if_neg c2]
        exact ⟨A.1 10 7, (st_self A 10 7).symm, by omega, h.2.1⟩
theorem sk_form {M : Mem} (h : TC M) : ∃ v : Int32, sX3_skipBlanks M = st M 10 7 v ∧ (M.1 10 7).toInt ≤ v.toInt ∧ v.toInt ≤ (M.1 10 4).toInt := skF_form 121 M h
theorem sk_TC {M : Mem} (h : TC M) : TC (sX3_skipBlanks M) := by
  obtain ⟨v, e, l1, l2⟩ := sk_form h
  rw [e]
  unfold TC at h ⊢
  rw [st_at, st_at_ne _ _ _ _ (by decide)]
  omega
theorem here_lt {A : Mem} (h : ¬ fX3_here A = -1) : ¬ A.1 10 4 ≤ A.1 10 7 := by
  intro c
  unfold fX3_here at h
  rw [if_pos c] at h
  exact h rfl
theorem fig_lt {A : Mem} (h : ¬ fX3_isFigure (fX3_here A) = 0) : ¬ A.1 10 4 ≤ A.1 10 7 := by
  refine here_lt (fun q => ?_)
  rw [q] at h
  exact h (by decide)
theorem tx_in {A : Mem} (h : TM A) (c : ¬ A.1 100 6 ≤ A.1 100 18) : vp_in (A.1 100 18) (ln 105) := by
  unfold TM at h
  rw [fa_le] at c
  refine vin ?_
  show _ ∧ _ < ((120 : Nat) : Int)
  omega
def wX6_takesNumber_11 (i1 : Int32) (st0 : Int32) : Nat → Int32 → Mem → Int32 × Mem
  | 0, _, A11 => (0, A11)
  | f + 1, v, A11 =>
  if (fX6_isAt A11 48 57) = 0 then
  tk (st A11 114 i1.toNatClampNeg v) fun M2 =>
  if st0 < (M2.1 100 18) then
  (1, M2)
  else
  tk (sX6_fails M2 (M2.1 100 18)) fun x3 =>
  if x3.1 = 0 then
  (0, x3.2)
  else
  (1, x3.2)
  else
  if (A11.1 100 18) = (st0 + 5) then
  tk (sX6_fails A11 (A11.1 100 18)) fun x5 =>
  (x5.1, x5.2)
  else
  tk (st A11 100 18 ((A11.1 100 18) + 1)) fun M4 =>
  wX6_takesNumber_11 i1 st0 f (((10 * v) + (A11.1 105 (A11.1 100 18).toNatClampNeg)) - 48) M4
def sX6_takesNumber (M : Mem) (i1 : Int32) : Int32 × Mem :=
  tk (sX6_blanks M) fun M1 =>
  tk ((M1.1 100 18)) fun st0 =>
  wX6_takesNumber_11 i1 st0 121 0 M1
set_option maxHeartbeats 4000000 in
set_option maxRecDepth 100000 in
theorem kX6_takesNumber (l : Launch) (D : va_G) (cy : Nat → ClassId) (z : Nat → Nat) (hz : zI z) (M : Mem) (i1 : Int32) (hT : TM M) (ha : 0 ≤ i1.toInt ∧ i1.toInt < 120) : KI l yX6_takesNumber wsX6_takesNumber { frames := 3, cells := 0, slots := 0, locals := 64 } D cy z 100 15 [.ref (z 100), .int i1] M (fun r u => (r, u) = sX6_takesNumber M i1) := by
  refine met_wp (lv := [(0, .ref (z 100)), (1, .int i1)]) hz (by decide) (by decide) rfl rfl (Nat.le_of_ble_eq_true rfl) rfl ?_
  intro p e s m below meth c hc hx hr hk
  have hNW := hx.2.1
  have hin6 : ∀ w ∈ wsX60, w ∈ wsX6_takesNumber := by decide +kernel
  have hf22 : Cond.fieldLink RX6 22 (TX6 5).1 (TX6 5).2.1 (TX6 5).2.2.1 ∈ wsX6_takesNumber := by decide +kernel
  have hf49 : Cond.fieldLink RX6 49 (TX6 16).1 (TX6 16).2.1 (TX6 16).2.2.1 ∈ wsX6_takesNumber := by decide +kernel
  have hf222 : Cond.fieldLink RX6 222 (TX6 18).1 (TX6 18).2.1 (TX6 18).2.2.1 ∈ wsX6_takesNumber := by decide +kernel
  have cw225 : CallW ({ frames := 3, cells := 0, slots := 0, locals := 64 }) s _ RX6 RX6 225 yX6_isAt cX6_isAt 3 (some .boolean) wsX6_isAt ({ frames := 1, cells := 0, slots := 0, locals := 22 }) 0 0 2 := cwV 2 hc.2.2.2.2 gX6_takesNumber_X6_isAt rfl rfl rfl (by decide +kernel) ⟨Nat.le_of_ble_eq_true rfl, Nat.le_of_ble_eq_true rfl⟩
  have cw231 : CallW ({ frames := 3, cells := 0, slots := 0, locals := 64 }) s _ RX6 RX6 231 yX6_blanks cX6_blanks 1 none wsX6_blanks ({ frames := 2, cells := 0, slots := 0, locals := 44 }) 0 0 0 := cwV 0 hc.2.2.2.2 gX6_takesNumber_X6_blanks rfl rfl rfl (by decide +kernel) ⟨Nat.le_of_ble_eq_true rfl, Nat.le_of_ble_eq_true rfl⟩
  have cw234 : CallW ({ frames := 3, cells := 0, slots := 0, locals := 64 }) s _ RX6 RX6 234 yX6_fails cX6_fails 2 (some .boolean) wsX6_fails ({ frames := 0, cells := 0, slots := 0, locals := 0 }) 0 0 1 := cwV 1 hc.2.2.2.2 gX6_takesNumber_X6_fails rfl rfl rfl (by decide +kernel) ⟨Nat.le_of_ble_eq_true rfl, Nat.le_of_ble_eq_true rfl⟩
  refine wp_aload_n hc 0 dX6_takesNumber_0 rfl ?_
  refine wp_callVvw (As := []) (rest := []) (j := 100) (w := sX6_blanks M) hc hx (kX6_blanks l D cy z hz M hT) cw231 (by decide) (by decide) (ce_5 rfl) rfl rfl rfl rfl (Nat.le_of_ble_eq_true rfl) dX6_takesNumber_1 (fun M1 hM1 => ?_)
  refine wp_aload_n hc 0 dX6_takesNumber_4 rfl ?_
  refine wp_get hc hx hin6 (j := 100) (by decide) (by decide) (ce_5 rfl) rfl 18 (by decide) hf222 rfl dX6_takesNumber_5 ?_
  refine wp_topi (fun st0 hst0 => ?_)
  refine wp_istore_n (lv' := [(2, .int st0), (0, .ref (z 100)), (1, .int i1)]) hc dX6_takesNumber_8 (by decide) rfl ?_
  refine wp_iconst (v := 0) hc dX6_takesNumber_9 (by decide) ?_
  refine wp_istore_n (lv' := [(3, .int 0), (2, .int st0), (0, .ref (z 100)), (1, .int i1)]) hc dX6_takesNumber_10 (by decide) rfl ?_
  refine wp_lv (lv' := [(0, .ref (z 100)), (1, .int i1), (2, .int st0), (3, .int 0)]) [2, 3, 1, 0] rfl ?_
  refine wp_rec (α := Int32 × Mem) (fun a => a.2.2) (fun a => [(0, .ref (z 100)), (1, .int i1), (2, .int st0), (3, .int a.2.1)]) (fun a => (muM a.2.2 < a.1 ∧ TM a.2.2) ∧ sX6_takesNumber M i1 = wX6_takesNumber_11 i1 st0 a.1 a.2.1 a.2.2) ?_ (121, 0, M1) ⟨(show muM M1 < 121 ∧ TM M1 from (by have q := bl_TM hT; rw [← hM1] at q; exact ⟨TM.mu q, q⟩)), by rw [sX6_takesNumber, tk_eq hM1, tk_eq hst0]⟩
  rintro ⟨f, v, A11⟩ ⟨hI, hS⟩ ih
  have hI : muM A11 < f ∧ TM A11 := hI
  have hS : sX6_takesNumber M i1 = wX6_takesNumber_11 i1 st0 f v A11 := hS
  show WP _ _ _ _ _ _ _ _ _ _ _ _ _ A11 [(0, .ref (z 100)), (1, .int i1), (2, .int st0), (3, .int v)] _ _
  cases f with
  | zero => exact absurd hI.1 (Nat.not_lt_zero _)
  | succ f =>
    refine wp_aload_n hc 0 dX6_takesNumber_11 rfl ?_
    refine wp_bipush (v := 48) hc dX6_takesNumber_12 (by decide) ?_
    refine wp_bipush (v := 57) hc dX6_takesNumber_14 (by decide) ?_
    refine wp_callVf (As := [.int 48, .int 57]) (rest := []) (j := 100) (v := (fX6_isAt A11 48 57)) hc hx (kX6_isAt l D cy z hz A11 48 57 hI.2) cw225 (by decide) (by decide) (ce_5 rfl) rfl rfl rfl rfl (Nat.le_of_ble_eq_true rfl) dX6_takesNumber_16 ?_
    refine wp_if_eq (tgt := 72) hc dX6_takesNumber_19 (by decide) (fun c19 => ?_) (fun c19 => ?_)
    · refine wp_aload_n hc 0 dX6_takesNumber_72 rfl ?_
      refine wp_get hc hx hin6 (j := 100) (by decide) (by decide) (ce_5 rfl) rfl 16 (by decide) hf49 rfl dX6_takesNumber_73 ?_
      refine wp_iload_n hc 1 dX6_takesNumber_76 rfl ?_
      refine wp_iload_n hc 3 dX6_takesNumber_77 rfl ?_
      refine wp_iast hc hx (j := 114) (by decide) (by decide) rfl i1.toNatClampNeg rfl (show vp_in _ 120 from vin8 ha) dX6_takesNumber_78 ?_
      refine wp_nm (fun M2 hM2 => ?_)
      refine wp_aload_n hc 0 dX6_takesNumber_79 rfl ?_
      refine wp_get hc hx hin6 (j := 100) (by decide) (by decide) (ce_5 rfl) rfl 18 (by decide) hf222 rfl dX6_takesNumber_80 ?_
      refine wp_iload_n hc 2 dX6_takesNumber_83 rfl ?_
      refine wp_icmp_gt (tgt := 98) hc dX6_takesNumber_84 (by decide) (fun c84 => ?_) (fun c84 => ?_)
      · refine wp_iconst (v := 1) hc dX6_takesNumber_98 (by decide) ?_
        refine wp_goto (tgt := 103) hc dX6_takesNumber_99 (by decide) ?_
        refine wp_zret hc hr hk rfl ?_ dX6_takesNumber_103
        show (1, M2) = sX6_takesNumber M i1
        rw [hS, wX6_takesNumber_11, if_pos c19, tk_eq hM2, if_pos c84]
      refine wp_aload_n hc 0 dX6_takesNumber_87 rfl ?_
      refine wp_aload_n hc 0 dX6_takesNumber_88 rfl ?_
      refine wp_get hc hx hin6 (j := 100) (by decide) (by decide) (ce_5 rfl) rfl 18 (by decide) hf222 rfl dX6_takesNumber_89 ?_
      refine wp_callVw (As := [.int (M2.1 100 18)]) (rest := []) (j := 100) (w := sX6_fails M2 (M2.1 100 18)) hc hx (kX6_fails l D cy z hz M2 (M2.1 100 18)) cw234 (by decide) (by decide) (ce_5 rfl) rfl rfl rfl rfl (Nat.le_of_ble_eq_true rfl) dX6_takesNumber_92 (fun x3 hx3 => ?_)
      refine wp_if_eq (tgt := 102) hc dX6_takesNumber_95 (by decide) (fun c95 => ?_) (fun c95 => ?_)
      · refine wp_iconst (v := 0) hc dX6_takesNumber_102 (by decide) ?_
        refine wp_zret hc hr hk rfl ?_ dX6_takesNumber_103
        show (0, x3.2) = sX6_takesNumber M i1
        rw [hS, wX6_takesNumber_11, if_pos c19, tk_eq hM2, if_neg c84, tk_eq hx3, if_pos c95]
      refine wp_iconst (v := 1) hc dX6_takesNumber_98 (by decide) ?_
      refine wp_goto (tgt := 103) hc dX6_takesNumber_99 (by decide) ?_
      refine wp_zret hc hr hk rfl ?_ dX6_takesNumber_103
      show (1, x3.2) = sX6_takesNumber M i1
      rw [hS, wX6_takesNumber_11, if_pos c19, tk_eq hM2, if_neg c84, tk_eq hx3, if_neg c95]
    refine wp_aload_n hc 0 dX6_takesNumber_22 rfl ?_
    refine wp_get hc hx hin6 (j := 100) (by decide) (by decide) (ce_5 rfl) rfl 18 (by decide) hf222 rfl dX6_takesNumber_23 ?_
    refine wp_iload_n hc 2 dX6_takesNumber_26 rfl ?_
    refine wp_iconst (v := 5) hc dX6_takesNumber_27 (by decide) ?_
    refine wp_iadd hc dX6_takesNumber_28 ?_
    refine wp_icmp_ne (tgt := 41) hc dX6_takesNumber_29 (by decide) (fun c29 => ?_) (fun c29 => ?_)
    · refine wp_bipush (v := 10) hc dX6_takesNumber_41 (by decide) ?_
      refine wp_iload_n hc 3 dX6_takesNumber_43 rfl ?_
      refine wp_imul hc dX6_takesNumber_44 ?_
      refine wp_aload_n hc 0 dX6_takesNumber_45 rfl ?_
      refine wp_get hc hx hin6 (j := 100) (by decide) (by decide) (ce_5 rfl) rfl 5 (by decide) hf22 rfl dX6_takesNumber_46 ?_
      refine wp_aload_n hc 0 dX6_takesNumber_49 rfl ?_
      refine wp_get hc hx hin6 (j := 100) (by decide) (by decide) (ce_5 rfl) rfl 18 (by decide) hf222 rfl dX6_takesNumber_50 ?_
      refine wp_iald hc hx (j := 105) (by decide) (by decide) rfl (A11.1 100 18).toNatClampNeg rfl (tx_in hI.2 (isAt_lt c19)) dX6_takesNumber_53 ?_
      refine wp_iadd hc dX6_takesNumber_54 ?_
      refine wp_bipush (v := 48) hc dX6_takesNumber_55 (by decide) ?_
      refine wp_isub hc dX6_takesNumber_57 ?_
      refine wp_istore_n (lv' := [(3, .int (((10 * v) + (A11.1 105 (A11.1 100 18).toNatClampNeg)) - 48)), (0, .ref (z 100)), (1, .int i1), (2, .int st0)]) hc dX6_takesNumber_58 (by decide) rfl ?_
      refine wp_aload_n hc 1 dX6_takesNumber_59 rfl ?_
      refine wp_dup hc dX6_takesNumber_60 rfl ?_
      refine wp_get hc hx hin6 (j := 100) (by decide) (by decide) (ce_5 rfl) rfl 18 (by decide) hf222 rfl dX6_takesNumber_61 ?_
      refine wp_iconst (v := 1) hc dX6_takesNumber_64 (by decide) ?_
      refine wp_iadd hc dX6_takesNumber_65 ?_
      refine wp_put (M' := st A11 100 18 ((A11.1 100 18) + 1)) hc hx hin6 tyX6 tyX6_ok nmX6 (j := 100) (by decide) (by decide) (ce_5 rfl) rfl 18 (by decide) hf222 rfl rfl rfl (Nat.le_of_ble_eq_true rfl) (by rw [ce_5 rfl]; exact ce_stM18 _ _ _) (fun i hi => ce_row (va_up_ne _ _ hi) rfl) dX6_takesNumber_66 ?_
      refine wp_nm (fun M4 hM4 => ?_)
      refine wp_goto (tgt := 11) hc dX6_takesNumber_69 (by decide) ?_
      exact wp_lv [1, 2, 3, 0] rfl (ih (f, (((10 * v) + (A11.1 105 (A11.1 100 18).toNatClampNeg)) - 48), M4) ⟨(show muM M4 < f ∧ TM M4 from (by have q := TM.inc hI.2 (isAt_lt c19); rw [← hM4] at q; exact ⟨by omega, q.1⟩)), by rw [hS, wX6_takesNumber_11, if_neg c19, if_neg c29, tk_eq hM4]⟩ (Nat.lt_succ_self f))
    refine wp_aload_n hc 0 dX6_takesNumber_32 rfl ?_
    refine wp_aload_n hc 0 dX6_takesNumber_33 rfl ?_
    refine wp_get hc hx hin6 (j := 100) (by decide) (by decide) (ce_5 rfl) rfl 18 (by decide) hf222 rfl dX6_takesNumber_34 ?_
    refine wp_callVw (As := [.int (A11.1 100 18)]) (rest := []) (j := 100) (w := sX6_fails A11 (A11.1 100 18)) hc hx (kX6_fails l D cy z hz A11 (A11.1 100 18)) cw234 (by decide) (by decide) (ce_5 rfl) rfl rfl rfl rfl (Nat.le_of_ble_eq_true rfl) dX6_takesNumber_37 (fun x5 hx5 => ?_)
    refine wp_zret hc hr hk (nz (show B01 x5 from by rw [hx5]; exact bX6_fails A11 (A11.1 100 18))) ?_ dX6_takesNumber_40
    show (x5.1, x5.2) = sX6_takesNumber M i1
    rw [hS, wX6_takesNumber_11, if_neg c19, if_pos c29, tk_eq hx5]
def wX3_readNumber_28 : Nat → Int32 → Int32 → Mem → Int32 × Mem
  | 0, _, _, A28 => (0, A28)
  | f + 1, v, n, A28 =>
  if 5 ≤ n then
  tk (st A28 14 (A28.1 10 6).toNatClampNeg v) fun M1 =>
  tk (st M1 10 6 ((M1.1 10 6) + 1)) fun M2 =>
  if (fX3_isFigure (fX3_here M2)) = 0 then
  (1, M2)
  else
  (0, M2)
  else
  if (fX3_isFigure (fX3_here A28)) = 0 then
  tk (st A28 14 (A28.1 10 6).toNatClampNeg v) fun M3 =>
  tk (st M3 10 6 ((M3.1 10 6) + 1)) fun M4 =>
  if (fX3_isFigure (fX3_here M4)) = 0 then
  (1, M4)
  else
  (0, M4)
  else
  tk (st A28 10 7 ((A28.1 10 7) + 1)) fun M5 =>
  wX3_readNumber_28 f ((10 * v) + ((fX3_here A28) - 48)) (n + 1) M5
def sX3_readNumber (M : Mem)  : Int32 × Mem :=
  if (fX3_isFigure (fX3_here M)) = 0 then
  (0, M)
  else
  if (fX5_isBelow (M.1 10 6) 120) = 0 then
  (0, M)
  else
  wX3_readNumber_28 121 0 0 M
set_option maxHeartbeats 4000000 in
set_option maxRecDepth 100000 in
theorem kX3_readNumber (l : Launch) (D : va_G) (cy : Nat → ClassId) (z : Nat → Nat) (hz : zI z) (M : Mem)  (hT : TC M) : KI l yX3_readNumber wsX3_readNumber { frames := 2, cells := 0, slots := 0, locals := 41 } D cy z 0 100 [.ref (z 10)] M (fun r u => (r, u) = sX3_readNumber M) := by
  refine met_wp (lv := [(0, .ref (z 10))]) hz (by decide) (by decide) rfl rfl (Nat.le_of_ble_eq_true rfl) rfl ?_
  intro p e s m below meth c hc hx hr hk
  have hNW := hx.2.1
  have hin3 : ∀ w ∈ wsX30, w ∈ wsX3_readNumber := by decide +kernel
  have hf22 : Cond.fieldLink RX3 22 (TX3 3).1 (TX3 3).2.1 (TX3 3).2.2.1 ∈ wsX3_readNumber := by decide +kernel
  have hf36 : Cond.fieldLink RX3 36 (TX3 6).1 (TX3 6).2.1 (TX3 6).2.2.1 ∈ wsX3_readNumber := by decide +kernel
  have hf39 : Cond.fieldLink RX3 39 (TX3 7).1 (TX3 7).2.1 (TX3 7).2.2.1 ∈ wsX3_readNumber := by decide +kernel
  have cw25 : va_CN ({ frames := 2, cells := 0, slots := 0, locals := 41 }) s _ RX3 25 yX5_isBelow RX5 cX5_isBelow 2 (some .boolean) wsX5_isBelow ({ frames := 0, cells := 0, slots := 0, locals := 0 }) 0 0 2 ∧ (Cond.static yX5_isBelow).before _ s = true ∧ True := ⟨va_cnB 2 hc.2.2.2.2 gX3_readNumber_X5_isBelow_n25 rfl rfl rfl hNW.2.2.2.1 (hc.2.2.2.2 _ (by decide +kernel)) (by decide +kernel) ⟨Nat.le_of_ble_eq_true rfl, Nat.le_of_ble_eq_true rfl⟩, hc.2.2.2.2 _ (by decide +kernel), trivial⟩
  have cw49 : CallW ({ frames := 2, cells := 0, slots := 0, locals := 41 }) s _ RX3 RX3 49 yX3_here cX3_here 1 (some .int) wsX3_here ({ frames := 1, cells := 0, slots := 0, locals := 21 }) 0 0 0 := cwV 0 hc.2.2.2.2 gX3_readNumber_X3_here rfl rfl rfl (by decide +kernel) ⟨Nat.le_of_ble_eq_true rfl, Nat.le_of_ble_eq_true rfl⟩
  have cw60 : CallB ({ frames := 2, cells := 0, slots := 0, locals := 41 }) s _ RX3 60 yX3_isFigure cX3_isFigure 1 (some .boolean) wsX3_isFigure ({ frames := 0, cells := 0, slots := 0, locals := 0 }) 0 0 1 ∧ (Cond.static yX3_isFigure).before _ s = true := va_cwS 1 hc.2.2.2.2 gX3_readNumber_X3_isFigure rfl rfl rfl (by decide +kernel) ⟨Nat.le_of_ble_eq_true rfl, Nat.le_of_ble_eq_true rfl⟩
  refine wp_aload_n hc 0 dX3_readNumber_0 rfl ?_
  refine wp_callVf (As := []) (rest := []) (j := 10) (v := (fX3_here M)) hc hx (kX3_here l D cy z hz M) cw49 (by decide) (by decide) (ce_2 rfl) rfl rfl rfl rfl (Nat.le_of_ble_eq_true rfl) dX3_readNumber_1 ?_
  refine wp_callSg (As := [.int (fX3_here M)]) (rest := []) (v := (fX3_isFigure (fX3_here M))) hc hNW (kX3_isFigure l (fX3_here M)) cw60 rfl rfl (Nat.le_of_ble_eq_true rfl) dX3_readNumber_4 ?_
  refine wp_if_eq (tgt := 22) hc dX3_readNumber_7 (by decide) (fun c7 => ?_) (fun c7 => ?_)
  · refine wp_iconst (v := 0) hc dX3_readNumber_22 (by decide) ?_
    refine wp_zret hc hr hk rfl ?_ dX3_readNumber_23
    show (0, M) = sX3_readNumber M
    rw [sX3_readNumber, if_pos c7]
  refine wp_aload_n hc 0 dX3_readNumber_10 rfl ?_
  refine wp_get hc hx hin3 (j := 10) (by decide) (by decide) (ce_2 rfl) rfl 6 (by decide) hf36 rfl dX3_readNumber_11 ?_
  refine wp_bipush (v := 120) hc dX3_readNumber_14 (by decide) ?_
  refine wp_callNg (As := [.int (M.1 10 6), .int 120]) (rest := []) (v := (fX5_isBelow (M.1 10 6) 120)) hc hNW (kX5_isBelow l (M.1 10 6) 120) cw25 rfl rfl (Nat.le_of_ble_eq_true rfl) dX3_readNumber_16 ?_
  refine wp_if_ne (tgt := 24) hc dX3_readNumber_19 (by decide) (fun c19 => ?_) (fun c19 => ?_)
  · refine wp_iconst (v := 0) hc dX3_readNumber_24 (by decide) ?_
    refine wp_istore_n (lv' := [(1, .int 0), (0, .ref (z 10))]) hc dX3_readNumber_25 (by decide) rfl ?_
    refine wp_iconst (v := 0) hc dX3_readNumber_26 (by decide) ?_
    refine wp_istore_n (lv' := [(2, .int 0), (1, .int 0), (0, .ref (z 10))]) hc dX3_readNumber_27 (by decide) rfl ?_
    refine wp_lv (lv' := [(0, .ref (z 10)), (1, .int 0), (2, .int 0)]) [2, 1, 0] rfl ?_
    refine wp_rec (α := Int32 × Int32 × Mem) (fun a => a.2.2.2) (fun a => [(0, .ref (z 10)), (1, .int a.2.1), (2, .int a.2.2.1)]) (fun a => (muC a.2.2.2 < a.1 ∧ (TC a.2.2.2 ∧ a.2.2.2.1 10 6 = M.1 10 6)) ∧ sX3_readNumber M = wX3_readNumber_28 a.1 a.2.1 a.2.2.1 a.2.2.2) ?_ (121, 0, 0, M) ⟨(show muC M < 121 ∧ (TC M ∧ M.1 10 6 = M.1 10 6) from ⟨TC.mu hT, hT, rfl⟩), by rw [sX3_readNumber, if_neg c7, if_neg c19]⟩
    rintro ⟨f, v, n, A28⟩ ⟨hI, hS⟩ ih
    have hI : muC A28 < f ∧ (TC A28 ∧ A28.1 10 6 = M.1 10 6) := hI
    have hS : sX3_readNumber M = wX3_readNumber_28 f v n A28 := hS
    show WP _ _ _ _ _ _ _ _ _ _ _ _ _ A28 [(0, .ref (z 10)), (1, .int v), (2, .int n)] _ _
    cases f with
    | zero => exact absurd hI.1 (Nat.not_lt_zero _)
    | succ f =>
      refine wp_iload_n hc 2 dX3_readNumber_28 rfl ?_
      refine wp_iconst (v := 5) hc dX3_readNumber_29 (by decide) ?_
      refine wp_icmp_ge (tgt := 72) hc dX3_readNumber_30 (by decide) (fun c30 => ?_) (fun c30 => ?_)
      · refine wp_aload_n hc 0 dX3_readNumber_72 rfl ?_
        refine wp_get hc hx hin3 (j := 10) (by decide) (by decide) (ce_2 rfl) rfl 3 (by decide) hf22 rfl dX3_readNumber_73 ?_
        refine wp_aload_n hc 0 dX3_readNumber_76 rfl ?_
        refine wp_get hc hx hin3 (j := 10) (by decide) (by decide) (ce_2 rfl) rfl 6 (by decide) hf36 rfl dX3_readNumber_77 ?_
        refine wp_iload_n hc 1 dX3_readNumber_80 rfl ?_
        refine wp_iast hc hx (j := 14) (by decide) (by decide) rfl (A28.1 10 6).toNatClampNeg rfl (show vp_in _ 120 from vin8 (by rw [hI.2.2]; exact below_in c19)) dX3_readNumber_81 ?_
        refine wp_nm (fun M1 hM1 => ?_)
        refine wp_aload_n hc 0 dX3_readNumber_82 rfl ?_
        refine wp_dup hc dX3_readNumber_83 rfl ?_
        refine wp_get hc hx hin3 (j := 10) (by decide) (by decide) (ce_2 rfl) rfl 6 (by decide) hf36 rfl dX3_readNumber_84 ?_
        refine wp_iconst (v := 1) hc dX3_readNumber_87 (by decide) ?_
        refine wp_iadd hc dX3_readNumber_88 ?_
        refine wp_put (M' := st M1 10 6 ((M1.1 10 6) + 1)) hc hx hin3 tyX3 tyX3_ok nmX3 (j := 10) (by decide) (by decide) (ce_2 rfl) rfl 6 (by decide) hf36 rfl rfl rfl (Nat.le_of_ble_eq_true rfl) (by rw [ce_2 rfl]; exact ce_stT6 _ _ _) (fun i hi => ce_row (va_up_ne _ _ hi) rfl) dX3_readNumber_89 ?_
        refine wp_nm (fun M2 hM2 => ?_)
        refine wp_aload_n hc 0 dX3_readNumber_92 rfl ?_
        refine wp_callVf (As := []) (rest := []) (j := 10) (v := (fX3_here M2)) hc hx (kX3_here l D cy z hz M2) cw49 (by decide) (by decide) (ce_2 rfl) rfl rfl rfl rfl (Nat.le_of_ble_eq_true rfl) dX3_readNumber_93 ?_
        refine wp_callSg (As := [.int (fX3_here M2)]) (rest := []) (v := (fX3_isFigure (fX3_here M2))) hc hNW (kX3_isFigure l (fX3_here M2)) cw60 rfl rfl (Nat.le_of_ble_eq_true rfl) dX3_readNumber_96 ?_
        refine wp_if_ne (tgt := 106) hc dX3_readNumber_99 (by decide) (fun c99 => ?_) (fun c99 => ?_)
        · refine wp_iconst (v := 0) hc dX3_readNumber_106 (by decide) ?_
          refine wp_zret hc hr hk rfl ?_ dX3_readNumber_107
          show (0, M2) = sX3_readNumber M
          rw [hS, wX3_readNumber_28, if_pos c30, tk_eq hM1, tk_eq hM2, if_neg c99]
        refine wp_iconst (v := 1) hc dX3_readNumber_102 (by decide) ?_
        refine wp_goto (tgt := 107) hc dX3_readNumber_103 (by decide) ?_
        refine wp_zret hc hr hk rfl ?_ dX3_readNumber_107
        show (1, M2) = sX3_readNumber M
        rw [hS, wX3_readNumber_28, if_pos c30, tk_eq hM1, tk_eq hM2, if_pos c99]
      refine wp_aload_n hc 0 dX3_readNumber_33 rfl ?_
      refine wp_callVf (As := []) (rest := []) (j := 10) (v := (fX3_here A28)) hc hx (kX3_here l D cy z hz A28) cw49 (by decide) (by decide) (ce_2 rfl) rfl rfl rfl rfl (Nat.le_of_ble_eq_true rfl) dX3_readNumber_34 ?_
      refine wp_callSg (As := [.int (fX3_here A28)]) (rest := []) (v := (fX3_isFigure (fX3_here A28))) hc hNW (kX3_isFigure l (fX3_here A28)) cw60 rfl rfl (Nat.le_of_ble_eq_true rfl) dX3_readNumber_37 ?_
      refine wp_if_eq (tgt := 72) hc dX3_readNumber_40 (by decide) (fun c40 => ?_) (fun c40 => ?_)
      · refine wp_aload_n hc 0 dX3_readNumber_72 rfl ?_
        refine wp_get hc hx hin3 (j := 10) (by decide) (by decide) (ce_2 rfl) rfl 3 (by decide) hf22 rfl dX3_readNumber_73 ?_
        refine wp_aload_n hc 0 dX3_readNumber_76 rfl ?_
        refine wp_get hc hx hin3 (j := 10) (by decide) (by decide) (ce_2 rfl) rfl 6 (by decide) hf36 rfl dX3_readNumber_77 ?_
        refine wp_iload_n hc 1 dX3_readNumber_80 rfl ?_
        refine wp_iast hc hx (j := 14) (by decide) (by decide) rfl (A28.1 10 6).toNatClampNeg rfl (show vp_in _ 120 from vin8 (by rw [hI.2.2]; exact below_in c19)) dX3_readNumber_81 ?_
        refine wp_nm (fun M3 hM3 => ?_)
        refine wp_aload_n hc 0 dX3_readNumber_82 rfl ?_
        refine wp_dup hc dX3_readNumber_83 rfl ?_
        refine wp_get hc hx hin3 (j := 10) (by decide) (by decide) (ce_2 rfl) rfl 6 (by decide) hf36 rfl dX3_readNumber_84 ?_
        refine wp_iconst (v := 1) hc dX3_readNumber_87 (by decide) ?_
        refine wp_iadd hc dX3_readNumber_88 ?_
        refine wp_put (M' := st M3 10 6 ((M3.1 10 6) + 1)) hc hx hin3 tyX3 tyX3_ok nmX3 (j := 10) (by decide) (by decide) (ce_2 rfl) rfl 6 (by decide) hf36 rfl rfl rfl (Nat.le_of_ble_eq_true rfl) (by rw [ce_2 rfl]; exact ce_stT6 _ _ _) (fun i hi => ce_row (va_up_ne _ _ hi) rfl) dX3_readNumber_89 ?_
        refine wp_nm (fun M4 hM4 => ?_)
        refine wp_aload_n hc 0 dX3_readNumber_92 rfl ?_
        refine wp_callVf (As := []) (rest := []) (j := 10) (v := (fX3_here M4)) hc hx (kX3_here l D cy z hz M4) cw49 (by decide) (by decide) (ce_2 rfl) rfl rfl rfl rfl (Nat.le_of_ble_eq_true rfl) dX3_readNumber_93 ?_
        refine wp_callSg (As := [.int (fX3_here M4)]) (rest := []) (v := (fX3_isFigure (fX3_here M4))) hc hNW (kX3_isFigure l (fX3_here M4)) cw60 rfl rfl (Nat.le_of_ble_eq_true rfl) dX3_readNumber_96 ?_
        refine wp_if_ne (tgt := 106) hc dX3_readNumber_99 (by decide) (fun c99 => ?_) (fun c99 => ?_)
        · refine wp_iconst (v := 0) hc dX3_readNumber_106 (by decide) ?_
          refine wp_zret hc hr hk rfl ?_ dX3_readNumber_107
          show (0, M4) = sX3_readNumber M
          rw [hS, wX3_readNumber_28, if_neg c30, if_pos c40, tk_eq hM3, tk_eq hM4, if_neg c99]
        refine wp_iconst (v := 1) hc dX3_readNumber_102 (by decide) ?_
        refine wp_goto (tgt := 107) hc dX3_readNumber_103 (by decide) ?_
        refine wp_zret hc hr hk rfl ?_ dX3_readNumber_107
        show (1, M4) = sX3_readNumber M
        rw [hS, wX3_readNumber_28, if_neg c30, if_pos c40, tk_eq hM3, tk_eq hM4, if_pos c99]
      refine wp_bipush (v := 10) hc dX3_readNumber_43 (by decide) ?_
      refine wp_iload_n hc 1 dX3_readNumber_45 rfl ?_
      refine wp_imul hc dX3_readNumber_46 ?_
      refine wp_aload_n hc 0 dX3_readNumber_47 rfl ?_
      refine wp_callVf (As := []) (rest := [.int (10 * v)]) (j := 10) (v := (fX3_here A28)) hc hx (kX3_here l D cy z hz A28) cw49 (by decide) (by decide) (ce_2 rfl) rfl rfl rfl rfl (Nat.le_of_ble_eq_true rfl) dX3_readNumber_48 ?_
      refine wp_bipush (v := 48) hc dX3_readNumber_51 (by decide) ?_
      refine wp_isub hc dX3_readNumber_53 ?_
      refine wp_iadd hc dX3_readNumber_54 ?_
      refine wp_istore_n (lv' := [(1, .int ((10 * v) + ((fX3_here A28) - 48))), (0, .ref (z 10)), (2, .int n)]) hc dX3_readNumber_55 (by decide) rfl ?_
      refine wp_aload_n hc 1 dX3_readNumber_56 rfl ?_
      refine wp_dup hc dX3_readNumber_57 rfl ?_
      refine wp_get hc hx hin3 (j := 10) (by decide) (by decide) (ce_2 rfl) rfl 7 (by decide) hf39 rfl dX3_readNumber_58 ?_
      refine wp_iconst (v := 1) hc dX3_readNumber_61 (by decide) ?_
      refine wp_iadd hc dX3_readNumber_62 ?_
      refine wp_put (M' := st A28 10 7 ((A28.1 10 7) + 1)) hc hx hin3 tyX3 tyX3_ok nmX3 (j := 10) (by decide) (by decide) (ce_2 rfl) rfl 7 (by decide) hf39 rfl rfl rfl (Nat.le_of_ble_eq_true rfl) (by rw [ce_2 rfl]; exact ce_stT7 _ _ _) (fun i hi => ce_row (va_up_ne _ _ hi) rfl) dX3_readNumber_63 ?_
      refine wp_nm (fun M5 hM5 => ?_)
      refine wp_iinc (v := (n + 1)) (lv' := [(2, .int (n + 1)), (1, .int ((10 * v) + ((fX3_here A28) - 48))), (0, .ref (z 10))]) hc 2 dX3_readNumber_66 rfl rfl (by decide) rfl ?_
      refine wp_goto (tgt := 28) hc dX3_readNumber_69 (by decide) ?_
      exact wp_lv [2, 1, 0] rfl (ih (f, ((10 * v) + ((fX3_here A28) - 48)), (n + 1), M5) ⟨(show muC M5 < f ∧ (TC M5 ∧ M5.1 10 6 = M.1 10 6) from (by have q := TC.inc hI.2.1 (fig_lt c40); rw [← hM5] at q; exact ⟨by omega, q.1, by rw [hM5, st_at_ne _ _ _ _ (by decide)]; exact hI.2.2⟩)), by rw [hS, wX3_readNumber_28, if_neg c30, if_neg c40, tk_eq hM5]⟩ (Nat.lt_succ_self f))
  refine wp_iconst (v := 0) hc dX3_readNumber_22 (by decide) ?_
  refine wp_zret hc hr hk rfl ?_ dX3_readNumber_23
  show (0, M) = sX3_readNumber M
  rw [sX3_readNumber, if_neg c7, if_pos c19]
