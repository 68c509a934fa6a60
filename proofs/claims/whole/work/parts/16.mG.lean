theorem wp_loopL {p : Program} {l : Launch} {e : Env} {R : Room} {s : State} {m : MethodId} {args : Array Value} {below : List Frame} {meth : Method} {c : Code} {Q : State → Prop} {Om : Mem → Heap → List Loc → Prop} {nL : Nat} {pc : Nat} (N : Nat) (Mi : Nat → Mem) (Li : Nat → List (Nat × Value)) {i0 : Nat} (ex : WP p l e R s m args below meth c Q Om nL (Mi N) (Li N) pc []) (bo : ∀ i, i0 ≤ i → i < N → WP p l e R s m args below meth c Q Om nL (Mi (i + 1)) (Li (i + 1)) pc [] → WP p l e R s m args below meth c Q Om nL (Mi i) (Li i) pc []) (i : Nat) (hi : i ≤ N) (h0 : i0 = i := by rfl) : WP p l e R s m args below meth c Q Om nL (Mi i) (Li i) pc [] := by
  have key : ∀ n i, i + n = N → i0 ≤ i → WP p l e R s m args below meth c Q Om nL (Mi i) (Li i) pc [] := by
    intro n
    induction n with
    | zero => intro i h _; have e : i = N := by omega
              rw [e]; exact ex
    | succ n ih => intro i h g; exact bo i g (by omega) (ih (i + 1) (by omega) (by omega))
  exact key (N - i) i (by omega) (by omega)
theorem bxN (M : Mem) {b : Int32} (h : 0 ≤ b.toInt ∧ b.toInt < 9) : fX6_boxAt M b = nI (1 + 4 * b.toNatClampNeg) := by
  have e := bxT M h
  have c := cl_T h.1
  exact nI_ofT (by rw [e]; omega) (by omega)
def sX6_drops (M : Mem) (i1 : Int32) : Int32 × Mem :=
  if (fX6_isBox M i1) = 0 then
  tk (sX6_bad M) fun x6 =>
  (x6.1, x6.2)
  else
  tk (sX6_remembers M) fun M1 =>
  tk (st M1 101 0 ((M1.1 101 0) - 1)) fun M2 =>
  tk (sr M2 101 (drp (M2.1 101) (1 + 4 * i1.toNatClampNeg) (1 + 4 * (M2.1 101 0).toNatClampNeg))) fun M3 =>
  ((M3.1 101 0), M3)
set_option maxHeartbeats 4000000 in
set_option maxRecDepth 100000 in
theorem kX6_drops (l : Launch) (D : va_G) (cy : Nat → ClassId) (z : Nat → Nat) (hz : zI z) (M : Mem) (i1 : Int32) (hn : 0 ≤ (M.1 101 0).toInt ∧ (M.1 101 0).toInt ≤ 8) (hs : 0 ≤ (M.1 100 3).toInt ∧ (M.1 100 3).toInt ≤ 5) : KI l yX6_drops wsX6_drops { frames := 2, cells := 0, slots := 0, locals := 43 } D cy z 100 15 [.ref (z 100), .int i1] M (fun r u => (r, u) = sX6_drops M i1) := by
  refine met_wp (lv := [(0, .ref (z 100)), (1, .int i1)]) hz (by decide) (by decide) rfl rfl (Nat.le_of_ble_eq_true rfl) rfl ?_
  intro p e s m below meth c hc hx hr hk
  have hNW := hx.2.1
  have hin6 : ∀ w ∈ wsX60, w ∈ wsX6_drops := by decide +kernel
  have hf7 : Cond.fieldLink RX6 7 (TX6 0).1 (TX6 0).2.1 (TX6 0).2.2.1 ∈ wsX6_drops := by decide +kernel
  have cw85 : CallW ({ frames := 2, cells := 0, slots := 0, locals := 43 }) s _ RX6 RX6 85 yX6_boxAt cX6_boxAt 2 (some .int) wsX6_boxAt ({ frames := 0, cells := 0, slots := 0, locals := 0 }) 0 0 1 := cwV 1 hc.2.2.2.2 gX6_drops_X6_boxAt rfl rfl rfl (by decide +kernel) ⟨Nat.le_of_ble_eq_true rfl, Nat.le_of_ble_eq_true rfl⟩
  have cw91 : CallW ({ frames := 2, cells := 0, slots := 0, locals := 43 }) s _ RX6 RX6 91 yX6_remembers cX6_remembers 2 none wsX6_remembers ({ frames := 0, cells := 0, slots := 0, locals := 0 }) 0 0 0 := cwV 0 hc.2.2.2.2 gX6_drops_X6_remembers rfl rfl rfl (by decide +kernel) ⟨Nat.le_of_ble_eq_true rfl, Nat.le_of_ble_eq_true rfl⟩
  have cw98 : CallW ({ frames := 2, cells := 0, slots := 0, locals := 43 }) s _ RX6 RX6 98 yX6_isBox cX6_isBox 2 (some .boolean) wsX6_isBox ({ frames := 1, cells := 0, slots := 0, locals := 22 }) 0 0 1 := cwV 1 hc.2.2.2.2 gX6_drops_X6_isBox rfl rfl rfl (by decide +kernel) ⟨Nat.le_of_ble_eq_true rfl, Nat.le_of_ble_eq_true rfl⟩
  have cw105 : CallW ({ frames := 2, cells := 0, slots := 0, locals := 43 }) s _ RX6 RX6 105 yX6_bad cX6_bad 1 (some .int) wsX6_bad ({ frames := 0, cells := 0, slots := 0, locals := 0 }) 0 0 0 := cwV 0 hc.2.2.2.2 gX6_drops_X6_bad rfl rfl rfl (by decide +kernel) ⟨Nat.le_of_ble_eq_true rfl, Nat.le_of_ble_eq_true rfl⟩
  refine wp_aload_n hc 0 dX6_drops_0 rfl ?_
  refine wp_iload_n hc 1 dX6_drops_1 rfl ?_
  refine wp_callVf (As := [.int i1]) (rest := []) (j := 100) (v := (fX6_isBox M i1)) hc hx (kX6_isBox l D cy z hz M i1) cw98 (by decide) (by decide) (ce_5 rfl) rfl rfl rfl rfl (Nat.le_of_ble_eq_true rfl) dX6_drops_2 ?_
  refine wp_if_ne (tgt := 13) hc dX6_drops_5 (by decide) (fun c5 => ?_) (fun c5 => ?_)
  · refine wp_aload_n hc 0 dX6_drops_13 rfl ?_
    refine wp_callVvw (As := []) (rest := []) (j := 100) (w := sX6_remembers M) hc hx (kX6_remembers l D cy z hz M hs) cw91 (by decide) (by decide) (ce_5 rfl) rfl rfl rfl rfl (Nat.le_of_ble_eq_true rfl) dX6_drops_14 (fun M1 hM1 => ?_)
    refine wp_aload_n hc 0 dX6_drops_17 rfl ?_
    refine wp_get hc hx hin6 (j := 100) (by decide) (by decide) (ce_5 rfl) rfl 0 (by decide) hf7 rfl dX6_drops_18 ?_
    refine wp_iconst (v := 0) hc dX6_drops_21 (by decide) ?_
    refine wp_dup2 hc dX6_drops_22 rfl rfl ?_
    refine wp_iald hc hx (j := 101) (by decide) (by decide) rfl 0 rfl (vin (by decide)) dX6_drops_23 ?_
    refine wp_iconst (v := 1) hc dX6_drops_24 (by decide) ?_
    refine wp_isub hc dX6_drops_25 ?_
    refine wp_iast hc hx (j := 101) (by decide) (by decide) rfl 0 rfl (vin (by decide)) dX6_drops_26 ?_
    refine wp_nm (fun M2 hM2 => ?_)
    refine wp_aload_n hc 0 dX6_drops_27 rfl ?_
    refine wp_iload_n hc 1 dX6_drops_28 rfl ?_
    refine wp_callVf (As := [.int i1]) (rest := []) (j := 100) (v := (fX6_boxAt M2 i1)) hc hx (kX6_boxAt l D cy z hz M2 i1) cw85 (by decide) (by decide) (ce_5 rfl) rfl rfl rfl rfl (Nat.le_of_ble_eq_true rfl) dX6_drops_29 ?_
    refine wp_istore_n (lv' := [(2, .int (fX6_boxAt M2 i1)), (0, .ref (z 100)), (1, .int i1)]) hc dX6_drops_32 (by decide) rfl ?_
    have hbb := isBox_in hn c5
    have hc2 : (M2.1 101 0).toInt = (M.1 101 0).toInt - 1 := by
      have e1 : (1 : Int32).toInt = 1 := rfl
      rw [hM2, st_row, pk_us, hM1, fr_rem, fb_subI (by rw [e1]; omega) (by rw [e1]; omega), e1]
    have n1 := cl_T (x := i1) hbb.1
    have n2 := cl_T (x := M2.1 101 0) (by omega)
    refine wp_eqM (M' := sr M2 101 (drp (M2.1 101) (1 + 4 * i1.toNatClampNeg) ((1 + 4 * i1.toNatClampNeg)))) (by rw [drp_0, sr_self]) ?_
    rw [bxN M2 (b := i1) (by omega)]
    refine wp_lv (lv' := [(0, .ref (z 100)), (1, .int i1), (2, .int (nI ((1 + 4 * i1.toNatClampNeg))))]) [1, 2, 0] rfl ?_
    refine wp_loopL (1 + 4 * (M2.1 101 0).toNatClampNeg) (fun i => sr M2 101 (drp (M2.1 101) (1 + 4 * i1.toNatClampNeg) (i))) (fun i => [(0, .ref (z 100)), (1, .int i1), (2, .int (nI (i)))]) ?_ ?_ (1 + 4 * i1.toNatClampNeg) (by omega)
    · show WP _ _ _ _ _ _ _ _ _ _ _ _ _ (sr M2 101 (drp (M2.1 101) (1 + 4 * i1.toNatClampNeg) (1 + 4 * (M2.1 101 0).toNatClampNeg))) [(0, .ref (z 100)), (1, .int i1), (2, .int (nI (1 + 4 * (M2.1 101 0).toNatClampNeg)))] _ _
      refine wp_nm (fun M3 hM3 => ?_)
      have hbx : fX6_boxAt M3 (M3.1 101 0) = nI (1 + 4 * (M2.1 101 0).toNatClampNeg) := by
        rw [bxN]
        · rw [hM3, sr_row, drp_out (by omega)]
        · rw [hM3, sr_row, drp_out (by omega)]; omega
      refine wp_iload_n hc 2 dX6_drops_33 rfl ?_
      refine wp_aload_n hc 0 dX6_drops_34 rfl ?_
      refine wp_aload_n hc 0 dX6_drops_35 rfl ?_
      refine wp_get hc hx hin6 (j := 100) (by decide) (by decide) (ce_5 rfl) rfl 0 (by decide) hf7 rfl dX6_drops_36 ?_
      refine wp_iconst (v := 0) hc dX6_drops_39 (by decide) ?_
      refine wp_iald hc hx (j := 101) (by decide) (by decide) rfl 0 rfl (vin (by decide)) dX6_drops_40 ?_
      refine wp_callVf (As := [.int (M3.1 101 0)]) (rest := [.int (nI (1 + 4 * (M2.1 101 0).toNatClampNeg))]) (j := 100) (v := (fX6_boxAt M3 (M3.1 101 0))) hc hx (kX6_boxAt l D cy z hz M3 (M3.1 101 0)) cw85 (by decide) (by decide) (ce_5 rfl) rfl rfl rfl rfl (Nat.le_of_ble_eq_true rfl) dX6_drops_41 ?_
      refine wp_icmp_ge (tgt := 67) hc dX6_drops_44 (by decide) (fun _ => ?_) (fun c => absurd c (fun q => q (by rw [hbx]; exact nI_le (Nat.le_refl _) (by omega))))
      refine wp_aload_n hc 0 dX6_drops_67 rfl ?_
      refine wp_get hc hx hin6 (j := 100) (by decide) (by decide) (ce_5 rfl) rfl 0 (by decide) hf7 rfl dX6_drops_68 ?_
      refine wp_iconst (v := 0) hc dX6_drops_71 (by decide) ?_
      refine wp_iald hc hx (j := 101) (by decide) (by decide) rfl 0 rfl (vin (by decide)) dX6_drops_72 ?_
      refine wp_iret hc hr hk ?_ dX6_drops_73
      show ((M3.1 101 0), M3) = sX6_drops M i1
      rw [sX6_drops, if_neg c5, tk_eq hM1, tk_eq hM2, tk_eq hM3]
    · intro i hl hi ih
      show WP _ _ _ _ _ _ _ _ _ _ _ _ _ (sr M2 101 (drp (M2.1 101) (1 + 4 * i1.toNatClampNeg) (i))) [(0, .ref (z 100)), (1, .int i1), (2, .int (nI (i)))] _ _
      refine wp_nm (fun M4 hM4 => ?_)
      have hbx : fX6_boxAt M4 (M4.1 101 0) = nI (1 + 4 * (M2.1 101 0).toNatClampNeg) := by
        rw [bxN]
        · rw [hM4, sr_row, drp_out (by omega)]
        · rw [hM4, sr_row, drp_out (by omega)]; omega
      refine wp_iload_n hc 2 dX6_drops_33 rfl ?_
      refine wp_aload_n hc 0 dX6_drops_34 rfl ?_
      refine wp_aload_n hc 0 dX6_drops_35 rfl ?_
      refine wp_get hc hx hin6 (j := 100) (by decide) (by decide) (ce_5 rfl) rfl 0 (by decide) hf7 rfl dX6_drops_36 ?_
      refine wp_iconst (v := 0) hc dX6_drops_39 (by decide) ?_
      refine wp_iald hc hx (j := 101) (by decide) (by decide) rfl 0 rfl (vin (by decide)) dX6_drops_40 ?_
      refine wp_callVf (As := [.int (M4.1 101 0)]) (rest := [.int (nI (i))]) (j := 100) (v := (fX6_boxAt M4 (M4.1 101 0))) hc hx (kX6_boxAt l D cy z hz M4 (M4.1 101 0)) cw85 (by decide) (by decide) (ce_5 rfl) rfl rfl rfl rfl (Nat.le_of_ble_eq_true rfl) dX6_drops_41 ?_
      refine wp_icmp_ge (tgt := 67) hc dX6_drops_44 (by decide) (fun c => absurd c (by rw [hbx]; exact nI_ge hi (by omega))) (fun _ => ?_)
      refine wp_aload_n hc 0 dX6_drops_47 rfl ?_
      refine wp_get hc hx hin6 (j := 100) (by decide) (by decide) (ce_5 rfl) rfl 0 (by decide) hf7 rfl dX6_drops_48 ?_
      refine wp_iload_n hc 2 dX6_drops_51 rfl ?_
      refine wp_aload_n hc 0 dX6_drops_52 rfl ?_
      refine wp_get hc hx hin6 (j := 100) (by decide) (by decide) (ce_5 rfl) rfl 0 (by decide) hf7 rfl dX6_drops_53 ?_
      refine wp_iload_n hc 2 dX6_drops_56 rfl ?_
      refine wp_iconst (v := 4) hc dX6_drops_57 (by decide) ?_
      refine wp_iadd hc dX6_drops_58 ?_
      refine wp_iald hc hx (j := 101) (by decide) (by decide) rfl (i + 4) (by rw [show nI (i) + 4 = nI (i + 4) from nI_add i 4]; exact nI_clamp (by omega)) (by rw [show nI (i) + 4 = nI (i + 4) from nI_add i 4]; exact (vpl 58 rfl (by omega) (by decide))) dX6_drops_59 ?_
      refine wp_iast hc hx (j := 101) (by decide) (by decide) rfl i (nI_clamp (by omega)) (vpl 58 rfl (by omega) (by decide)) dX6_drops_60 ?_
      refine wp_nm (fun M5 hM5 => ?_)
      refine wp_iinc (v := ((nI (i)) + 1)) (lv' := [(2, .int ((nI (i)) + 1)), (0, .ref (z 100)), (1, .int i1)]) hc 2 dX6_drops_61 rfl rfl (by decide) rfl ?_
      refine wp_goto (tgt := 33) hc dX6_drops_64 (by decide) ?_
      rw [nI_1]
      have hEq : sr M2 101 (drp (M2.1 101) (1 + 4 * i1.toNatClampNeg) (i + 1)) = M5 := by
        rw [hM5, hM4, st_sr, sr_row, drp_out (Or.inr (by omega)), drp_s _ hl]
      exact wp_eqM hEq (wp_lv [1, 2, 0] rfl ih)
  refine wp_aload_n hc 0 dX6_drops_8 rfl ?_
  refine wp_callVw (As := []) (rest := []) (j := 100) (w := sX6_bad M) hc hx (kX6_bad l D cy z hz M) cw105 (by decide) (by decide) (ce_5 rfl) rfl rfl rfl rfl (Nat.le_of_ble_eq_true rfl) dX6_drops_9 (fun x6 hx6 => ?_)
  refine wp_iret hc hr hk ?_ dX6_drops_12
  show (x6.1, x6.2) = sX6_drops M i1
  rw [sX6_drops, if_pos c5, tk_eq hx6]
abbrev eqB (M : Mem) (o b : Int32) : Prop := (M.1 101 ((fX6_boxAt M o) + 0).toNatClampNeg) = (M.1 101 ((fX6_boxAt M b) + 0).toNatClampNeg) ∧ (M.1 101 ((fX6_boxAt M o) + 1).toNatClampNeg) = (M.1 101 ((fX6_boxAt M b) + 1).toNatClampNeg) ∧ (M.1 101 ((fX6_boxAt M o) + 2).toNatClampNeg) = (M.1 101 ((fX6_boxAt M b) + 2).toNatClampNeg) ∧ (M.1 101 ((fX6_boxAt M o) + 3).toNatClampNeg) = (M.1 101 ((fX6_boxAt M b) + 3).toNatClampNeg)
def lkF (M : Mem) (b : Int32) : Nat → Int32
  | 0 => -1
  | t + 1 => if eqB M (nI b.toNatClampNeg - nI t) b then nI b.toNatClampNeg - nI t else lkF M b t
theorem lkT {b t : Nat} (hb : b < 9) (h : t ≤ b + 1) : (nI b - nI t).toInt = (b : Int) - t := by
  rw [fb_subI (by rw [nI_T (by omega), nI_T (by omega)]; omega) (by rw [nI_T (by omega), nI_T (by omega)]; omega), nI_T (by omega), nI_T (by omega)]
theorem lk_dn {b t : Nat} (hb : b < 9) (h : t ≤ b) : nI b - nI t + -1 = nI b - nI (t + 1) := by
  have e : (-1 : Int32).toInt = -1 := rfl
  apply Int32.toInt_inj.mp
  rw [fb_addI (by rw [lkT hb (by omega), e]; omega) (by rw [lkT hb (by omega), e]; omega), lkT hb (by omega), lkT hb (by omega), e]
  omega
def fX6_likeOf (M : Mem) (i1 : Int32) : Int32 :=
  (lkF M i1 (i1.toNatClampNeg + 1))
set_option maxHeartbeats 4000000 in
set_option maxRecDepth 100000 in
theorem kX6_likeOf (l : Launch) (D : va_G) (cy : Nat → ClassId) (z : Nat → Nat) (hz : zI z) (M : Mem) (i1 : Int32) (hb : 0 ≤ i1.toInt ∧ i1.toInt < 8) : KI l yX6_likeOf wsX6_likeOf { frames := 1, cells := 0, slots := 0, locals := 21 } D cy z 100 15 [.ref (z 100), .int i1] M (fun r u => r = fX6_likeOf M i1 ∧ u = M) := by
  refine met_wp (lv := [(0, .ref (z 100)), (1, .int i1)]) hz (by decide) (by decide) rfl rfl (Nat.le_of_ble_eq_true rfl) rfl ?_
  intro p e s m below meth c hc hx hr hk
  have hNW := hx.2.1
  have hin6 : ∀ w ∈ wsX60, w ∈ wsX6_likeOf := by decide +kernel
  have hf7 : Cond.fieldLink RX6 7 (TX6 0).1 (TX6 0).2.1 (TX6 0).2.2.1 ∈ wsX6_likeOf := by decide +kernel
  have cw85 : CallW ({ frames := 1, cells := 0, slots := 0, locals := 21 }) s _ RX6 RX6 85 yX6_boxAt cX6_boxAt 2 (some .int) wsX6_boxAt ({ frames := 0, cells := 0, slots := 0, locals := 0 }) 0 0 1 := cwV 1 hc.2.2.2.2 gX6_likeOf_X6_boxAt rfl rfl rfl (by decide +kernel) ⟨Nat.le_of_ble_eq_true rfl, Nat.le_of_ble_eq_true rfl⟩
  refine wp_iconst (v := (-1)) hc dX6_likeOf_0 (by decide) ?_
  refine wp_istore_n (lv' := [(2, .int (-1)), (0, .ref (z 100)), (1, .int i1)]) hc dX6_likeOf_1 (by decide) rfl ?_
  refine wp_iload_n hc 2 dX6_likeOf_2 rfl ?_
  refine wp_istore_n (lv' := [(3, .int i1), (2, .int (-1)), (0, .ref (z 100)), (1, .int i1)]) hc dX6_likeOf_3 (by decide) rfl ?_
  have n1 := cl_T (x := i1) hb.1
  refine wp_lv (lv' := [(0, .ref (z 100)), (1, .int i1), (2, .int (lkF M i1 (0))), (3, .int (nI i1.toNatClampNeg - nI (0)))]) [2, 3, 1, 0] (by rw [show nI i1.toNatClampNeg - nI 0 = i1 from Int32.toInt_inj.mp (by rw [lkT (by omega) (by omega)]; omega)]; rfl) ?_
  refine wp_loop (i1.toNatClampNeg + 1) (fun i => M) (fun i => [(0, .ref (z 100)), (1, .int i1), (2, .int (lkF M i1 (i))), (3, .int (nI i1.toNatClampNeg - nI (i)))]) ?_ ?_ 0 (by omega)
  · show WP _ _ _ _ _ _ _ _ _ _ _ _ _ (M) [(0, .ref (z 100)), (1, .int i1), (2, .int (lkF M i1 (i1.toNatClampNeg + 1))), (3, .int (nI i1.toNatClampNeg - nI (i1.toNatClampNeg + 1)))] _ _
    refine wp_iload_n hc 3 dX6_likeOf_4 rfl ?_
    refine wp_if_lt (tgt := 84) hc dX6_likeOf_5 (by decide) (fun _ => ?_) (fun c => absurd c (fun q => q (by rw [fa_lt, lkT (by omega) (by omega)]; show _ < (0 : Int); omega)))
    refine wp_iload_n hc 2 dX6_likeOf_84 rfl ?_
    refine wp_iret hc hr hk ?_ dX6_likeOf_85
    show (lkF M i1 (i1.toNatClampNeg + 1)) = fX6_likeOf M i1 ∧ M = M
    exact ⟨by rw [fX6_likeOf], rfl⟩
  · intro i hi ih
    show WP _ _ _ _ _ _ _ _ _ _ _ _ _ (M) [(0, .ref (z 100)), (1, .int i1), (2, .int (lkF M i1 (i))), (3, .int (nI i1.toNatClampNeg - nI (i)))] _ _
    have hbi : 0 ≤ (nI i1.toNatClampNeg - nI i).toInt ∧ (nI i1.toNatClampNeg - nI i).toInt < 8 := by rw [lkT (by omega) (by omega)]; omega
    refine wp_iload_n hc 3 dX6_likeOf_4 rfl ?_
    refine wp_if_lt (tgt := 84) hc dX6_likeOf_5 (by decide) (fun c => absurd c (by rw [fa_lt, lkT (by omega) (by omega)]; show ¬ _ < (0 : Int); omega)) (fun _ => ?_)
    refine wp_iconst (v := 1) hc dX6_likeOf_8 (by decide) ?_
    refine wp_istore (lv' := [(4, .int 1), (0, .ref (z 100)), (1, .int i1), (2, .int (lkF M i1 (i))), (3, .int (nI i1.toNatClampNeg - nI (i)))]) hc dX6_likeOf_9 (by decide) rfl ?_
    refine wp_iconst (v := 0) hc dX6_likeOf_11 (by decide) ?_
    refine wp_istore (lv' := [(5, .int 0), (4, .int 1), (0, .ref (z 100)), (1, .int i1), (2, .int (lkF M i1 (i))), (3, .int (nI i1.toNatClampNeg - nI (i)))]) hc dX6_likeOf_12 (by decide) rfl ?_
    refine wp_iload hc 0 dX6_likeOf_14 rfl ?_
    refine wp_iconst (v := 4) hc dX6_likeOf_16 (by decide) ?_
    refine wp_icmp_ge (tgt := 67) hc dX6_likeOf_17 (by decide) (fun c => absurd c (by decide)) (fun _ => ?_)
    refine wp_iload hc 1 dX6_likeOf_20 rfl ?_
    refine wp_if_eq (tgt := 58) hc dX6_likeOf_22 (by decide) (fun c => absurd c (by decide)) (fun _ => ?_)
    refine wp_aload_n hc 2 dX6_likeOf_25 rfl ?_
    refine wp_get hc hx hin6 (j := 100) (by decide) (by decide) (ce_5 rfl) rfl 0 (by decide) hf7 rfl dX6_likeOf_26 ?_
    refine wp_aload_n hc 2 dX6_likeOf_29 rfl ?_
    refine wp_iload_n hc 5 dX6_likeOf_30 rfl ?_
    refine wp_callVf (As := [.int (nI i1.toNatClampNeg - nI (i))]) (rest := [.ref (z 101)]) (j := 100) (v := (fX6_boxAt M (nI i1.toNatClampNeg - nI (i)))) hc hx (kX6_boxAt l D cy z hz M (nI i1.toNatClampNeg - nI (i))) cw85 (by decide) (by decide) (ce_5 rfl) rfl rfl rfl rfl (Nat.le_of_ble_eq_true rfl) dX6_likeOf_31 ?_
    refine wp_iload hc 0 dX6_likeOf_34 rfl ?_
    refine wp_iadd hc dX6_likeOf_36 ?_
    refine wp_iald hc hx (j := 101) (by decide) (by decide) rfl ((fX6_boxAt M (nI i1.toNatClampNeg - nI (i))) + 0).toNatClampNeg rfl (ixbk hbi (by decide)) dX6_likeOf_37 ?_
    refine wp_aload_n hc 2 dX6_likeOf_38 rfl ?_
    refine wp_get hc hx hin6 (j := 100) (by decide) (by decide) (ce_5 rfl) rfl 0 (by decide) hf7 rfl dX6_likeOf_39 ?_
    refine wp_aload_n hc 2 dX6_likeOf_42 rfl ?_
    refine wp_iload_n hc 3 dX6_likeOf_43 rfl ?_
    refine wp_callVf (As := [.int i1]) (rest := [.ref (z 101), .int (M.1 101 ((fX6_boxAt M (nI i1.toNatClampNeg - nI (i))) + 0).toNatClampNeg)]) (j := 100) (v := (fX6_boxAt M i1)) hc hx (kX6_boxAt l D cy z hz M i1) cw85 (by decide) (by decide) (ce_5 rfl) rfl rfl rfl rfl (Nat.le_of_ble_eq_true rfl) dX6_likeOf_44 ?_
    refine wp_iload hc 0 dX6_likeOf_47 rfl ?_
    refine wp_iadd hc dX6_likeOf_49 ?_
    refine wp_iald hc hx (j := 101) (by decide) (by decide) rfl ((fX6_boxAt M i1) + 0).toNatClampNeg rfl (ixbk hb (by decide)) dX6_likeOf_50 ?_
    refine wp_icmp_ne (tgt := 58) hc dX6_likeOf_51 (by decide) (fun c51 => ?_) (fun c51 => ?_)
    · refine wp_iconst (v := 0) hc dX6_likeOf_58 (by decide) ?_
      refine wp_istore (lv' := [(4, .int 0), (5, .int 0), (0, .ref (z 100)), (1, .int i1), (2, .int (lkF M i1 (i))), (3, .int (nI i1.toNatClampNeg - nI (i)))]) hc dX6_likeOf_59 (by decide) rfl ?_
      refine wp_iinc (v := 1) (lv' := [(5, .int 1), (4, .int 0), (0, .ref (z 100)), (1, .int i1), (2, .int (lkF M i1 (i))), (3, .int (nI i1.toNatClampNeg - nI (i)))]) hc 1 dX6_likeOf_61 rfl (by decide) (by decide) rfl ?_
      refine wp_goto (tgt := 14) hc dX6_likeOf_64 (by decide) ?_
      refine wp_iload hc 0 dX6_likeOf_14 rfl ?_
      refine wp_iconst (v := 4) hc dX6_likeOf_16 (by decide) ?_
      refine wp_icmp_ge (tgt := 67) hc dX6_likeOf_17 (by decide) (fun c => absurd c (by decide)) (fun _ => ?_)
      refine wp_iload hc 1 dX6_likeOf_20 rfl ?_
      refine wp_if_eq (tgt := 58) hc dX6_likeOf_22 (by decide) (fun _ => ?_) (fun c => absurd c (by decide))
      refine wp_iconst (v := 0) hc dX6_likeOf_58 (by decide) ?_
      refine wp_istore (lv' := [(4, .int 0), (5, .int 1), (0, .ref (z 100)), (1, .int i1), (2, .int (lkF M i1 (i))), (3, .int (nI i1.toNatClampNeg - nI (i)))]) hc dX6_likeOf_59 (by decide) rfl ?_
      refine wp_iinc (v := 2) (lv' := [(5, .int 2), (4, .int 0), (0, .ref (z 100)), (1, .int i1), (2, .int (lkF M i1 (i))), (3, .int (nI i1.toNatClampNeg - nI (i)))]) hc 1 dX6_likeOf_61 rfl (by decide) (by decide) rfl ?_
      refine wp_goto (tgt := 14) hc dX6_likeOf_64 (by decide) ?_
      refine wp_iload hc 0 dX6_likeOf_14 rfl ?_
      refine wp_iconst (v := 4) hc dX6_likeOf_16 (by decide) ?_
      refine wp_icmp_ge (tgt := 67) hc dX6_likeOf_17 (by decide) (fun c => absurd c (by decide)) (fun _ => ?_)
      refine wp_iload hc 1 dX6_likeOf_20 rfl ?_
      refine wp_if_eq (tgt := 58) hc dX6_likeOf_22 (by decide) (fun _ => ?_) (fun c => absurd c (by decide))
      refine wp_iconst (v := 0) hc dX6_likeOf_58 (by decide) ?_
      refine wp_istore (lv' := [(4, .int 0), (5, .int 2), (0, .ref (z 100)), (1, .int i1), (2, .int (lkF M i1 (i))), (3, .int (nI i1.toNatClampNeg - nI (i)))]) hc dX6_likeOf_59 (by decide) rfl ?_
      refine wp_iinc (v := 3) (lv' := [(5, .int 3), (4, .int 0), (0, .ref (z 100)), (1, .int i1), (2, .int (lkF M i1 (i))), (3, .int (nI i1.toNatClampNeg - nI (i)))]) hc 1 dX6_likeOf_61 rfl (by decide) (by decide) rfl ?_
      refine wp_goto (tgt := 14) hc dX6_likeOf_64 (by decide) ?_
      refine wp_iload hc 0 dX6_likeOf_14 rfl ?_
      refine wp_iconst (v := 4) hc dX6_likeOf_16 (by decide) ?_
      refine wp_icmp_ge (tgt := 67) hc dX6_likeOf_17 (by decide) (fun c => absurd c (by decide)) (fun _ => ?_)
      refine wp_iload hc 1 dX6_likeOf_20 rfl ?_
      refine wp_if_eq (tgt := 58) hc dX6_likeOf_22 (by decide) (fun _ => ?_) (fun c => absurd c (by decide))
      refine wp_iconst (v := 0) hc dX6_likeOf_58 (by decide) ?_
      refine wp_istore (lv' := [(4, .int 0), (5, .int 3), (0, .ref (z 100)), (1, .int i1), (2, .int (lkF M i1 (i))), (3, .int (nI i1.toNatClampNeg - nI (i)))]) hc dX6_likeOf_59 (by decide) rfl ?_
      refine wp_iinc (v := 4) (lv' := [(5, .int 4), (4, .int 0), (0, .ref (z 100)), (1, .int i1), (2, .int (lkF M i1 (i))), (3, .int (nI i1.toNatClampNeg - nI (i)))]) hc 1 dX6_likeOf_61 rfl (by decide) (by decide) rfl ?_
      refine wp_goto (tgt := 14) hc dX6_likeOf_64 (by decide) ?_
      refine wp_iload hc 0 dX6_likeOf_14 rfl ?_
      refine wp_iconst (v := 4) hc dX6_likeOf_16 (by decide) ?_
      refine wp_icmp_ge (tgt := 67) hc dX6_likeOf_17 (by decide) (fun _ => ?_) (fun c => absurd c (by decide))
      refine wp_iload hc 1 dX6_likeOf_67 rfl ?_
      refine wp_if_eq (tgt := 76) hc dX6_likeOf_69 (by decide) (fun _ => ?_) (fun c => absurd c (by decide))
      refine wp_iload_n hc 4 dX6_likeOf_76 rfl ?_
      refine wp_istore_n (lv' := [(2, .int (lkF M i1 (i))), (5, .int 4), (4, .int 0), (0, .ref (z 100)), (1, .int i1), (3, .int (nI i1.toNatClampNeg - nI (i)))]) hc dX6_likeOf_77 (by decide) rfl ?_
      refine wp_iinc (v := ((nI i1.toNatClampNeg - nI (i)) + (-1))) (lv' := [(3, .int ((nI i1.toNatClampNeg - nI (i)) + (-1))), (2, .int (lkF M i1 (i))), (5, .int 4), (4, .int 0), (0, .ref (z 100)), (1, .int i1)]) hc 5 dX6_likeOf_78 rfl rfl (by decide) rfl ?_
      refine wp_goto (tgt := 4) hc dX6_likeOf_81 (by decide) ?_
      rw [lk_dn (by omega) (by omega)]
      have hL : (lkF M i1 (i)) = lkF M i1 (i + 1) := by
        rw [lkF]
        first
        | exact (if_pos ⟨c51, c51_2, c51_3, c51_4⟩).symm
        | exact (if_neg (fun q => c51_4 q.2.2.2)).symm
        | exact (if_neg (fun q => c51_3 q.2.2.1)).symm
        | exact (if_neg (fun q => c51_2 q.2.1)).symm
        | exact (if_neg (fun q => c51 q.1)).symm
      rw [hL]
      exact wp_lv [4, 5, 1, 0] rfl ih
    refine wp_iconst (v := 1) hc dX6_likeOf_54 (by decide) ?_
    refine wp_goto (tgt := 59) hc dX6_likeOf_55 (by decide) ?_
    refine wp_istore (lv' := [(4, .int 1), (5, .int 0), (0, .ref (z 100)), (1, .int i1), (2, .int (lkF M i1 (i))), (3, .int (nI i1.toNatClampNeg - nI (i)))]) hc dX6_likeOf_59 (by decide) rfl ?_
    refine wp_iinc (v := 1) (lv' := [(5, .int 1), (4, .int 1), (0, .ref (z 100)), (1, .int i1), (2, .int (lkF M i1 (i))), (3, .int (nI i1.toNatClampNeg - nI (i)))]) hc 1 dX6_likeOf_61 rfl (by decide) (by decide) rfl ?_
    refine wp_goto (tgt := 14) hc dX6_likeOf_64 (by decide) ?_
    refine wp_iload hc 0 dX6_likeOf_14 rfl ?_
    refine wp_iconst (v := 4) hc dX6_likeOf_16 (by decide) ?_
    refine wp_icmp_ge (tgt := 67) hc dX6_likeOf_17 (by decide) (fun c => absurd c (by decide)) (fun _ => ?_)
    refine wp_iload hc 1 dX6_likeOf_20 rfl ?_
    refine wp_if_eq (tgt := 58) hc dX6_likeOf_22 (by decide) (fun c => absurd c (by decide)) (fun _ => ?_)
    refine wp_aload_n hc 2 dX6_likeOf_25 rfl ?_
    refine wp_get hc hx hin6 (j := 100) (by decide) (by decide) (ce_5 rfl) rfl 0 (by decide) hf7 rfl dX6_likeOf_26 ?_
    refine wp_aload_n hc 2 dX6_likeOf_29 rfl ?_
    refine wp_iload_n hc 5 dX6_likeOf_30 rfl ?_
    refine wp_callVf (As := [.int (nI i1.toNatClampNeg - nI (i))]) (rest := [.ref (z 101)]) (j := 100) (v := (fX6_boxAt M (nI i1.toNatClampNeg - nI (i)))) hc hx (kX6_boxAt l D cy z hz M (nI i1.toNatClampNeg - nI (i))) cw85 (by decide) (by decide) (ce_5 rfl) rfl rfl rfl rfl (Nat.le_of_ble_eq_true rfl) dX6_likeOf_31 ?_
    refine wp_iload hc 0 dX6_likeOf_34 rfl ?_
    refine wp_iadd hc dX6_likeOf_36 ?_
    refine wp_iald hc hx (j := 101) (by decide) (by decide) rfl ((fX6_boxAt M (nI i1.toNatClampNeg - nI (i))) + 1).toNatClampNeg rfl (ixbk hbi (by decide)) dX6_likeOf_37 ?_
    refine wp_aload_n hc 2 dX6_likeOf_38 rfl ?_
    refine wp_get hc hx hin6 (j := 100) (by decide) (by decide) (ce_5 rfl) rfl 0 (by decide) hf7 rfl dX6_likeOf_39 ?_
    refine wp_aload_n hc 2 dX6_likeOf_42 rfl ?_
    refine wp_iload_n hc 3 dX6_likeOf_43 rfl ?_
    refine wp_callVf (As := [.int i1]) (rest := [.ref (z 101), .int (M.1 101 ((fX6_boxAt M (nI i1.toNatClampNeg - nI (i))) + 1).toNatClampNeg)]) (j := 100) (v := (fX6_boxAt M i1)) hc hx (kX6_boxAt l D cy z hz M i1) cw85 (by decide) (by decide) (ce_5 rfl) rfl rfl rfl rfl (Nat.le_of_ble_eq_true rfl) dX6_likeOf_44 ?_
    refine wp_iload hc 0 dX6_likeOf_47 rfl ?_
    refine wp_iadd hc dX6_likeOf_49 ?_
    refine wp_iald hc hx (j := 101) (by decide) (by decide) rfl ((fX6_boxAt M i1) + 1).toNatClampNeg rfl (ixbk hb (by decide)) dX6_likeOf_50 ?_
    refine wp_icmp_ne (tgt := 58) hc dX6_likeOf_51 (by decide) (fun c51_2 => ?_) (fun c51_2 => ?_)
    · refine wp_iconst (v := 0) hc dX6_likeOf_58 (by decide) ?_
      refine wp_istore (lv' := [(4, .int 0), (5, .int 1), (0, .ref (z 100)), (1, .int i1), (2, .int (lkF M i1 (i))), (3, .int (nI i1.toNatClampNeg - nI (i)))]) hc dX6_likeOf_59 (by decide) rfl ?_
      refine wp_iinc (v := 2) (lv' := [(5, .int 2), (4, .int 0), (0, .ref (z 100)), (1, .int i1), (2, .int (lkF M i1 (i))), (3, .int (nI i1.toNatClampNeg - nI (i)))]) hc 1 dX6_likeOf_61 rfl (by decide) (by decide) rfl ?_
      refine wp_goto (tgt := 14) hc dX6_likeOf_64 (by decide) ?_
      refine wp_iload hc 0 dX6_likeOf_14 rfl ?_
      refine wp_iconst (v := 4) hc dX6_likeOf_16 (by decide) ?_
      refine wp_icmp_ge (tgt := 67) hc dX6_likeOf_17 (by decide) (fun c => absurd c (by decide)) (fun _ => ?_)
      refine wp_iload hc 1 dX6_likeOf_20 rfl ?_
      refine wp_if_eq (tgt := 58) hc dX6_likeOf_22 (by decide) (fun _ => ?_) (fun c => absurd c (by decide))
      refine wp_iconst (v := 0) hc dX6_likeOf_58 (by decide) ?_
      refine wp_istore (lv' := [(4, .int 0), (5, .int 2), (0, .ref (z 100)), (1, .int i1), (2, .int (lkF M i1 (i))), (3, .int (nI i1.toNatClampNeg - nI (i)))]) hc dX6_likeOf_59 (by decide) rfl ?_
      refine wp_iinc (v := 3) (lv' := [(5, .int 3), (4, .int 0), (0, .ref (z 100)), (1, .int i1), (2, .int (lkF M i1 (i))), (3, .int (nI i1.toNatClampNeg - nI (i)))]) hc 1 dX6_likeOf_61 rfl (by decide) (by decide) rfl ?_
      refine wp_goto (tgt := 14) hc dX6_likeOf_64 (by decide) ?_
      refine wp_iload hc 0 dX6_likeOf_14 rfl ?_
      refine wp_iconst (v := 4) hc dX6_likeOf_16 (by decide) ?_
      refine wp_icmp_ge (tgt := 67) hc dX6_likeOf_17 (by decide) (fun c => absurd c (by decide)) (fun _ => ?_)
      refine wp_iload hc 1 dX6_likeOf_20 rfl ?_
      refine wp_if_eq (tgt := 58) hc dX6_likeOf_22 (by decide) (fun _ => ?_) (fun c => absurd c (by decide))
      refine wp_iconst (v := 0) hc dX6_likeOf_58 (by decide) ?_
      refine wp_istore (lv' := [(4, .int 0), (5, .int 3), (0, .ref (z 100)), (1, .int i1), (2, .int (lkF M i1 (i))), (3, .int (nI i1.toNatClampNeg - nI (i)))]) hc dX6_likeOf_59 (by decide) rfl ?_
      refine wp_iinc (v := 4) (lv' := [(5, .int 4), (4, .int 0), (0, .ref (z 100)), (1, .int i1), (2, .int (lkF M i1 (i))), (3, .int (nI i1.toNatClampNeg - nI (i)))]) hc 1 dX6_likeOf_61 rfl (by decide) (by decide) rfl ?_
      refine wp_goto (tgt := 14) hc dX6_likeOf_64 (by decide) ?_
      refine wp_iload hc 0 dX6_likeOf_14 rfl ?_
      refine wp_iconst (v := 4) hc dX6_likeOf_16 (by decide) ?_
      refine wp_icmp_ge (tgt := 67) hc dX6_likeOf_17 (by decide) (fun _ => ?_) (fun c => absurd c (by decide))
      refine wp_iload hc 1 dX6_likeOf_67 rfl ?_
      refine wp_if_eq (tgt := 76) hc dX6_likeOf_69 (by decide) (fun _ => ?_) (fun c => absurd c (by decide))
      refine wp_iload_n hc 4 dX6_likeOf_76 rfl ?_
      refine wp_istore_n (lv' := [(2, .int (lkF M i1 (i))), (5, .int 4), (4, .int 0), (0, .ref (z 100)), (1, .int i1), (3, .int (nI i1.toNatClampNeg - nI (i)))]) hc dX6_likeOf_77 (by decide) rfl ?_
      refine wp_iinc (v := ((nI i1.toNatClampNeg - nI (i)) + (-1))) (lv' := [(3, .int ((nI i1.toNatClampNeg - nI (i)) + (-1))), (2, .int (lkF M i1 (i))), (5, .int 4), (4, .int 0), (0, .ref (z 100)), (1, .int i1)]) hc 5 dX6_likeOf_78 rfl rfl (by decide) rfl ?_
      refine wp_goto (tgt := 4) hc dX6_likeOf_81 (by decide) ?_
      rw [lk_dn (by omega) (by omega)]
      have hL : (lkF M i1 (i)) = lkF M i1 (i + 1) := by
        rw [lkF]
        first
        | exact (if_pos ⟨c51, c51_2, c51_3, c51_4⟩).symm
        | exact (if_neg (fun q => c51_4 q.2.2.2)).symm
        | exact (if_neg (fun q => c51_3 q.2.2.1)).symm
        | exact (if_neg (fun q => c51_2 q.2.1)).symm
        | exact (if_neg (fun q => c51 q.1)).symm
      rw [hL]
      exact wp_lv [4, 5, 1, 0] rfl ih
    refine wp_iconst (v := 1) hc dX6_likeOf_54 (by decide) ?_
    refine wp_goto (tgt := 59) hc dX6_likeOf_55 (by decide) ?_
    refine wp_istore (lv' := [(4, .int 1), (5, .int 1), (0, .ref (z 100)), (1, .int i1), (2, .int (lkF M i1 (i))), (3, .int (nI i1.toNatClampNeg - nI (i)))]) hc dX6_likeOf_59 (by decide) rfl ?_
    refine wp_iinc (v := 2) (lv' := [(5, .int 2), (4, .int 1), (0, .ref (z 100)), (1, .int i1), (2, .int (lkF M i1 (i))), (3, .int (nI i1.toNatClampNeg - nI (i)))]) hc 1 dX6_likeOf_61 rfl (by decide) (by decide) rfl ?_
    refine wp_goto (tgt := 14) hc dX6_likeOf_64 (by decide) ?_
    refine wp_iload hc 0 dX6_likeOf_14 rfl ?_
    refine wp_iconst (v := 4) hc dX6_likeOf_16 (by decide) ?_
    refine wp_icmp_ge (tgt := 67) hc dX6_likeOf_17 (by decide) (fun c => absurd c (by decide)) (fun _ => ?_)
    refine wp_iload hc 1 dX6_likeOf_20 rfl ?_
    refine wp_if_eq (tgt := 58) hc dX6_likeOf_22 (by decide) (fun c => absurd c (by decide)) (fun _ => ?_)
    refine wp_aload_n hc 2 dX6_likeOf_25 rfl ?_
    refine wp_get hc hx hin6 (j := 100) (by decide) (by decide) (ce_5 rfl) rfl 0 (by decide) hf7 rfl dX6_likeOf_26 ?_
    refine wp_aload_n hc 2 dX6_likeOf_29 rfl ?_
    refine wp_iload_n hc 5 dX6_likeOf_30 rfl ?_
    refine wp_callVf (As := [.int (nI i1.toNatClampNeg - nI (i))]) (rest := [.ref (z 101)]) (j := 100) (v := (fX6_boxAt M (nI i1.toNatClampNeg - nI (i)))) hc hx (kX6_boxAt l D cy z hz M (nI i1.toNatClampNeg - nI (i))) cw85 (by decide) (by decide) (ce_5 rfl) rfl rfl rfl rfl (Nat.le_of_ble_eq_true rfl) dX6_likeOf_31 ?_
    refine wp_iload hc 0 dX6_likeOf_34 rfl ?_
    refine wp_iadd hc dX6_likeOf_36 ?_
    refine wp_iald hc hx (j := 101) (by decide) (by decide) rfl ((fX6_boxAt M (nI i1.toNatClampNeg - nI (i))) + 2).toNatClampNeg rfl (ixbk hbi (by decide)) dX6_likeOf_37 ?_
    refine wp_aload_n hc 2 dX6_likeOf_38 rfl ?_
    refine wp_get hc hx hin6 (j := 100) (by decide) (by decide) (ce_5 rfl) rfl 0 (by decide) hf7 rfl dX6_likeOf_39 ?_
    refine wp_aload_n hc 2 dX6_likeOf_42 rfl ?_
    refine wp_iload_n hc 3 dX6_likeOf_43 rfl ?_
    refine wp_callVf (As := [.int i1]) (rest := [.ref (z 101), .int (M.1 101 ((fX6_boxAt M (nI i1.toNatClampNeg - nI (i))) + 2).toNatClampNeg)]) (j := 100) (v := (fX6_boxAt M i1)) hc hx (kX6_boxAt l D cy z hz M i1) cw85 (by decide) (by decide) (ce_5 rfl) rfl rfl rfl rfl (Nat.le_of_ble_eq_true rfl) dX6_likeOf_44 ?_
    refine wp_iload hc 0 dX6_likeOf_47 rfl ?_
    refine wp_iadd hc dX6_likeOf_49 ?_
    refine wp_iald hc hx (j := 101) (by decide) (by decide) rfl ((fX6_boxAt M i1) + 2).toNatClampNeg rfl (ixbk hb (by decide)) dX6_likeOf_50 ?_
    refine wp_icmp_ne (tgt := 58) hc dX6_likeOf_51 (by decide) (fun c51_3 => ?_) (fun c51_3 => ?_)
    · refine wp_iconst (v := 0) hc dX6_likeOf_58 (by decide) ?_
      refine wp_istore (lv' := [(4, .int 0), (5, .int 2), (0, .ref (z 100)), (1, .int i1), (2, .int (lkF M i1 (i))), (3, .int (nI i1.toNatClampNeg - nI (i)))]) hc dX6_likeOf_59 (by decide) rfl ?_
      refine wp_iinc (v := 3) (lv' := [(5, .int 3), (4, .int 0), (0, .ref (z 100)), (1, .int i1), (2, .int (lkF M i1 (i))), (3, .int (nI i1.toNatClampNeg - nI (i)))]) hc 1 dX6_likeOf_61 rfl (by decide) (by decide) rfl ?_
      refine wp_goto (tgt := 14) hc dX6_likeOf_64 (by decide) ?_
      refine wp_iload hc 0 dX6_likeOf_14 rfl ?_
      refine wp_iconst (v := 4) hc dX6_likeOf_16 (by decide) ?_
      refine wp_icmp_ge (tgt := 67) hc dX6_likeOf_17 (by decide) (fun c => absurd c (by decide)) (fun _ => ?_)
      refine wp_iload hc 1 dX6_likeOf_20 rfl ?_
      refine wp_if_eq (tgt := 58) hc dX6_likeOf_22 (by decide) (fun _ => ?_) (fun c => absurd c (by decide))
      refine wp_iconst (v := 0) hc dX6_likeOf_58 (by decide) ?_
      refine wp_istore (lv' := [(4, .int 0), (5, .int 3), (0, .ref (z 100)), (1, .int i1), (2, .int (lkF M i1 (i))), (3, .int (nI i1.toNatClampNeg - nI (i)))]) hc dX6_likeOf_59 (by decide) rfl ?_
      refine wp_iinc (v := 4) (lv' := [(5, .int 4), (4, .int 0), (0, .ref (z 100)), (1, .int i1), (2, .int (lkF M i1 (i))), (3, .int (nI i1.toNatClampNeg - nI (i)))]) hc 1 dX6_likeOf_61 rfl (by decide) (by decide) rfl ?_
      refine wp_goto (tgt := 14) hc dX6_likeOf_64 (by decide) ?_
      refine wp_iload hc 0 dX6_likeOf_14 rfl ?_
      refine wp_iconst (v := 4) hc dX6_likeOf_16 (by decide) ?_
      refine wp_icmp_ge (tgt := 67) hc dX6_likeOf_17 (by decide) (fun _ => ?_) (fun c => absurd c (by decide))
      refine wp_iload hc 1 dX6_likeOf_67 rfl ?_
      refine wp_if_eq (tgt := 76) hc dX6_likeOf_69 (by decide) (fun _ => ?_) (fun c => absurd c (by decide))
      refine wp_iload_n hc 4 dX6_likeOf_76 rfl ?_
      refine wp_istore_n (lv' := [(2, .int (lkF M i1 (i))), (5, .int 4), (4, .int 0), (0, .ref (z 100)), (1, .int i1), (3, .int (nI i1.toNatClampNeg - nI (i)))]) hc dX6_likeOf_77 (by decide) rfl ?_
      refine wp_iinc (v := ((nI i1.toNatClampNeg - nI (i)) + (-1))) (lv' := [(3, .int ((nI i1.toNatClampNeg - nI (i)) + (-1))), (2, .int (lkF M i1 (i))), (5, .int 4), (4, .int 0), (0, .ref (z 100)), (1, .int i1)]) hc 5 dX6_likeOf_78 rfl rfl (by decide) rfl ?_
      refine wp_goto (tgt := 4) hc dX6_likeOf_81 (by decide) ?_
      rw [lk_dn (by omega) (by omega)]
      have hL : (lkF M i1 (i)) = lkF M i1 (i + 1) := by
        rw [lkF]
        first
        | exact (if_pos ⟨c51, c51_2, c51_3, c51_4⟩).symm
        | exact (if_neg (fun q => c51_4 q.2.2.2)).symm
        | exact (if_neg (fun q => c51_3 q.2.2.1)).symm
        | exact (if_neg (fun q => c51_2 q.2.1)).symm
        | exact (if_neg (fun q => c51 q.1)).symm
      rw [hL]
      exact wp_lv [4, 5, 1, 0] rfl ih
    refine wp_iconst (v := 1) hc dX6_likeOf_54 (by decide) ?_
    refine wp_goto (tgt := 59) hc dX6_likeOf_55 (by decide) ?_
    refine wp_istore (lv' := [(4, .int 1), (5, .int 2), (0, .ref (z 100)), (1, .int i1), (2, .int (lkF M i1 (i))), (3, .int (nI i1.toNatClampNeg - nI (i)))]) hc dX6_likeOf_59 (by decide) rfl ?_
    refine wp_iinc (v := 3) (lv' := [(5, .int 3), (4, .int 1), (0, .ref (z 100)), (1, .int i1), (2, .int (lkF M i1 (i))), (3, .int (nI i1.toNatClampNeg - nI (i)))]) hc 1 dX6_likeOf_61 rfl (by decide) (by decide) rfl ?_
    refine wp_goto (tgt := 14) hc dX6_likeOf_64 (by decide) ?_
    refine wp_iload hc 0 dX6_likeOf_14 rfl ?_
    refine wp_iconst (v := 4) hc dX6_likeOf_16 (by decide) ?_
    refine wp_icmp_ge (tgt := 67) hc dX6_likeOf_17 (by decide) (fun c => absurd c (by decide)) (fun _ => ?_)
    refine wp_iload hc 1 dX6_likeOf_20 rfl ?_
    refine wp_if_eq (tgt := 58) hc dX6_likeOf_22 (by decide) (fun c => absurd c (by decide)) (fun _ => ?_)
    refine wp_aload_n hc 2 dX6_likeOf_25 rfl ?_
    refine wp_get hc hx hin6 (j := 100) (by decide) (by decide) (ce_5 rfl) rfl 0 (by decide) hf7 rfl dX6_likeOf_26 ?_
    refine wp_aload_n hc 2 dX6_likeOf_29 rfl ?_
    refine wp_iload_n hc 5 dX6_likeOf_30 rfl ?_
    refine wp_callVf (As := [.int (nI i1.toNatClampNeg - nI (i))]) (rest := [.ref (z 101)]) (j := 100) (v := (fX6_boxAt M (nI i1.toNatClampNeg - nI (i)))) hc hx (kX6_boxAt l D cy z hz M (nI i1.toNatClampNeg - nI (i))) cw85 (by decide) (by decide) (ce_5 rfl) rfl rfl rfl rfl (Nat.le_of_ble_eq_true rfl) dX6_likeOf_31 ?_
    refine wp_iload hc 0 dX6_likeOf_34 rfl ?_
    refine wp_iadd hc dX6_likeOf_36 ?_
    refine wp_iald hc hx (j := 101) (by decide) (by decide) rfl ((fX6_boxAt M (nI i1.toNatClampNeg - nI (i))) + 3).toNatClampNeg rfl (ixbk hbi (by decide)) dX6_likeOf_37 ?_
    refine wp_aload_n hc 2 dX6_likeOf_38 rfl ?_
    refine wp_get hc hx hin6 (j := 100) (by decide) (by decide) (ce_5 rfl) rfl 0 (by decide) hf7 rfl dX6_likeOf_39 ?_
    refine wp_aload_n hc 2 dX6_likeOf_42 rfl ?_
    refine wp_iload_n hc 3 dX6_likeOf_43 rfl ?_
    refine wp_callVf (As := [.int i1]) (rest := [.ref (z 101), .int (M.1 101 ((fX6_boxAt M (nI i1.toNatClampNeg - nI (i))) + 3).toNatClampNeg)]) (j := 100) (v := (fX6_boxAt M i1)) hc hx (kX6_boxAt l D cy z hz M i1) cw85 (by decide) (by decide) (ce_5 rfl) rfl rfl rfl rfl (Nat.le_of_ble_eq_true rfl) dX6_likeOf_44 ?_
    refine wp_iload hc 0 dX6_likeOf_47 rfl ?_
    refine wp_iadd hc dX6_likeOf_49 ?_
    refine wp_iald hc hx (j := 101) (by decide) (by decide) rfl ((fX6_boxAt M i1) + 3).toNatClampNeg rfl (ixbk hb (by decide)) dX6_likeOf_50 ?_
    refine wp_icmp_ne (tgt := 58) hc dX6_likeOf_51 (by decide) (fun c51_4 => ?_) (fun c51_4 => ?_)
    · refine wp_iconst (v := 0) hc dX6_likeOf_58 (by decide) ?_
      refine wp_istore (lv' := [(4, .int 0), (5, .int 3), (0, .ref (z 100)), (1, .int i1), (2, .int (lkF M i1 (i))), (3, .int (nI i1.toNatClampNeg - nI (i)))]) hc dX6_likeOf_59 (by decide) rfl ?_
      refine wp_iinc (v := 4) (lv' := [(5, .int 4), (4, .int 0), (0, .ref (z 100)), (1, .int i1), (2, .int (lkF M i1 (i))), (3, .int (nI i1.toNatClampNeg - nI (i)))]) hc 1 dX6_likeOf_61 rfl (by decide) (by decide) rfl ?_
      refine wp_goto (tgt := 14) hc dX6_likeOf_64 (by decide) ?_
      refine wp_iload hc 0 dX6_likeOf_14 rfl ?_
      refine wp_iconst (v := 4) hc dX6_likeOf_16 (by decide) ?_
      refine wp_icmp_ge (tgt := 67) hc dX6_likeOf_17 (by decide) (fun _ => ?_) (fun c => absurd c (by decide))
      refine wp_iload hc 1 dX6_likeOf_67 rfl ?_
      refine wp_if_eq (tgt := 76) hc dX6_likeOf_69 (by decide) (fun _ => ?_) (fun c => absurd c (by decide))
      refine wp_iload_n hc 4 dX6_likeOf_76 rfl ?_
      refine wp_istore_n (lv' := [(2, .int (lkF M i1 (i))), (5, .int 4), (4, .int 0), (0, .ref (z 100)), (1, .int i1), (3, .int (nI i1.toNatClampNeg - nI (i)))]) hc dX6_likeOf_77 (by decide) rfl ?_
      refine wp_iinc (v := ((nI i1.toNatClampNeg - nI (i)) + (-1))) (lv' := [(3, .int ((nI i1.toNatClampNeg - nI (i)) + (-1))), (2, .int (lkF M i1 (i))), (5, .int 4), (4, .int 0), (0, .ref (z 100)), (1, .int i1)]) hc 5 dX6_likeOf_78 rfl rfl (by decide) rfl ?_
      refine wp_goto (tgt := 4) hc dX6_likeOf_81 (by decide) ?_
      rw [lk_dn (by omega) (by omega)]
      have hL : (lkF M i1 (i)) = lkF M i1 (i + 1) := by
        rw [lkF]
        first
        | exact (if_pos ⟨c51, c51_2, c51_3, c51_4⟩).symm
        | exact (if_neg (fun q => c51_4 q.2.2.2)).symm
        | exact (if_neg (fun q => c51_3 q.2.2.1)).symm
        | exact (if_neg (fun q => c51_2 q.2.1)).symm
        | exact (if_neg (fun q => c51 q.1)).symm
      rw [hL]
      exact wp_lv [4, 5, 1, 0] rfl ih
    refine wp_iconst (v := 1) hc dX6_likeOf_54 (by decide) ?_
    refine wp_goto (tgt := 59) hc dX6_likeOf_55 (by decide) ?_
    refine wp_istore (lv' := [(4, .int 1), (5, .int 3), (0, .ref (z 100)), (1, .int i1), (2, .int (lkF M i1 (i))), (3, .int (nI i1.toNatClampNeg - nI (i)))]) hc dX6_likeOf_59 (by decide) rfl ?_
    refine wp_iinc (v := 4) (lv' := [(5, .int 4), (4, .int 1), (0, .ref (z 100)), (1, .int i1), (2, .int (lkF M i1 (i))), (3, .int (nI i1.toNatClampNeg - nI (i)))]) hc 1 dX6_likeOf_61 rfl (by decide) (by decide) rfl ?_
    refine wp_goto (tgt := 14) hc dX6_likeOf_64 (by decide) ?_
    refine wp_iload hc 0 dX6_likeOf_14 rfl ?_
    refine wp_iconst (v := 4) hc dX6_likeOf_16 (by decide) ?_
    refine wp_icmp_ge (tgt := 67) hc dX6_likeOf_17 (by decide) (fun _ => ?_) (fun c => absurd c (by decide))
    refine wp_iload hc 1 dX6_likeOf_67 rfl ?_
    refine wp_if_eq (tgt := 76) hc dX6_likeOf_69 (by decide) (fun c => absurd c (by decide)) (fun _ => ?_)
    refine wp_iload_n hc 5 dX6_likeOf_72 rfl ?_
    refine wp_goto (tgt := 77) hc dX6_likeOf_73 (by decide) ?_
    refine wp_istore_n (lv' := [(2, .int (nI i1.toNatClampNeg - nI (i))), (5, .int 4), (4, .int 1), (0, .ref (z 100)), (1, .int i1), (3, .int (nI i1.toNatClampNeg - nI (i)))]) hc dX6_likeOf_77 (by decide) rfl ?_
    refine wp_iinc (v := ((nI i1.toNatClampNeg - nI (i)) + (-1))) (lv' := [(3, .int ((nI i1.toNatClampNeg - nI (i)) + (-1))), (2, .int (nI i1.toNatClampNeg - nI (i))), (5, .int 4), (4, .int 1), (0, .ref (z 100)), (1, .int i1)]) hc 5 dX6_likeOf_78 rfl rfl (by decide) rfl ?_
    refine wp_goto (tgt := 4) hc dX6_likeOf_81 (by decide) ?_
    rw [lk_dn (by omega) (by omega)]
    have hL : (nI i1.toNatClampNeg - nI (i)) = lkF M i1 (i + 1) := by
      rw [lkF]
      first
      | exact (if_pos ⟨c51, c51_2, c51_3, c51_4⟩).symm
      | exact (if_neg (fun q => c51_4 q.2.2.2)).symm
      | exact (if_neg (fun q => c51_3 q.2.2.1)).symm
      | exact (if_neg (fun q => c51_2 q.2.1)).symm
      | exact (if_neg (fun q => c51 q.1)).symm
    rw [hL]
    exact wp_lv [4, 5, 1, 0] rfl ih
def sX6_like (M : Mem) (i1 : Int32) : Int32 × Mem :=
  if (fX6_isBox M i1) = 0 then
  tk (sX6_bad M) fun x1 =>
  (x1.1, x1.2)
  else
  ((fX6_likeOf M i1), M)
set_option maxHeartbeats 4000000 in
set_option maxRecDepth 100000 in
theorem kX6_like (l : Launch) (D : va_G) (cy : Nat → ClassId) (z : Nat → Nat) (hz : zI z) (M : Mem) (i1 : Int32) (hn : 0 ≤ (M.1 101 0).toInt ∧ (M.1 101 0).toInt ≤ 8) : KI l yX6_like wsX6_like { frames := 2, cells := 0, slots := 0, locals := 46 } D cy z 100 15 [.ref (z 100), .int i1] M (fun r u => (r, u) = sX6_like M i1) := by
  refine met_wp (lv := [(0, .ref (z 100)), (1, .int i1)]) hz (by decide) (by decide) rfl rfl (Nat.le_of_ble_eq_true rfl) rfl ?_
  intro p e s m below meth c hc hx hr hk
  have hNW := hx.2.1
  have cw98 : CallW ({ frames := 2, cells := 0, slots := 0, locals := 46 }) s _ RX6 RX6 98 yX6_isBox cX6_isBox 2 (some .boolean) wsX6_isBox ({ frames := 1, cells := 0, slots := 0, locals := 22 }) 0 0 1 := cwV 1 hc.2.2.2.2 gX6_like_X6_isBox rfl rfl rfl (by decide +kernel) ⟨Nat.le_of_ble_eq_true rfl, Nat.le_of_ble_eq_true rfl⟩
  have cw105 : CallW ({ frames := 2, cells := 0, slots := 0, locals := 46 }) s _ RX6 RX6 105 yX6_bad cX6_bad 1 (some .int) wsX6_bad ({ frames := 0, cells := 0, slots := 0, locals := 0 }) 0 0 0 := cwV 0 hc.2.2.2.2 gX6_like_X6_bad rfl rfl rfl (by decide +kernel) ⟨Nat.le_of_ble_eq_true rfl, Nat.le_of_ble_eq_true rfl⟩
  have cw216 : CallW ({ frames := 2, cells := 0, slots := 0, locals := 46 }) s _ RX6 RX6 216 yX6_likeOf cX6_likeOf 6 (some .int) wsX6_likeOf ({ frames := 1, cells := 0, slots := 0, locals := 21 }) 0 0 1 := cwV 1 hc.2.2.2.2 gX6_like_X6_likeOf rfl rfl rfl (by decide +kernel) ⟨Nat.le_of_ble_eq_true rfl, Nat.le_of_ble_eq_true rfl⟩
  refine wp_aload_n hc 0 dX6_like_0 rfl ?_
  refine wp_iload_n hc 1 dX6_like_1 rfl ?_
  refine wp_callVf (As := [.int i1]) (rest := []) (j := 100) (v := (fX6_isBox M i1)) hc hx (kX6_isBox l D cy z hz M i1) cw98 (by decide) (by decide) (ce_5 rfl) rfl rfl rfl rfl (Nat.le_of_ble_eq_true rfl) dX6_like_2 ?_
  refine wp_if_eq (tgt := 16) hc dX6_like_5 (by decide) (fun c5 => ?_) (fun c5 => ?_)
  · refine wp_aload_n hc 0 dX6_like_16 rfl ?_
    refine wp_callVw (As := []) (rest := []) (j := 100) (w := sX6_bad M) hc hx (kX6_bad l D cy z hz M) cw105 (by decide) (by decide) (ce_5 rfl) rfl rfl rfl rfl (Nat.le_of_ble_eq_true rfl) dX6_like_17 (fun x1 hx1 => ?_)
    refine wp_iret hc hr hk ?_ dX6_like_20
    show (x1.1, x1.2) = sX6_like M i1
    rw [sX6_like, if_pos c5, tk_eq hx1]
  refine wp_aload_n hc 0 dX6_like_8 rfl ?_
  refine wp_iload_n hc 1 dX6_like_9 rfl ?_
  refine wp_callVf (As := [.int i1]) (rest := []) (j := 100) (v := (fX6_likeOf M i1)) hc hx (kX6_likeOf l D cy z hz M i1 (isBox_8 hn c5)) cw216 (by decide) (by decide) (ce_5 rfl) rfl rfl rfl rfl (Nat.le_of_ble_eq_true rfl) dX6_like_10 ?_
  refine wp_goto (tgt := 20) hc dX6_like_13 (by decide) ?_
  refine wp_iret hc hr hk ?_ dX6_like_20
  show ((fX6_likeOf M i1), M) = sX6_like M i1
  rw [sX6_like, if_neg c5]
theorem sr_comm (M : Mem) {i j : Nat} (h : i ≠ j) (f g : Nat → Int32) : sr (sr M i f) j g = sr (sr M j g) i f := by
  unfold sr
  have : va_up (va_up M.1 i f) j g = va_up (va_up M.1 j g) i f := by
    funext k
    unfold va_up
    by_cases h1 : k = i <;> by_cases h2 : k = j <;> simp [h1, h2] <;> omega
  simp only [this]
theorem st_other (M : Mem) {i j : Nat} (h : i ≠ j) (f : Nat → Int32) (k : Nat) (v : Int32) : st (sr M i f) j k v = sr (st M j k v) i f := by
  have e : st (sr M i f) j k v = sr (sr M i f) j (upd (M.1 j) k v) := by
    unfold st
    rw [sr_ne _ _ (Ne.symm h)]
    rfl
  rw [e, sr_comm M h]
  rfl
def sX6_swapsAside (M : Mem)  : Mem :=
  tk (sr (sr M 101 (fb_put (M.1 101) (M.1 102) 0 (58))) 102 (fb_put (M.1 102) (M.1 101) 0 (58))) fun M1 =>
  M1
set_option maxHeartbeats 4000000 in
set_option maxRecDepth 100000 in
theorem kX6_swapsAside (l : Launch) (D : va_G) (cy : Nat → ClassId) (z : Nat → Nat) (hz : zI z) (M : Mem)  : KV l yX6_swapsAside wsX6_swapsAside { frames := 0, cells := 0, slots := 0, locals := 0 } D cy z 100 15 [.ref (z 100)] M (fun u => u = sX6_swapsAside M) := by
  refine met_wp (lv := [(0, .ref (z 100))]) hz (by decide) (by decide) rfl rfl (Nat.le_of_ble_eq_true rfl) rfl ?_
  intro p e s m below meth c hc hx hr hk
  have hNW := hx.2.1
  have hin6 : ∀ w ∈ wsX60, w ∈ wsX6_swapsAside := by decide +kernel
  have hf7 : Cond.fieldLink RX6 7 (TX6 0).1 (TX6 0).2.1 (TX6 0).2.2.1 ∈ wsX6_swapsAside := by decide +kernel
  have hf13 : Cond.fieldLink RX6 13 (TX6 1).1 (TX6 1).2.1 (TX6 1).2.2.1 ∈ wsX6_swapsAside := by decide +kernel
  refine wp_iconst (v := 0) hc dX6_swapsAside_0 (by decide) ?_
  refine wp_istore_n (lv' := [(1, .int 0), (0, .ref (z 100))]) hc dX6_swapsAside_1 (by decide) rfl ?_
  refine wp_eqM (M' := sr (sr M 101 (fb_put (M.1 101) (M.1 102) 0 (0))) 102 (fb_put (M.1 102) (M.1 101) 0 (0))) (by rw [fb_put_0, fb_put_0, sr_self]; exact sr_self _ _) ?_
  refine wp_lv (lv' := [(0, .ref (z 100)), (1, .int (nI (0)))]) [1, 0] rfl ?_
  refine wp_loop (58) (fun i => sr (sr M 101 (fb_put (M.1 101) (M.1 102) 0 (i))) 102 (fb_put (M.1 102) (M.1 101) 0 (i))) (fun i => [(0, .ref (z 100)), (1, .int (nI (i)))]) ?_ ?_ 0 (by omega)
  · show WP _ _ _ _ _ _ _ _ _ _ _ _ _ (sr (sr M 101 (fb_put (M.1 101) (M.1 102) 0 (58))) 102 (fb_put (M.1 102) (M.1 101) 0 (58))) [(0, .ref (z 100)), (1, .int (nI (58)))] _ _
    refine wp_nm (fun M1 hM1 => ?_)
    refine wp_iload_n hc 1 dX6_swapsAside_2 rfl ?_
    refine wp_bipush (v := 58) hc dX6_swapsAside_3 (by decide) ?_
    refine wp_icmp_ge (tgt := 40) hc dX6_swapsAside_5 (by decide) (fun _ => ?_) (fun c => absurd c (by decide))
    refine wp_vret hc hr hk ?_ dX6_swapsAside_40
    show M1 = sX6_swapsAside M
    rw [sX6_swapsAside, tk_eq hM1]
  · intro i hi ih
    show WP _ _ _ _ _ _ _ _ _ _ _ _ _ (sr (sr M 101 (fb_put (M.1 101) (M.1 102) 0 (i))) 102 (fb_put (M.1 102) (M.1 101) 0 (i))) [(0, .ref (z 100)), (1, .int (nI (i)))] _ _
    refine wp_nm (fun M2 hM2 => ?_)
    refine wp_iload_n hc 1 dX6_swapsAside_2 rfl ?_
    refine wp_bipush (v := 58) hc dX6_swapsAside_3 (by decide) ?_
    refine wp_icmp_ge (tgt := 40) hc dX6_swapsAside_5 (by decide) (fun c => absurd c (nIlt hi (by decide))) (fun _ => ?_)
    refine wp_aload_n hc 0 dX6_swapsAside_8 rfl ?_
    refine wp_get hc hx hin6 (j := 100) (by decide) (by decide) (ce_5 rfl) rfl 0 (by decide) hf7 rfl dX6_swapsAside_9 ?_
    refine wp_iload_n hc 1 dX6_swapsAside_12 rfl ?_
    refine wp_iald hc hx (j := 101) (by decide) (by decide) rfl i (nI_clamp (by omega)) (vpl 58 rfl (by omega) (by decide)) dX6_swapsAside_13 ?_
    refine wp_istore_n (lv' := [(2, .int (M2.1 101 i)), (0, .ref (z 100)), (1, .int (nI (i)))]) hc dX6_swapsAside_14 (by decide) rfl ?_
    refine wp_aload_n hc 1 dX6_swapsAside_15 rfl ?_
    refine wp_get hc hx hin6 (j := 100) (by decide) (by decide) (ce_5 rfl) rfl 0 (by decide) hf7 rfl dX6_swapsAside_16 ?_
    refine wp_iload_n hc 2 dX6_swapsAside_19 rfl ?_
    refine wp_aload_n hc 1 dX6_swapsAside_20 rfl ?_
    refine wp_get hc hx hin6 (j := 100) (by decide) (by decide) (ce_5 rfl) rfl 1 (by decide) hf13 rfl dX6_swapsAside_21 ?_
    refine wp_iload_n hc 2 dX6_swapsAside_24 rfl ?_
    refine wp_iald hc hx (j := 102) (by decide) (by decide) rfl i (nI_clamp (by omega)) (vpl 58 rfl (by omega) (by decide)) dX6_swapsAside_25 ?_
    refine wp_iast hc hx (j := 101) (by decide) (by decide) rfl i (nI_clamp (by omega)) (vpl 58 rfl (by omega) (by decide)) dX6_swapsAside_26 ?_
    refine wp_nm (fun M3 hM3 => ?_)
    refine wp_aload_n hc 1 dX6_swapsAside_27 rfl ?_
    refine wp_get hc hx hin6 (j := 100) (by decide) (by decide) (ce_5 rfl) rfl 1 (by decide) hf13 rfl dX6_swapsAside_28 ?_
    refine wp_iload_n hc 2 dX6_swapsAside_31 rfl ?_
    refine wp_iload_n hc 0 dX6_swapsAside_32 rfl ?_
    refine wp_iast hc hx (j := 102) (by decide) (by decide) rfl i (nI_clamp (by omega)) (vpl 58 rfl (by omega) (by decide)) dX6_swapsAside_33 ?_
    refine wp_nm (fun M4 hM4 => ?_)
    refine wp_iinc (v := ((nI (i)) + 1)) (lv' := [(1, .int ((nI (i)) + 1)), (2, .int (M2.1 101 i)), (0, .ref (z 100))]) hc 2 dX6_swapsAside_34 rfl rfl (by decide) rfl ?_
    refine wp_goto (tgt := 2) hc dX6_swapsAside_37 (by decide) ?_
    rw [nI_1]
    have hEq : sr (sr M 101 (fb_put (M.1 101) (M.1 102) 0 (i + 1))) 102 (fb_put (M.1 102) (M.1 101) 0 (i + 1)) = M4 := by
      subst_vars
      rw [sr_row, sr_ne _ _ (by decide), sr_row, fb_put_out (by omega), fb_put_out (by omega)]
      rw [st_other (sr M 101 _) (by decide), st_put M 101 0 i i _ _ _ (by omega) rfl, st_put _ 102 0 i i _ _ _ (by omega) rfl]
    exact wp_eqM hEq (wp_lv [2, 0] rfl ih)
