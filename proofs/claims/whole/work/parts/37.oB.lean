/-- what a call that works on the draft may change: all of the works, the text, the draft -/
def SD (M : Mem) (x : Nat) : Prop := (1 ≤ x ∧ x ≤ 14) ∨ (16 + 12 * M.2.1 1 ≤ x ∧ x < 28 + 12 * M.2.1 1)
theorem sd_ros {M : Mem} {x : Int32 × Mem} (hy : 0 ≤ (M.1 10 4).toInt ∧ (M.1 10 4).toInt ≤ 120) (h : x = sX3_readOrders M) : KF (SD M) M x.2 := by
  have k := kf_ros hy
  rw [← h] at k
  exact KF.mono k (fun x q => by unfold SD; omega)
theorem sd_dr {M A B : Mem} (k : KF (SD M) M A) (h : B = sX5_drafted A) : KF (SD M) M B := by
  refine KF.trans k ?_
  rw [h]
  refine KF.mono (kfX5_drafted A) (fun x q => ?_)
  rw [k.2] at q
  unfold SD
  omega
theorem sd_ob {M A : Mem} {x : Int32 × Mem} {a : Nat} {i : Int32} (k : KF (SD M) M A) (ha : a = M.2.1 1) (h : x = sX5_obeyed A a i) : KF (SD M) M x.2 := by
  refine KF.trans k ?_
  have q := kfX5_obeyed A a i
  rw [← h] at q
  refine KF.mono q (fun x q => ?_)
  rw [ha] at q
  unfold SD
  omega
theorem sd_0 {M A : Mem} (k : KF (SD M) M A) : A.1 0 = M.1 0 := k.1 0 (by unfold SD; omega)
theorem sd_k4 {M : Mem} {A : Mem} (hR : RK M) (k : KF (SD M) M A) (h : M.1 (16 + 12 * M.2.1 0) 4 = 0 ∨ M.1 (16 + 12 * M.2.1 0) 4 = 1) : A.1 (16 + 12 * A.2.1 0) 4 = 0 ∨ A.1 (16 + 12 * A.2.1 0) 4 = 1 := by
  rw [k.2]
  have hne : M.2.1 0 ≠ M.2.1 1 := fun q => by have := hR.2 0 1 (by decide) (by decide) q; omega
  rw [k.1 _ (by unfold SD; omega)]
  exact h
theorem do_next {A : Mem} {x : Int32 × Mem} {a : Nat} {i : Int32} {f : Nat} (h0 : 0 ≤ i.toInt) (h : x = sX5_obeyed A a i) (hf : ((A.1 10 5).toInt - i.toInt).toNat < f + 1) (c : ¬ A.1 10 5 ≤ i) : ((x.2.1 10 5).toInt - (i + 1).toInt).toNat < f ∧ x.2.1 10 = A.1 10 ∧ 0 ≤ (i + 1).toInt := by
  have q := kfX5_obeyed A a i
  rw [← h] at q
  have e : x.2.1 10 = A.1 10 := q.1 10 (by omega)
  have c2 := le_nT c
  have r := (fb_rng (A.1 10 5)).2
  have e1 : (1 : Int32).toInt = 1 := rfl
  have t : (i + 1).toInt = i.toInt + 1 := by rw [fb_addI (by rw [e1]; omega) (by rw [e1]; omega), e1]
  rw [e, t]
  exact ⟨by omega, rfl, by omega⟩
def wX5_does_25 (nx : Nat) : Nat → Int32 → Mem → Int32 × Mem
  | 0, _, A25 => (0, A25)
  | f + 1, i, A25 =>
  if (A25.1 10 5) ≤ i then
  tk (sX5_keepDraft A25) fun M3 =>
  ((M3.1 10 5), M3)
  else
  tk (sX5_obeyed A25 nx i) fun x4 =>
  if 0 ≤ x4.1 then
  wX5_does_25 nx f (i + 1) x4.2
  else
  (((-1000) - i), x4.2)
def sX5_does (M : Mem)  : Int32 × Mem :=
  tk (sX3_readOrders M) fun x1 =>
  if x1.1 = (-1) then
  tk (sX5_drafted x1.2) fun M2 =>
  wX5_does_25 (x1.2.2.1 1) (((M2.1 10 5).toInt.toNat + 1)) 0 M2
  else
  (((-10) - x1.1), x1.2)
set_option maxHeartbeats 4000000 in
set_option maxRecDepth 100000 in
theorem kX5_does (l : Launch) (D : va_G) (cy : Nat → ClassId) (z : Nat → Nat) (hz : zI z) (M : Mem)  (hR : RK M) (hp : 0 ≤ (M.1 0 5).toInt ∧ (M.1 0 5).toInt ≤ 5) (hk4 : M.1 (16 + 12 * M.2.1 0) 4 = 0 ∨ M.1 (16 + 12 * M.2.1 0) 4 = 1) (hy : 0 ≤ (M.1 10 4).toInt ∧ (M.1 10 4).toInt ≤ 120) : KI l yX5_does wsX5_does { frames := 7, cells := 0, slots := 0, locals := 168 } D cy z 0 100 [.ref (z 0)] M (fun r u => (r, u) = sX5_does M) := by
  refine met_wp (lv := [(0, .ref (z 0))]) hz (by decide) (by decide) rfl rfl (Nat.le_of_ble_eq_true rfl) rfl ?_
  intro p e s m below meth c hc hx hr hk
  have hNW := hx.2.1
  have hin3 : ∀ w ∈ wsX30, w ∈ wsX5_does := by decide +kernel
  have hin5 : ∀ w ∈ wsX50, w ∈ wsX5_does := by decide +kernel
  have hf19 : Cond.fieldLink RX5 19 (TX5 1).1 (TX5 1).2.1 (TX5 1).2.2.1 ∈ wsX5_does := by decide +kernel
  have hf148 : Cond.fieldLink RX5 148 (TX3 5).1 (TX3 5).2.1 (TX3 5).2.2.1 ∈ wsX5_does := by decide +kernel
  have cw37 : CallW ({ frames := 7, cells := 0, slots := 0, locals := 168 }) s _ RX5 RX5 37 yX5_drafted cX5_drafted 1 (some (.object "PortBench$State")) wsX5_drafted ({ frames := 3, cells := 0, slots := 0, locals := 86 }) 0 0 0 := cwV 0 hc.2.2.2.2 gX5_does_X5_drafted rfl rfl rfl (by decide +kernel) ⟨Nat.le_of_ble_eq_true rfl, Nat.le_of_ble_eq_true rfl⟩
  have cw145 : CallW ({ frames := 7, cells := 0, slots := 0, locals := 168 }) s _ RX5 RX3 145 yX3_readOrders cX3_readOrders 2 (some .int) wsX3_readOrders ({ frames := 4, cells := 0, slots := 0, locals := 86 }) 0 0 0 := cwV 0 hc.2.2.2.2 gX5_does_X3_readOrders rfl rfl rfl (by decide +kernel) ⟨Nat.le_of_ble_eq_true rfl, Nat.le_of_ble_eq_true rfl⟩
  have cw152 : CallW ({ frames := 7, cells := 0, slots := 0, locals := 168 }) s _ RX5 RX5 152 yX5_obeyed cX5_obeyed 3 (some .int) wsX5_obeyed ({ frames := 6, cells := 0, slots := 0, locals := 146 }) 0 0 2 := cwV 2 hc.2.2.2.2 gX5_does_X5_obeyed rfl rfl rfl (by decide +kernel) ⟨Nat.le_of_ble_eq_true rfl, Nat.le_of_ble_eq_true rfl⟩
  have cw155 : CallW ({ frames := 7, cells := 0, slots := 0, locals := 168 }) s _ RX5 RX5 155 yX5_keepDraft cX5_keepDraft 3 none wsX5_keepDraft ({ frames := 0, cells := 0, slots := 0, locals := 0 }) 0 0 0 := cwV 0 hc.2.2.2.2 gX5_does_X5_keepDraft rfl rfl rfl (by decide +kernel) ⟨Nat.le_of_ble_eq_true rfl, Nat.le_of_ble_eq_true rfl⟩
  refine wp_aload_n hc 0 dX5_does_0 rfl ?_
  refine wp_get hc hx hin5 (j := 0) (by decide) (by decide) (ce_4 rfl) rfl 1 (by decide) hf19 rfl dX5_does_1 ?_
  refine wp_callVw (As := []) (rest := []) (j := 10) (w := sX3_readOrders M) hc hx (kX3_readOrders l D cy z hz M hy) cw145 (by decide) (by decide) (ce_2 rfl) rfl rfl rfl rfl (Nat.le_of_ble_eq_true rfl) dX5_does_4 (fun x1 hx1 => ?_)
  refine wp_istore_n (lv' := [(1, .int x1.1), (0, .ref (z 0))]) hc dX5_does_7 (by decide) rfl ?_
  refine wp_iload_n hc 0 dX5_does_8 rfl ?_
  refine wp_iconst (v := (-1)) hc dX5_does_9 (by decide) ?_
  refine wp_icmp_eq (tgt := 18) hc dX5_does_10 (by decide) (fun c10 => ?_) (fun c10 => ?_)
  · refine wp_aload_n hc 1 dX5_does_18 rfl ?_
    refine wp_callVr (As := []) (rest := []) (j := 0) hc hx (kX5_drafted l D cy z hz x1.2 (RK.kf (sd_ros hy hx1) hR) (sd_k4 hR (sd_ros hy hx1) hk4)) cw37 (by decide) (by decide) (ce_4 rfl) rfl rfl rfl rfl (Nat.le_of_ble_eq_true rfl) dX5_does_19 (fun M2 hM2 => ?_)
    refine wp_astore_n (lv' := [(2, .ref (z (16 + 12 * (x1.2.2.1 1)))), (1, .int x1.1), (0, .ref (z 0))]) hc dX5_does_22 (by decide) rfl ?_
    refine wp_iconst (v := 0) hc dX5_does_23 (by decide) ?_
    refine wp_istore_n (lv' := [(3, .int 0), (2, .ref (z (16 + 12 * (x1.2.2.1 1)))), (1, .int x1.1), (0, .ref (z 0))]) hc dX5_does_24 (by decide) rfl ?_
    refine wp_lv (lv' := [(0, .ref (z 0)), (2, .ref (z (16 + 12 * (x1.2.2.1 1)))), (3, .int 0)]) [3, 1, 0] rfl ?_
    refine wp_rec (α := Int32 × Mem) (fun a => a.2.2) (fun a => [(0, .ref (z 0)), (2, .ref (z (16 + 12 * (x1.2.2.1 1)))), (3, .int a.2.1)]) (fun a => (((a.2.2.1 10 5).toInt - a.2.1.toInt).toNat < a.1 ∧ (KF (SD M) M a.2.2 ∧ 0 ≤ a.2.1.toInt)) ∧ sX5_does M = wX5_does_25 (x1.2.2.1 1) a.1 a.2.1 a.2.2) ?_ (((M2.1 10 5).toInt.toNat + 1), 0, M2) ⟨(show ((M2.1 10 5).toInt - (0 : Int32).toInt).toNat < ((M2.1 10 5).toInt.toNat + 1) ∧ (KF (SD M) M M2 ∧ 0 ≤ (0 : Int32).toInt) from (by have e0 : (0 : Int32).toInt = 0 := rfl; rw [e0]; exact ⟨by omega, sd_dr (sd_ros hy hx1) hM2, by omega⟩)), by rw [sX5_does, tk_eq hx1, if_pos c10, tk_eq hM2]⟩
    rintro ⟨f, i, A25⟩ ⟨hI, hS⟩ ih
    have hI : ((A25.1 10 5).toInt - i.toInt).toNat < f ∧ (KF (SD M) M A25 ∧ 0 ≤ i.toInt) := hI
    have hS : sX5_does M = wX5_does_25 (x1.2.2.1 1) f i A25 := hS
    show WP _ _ _ _ _ _ _ _ _ _ _ _ _ A25 [(0, .ref (z 0)), (2, .ref (z (16 + 12 * (x1.2.2.1 1)))), (3, .int i)] _ _
    cases f with
    | zero => exact absurd hI.1 (Nat.not_lt_zero _)
    | succ f =>
      refine wp_iload_n hc 2 dX5_does_25 rfl ?_
      refine wp_aload_n hc 0 dX5_does_26 rfl ?_
      refine wp_get hc hx hin5 (j := 0) (by decide) (by decide) (ce_4 rfl) rfl 1 (by decide) hf19 rfl dX5_does_27 ?_
      refine wp_get hc hx hin3 (j := 10) (by decide) (by decide) (ce_2 rfl) rfl 5 (by decide) hf148 rfl dX5_does_30 ?_
      refine wp_icmp_ge (tgt := 57) hc dX5_does_33 (by decide) (fun c33 => ?_) (fun c33 => ?_)
      · refine wp_aload_n hc 0 dX5_does_57 rfl ?_
        refine wp_callVvw (As := []) (rest := []) (j := 0) (w := sX5_keepDraft A25) hc hx (kX5_keepDraft l D cy z hz A25 (RK.kf hI.2.1 hR) (by rw [sd_0 hI.2.1]; exact hp)) cw155 (by decide) (by decide) (ce_4 rfl) rfl rfl rfl rfl (Nat.le_of_ble_eq_true rfl) dX5_does_58 (fun M3 hM3 => ?_)
        refine wp_aload_n hc 0 dX5_does_61 rfl ?_
        refine wp_get hc hx hin5 (j := 0) (by decide) (by decide) (ce_4 rfl) rfl 1 (by decide) hf19 rfl dX5_does_62 ?_
        refine wp_get hc hx hin3 (j := 10) (by decide) (by decide) (ce_2 rfl) rfl 5 (by decide) hf148 rfl dX5_does_65 ?_
        refine wp_iret hc hr hk ?_ dX5_does_68
        show ((M3.1 10 5), M3) = sX5_does M
        rw [hS, wX5_does_25, if_pos c33, tk_eq hM3]
      refine wp_aload_n hc 0 dX5_does_36 rfl ?_
      refine wp_aload_n hc 1 dX5_does_37 rfl ?_
      refine wp_iload_n hc 2 dX5_does_38 rfl ?_
      refine wp_callVw (As := [.ref (z (16 + 12 * (x1.2.2.1 1))), .int i]) (rest := []) (j := 0) (w := sX5_obeyed A25 (x1.2.2.1 1) i) hc hx (kX5_obeyed l D cy z hz A25 (x1.2.2.1 1) i (RH.kf (sd_ros hy hx1) hR.1 1 (by decide))) cw152 (by decide) (by decide) (ce_4 rfl) rfl rfl rfl rfl (Nat.le_of_ble_eq_true rfl) dX5_does_39 (fun x4 hx4 => ?_)
      refine wp_if_ge (tgt := 51) hc dX5_does_42 (by decide) (fun c42 => ?_) (fun c42 => ?_)
      · refine wp_iinc (v := (i + 1)) (lv' := [(3, .int (i + 1)), (0, .ref (z 0)), (2, .ref (z (16 + 12 * (x1.2.2.1 1))))]) hc 2 dX5_does_51 rfl rfl (by decide) rfl ?_
        refine wp_goto (tgt := 25) hc dX5_does_54 (by decide) ?_
        exact wp_lv [1, 2, 0] rfl (ih (f, (i + 1), x4.2) ⟨(show ((x4.2.1 10 5).toInt - (i + 1).toInt).toNat < f ∧ (KF (SD M) M x4.2 ∧ 0 ≤ (i + 1).toInt) from (by have q := do_next hI.2.2 hx4 hI.1 c33; exact ⟨q.1, sd_ob hI.2.1 (by rw [(sd_ros hy hx1).2]) hx4, q.2.2⟩)), by rw [hS, wX5_does_25, if_neg c33, tk_eq hx4, if_pos c42]⟩ (Nat.lt_succ_self f))
      refine wp_sipush (v := (-1000)) hc dX5_does_45 (by decide) ?_
      refine wp_iload_n hc 2 dX5_does_48 rfl ?_
      refine wp_isub hc dX5_does_49 ?_
      refine wp_iret hc hr hk ?_ dX5_does_50
      show (((-1000) - i), x4.2) = sX5_does M
      rw [hS, wX5_does_25, if_neg c33, tk_eq hx4, if_neg c42]
  refine wp_bipush (v := (-10)) hc dX5_does_13 (by decide) ?_
  refine wp_iload_n hc 0 dX5_does_15 rfl ?_
  refine wp_isub hc dX5_does_16 ?_
  refine wp_iret hc hr hk ?_ dX5_does_17
  show (((-10) - x1.1), x1.2) = sX5_does M
  rw [sX5_does, tk_eq hx1, if_neg c10]
