/-- how many of the first i learnt ones are what the errors are -/
def ctE (f n : Nat → Int32) : Nat → Int32
  | 0 => 0
  | i + 1 => if f i = n (33 + i) then ctE f n i + 1 else ctE f n i + 0
theorem ctE_y {f n : Nat → Int32} {i : Nat} (h : f i = n (33 + i)) : ctE f n i + 1 = ctE f n (i + 1) := by rw [ctE, if_pos h]
theorem ctE_n {f n : Nat → Int32} {i : Nat} (h : ¬ f i = n (33 + i)) : ctE f n i + 0 = ctE f n (i + 1) := by rw [ctE, if_neg h]
/-- a row from s on four places down -/
def drp (f : Nat → Int32) (s i : Nat) : Nat → Int32 := fun k => if s ≤ k ∧ k < i then f (k + 4) else f k
theorem drp_0 (f : Nat → Int32) (s : Nat) : drp f s s = f := by funext k; exact if_neg (by omega)
theorem drp_out {f : Nat → Int32} {s i k : Nat} (h : k < s ∨ i ≤ k) : drp f s i k = f k := if_neg (by omega)
theorem drp_s (f : Nat → Int32) {s i : Nat} (h : s ≤ i) : upd (drp f s i) i (f (i + 4)) = drp f s (i + 1) := by
  funext k
  by_cases e : k = i
  · subst e
    rw [pk_us]
    exact (if_pos (by omega)).symm
  · rw [pk_un e]
    unfold drp
    by_cases q : s ≤ k ∧ k < i
    · rw [if_pos q, if_pos (by omega)]
    · rw [if_neg q, if_neg (by omega)]
theorem ixt {M : Mem} {b : Int32} (h : 0 ≤ b.toInt ∧ b.toInt < 8) {k : Int32} (hk : 0 ≤ k.toInt ∧ k.toInt < 4) : vp_in (fX6_boxAt M b + 3 - k) (ln 101) := by
  have e := bxkT (M := M) (b := b) (by omega) (k := 3) (by decide)
  have e3 : (3 : Int32).toInt = 3 := rfl
  rw [e3] at e
  refine vin ?_
  rw [fb_subI (by omega) (by omega), e, ln101]
  omega
theorem m3T {d : Int32} (h : 0 ≤ d.toInt ∧ d.toInt ≤ 1) : (3 * d).toInt = 3 * d.toInt := by
  have e3 : (3 : Int32).toInt = 3 := rfl
  rw [fb_mulI (by rw [e3]; omega) (by rw [e3]; omega), e3]
theorem ixe1 {M : Mem} {b d : Int32} (h : 0 ≤ b.toInt ∧ b.toInt < 8) (hd : 0 ≤ d.toInt ∧ d.toInt ≤ 1) : vp_in (fX6_boxAt M b + 3 * d) (ln 101) := by
  have e := bxT M (b := b) (by omega)
  have e3 := m3T hd
  refine vin ?_
  rw [fb_addI (by omega) (by omega), e, e3, ln101]
  omega
theorem ixe2 {M : Mem} {b d : Int32} (h : 0 ≤ b.toInt ∧ b.toInt < 8) (hd : 0 ≤ d.toInt ∧ d.toInt ≤ 1) : vp_in (fX6_boxAt M b + 3 - 3 * d) (ln 101) := by
  have e := bxkT (M := M) (b := b) (by omega) (k := 3) (by decide)
  have e3 := m3T hd
  have e33 : (3 : Int32).toInt = 3 := rfl
  rw [e33] at e
  refine vin ?_
  rw [fb_subI (by omega) (by omega), e, e3, ln101]
  omega
theorem bx54 {M : Mem} {b : Int32} (h : 0 ≤ b.toInt ∧ b.toInt < 8) : 0 ≤ (fX6_boxAt M b).toInt ∧ (fX6_boxAt M b).toInt < 54 := by
  rw [bxT M (by omega)]
  omega
theorem ixa {x c : Int32} {k : Nat} (h : 0 ≤ x.toInt ∧ x.toInt < 54) (hc : c.toInt = (k : Int)) (hk : k < 4) : vp_in (x + c) (ln 101) := by
  refine vin ?_
  rw [fb_addI (by omega) (by omega), ln101]
  omega
theorem ixa1 {x c : Int32} (h : 0 ≤ x.toInt ∧ x.toInt < 54) (hc : 0 ≤ c.toInt ∧ c.toInt ≤ 1) : vp_in (x + c) (ln 101) := by
  refine vin ?_
  rw [fb_addI (by omega) (by omega), ln101]
  omega
theorem ixa2 {x c : Int32} (h : 0 ≤ x.toInt ∧ x.toInt < 54) (hc : 0 ≤ c.toInt ∧ c.toInt ≤ 1) : vp_in (x + c + 2) (ln 101) := by
  have e : (x + c).toInt = x.toInt + c.toInt := fb_addI (by omega) (by omega)
  have e2 : (2 : Int32).toInt = 2 := rfl
  refine vin ?_
  rw [fb_addI (by rw [e, e2]; omega) (by rw [e, e2]; omega), e, e2, ln101]
  omega
theorem ix0 {x : Int32} (h : 0 ≤ x.toInt ∧ x.toInt < 54) : vp_in x (ln 101) := by
  refine vin ?_
  rw [ln101]
  omega
theorem fr_rem3 (M : Mem) : (sX6_remembers M).1 104 = M.1 104 ∧ (sX6_remembers M).1 105 = M.1 105 ∧ (sX6_remembers M).1 107 = M.1 107 := by
  unfold sX6_remembers tk
  split <;> simp [st_ne, sr_ne]
def sX6_learnsNow (M : Mem)  : Int32 × Mem :=
  tk (st M 101 45 1) fun M1 =>
  tk (sr M1 101 (fb_put (M1.1 101) (M1.1 107) 46 (12))) fun M2 =>
  ((ctE (M1.1 107) (M1.1 101) (12)), M2)
set_option maxHeartbeats 4000000 in
set_option maxRecDepth 100000 in
theorem kX6_learnsNow (l : Launch) (D : va_G) (cy : Nat → ClassId) (z : Nat → Nat) (hz : zI z) (M : Mem)  : KI l yX6_learnsNow wsX6_learnsNow { frames := 0, cells := 0, slots := 0, locals := 0 } D cy z 100 15 [.ref (z 100)] M (fun r u => (r, u) = sX6_learnsNow M) := by
  refine met_wp (lv := [(0, .ref (z 100))]) hz (by decide) (by decide) rfl rfl (Nat.le_of_ble_eq_true rfl) rfl ?_
  intro p e s m below meth c hc hx hr hk
  have hNW := hx.2.1
  have hin6 : ∀ w ∈ wsX60, w ∈ wsX6_learnsNow := by decide +kernel
  have hf7 : Cond.fieldLink RX6 7 (TX6 0).1 (TX6 0).2.1 (TX6 0).2.2.1 ∈ wsX6_learnsNow := by decide +kernel
  have hf28 : Cond.fieldLink RX6 28 (TX6 9).1 (TX6 9).2.1 (TX6 9).2.2.1 ∈ wsX6_learnsNow := by decide +kernel
  refine wp_iconst (v := 0) hc dX6_learnsNow_0 (by decide) ?_
  refine wp_istore_n (lv' := [(1, .int 0), (0, .ref (z 100))]) hc dX6_learnsNow_1 (by decide) rfl ?_
  refine wp_aload_n hc 1 dX6_learnsNow_2 rfl ?_
  refine wp_get hc hx hin6 (j := 100) (by decide) (by decide) (ce_5 rfl) rfl 0 (by decide) hf7 rfl dX6_learnsNow_3 ?_
  refine wp_bipush (v := 45) hc dX6_learnsNow_6 (by decide) ?_
  refine wp_iconst (v := 1) hc dX6_learnsNow_8 (by decide) ?_
  refine wp_iast hc hx (j := 101) (by decide) (by decide) rfl 45 rfl (vin (by decide)) dX6_learnsNow_9 ?_
  refine wp_nm (fun M1 hM1 => ?_)
  refine wp_iconst (v := 0) hc dX6_learnsNow_10 (by decide) ?_
  refine wp_istore_n (lv' := [(2, .int 0), (1, .int 0), (0, .ref (z 100))]) hc dX6_learnsNow_11 (by decide) rfl ?_
  refine wp_eqM (M' := sr M1 101 (fb_put (M1.1 101) (M1.1 107) 46 (0))) (sr_put0 _ _ _ _) ?_
  refine wp_lv (lv' := [(0, .ref (z 100)), (1, .int (ctE (M1.1 107) (M1.1 101) (0))), (2, .int (nI (0)))]) [2, 1, 0] rfl ?_
  refine wp_loop (12) (fun i => sr M1 101 (fb_put (M1.1 101) (M1.1 107) 46 (i))) (fun i => [(0, .ref (z 100)), (1, .int (ctE (M1.1 107) (M1.1 101) (i))), (2, .int (nI (i)))]) ?_ ?_ 0 (by omega)
  · show WP _ _ _ _ _ _ _ _ _ _ _ _ _ (sr M1 101 (fb_put (M1.1 101) (M1.1 107) 46 (12))) [(0, .ref (z 100)), (1, .int (ctE (M1.1 107) (M1.1 101) (12))), (2, .int (nI (12)))] _ _
    refine wp_nm (fun M2 hM2 => ?_)
    refine wp_iload_n hc 2 dX6_learnsNow_12 rfl ?_
    refine wp_bipush (v := 12) hc dX6_learnsNow_13 (by decide) ?_
    refine wp_icmp_ge (tgt := 65) hc dX6_learnsNow_15 (by decide) (fun _ => ?_) (fun c => absurd c (by decide))
    refine wp_iload_n hc 1 dX6_learnsNow_65 rfl ?_
    refine wp_iret hc hr hk ?_ dX6_learnsNow_66
    show ((ctE (M1.1 107) (M1.1 101) (12)), M2) = sX6_learnsNow M
    rw [sX6_learnsNow, tk_eq hM1, tk_eq hM2]
  · intro i hi ih
    show WP _ _ _ _ _ _ _ _ _ _ _ _ _ (sr M1 101 (fb_put (M1.1 101) (M1.1 107) 46 (i))) [(0, .ref (z 100)), (1, .int (ctE (M1.1 107) (M1.1 101) (i))), (2, .int (nI (i)))] _ _
    refine wp_nm (fun M3 hM3 => ?_)
    refine wp_iload_n hc 2 dX6_learnsNow_12 rfl ?_
    refine wp_bipush (v := 12) hc dX6_learnsNow_13 (by decide) ?_
    refine wp_icmp_ge (tgt := 65) hc dX6_learnsNow_15 (by decide) (fun c => absurd c (nIlt hi (by decide))) (fun _ => ?_)
    refine wp_aload_n hc 0 dX6_learnsNow_18 rfl ?_
    refine wp_get hc hx hin6 (j := 100) (by decide) (by decide) (ce_5 rfl) rfl 0 (by decide) hf7 rfl dX6_learnsNow_19 ?_
    refine wp_bipush (v := 46) hc dX6_learnsNow_22 (by decide) ?_
    refine wp_iload_n hc 2 dX6_learnsNow_24 rfl ?_
    refine wp_iadd hc dX6_learnsNow_25 ?_
    refine wp_aload_n hc 0 dX6_learnsNow_26 rfl ?_
    refine wp_get hc hx hin6 (j := 100) (by decide) (by decide) (ce_5 rfl) rfl 9 (by decide) hf28 rfl dX6_learnsNow_27 ?_
    refine wp_iload_n hc 2 dX6_learnsNow_30 rfl ?_
    refine wp_iald hc hx (j := 107) (by decide) (by decide) rfl i (nI_clamp (by omega)) (vpl 12 rfl (by omega) (by decide)) dX6_learnsNow_31 ?_
    refine wp_iast hc hx (j := 101) (by decide) (by decide) rfl (46 + i) (by rw [show 46 + nI (i) = nI (46 + i) from nI_add 46 i]; exact nI_clamp (by omega)) (by rw [show 46 + nI (i) = nI (46 + i) from nI_add 46 i]; exact (vpl 58 rfl (by omega) (by decide))) dX6_learnsNow_32 ?_
    refine wp_nm (fun M4 hM4 => ?_)
    refine wp_iload_n hc 1 dX6_learnsNow_33 rfl ?_
    refine wp_aload_n hc 0 dX6_learnsNow_34 rfl ?_
    refine wp_get hc hx hin6 (j := 100) (by decide) (by decide) (ce_5 rfl) rfl 9 (by decide) hf28 rfl dX6_learnsNow_35 ?_
    refine wp_iload_n hc 2 dX6_learnsNow_38 rfl ?_
    refine wp_iald hc hx (j := 107) (by decide) (by decide) rfl i (nI_clamp (by omega)) (vpl 12 rfl (by omega) (by decide)) dX6_learnsNow_39 ?_
    refine wp_aload_n hc 0 dX6_learnsNow_40 rfl ?_
    refine wp_get hc hx hin6 (j := 100) (by decide) (by decide) (ce_5 rfl) rfl 0 (by decide) hf7 rfl dX6_learnsNow_41 ?_
    refine wp_bipush (v := 33) hc dX6_learnsNow_44 (by decide) ?_
    refine wp_iload_n hc 2 dX6_learnsNow_46 rfl ?_
    refine wp_iadd hc dX6_learnsNow_47 ?_
    refine wp_iald hc hx (j := 101) (by decide) (by decide) rfl (33 + i) (by rw [show 33 + nI (i) = nI (33 + i) from nI_add 33 i]; exact nI_clamp (by omega)) (by rw [show 33 + nI (i) = nI (33 + i) from nI_add 33 i]; exact (vpl 58 rfl (by omega) (by decide))) dX6_learnsNow_48 ?_
    refine wp_icmp_ne (tgt := 56) hc dX6_learnsNow_49 (by decide) (fun c49 => ?_) (fun c49 => ?_)
    · refine wp_iconst (v := 0) hc dX6_learnsNow_56 (by decide) ?_
      refine wp_iadd hc dX6_learnsNow_57 ?_
      refine wp_istore_n (lv' := [(1, .int ((ctE (M1.1 107) (M1.1 101) (i)) + 0)), (0, .ref (z 100)), (2, .int (nI (i)))]) hc dX6_learnsNow_58 (by decide) rfl ?_
      refine wp_iinc (v := ((nI (i)) + 1)) (lv' := [(2, .int ((nI (i)) + 1)), (1, .int ((ctE (M1.1 107) (M1.1 101) (i)) + 0)), (0, .ref (z 100))]) hc 2 dX6_learnsNow_59 rfl rfl (by decide) rfl ?_
      refine wp_goto (tgt := 12) hc dX6_learnsNow_62 (by decide) ?_
      rw [nI_1]
      have e1 : M4.1 107 = M1.1 107 := by rw [hM4, st_ne _ _ _ (by decide), hM3, sr_ne _ _ (by decide)]
      have e2 : M4.1 101 (33 + i) = M1.1 101 (33 + i) := by rw [hM4, st_row, pk_un (by omega), hM3, sr_row, fb_put_out (by omega)]
      rw [e1, e2] at c49
      first | rw [ctE_y c49] | rw [ctE_n c49]
      have hEq : sr M1 101 (fb_put (M1.1 101) (M1.1 107) 46 (i + 1)) = M4 := by
        rw [hM4, hM3]
        exact (st_put _ _ _ _ _ _ _ _ rfl (by rw [sr_ne _ _ (by decide)])).symm
      exact wp_eqM hEq (wp_lv [2, 1, 0] rfl ih)
    refine wp_iconst (v := 1) hc dX6_learnsNow_52 (by decide) ?_
    refine wp_goto (tgt := 57) hc dX6_learnsNow_53 (by decide) ?_
    refine wp_iadd hc dX6_learnsNow_57 ?_
    refine wp_istore_n (lv' := [(1, .int ((ctE (M1.1 107) (M1.1 101) (i)) + 1)), (0, .ref (z 100)), (2, .int (nI (i)))]) hc dX6_learnsNow_58 (by decide) rfl ?_
    refine wp_iinc (v := ((nI (i)) + 1)) (lv' := [(2, .int ((nI (i)) + 1)), (1, .int ((ctE (M1.1 107) (M1.1 101) (i)) + 1)), (0, .ref (z 100))]) hc 2 dX6_learnsNow_59 rfl rfl (by decide) rfl ?_
    refine wp_goto (tgt := 12) hc dX6_learnsNow_62 (by decide) ?_
    rw [nI_1]
    have e1 : M4.1 107 = M1.1 107 := by rw [hM4, st_ne _ _ _ (by decide), hM3, sr_ne _ _ (by decide)]
    have e2 : M4.1 101 (33 + i) = M1.1 101 (33 + i) := by rw [hM4, st_row, pk_un (by omega), hM3, sr_row, fb_put_out (by omega)]
    rw [e1, e2] at c49
    first | rw [ctE_y c49] | rw [ctE_n c49]
    have hEq : sr M1 101 (fb_put (M1.1 101) (M1.1 107) 46 (i + 1)) = M4 := by
      rw [hM4, hM3]
      exact (st_put _ _ _ _ _ _ _ _ rfl (by rw [sr_ne _ _ (by decide)])).symm
    exact wp_eqM hEq (wp_lv [2, 1, 0] rfl ih)
def sX6_learns (M : Mem)  : Int32 × Mem :=
  tk (sX6_canLearn M) fun x1 =>
  if x1.1 = 0 then
  tk (sX6_no x1.2) fun x4 =>
  (x4.1, x4.2)
  else
  tk (sX6_remembers x1.2) fun M2 =>
  tk (sX6_learnsNow M2) fun x3 =>
  (x3.1, x3.2)
set_option maxHeartbeats 4000000 in
set_option maxRecDepth 100000 in
theorem kX6_learns (l : Launch) (D : va_G) (cy : Nat → ClassId) (z : Nat → Nat) (hz : zI z) (M : Mem)  (hs : 0 ≤ (M.1 100 3).toInt ∧ (M.1 100 3).toInt ≤ 5) : KI l yX6_learns wsX6_learns { frames := 8, cells := 0, slots := 0, locals := 184 } D cy z 100 15 [.ref (z 100)] M (fun r u => (r, u) = sX6_learns M) := by
  refine met_wp (lv := [(0, .ref (z 100))]) hz (by decide) (by decide) rfl rfl (Nat.le_of_ble_eq_true rfl) rfl ?_
  intro p e s m below meth c hc hx hr hk
  have hNW := hx.2.1
  have cw56 : CallW ({ frames := 8, cells := 0, slots := 0, locals := 184 }) s _ RX6 RX6 56 yX6_no cX6_no 1 (some .int) wsX6_no ({ frames := 0, cells := 0, slots := 0, locals := 0 }) 0 0 0 := cwV 0 hc.2.2.2.2 gX6_learns_X6_no rfl rfl rfl (by decide +kernel) ⟨Nat.le_of_ble_eq_true rfl, Nat.le_of_ble_eq_true rfl⟩
  have cw91 : CallW ({ frames := 8, cells := 0, slots := 0, locals := 184 }) s _ RX6 RX6 91 yX6_remembers cX6_remembers 2 none wsX6_remembers ({ frames := 0, cells := 0, slots := 0, locals := 0 }) 0 0 0 := cwV 0 hc.2.2.2.2 gX6_learns_X6_remembers rfl rfl rfl (by decide +kernel) ⟨Nat.le_of_ble_eq_true rfl, Nat.le_of_ble_eq_true rfl⟩
  have cw155 : CallW ({ frames := 8, cells := 0, slots := 0, locals := 184 }) s _ RX6 RX6 155 yX6_canLearn cX6_canLearn 1 (some .boolean) wsX6_canLearn ({ frames := 7, cells := 0, slots := 0, locals := 164 }) 0 0 0 := cwV 0 hc.2.2.2.2 gX6_learns_X6_canLearn rfl rfl rfl (by decide +kernel) ⟨Nat.le_of_ble_eq_true rfl, Nat.le_of_ble_eq_true rfl⟩
  have cw159 : CallW ({ frames := 8, cells := 0, slots := 0, locals := 184 }) s _ RX6 RX6 159 yX6_learnsNow cX6_learnsNow 3 (some .int) wsX6_learnsNow ({ frames := 0, cells := 0, slots := 0, locals := 0 }) 0 0 0 := cwV 0 hc.2.2.2.2 gX6_learns_X6_learnsNow rfl rfl rfl (by decide +kernel) ⟨Nat.le_of_ble_eq_true rfl, Nat.le_of_ble_eq_true rfl⟩
  refine wp_aload_n hc 0 dX6_learns_0 rfl ?_
  refine wp_callVw (As := []) (rest := []) (j := 100) (w := sX6_canLearn M) hc hx (kX6_canLearn l D cy z hz M) cw155 (by decide) (by decide) (ce_5 rfl) rfl rfl rfl rfl (Nat.le_of_ble_eq_true rfl) dX6_learns_1 (fun x1 hx1 => ?_)
  refine wp_if_ne (tgt := 12) hc dX6_learns_4 (by decide) (fun c4 => ?_) (fun c4 => ?_)
  · refine wp_aload_n hc 0 dX6_learns_12 rfl ?_
    refine wp_callVvw (As := []) (rest := []) (j := 100) (w := sX6_remembers x1.2) hc hx (kX6_remembers l D cy z hz x1.2 (KP.hs (show KP2 M x1 from by rw [hx1]; apply kpX6_canLearn) hs)) cw91 (by decide) (by decide) (ce_5 rfl) rfl rfl rfl rfl (Nat.le_of_ble_eq_true rfl) dX6_learns_13 (fun M2 hM2 => ?_)
    refine wp_aload_n hc 0 dX6_learns_16 rfl ?_
    refine wp_callVw (As := []) (rest := []) (j := 100) (w := sX6_learnsNow M2) hc hx (kX6_learnsNow l D cy z hz M2) cw159 (by decide) (by decide) (ce_5 rfl) rfl rfl rfl rfl (Nat.le_of_ble_eq_true rfl) dX6_learns_17 (fun x3 hx3 => ?_)
    refine wp_iret hc hr hk ?_ dX6_learns_20
    show (x3.1, x3.2) = sX6_learns M
    rw [sX6_learns, tk_eq hx1, if_neg c4, tk_eq hM2, tk_eq hx3]
  refine wp_aload_n hc 0 dX6_learns_7 rfl ?_
  refine wp_callVw (As := []) (rest := []) (j := 100) (w := sX6_no x1.2) hc hx (kX6_no l D cy z hz x1.2) cw56 (by decide) (by decide) (ce_5 rfl) rfl rfl rfl rfl (Nat.le_of_ble_eq_true rfl) dX6_learns_8 (fun x4 hx4 => ?_)
  refine wp_iret hc hr hk ?_ dX6_learns_11
  show (x4.1, x4.2) = sX6_learns M
  rw [sX6_learns, tk_eq hx1, if_pos c4, tk_eq hx4]
theorem sub1T {x : Int32} (h : 0 ≤ x.toInt ∧ x.toInt ≤ 5) (c : ¬ x = 0) : 0 ≤ (x - 1).toInt ∧ (x - 1).toInt ≤ 4 := by
  have h0 : x.toInt ≠ 0 := fun q => c (Int32.toInt_inj.mp q)
  have e : (1 : Int32).toInt = 1 := rfl
  rw [fb_subI (by rw [e]; omega) (by rw [e]; omega), e]
  omega
def sX6_back (M : Mem)  : Int32 × Mem :=
  if (M.1 100 3) = 0 then
  tk (sX6_no M) fun x5 =>
  (x5.1, x5.2)
  else
  tk (st M 100 3 ((M.1 100 3) - 1)) fun M1 =>
  tk (sr M1 101 (fb_put (M1.1 101) (fun k => M1.1 103 (58 * (M1.1 100 3).toNatClampNeg + k)) 0 (58))) fun M2 =>
  ((M2.1 100 3), M2)
set_option maxHeartbeats 4000000 in
set_option maxRecDepth 100000 in
theorem kX6_back (l : Launch) (D : va_G) (cy : Nat → ClassId) (z : Nat → Nat) (hz : zI z) (M : Mem)  (hs : 0 ≤ (M.1 100 3).toInt ∧ (M.1 100 3).toInt ≤ 5) : KI l yX6_back wsX6_back { frames := 1, cells := 0, slots := 0, locals := 20 } D cy z 100 15 [.ref (z 100)] M (fun r u => (r, u) = sX6_back M) := by
  refine met_wp (lv := [(0, .ref (z 100))]) hz (by decide) (by decide) rfl rfl (Nat.le_of_ble_eq_true rfl) rfl ?_
  intro p e s m below meth c hc hx hr hk
  have hNW := hx.2.1
  have hin6 : ∀ w ∈ wsX60, w ∈ wsX6_back := by decide +kernel
  have hf7 : Cond.fieldLink RX6 7 (TX6 0).1 (TX6 0).2.1 (TX6 0).2.2.1 ∈ wsX6_back := by decide +kernel
  have hf16 : Cond.fieldLink RX6 16 (TX6 2).1 (TX6 2).2.1 (TX6 2).2.2.1 ∈ wsX6_back := by decide +kernel
  have hf52 : Cond.fieldLink RX6 52 (TX6 3).1 (TX6 3).2.1 (TX6 3).2.2.1 ∈ wsX6_back := by decide +kernel
  have cw56 : CallW ({ frames := 1, cells := 0, slots := 0, locals := 20 }) s _ RX6 RX6 56 yX6_no cX6_no 1 (some .int) wsX6_no ({ frames := 0, cells := 0, slots := 0, locals := 0 }) 0 0 0 := cwV 0 hc.2.2.2.2 gX6_back_X6_no rfl rfl rfl (by decide +kernel) ⟨Nat.le_of_ble_eq_true rfl, Nat.le_of_ble_eq_true rfl⟩
  refine wp_aload_n hc 0 dX6_back_0 rfl ?_
  refine wp_get hc hx hin6 (j := 100) (by decide) (by decide) (ce_5 rfl) rfl 3 (by decide) hf52 rfl dX6_back_1 ?_
  refine wp_if_ne (tgt := 12) hc dX6_back_4 (by decide) (fun c4 => ?_) (fun c4 => ?_)
  · refine wp_aload_n hc 0 dX6_back_12 rfl ?_
    refine wp_dup hc dX6_back_13 rfl ?_
    refine wp_get hc hx hin6 (j := 100) (by decide) (by decide) (ce_5 rfl) rfl 3 (by decide) hf52 rfl dX6_back_14 ?_
    refine wp_iconst (v := 1) hc dX6_back_17 (by decide) ?_
    refine wp_isub hc dX6_back_18 ?_
    refine wp_put (M' := st M 100 3 ((M.1 100 3) - 1)) hc hx hin6 tyX6 tyX6_ok nmX6 (j := 100) (by decide) (by decide) (ce_5 rfl) rfl 3 (by decide) hf52 rfl rfl rfl (Nat.le_of_ble_eq_true rfl) (by rw [ce_5 rfl]; exact ce_stM3 _ _ _) (fun i hi => ce_row (va_up_ne _ _ hi) rfl) dX6_back_19 ?_
    refine wp_nm (fun M1 hM1 => ?_)
    refine wp_iconst (v := 0) hc dX6_back_22 (by decide) ?_
    refine wp_istore_n (lv' := [(1, .int 0), (0, .ref (z 100))]) hc dX6_back_23 (by decide) rfl ?_
    have hst : 0 ≤ (M1.1 100 3).toInt ∧ (M1.1 100 3).toInt ≤ 4 := by
      rw [hM1, st_row, pk_us]
      exact sub1T hs c4
    refine wp_eqM (M' := sr M1 101 (fb_put (M1.1 101) (fun k => M1.1 103 (58 * (M1.1 100 3).toNatClampNeg + k)) 0 (0))) (sr_put0 _ _ _ _) ?_
    refine wp_lv (lv' := [(0, .ref (z 100)), (1, .int (nI (0)))]) [1, 0] rfl ?_
    refine wp_loop (58) (fun i => sr M1 101 (fb_put (M1.1 101) (fun k => M1.1 103 (58 * (M1.1 100 3).toNatClampNeg + k)) 0 (i))) (fun i => [(0, .ref (z 100)), (1, .int (nI (i)))]) ?_ ?_ 0 (by omega)
    · show WP _ _ _ _ _ _ _ _ _ _ _ _ _ (sr M1 101 (fb_put (M1.1 101) (fun k => M1.1 103 (58 * (M1.1 100 3).toNatClampNeg + k)) 0 (58))) [(0, .ref (z 100)), (1, .int (nI (58)))] _ _
      refine wp_nm (fun M2 hM2 => ?_)
      refine wp_iload_n hc 1 dX6_back_24 rfl ?_
      refine wp_bipush (v := 58) hc dX6_back_25 (by decide) ?_
      refine wp_icmp_ge (tgt := 56) hc dX6_back_27 (by decide) (fun _ => ?_) (fun c => absurd c (by decide))
      refine wp_aload_n hc 0 dX6_back_56 rfl ?_
      refine wp_get hc hx hin6 (j := 100) (by decide) (by decide) (ce_5 rfl) rfl 3 (by decide) hf52 rfl dX6_back_57 ?_
      refine wp_iret hc hr hk ?_ dX6_back_60
      show ((M2.1 100 3), M2) = sX6_back M
      rw [sX6_back, if_neg c4, tk_eq hM1, tk_eq hM2]
    · intro i hi ih
      show WP _ _ _ _ _ _ _ _ _ _ _ _ _ (sr M1 101 (fb_put (M1.1 101) (fun k => M1.1 103 (58 * (M1.1 100 3).toNatClampNeg + k)) 0 (i))) [(0, .ref (z 100)), (1, .int (nI (i)))] _ _
      refine wp_nm (fun M3 hM3 => ?_)
      have hSi : M3.1 100 3 = M1.1 100 3 := by rw [hM3, sr_ne _ _ (by decide)]
      refine wp_iload_n hc 1 dX6_back_24 rfl ?_
      refine wp_bipush (v := 58) hc dX6_back_25 (by decide) ?_
      refine wp_icmp_ge (tgt := 56) hc dX6_back_27 (by decide) (fun c => absurd c (nIlt hi (by decide))) (fun _ => ?_)
      refine wp_aload_n hc 0 dX6_back_30 rfl ?_
      refine wp_get hc hx hin6 (j := 100) (by decide) (by decide) (ce_5 rfl) rfl 0 (by decide) hf7 rfl dX6_back_31 ?_
      refine wp_iload_n hc 1 dX6_back_34 rfl ?_
      refine wp_aload_n hc 0 dX6_back_35 rfl ?_
      refine wp_get hc hx hin6 (j := 100) (by decide) (by decide) (ce_5 rfl) rfl 2 (by decide) hf16 rfl dX6_back_36 ?_
      refine wp_bipush (v := 58) hc dX6_back_39 (by decide) ?_
      refine wp_aload_n hc 0 dX6_back_41 rfl ?_
      refine wp_get hc hx hin6 (j := 100) (by decide) (by decide) (ce_5 rfl) rfl 3 (by decide) hf52 rfl dX6_back_42 ?_
      refine wp_imul hc dX6_back_45 ?_
      refine wp_iload_n hc 1 dX6_back_46 rfl ?_
      refine wp_iadd hc dX6_back_47 ?_
      refine wp_iald hc hx (j := 103) (by decide) (by decide) rfl (58 * (M1.1 100 3).toNatClampNeg + i) (by rw [hSi]; exact cl_of (pastT hst hi)) (vin (by rw [hSi, pastT hst hi, ln103]; have := cl_T hst.1; omega)) dX6_back_48 ?_
      refine wp_iast hc hx (j := 101) (by decide) (by decide) rfl i (nI_clamp (by omega)) (vpl 58 rfl (by omega) (by decide)) dX6_back_49 ?_
      refine wp_nm (fun M4 hM4 => ?_)
      refine wp_iinc (v := ((nI (i)) + 1)) (lv' := [(1, .int ((nI (i)) + 1)), (0, .ref (z 100))]) hc 1 dX6_back_50 rfl rfl (by decide) rfl ?_
      refine wp_goto (tgt := 24) hc dX6_back_53 (by decide) ?_
      rw [nI_1]
      have hEq : sr M1 101 (fb_put (M1.1 101) (fun k => M1.1 103 (58 * (M1.1 100 3).toNatClampNeg + k)) 0 (i + 1)) = M4 := by
        rw [hM4, hM3]
        exact (st_put _ _ _ _ _ _ _ _ (by omega) (by rw [sr_ne _ _ (by decide)])).symm
      exact wp_eqM hEq (wp_lv [1, 0] rfl ih)
  refine wp_aload_n hc 0 dX6_back_7 rfl ?_
  refine wp_callVw (As := []) (rest := []) (j := 100) (w := sX6_no M) hc hx (kX6_no l D cy z hz M) cw56 (by decide) (by decide) (ce_5 rfl) rfl rfl rfl rfl (Nat.le_of_ble_eq_true rfl) dX6_back_8 (fun x5 hx5 => ?_)
  refine wp_iret hc hr hk ?_ dX6_back_11
  show (x5.1, x5.2) = sX6_back M
  rw [sX6_back, if_pos c4, tk_eq hx5]
def sX6_turns (M : Mem) (i1 : Int32) : Int32 × Mem :=
  if (fX6_isBox M i1) = 0 then
  tk (sX6_bad M) fun x6 =>
  (x6.1, x6.2)
  else
  tk (st M 108 0 (M.1 101 (((fX6_boxAt M i1) + 3) - 0).toNatClampNeg)) fun M1 =>
  tk (st M1 108 1 (M1.1 101 (((fX6_boxAt M1 i1) + 3) - 1).toNatClampNeg)) fun M2 =>
  tk (st M2 108 2 (M2.1 101 (((fX6_boxAt M2 i1) + 3) - 2).toNatClampNeg)) fun M3 =>
  tk (st M3 108 3 (M3.1 101 (((fX6_boxAt M3 i1) + 3) - 3).toNatClampNeg)) fun M4 =>
  tk (sX6_comesMade M4 1) fun x5 =>
  (x5.1, x5.2)
set_option maxHeartbeats 4000000 in
set_option maxRecDepth 100000 in
theorem kX6_turns (l : Launch) (D : va_G) (cy : Nat → ClassId) (z : Nat → Nat) (hz : zI z) (M : Mem) (i1 : Int32) (hn : 0 ≤ (M.1 101 0).toInt ∧ (M.1 101 0).toInt ≤ 8) (hs : 0 ≤ (M.1 100 3).toInt ∧ (M.1 100 3).toInt ≤ 5) : KI l yX6_turns wsX6_turns { frames := 3, cells := 0, slots := 0, locals := 67 } D cy z 100 15 [.ref (z 100), .int i1] M (fun r u => (r, u) = sX6_turns M i1) := by
  refine met_wp (lv := [(0, .ref (z 100)), (1, .int i1)]) hz (by decide) (by decide) rfl rfl (Nat.le_of_ble_eq_true rfl) rfl ?_
  intro p e s m below meth c hc hx hr hk
  have hNW := hx.2.1
  have hin6 : ∀ w ∈ wsX60, w ∈ wsX6_turns := by decide +kernel
  have hf7 : Cond.fieldLink RX6 7 (TX6 0).1 (TX6 0).2.1 (TX6 0).2.2.1 ∈ wsX6_turns := by decide +kernel
  have hf31 : Cond.fieldLink RX6 31 (TX6 10).1 (TX6 10).2.1 (TX6 10).2.2.1 ∈ wsX6_turns := by decide +kernel
  have cw85 : CallW ({ frames := 3, cells := 0, slots := 0, locals := 67 }) s _ RX6 RX6 85 yX6_boxAt cX6_boxAt 2 (some .int) wsX6_boxAt ({ frames := 0, cells := 0, slots := 0, locals := 0 }) 0 0 1 := cwV 1 hc.2.2.2.2 gX6_turns_X6_boxAt rfl rfl rfl (by decide +kernel) ⟨Nat.le_of_ble_eq_true rfl, Nat.le_of_ble_eq_true rfl⟩
  have cw98 : CallW ({ frames := 3, cells := 0, slots := 0, locals := 67 }) s _ RX6 RX6 98 yX6_isBox cX6_isBox 2 (some .boolean) wsX6_isBox ({ frames := 1, cells := 0, slots := 0, locals := 22 }) 0 0 1 := cwV 1 hc.2.2.2.2 gX6_turns_X6_isBox rfl rfl rfl (by decide +kernel) ⟨Nat.le_of_ble_eq_true rfl, Nat.le_of_ble_eq_true rfl⟩
  have cw105 : CallW ({ frames := 3, cells := 0, slots := 0, locals := 67 }) s _ RX6 RX6 105 yX6_bad cX6_bad 1 (some .int) wsX6_bad ({ frames := 0, cells := 0, slots := 0, locals := 0 }) 0 0 0 := cwV 0 hc.2.2.2.2 gX6_turns_X6_bad rfl rfl rfl (by decide +kernel) ⟨Nat.le_of_ble_eq_true rfl, Nat.le_of_ble_eq_true rfl⟩
  have cw171 : CallW ({ frames := 3, cells := 0, slots := 0, locals := 67 }) s _ RX6 RX6 171 yX6_comesMade cX6_comesMade 2 (some .int) wsX6_comesMade ({ frames := 2, cells := 0, slots := 0, locals := 46 }) 0 0 1 := cwV 1 hc.2.2.2.2 gX6_turns_X6_comesMade rfl rfl rfl (by decide +kernel) ⟨Nat.le_of_ble_eq_true rfl, Nat.le_of_ble_eq_true rfl⟩
  refine wp_aload_n hc 0 dX6_turns_0 rfl ?_
  refine wp_iload_n hc 1 dX6_turns_1 rfl ?_
  refine wp_callVf (As := [.int i1]) (rest := []) (j := 100) (v := (fX6_isBox M i1)) hc hx (kX6_isBox l D cy z hz M i1) cw98 (by decide) (by decide) (ce_5 rfl) rfl rfl rfl rfl (Nat.le_of_ble_eq_true rfl) dX6_turns_2 ?_
  refine wp_if_ne (tgt := 13) hc dX6_turns_5 (by decide) (fun c5 => ?_) (fun c5 => ?_)
  · refine wp_iconst (v := 0) hc dX6_turns_13 (by decide) ?_
    refine wp_istore_n (lv' := [(2, .int 0), (0, .ref (z 100)), (1, .int i1)]) hc dX6_turns_14 (by decide) rfl ?_
    refine wp_iload_n hc 0 dX6_turns_15 rfl ?_
    refine wp_iconst (v := 4) hc dX6_turns_16 (by decide) ?_
    refine wp_icmp_ge (tgt := 46) hc dX6_turns_17 (by decide) (fun c => absurd c (by decide)) (fun _ => ?_)
    refine wp_aload_n hc 1 dX6_turns_20 rfl ?_
    refine wp_get hc hx hin6 (j := 100) (by decide) (by decide) (ce_5 rfl) rfl 10 (by decide) hf31 rfl dX6_turns_21 ?_
    refine wp_iload_n hc 0 dX6_turns_24 rfl ?_
    refine wp_aload_n hc 1 dX6_turns_25 rfl ?_
    refine wp_get hc hx hin6 (j := 100) (by decide) (by decide) (ce_5 rfl) rfl 0 (by decide) hf7 rfl dX6_turns_26 ?_
    refine wp_aload_n hc 1 dX6_turns_29 rfl ?_
    refine wp_iload_n hc 2 dX6_turns_30 rfl ?_
    refine wp_callVf (As := [.int i1]) (rest := [.ref (z 101), .int 0, .ref (z 108)]) (j := 100) (v := (fX6_boxAt M i1)) hc hx (kX6_boxAt l D cy z hz M i1) cw85 (by decide) (by decide) (ce_5 rfl) rfl rfl rfl rfl (Nat.le_of_ble_eq_true rfl) dX6_turns_31 ?_
    refine wp_iconst (v := 3) hc dX6_turns_34 (by decide) ?_
    refine wp_iadd hc dX6_turns_35 ?_
    refine wp_iload_n hc 0 dX6_turns_36 rfl ?_
    refine wp_isub hc dX6_turns_37 ?_
    refine wp_iald hc hx (j := 101) (by decide) (by decide) rfl (((fX6_boxAt M i1) + 3) - 0).toNatClampNeg rfl (ixt (isBox_8 hn c5) (by decide)) dX6_turns_38 ?_
    refine wp_iast hc hx (j := 108) (by decide) (by decide) rfl 0 rfl (vin (by decide)) dX6_turns_39 ?_
    refine wp_nm (fun M1 hM1 => ?_)
    have kM1 : KP M M1 := KP.trans KP.rf (by rw [hM1]; exact kp_st (by decide))
    refine wp_iinc (v := 1) (lv' := [(2, .int 1), (0, .ref (z 100)), (1, .int i1)]) hc 0 dX6_turns_40 rfl (by decide) (by decide) rfl ?_
    refine wp_goto (tgt := 15) hc dX6_turns_43 (by decide) ?_
    refine wp_iload_n hc 0 dX6_turns_15 rfl ?_
    refine wp_iconst (v := 4) hc dX6_turns_16 (by decide) ?_
    refine wp_icmp_ge (tgt := 46) hc dX6_turns_17 (by decide) (fun c => absurd c (by decide)) (fun _ => ?_)
    refine wp_aload_n hc 1 dX6_turns_20 rfl ?_
    refine wp_get hc hx hin6 (j := 100) (by decide) (by decide) (ce_5 rfl) rfl 10 (by decide) hf31 rfl dX6_turns_21 ?_
    refine wp_iload_n hc 0 dX6_turns_24 rfl ?_
    refine wp_aload_n hc 1 dX6_turns_25 rfl ?_
    refine wp_get hc hx hin6 (j := 100) (by decide) (by decide) (ce_5 rfl) rfl 0 (by decide) hf7 rfl dX6_turns_26 ?_
    refine wp_aload_n hc 1 dX6_turns_29 rfl ?_
    refine wp_iload_n hc 2 dX6_turns_30 rfl ?_
    refine wp_callVf (As := [.int i1]) (rest := [.ref (z 101), .int 1, .ref (z 108)]) (j := 100) (v := (fX6_boxAt M1 i1)) hc hx (kX6_boxAt l D cy z hz M1 i1) cw85 (by decide) (by decide) (ce_5 rfl) rfl rfl rfl rfl (Nat.le_of_ble_eq_true rfl) dX6_turns_31 ?_
    refine wp_iconst (v := 3) hc dX6_turns_34 (by decide) ?_
    refine wp_iadd hc dX6_turns_35 ?_
    refine wp_iload_n hc 0 dX6_turns_36 rfl ?_
    refine wp_isub hc dX6_turns_37 ?_
    refine wp_iald hc hx (j := 101) (by decide) (by decide) rfl (((fX6_boxAt M1 i1) + 3) - 1).toNatClampNeg rfl (ixt (isBox_8 hn c5) (by decide)) dX6_turns_38 ?_
    refine wp_iast hc hx (j := 108) (by decide) (by decide) rfl 1 rfl (vin (by decide)) dX6_turns_39 ?_
    refine wp_nm (fun M2 hM2 => ?_)
    have kM2 : KP M M2 := KP.trans kM1 (by rw [hM2]; exact kp_st (by decide))
    refine wp_iinc (v := 2) (lv' := [(2, .int 2), (0, .ref (z 100)), (1, .int i1)]) hc 0 dX6_turns_40 rfl (by decide) (by decide) rfl ?_
    refine wp_goto (tgt := 15) hc dX6_turns_43 (by decide) ?_
    refine wp_iload_n hc 0 dX6_turns_15 rfl ?_
    refine wp_iconst (v := 4) hc dX6_turns_16 (by decide) ?_
    refine wp_icmp_ge (tgt := 46) hc dX6_turns_17 (by decide) (fun c => absurd c (by decide)) (fun _ => ?_)
    refine wp_aload_n hc 1 dX6_turns_20 rfl ?_
    refine wp_get hc hx hin6 (j := 100) (by decide) (by decide) (ce_5 rfl) rfl 10 (by decide) hf31 rfl dX6_turns_21 ?_
    refine wp_iload_n hc 0 dX6_turns_24 rfl ?_
    refine wp_aload_n hc 1 dX6_turns_25 rfl ?_
    refine wp_get hc hx hin6 (j := 100) (by decide) (by decide) (ce_5 rfl) rfl 0 (by decide) hf7 rfl dX6_turns_26 ?_
    refine wp_aload_n hc 1 dX6_turns_29 rfl ?_
    refine wp_iload_n hc 2 dX6_turns_30 rfl ?_
    refine wp_callVf (As := [.int i1]) (rest := [.ref (z 101), .int 2, .ref (z 108)]) (j := 100) (v := (fX6_boxAt M2 i1)) hc hx (kX6_boxAt l D cy z hz M2 i1) cw85 (by decide) (by decide) (ce_5 rfl) rfl rfl rfl rfl (Nat.le_of_ble_eq_true rfl) dX6_turns_31 ?_
    refine wp_iconst (v := 3) hc dX6_turns_34 (by decide) ?_
    refine wp_iadd hc dX6_turns_35 ?_
    refine wp_iload_n hc 0 dX6_turns_36 rfl ?_
    refine wp_isub hc dX6_turns_37 ?_
    refine wp_iald hc hx (j := 101) (by decide) (by decide) rfl (((fX6_boxAt M2 i1) + 3) - 2).toNatClampNeg rfl (ixt (isBox_8 hn c5) (by decide)) dX6_turns_38 ?_
    refine wp_iast hc hx (j := 108) (by decide) (by decide) rfl 2 rfl (vin (by decide)) dX6_turns_39 ?_
    refine wp_nm (fun M3 hM3 => ?_)
    have kM3 : KP M M3 := KP.trans kM2 (by rw [hM3]; exact kp_st (by decide))
    refine wp_iinc (v := 3) (lv' := [(2, .int 3), (0, .ref (z 100)), (1, .int i1)]) hc 0 dX6_turns_40 rfl (by decide) (by decide) rfl ?_
    refine wp_goto (tgt := 15) hc dX6_turns_43 (by decide) ?_
    refine wp_iload_n hc 0 dX6_turns_15 rfl ?_
    refine wp_iconst (v := 4) hc dX6_turns_16 (by decide) ?_
    refine wp_icmp_ge (tgt := 46) hc dX6_turns_17 (by decide) (fun c => absurd c (by decide)) (fun _ => ?_)
    refine wp_aload_n hc 1 dX6_turns_20 rfl ?_
    refine wp_get hc hx hin6 (j := 100) (by decide) (by decide) (ce_5 rfl) rfl 10 (by decide) hf31 rfl dX6_turns_21 ?_
    refine wp_iload_n hc 0 dX6_turns_24 rfl ?_
    refine wp_aload_n hc 1 dX6_turns_25 rfl ?_
    refine wp_get hc hx hin6 (j := 100) (by decide) (by decide) (ce_5 rfl) rfl 0 (by decide) hf7 rfl dX6_turns_26 ?_
    refine wp_aload_n hc 1 dX6_turns_29 rfl ?_
    refine wp_iload_n hc 2 dX6_turns_30 rfl ?_
    refine wp_callVf (As := [.int i1]) (rest := [.ref (z 101), .int 3, .ref (z 108)]) (j := 100) (v := (fX6_boxAt M3 i1)) hc hx (kX6_boxAt l D cy z hz M3 i1) cw85 (by decide) (by decide) (ce_5 rfl) rfl rfl rfl rfl (Nat.le_of_ble_eq_true rfl) dX6_turns_31 ?_
    refine wp_iconst (v := 3) hc dX6_turns_34 (by decide) ?_
    refine wp_iadd hc dX6_turns_35 ?_
    refine wp_iload_n hc 0 dX6_turns_36 rfl ?_
    refine wp_isub hc dX6_turns_37 ?_
    refine wp_iald hc hx (j := 101) (by decide) (by decide) rfl (((fX6_boxAt M3 i1) + 3) - 3).toNatClampNeg rfl (ixt (isBox_8 hn c5) (by decide)) dX6_turns_38 ?_
    refine wp_iast hc hx (j := 108) (by decide) (by decide) rfl 3 rfl (vin (by decide)) dX6_turns_39 ?_
    refine wp_nm (fun M4 hM4 => ?_)
    have kM4 : KP M M4 := KP.trans kM3 (by rw [hM4]; exact kp_st (by decide))
    refine wp_iinc (v := 4) (lv' := [(2, .int 4), (0, .ref (z 100)), (1, .int i1)]) hc 0 dX6_turns_40 rfl (by decide) (by decide) rfl ?_
    refine wp_goto (tgt := 15) hc dX6_turns_43 (by decide) ?_
    refine wp_iload_n hc 0 dX6_turns_15 rfl ?_
    refine wp_iconst (v := 4) hc dX6_turns_16 (by decide) ?_
    refine wp_icmp_ge (tgt := 46) hc dX6_turns_17 (by decide) (fun _ => ?_) (fun c => absurd c (by decide))
    refine wp_aload_n hc 1 dX6_turns_46 rfl ?_
    refine wp_iconst (v := 1) hc dX6_turns_47 (by decide) ?_
    refine wp_callVw (As := [.int 1]) (rest := []) (j := 100) (w := sX6_comesMade M4 1) hc hx (kX6_comesMade l D cy z hz M4 1 (KP.hn kM4 hn) (KP.hs kM4 hs)) cw171 (by decide) (by decide) (ce_5 rfl) rfl rfl rfl rfl (Nat.le_of_ble_eq_true rfl) dX6_turns_48 (fun x5 hx5 => ?_)
    refine wp_iret hc hr hk ?_ dX6_turns_51
    show (x5.1, x5.2) = sX6_turns M i1
    rw [sX6_turns, if_neg c5, tk_eq hM1, tk_eq hM2, tk_eq hM3, tk_eq hM4, tk_eq hx5]
  refine wp_aload_n hc 0 dX6_turns_8 rfl ?_
  refine wp_callVw (As := []) (rest := []) (j := 100) (w := sX6_bad M) hc hx (kX6_bad l D cy z hz M) cw105 (by decide) (by decide) (ce_5 rfl) rfl rfl rfl rfl (Nat.le_of_ble_eq_true rfl) dX6_turns_9 (fun x6 hx6 => ?_)
  refine wp_iret hc hr hk ?_ dX6_turns_12
  show (x6.1, x6.2) = sX6_turns M i1
  rw [sX6_turns, if_pos c5, tk_eq hx6]
def sX6_ends (M : Mem) (i1 : Int32) (i2 : Int32) (i3 : Int32) (i4 : Int32) : Int32 × Mem :=
  if (fX6_isBox M i1) = 0 then
  tk (sX6_bad M) fun x1 =>
  (x1.1, x1.2)
  else
  if (fX6_in i2 0 1) = 0 then
  tk (sX6_bad M) fun x2 =>
  (x2.1, x2.2)
  else
  if (fX6_isPart i3) = 0 then
  tk (sX6_bad M) fun x3 =>
  (x3.1, x3.2)
  else
  if (fX6_isPart i4) = 0 then
  tk (sX6_bad M) fun x7 =>
  (x7.1, x7.2)
  else
  tk (st M 100 7 0) fun M4 =>
  tk (sX6_over M4 (fX6_by (fX6_by (M4.1 101 ((fX6_boxAt M i1) + 1).toNatClampNeg) (M4.1 101 ((fX6_boxAt M i1) + 2).toNatClampNeg)) (fX6_number i3 i4)) (fX6_less 10007 (fX6_by (M.1 101 (((fX6_boxAt M i1) + 3) - (3 * i2)).toNatClampNeg) (fX6_number i3 i4)))) fun x5 =>
  if (x5.2.1 100 7) = 0 then
  ((fX6_plus (M.1 101 ((fX6_boxAt M i1) + (3 * i2)).toNatClampNeg) x5.1), x5.2)
  else
  tk (sX6_no x5.2) fun x6 =>
  (x6.1, x6.2)
set_option maxHeartbeats 4000000 in
set_option maxRecDepth 100000 in
theorem kX6_ends (l : Launch) (D : va_G) (cy : Nat → ClassId) (z : Nat → Nat) (hz : zI z) (M : Mem) (i1 : Int32) (i2 : Int32) (i3 : Int32) (i4 : Int32) (hn : 0 ≤ (M.1 101 0).toInt ∧ (M.1 101 0).toInt ≤ 8) : KI l yX6_ends wsX6_ends { frames := 4, cells := 0, slots := 0, locals := 92 } D cy z 100 15 [.ref (z 100), .int i1, .int i2, .int i3, .int i4] M (fun r u => (r, u) = sX6_ends M i1 i2 i3 i4) := by
  refine met_wp (lv := [(0, .ref (z 100)), (1, .int i1), (2, .int i2), (3, .int i3), (4, .int i4)]) hz (by decide) (by decide) rfl rfl (Nat.le_of_ble_eq_true rfl) rfl ?_
  intro p e s m below meth c hc hx hr hk
  have hNW := hx.2.1
  have hin6 : ∀ w ∈ wsX60, w ∈ wsX6_ends := by decide +kernel
  have hf7 : Cond.fieldLink RX6 7 (TX6 0).1 (TX6 0).2.1 (TX6 0).2.2.1 ∈ wsX6_ends := by decide +kernel
  have hf68 : Cond.fieldLink RX6 68 (TX6 7).1 (TX6 7).2.1 (TX6 7).2.2.1 ∈ wsX6_ends := by decide +kernel
  have cw56 : CallW ({ frames := 4, cells := 0, slots := 0, locals := 92 }) s _ RX6 RX6 56 yX6_no cX6_no 1 (some .int) wsX6_no ({ frames := 0, cells := 0, slots := 0, locals := 0 }) 0 0 0 := cwV 0 hc.2.2.2.2 gX6_ends_X6_no rfl rfl rfl (by decide +kernel) ⟨Nat.le_of_ble_eq_true rfl, Nat.le_of_ble_eq_true rfl⟩
  have cw64 : CallB ({ frames := 4, cells := 0, slots := 0, locals := 92 }) s _ RX6 64 yX6_number cX6_number 2 (some .int) wsX6_number ({ frames := 1, cells := 0, slots := 0, locals := 21 }) 0 0 2 ∧ (Cond.static yX6_number).before _ s = true := va_cwS 2 hc.2.2.2.2 gX6_ends_X6_number rfl rfl rfl (by decide +kernel) ⟨Nat.le_of_ble_eq_true rfl, Nat.le_of_ble_eq_true rfl⟩
  have cw78 : CallB ({ frames := 4, cells := 0, slots := 0, locals := 92 }) s _ RX6 78 yX6_by cX6_by 6 (some .int) wsX6_by ({ frames := 2, cells := 0, slots := 0, locals := 42 }) 0 0 2 ∧ (Cond.static yX6_by).before _ s = true := va_cwS 2 hc.2.2.2.2 gX6_ends_X6_by rfl rfl rfl (by decide +kernel) ⟨Nat.le_of_ble_eq_true rfl, Nat.le_of_ble_eq_true rfl⟩
  have cw81 : CallB ({ frames := 4, cells := 0, slots := 0, locals := 92 }) s _ RX6 81 yX6_in cX6_in 3 (some .boolean) wsX6_in ({ frames := 0, cells := 0, slots := 0, locals := 0 }) 0 0 3 ∧ (Cond.static yX6_in).before _ s = true := va_cwS 3 hc.2.2.2.2 gX6_ends_X6_in rfl rfl rfl (by decide +kernel) ⟨Nat.le_of_ble_eq_true rfl, Nat.le_of_ble_eq_true rfl⟩
  have cw85 : CallW ({ frames := 4, cells := 0, slots := 0, locals := 92 }) s _ RX6 RX6 85 yX6_boxAt cX6_boxAt 2 (some .int) wsX6_boxAt ({ frames := 0, cells := 0, slots := 0, locals := 0 }) 0 0 1 := cwV 1 hc.2.2.2.2 gX6_ends_X6_boxAt rfl rfl rfl (by decide +kernel) ⟨Nat.le_of_ble_eq_true rfl, Nat.le_of_ble_eq_true rfl⟩
  have cw98 : CallW ({ frames := 4, cells := 0, slots := 0, locals := 92 }) s _ RX6 RX6 98 yX6_isBox cX6_isBox 2 (some .boolean) wsX6_isBox ({ frames := 1, cells := 0, slots := 0, locals := 22 }) 0 0 1 := cwV 1 hc.2.2.2.2 gX6_ends_X6_isBox rfl rfl rfl (by decide +kernel) ⟨Nat.le_of_ble_eq_true rfl, Nat.le_of_ble_eq_true rfl⟩
  have cw102 : CallB ({ frames := 4, cells := 0, slots := 0, locals := 92 }) s _ RX6 102 yX6_isPart cX6_isPart 1 (some .boolean) wsX6_isPart ({ frames := 1, cells := 0, slots := 0, locals := 22 }) 0 0 1 ∧ (Cond.static yX6_isPart).before _ s = true := va_cwS 1 hc.2.2.2.2 gX6_ends_X6_isPart rfl rfl rfl (by decide +kernel) ⟨Nat.le_of_ble_eq_true rfl, Nat.le_of_ble_eq_true rfl⟩
  have cw105 : CallW ({ frames := 4, cells := 0, slots := 0, locals := 92 }) s _ RX6 RX6 105 yX6_bad cX6_bad 1 (some .int) wsX6_bad ({ frames := 0, cells := 0, slots := 0, locals := 0 }) 0 0 0 := cwV 0 hc.2.2.2.2 gX6_ends_X6_bad rfl rfl rfl (by decide +kernel) ⟨Nat.le_of_ble_eq_true rfl, Nat.le_of_ble_eq_true rfl⟩
  have cw114 : CallB ({ frames := 4, cells := 0, slots := 0, locals := 92 }) s _ RX6 114 yX6_less cX6_less 2 (some .int) wsX6_less ({ frames := 2, cells := 0, slots := 0, locals := 42 }) 0 0 2 ∧ (Cond.static yX6_less).before _ s = true := va_cwS 2 hc.2.2.2.2 gX6_ends_X6_less rfl rfl rfl (by decide +kernel) ⟨Nat.le_of_ble_eq_true rfl, Nat.le_of_ble_eq_true rfl⟩
  have cw117 : CallB ({ frames := 4, cells := 0, slots := 0, locals := 92 }) s _ RX6 117 yX6_plus cX6_plus 2 (some .int) wsX6_plus ({ frames := 2, cells := 0, slots := 0, locals := 42 }) 0 0 2 ∧ (Cond.static yX6_plus).before _ s = true := va_cwS 2 hc.2.2.2.2 gX6_ends_X6_plus rfl rfl rfl (by decide +kernel) ⟨Nat.le_of_ble_eq_true rfl, Nat.le_of_ble_eq_true rfl⟩
  have cw123 : CallW ({ frames := 4, cells := 0, slots := 0, locals := 92 }) s _ RX6 RX6 123 yX6_over cX6_over 6 (some .int) wsX6_over ({ frames := 3, cells := 0, slots := 0, locals := 67 }) 0 0 2 := cwV 2 hc.2.2.2.2 gX6_ends_X6_over rfl rfl rfl (by decide +kernel) ⟨Nat.le_of_ble_eq_true rfl, Nat.le_of_ble_eq_true rfl⟩
  refine wp_aload_n hc 0 dX6_ends_0 rfl ?_
  refine wp_iload_n hc 1 dX6_ends_1 rfl ?_
  refine wp_callVf (As := [.int i1]) (rest := []) (j := 100) (v := (fX6_isBox M i1)) hc hx (kX6_isBox l D cy z hz M i1) cw98 (by decide) (by decide) (ce_5 rfl) rfl rfl rfl rfl (Nat.le_of_ble_eq_true rfl) dX6_ends_2 ?_
  refine wp_if_eq (tgt := 32) hc dX6_ends_5 (by decide) (fun c5 => ?_) (fun c5 => ?_)
  · refine wp_aload_n hc 0 dX6_ends_32 rfl ?_
    refine wp_callVw (As := []) (rest := []) (j := 100) (w := sX6_bad M) hc hx (kX6_bad l D cy z hz M) cw105 (by decide) (by decide) (ce_5 rfl) rfl rfl rfl rfl (Nat.le_of_ble_eq_true rfl) dX6_ends_33 (fun x1 hx1 => ?_)
    refine wp_iret hc hr hk ?_ dX6_ends_36
    show (x1.1, x1.2) = sX6_ends M i1 i2 i3 i4
    rw [sX6_ends, if_pos c5, tk_eq hx1]
  refine wp_iload_n hc 2 dX6_ends_8 rfl ?_
  refine wp_iconst (v := 0) hc dX6_ends_9 (by decide) ?_
  refine wp_iconst (v := 1) hc dX6_ends_10 (by decide) ?_
  refine wp_callSg (As := [.int i2, .int 0, .int 1]) (rest := []) (v := (fX6_in i2 0 1)) hc hNW (kX6_in l i2 0 1) cw81 rfl rfl (Nat.le_of_ble_eq_true rfl) dX6_ends_11 ?_
  refine wp_if_eq (tgt := 32) hc dX6_ends_14 (by decide) (fun c14 => ?_) (fun c14 => ?_)
  · refine wp_aload_n hc 0 dX6_ends_32 rfl ?_
    refine wp_callVw (As := []) (rest := []) (j := 100) (w := sX6_bad M) hc hx (kX6_bad l D cy z hz M) cw105 (by decide) (by decide) (ce_5 rfl) rfl rfl rfl rfl (Nat.le_of_ble_eq_true rfl) dX6_ends_33 (fun x2 hx2 => ?_)
    refine wp_iret hc hr hk ?_ dX6_ends_36
    show (x2.1, x2.2) = sX6_ends M i1 i2 i3 i4
    rw [sX6_ends, if_neg c5, if_pos c14, tk_eq hx2]
  refine wp_iload_n hc 3 dX6_ends_17 rfl ?_
  refine wp_callSg (As := [.int i3]) (rest := []) (v := (fX6_isPart i3)) hc hNW (kX6_isPart l i3) cw102 rfl rfl (Nat.le_of_ble_eq_true rfl) dX6_ends_18 ?_
  refine wp_if_eq (tgt := 32) hc dX6_ends_21 (by decide) (fun c21 => ?_) (fun c21 => ?_)
  · refine wp_aload_n hc 0 dX6_ends_32 rfl ?_
    refine wp_callVw (As := []) (rest := []) (j := 100) (w := sX6_bad M) hc hx (kX6_bad l D cy z hz M) cw105 (by decide) (by decide) (ce_5 rfl) rfl rfl rfl rfl (Nat.le_of_ble_eq_true rfl) dX6_ends_33 (fun x3 hx3 => ?_)
    refine wp_iret hc hr hk ?_ dX6_ends_36
    show (x3.1, x3.2) = sX6_ends M i1 i2 i3 i4
    rw [sX6_ends, if_neg c5, if_neg c14, if_pos c21, tk_eq hx3]
  refine wp_iload hc 4 dX6_ends_24 rfl ?_
  refine wp_callSg (As := [.int i4]) (rest := []) (v := (fX6_isPart i4)) hc hNW (kX6_isPart l i4) cw102 rfl rfl (Nat.le_of_ble_eq_true rfl) dX6_ends_26 ?_
  refine wp_if_ne (tgt := 37) hc dX6_ends_29 (by decide) (fun c29 => ?_) (fun c29 => ?_)
  · refine wp_aload_n hc 0 dX6_ends_37 rfl ?_
    refine wp_iload_n hc 1 dX6_ends_38 rfl ?_
    refine wp_callVf (As := [.int i1]) (rest := []) (j := 100) (v := (fX6_boxAt M i1)) hc hx (kX6_boxAt l D cy z hz M i1) cw85 (by decide) (by decide) (ce_5 rfl) rfl rfl rfl rfl (Nat.le_of_ble_eq_true rfl) dX6_ends_39 ?_
    refine wp_istore (lv' := [(5, .int (fX6_boxAt M i1)), (0, .ref (z 100)), (1, .int i1), (2, .int i2), (3, .int i3), (4, .int i4)]) hc dX6_ends_42 (by decide) rfl ?_
    refine wp_iload_n hc 4 dX6_ends_44 rfl ?_
    refine wp_iload hc 5 dX6_ends_45 rfl ?_
    refine wp_callSg (As := [.int i3, .int i4]) (rest := []) (v := (fX6_number i3 i4)) hc hNW (kX6_number l i3 i4) cw64 rfl rfl (Nat.le_of_ble_eq_true rfl) dX6_ends_47 ?_
    refine wp_istore (lv' := [(6, .int (fX6_number i3 i4)), (5, .int (fX6_boxAt M i1)), (0, .ref (z 100)), (1, .int i1), (2, .int i2), (3, .int i3), (4, .int i4)]) hc dX6_ends_50 (by decide) rfl ?_
    refine wp_aload_n hc 2 dX6_ends_52 rfl ?_
    refine wp_get hc hx hin6 (j := 100) (by decide) (by decide) (ce_5 rfl) rfl 0 (by decide) hf7 rfl dX6_ends_53 ?_
    refine wp_iload hc 1 dX6_ends_56 rfl ?_
    refine wp_iconst (v := 3) hc dX6_ends_58 (by decide) ?_
    refine wp_iload_n hc 4 dX6_ends_59 rfl ?_
    refine wp_imul hc dX6_ends_60 ?_
    refine wp_iadd hc dX6_ends_61 ?_
    refine wp_iald hc hx (j := 101) (by decide) (by decide) rfl ((fX6_boxAt M i1) + (3 * i2)).toNatClampNeg rfl (ixe1 (isBox_8 hn c5) (in01 c14)) dX6_ends_62 ?_
    refine wp_istore (lv' := [(7, .int (M.1 101 ((fX6_boxAt M i1) + (3 * i2)).toNatClampNeg)), (6, .int (fX6_number i3 i4)), (5, .int (fX6_boxAt M i1)), (0, .ref (z 100)), (1, .int i1), (2, .int i2), (3, .int i3), (4, .int i4)]) hc dX6_ends_63 (by decide) rfl ?_
    refine wp_aload_n hc 3 dX6_ends_65 rfl ?_
    refine wp_get hc hx hin6 (j := 100) (by decide) (by decide) (ce_5 rfl) rfl 0 (by decide) hf7 rfl dX6_ends_66 ?_
    refine wp_iload hc 2 dX6_ends_69 rfl ?_
    refine wp_iconst (v := 3) hc dX6_ends_71 (by decide) ?_
    refine wp_iadd hc dX6_ends_72 ?_
    refine wp_iconst (v := 3) hc dX6_ends_73 (by decide) ?_
    refine wp_iload_n hc 5 dX6_ends_74 rfl ?_
    refine wp_imul hc dX6_ends_75 ?_
    refine wp_isub hc dX6_ends_76 ?_
    refine wp_iald hc hx (j := 101) (by decide) (by decide) rfl (((fX6_boxAt M i1) + 3) - (3 * i2)).toNatClampNeg rfl (ixe2 (isBox_8 hn c5) (in01 c14)) dX6_ends_77 ?_
    refine wp_istore (lv' := [(8, .int (M.1 101 (((fX6_boxAt M i1) + 3) - (3 * i2)).toNatClampNeg)), (7, .int (M.1 101 ((fX6_boxAt M i1) + (3 * i2)).toNatClampNeg)), (6, .int (fX6_number i3 i4)), (5, .int (fX6_boxAt M i1)), (0, .ref (z 100)), (1, .int i1), (2, .int i2), (3, .int i3), (4, .int i4)]) hc dX6_ends_78 (by decide) rfl ?_
    refine wp_aload_n hc 4 dX6_ends_80 rfl ?_
    refine wp_iconst (v := 0) hc dX6_ends_81 (by decide) ?_
    refine wp_put (M' := st M 100 7 0) hc hx hin6 tyX6 tyX6_ok nmX6 (j := 100) (by decide) (by decide) (ce_5 rfl) rfl 7 (by decide) hf68 rfl rfl rfl (Nat.le_of_ble_eq_true rfl) (by rw [ce_5 rfl]; exact ce_stM7 _ _ _) (fun i hi => ce_row (va_up_ne _ _ hi) rfl) dX6_ends_82 ?_
    refine wp_nm (fun M4 hM4 => ?_)
    refine wp_aload_n hc 4 dX6_ends_85 rfl ?_
    refine wp_aload_n hc 4 dX6_ends_86 rfl ?_
    refine wp_get hc hx hin6 (j := 100) (by decide) (by decide) (ce_5 rfl) rfl 0 (by decide) hf7 rfl dX6_ends_87 ?_
    refine wp_iload hc 3 dX6_ends_90 rfl ?_
    refine wp_iconst (v := 1) hc dX6_ends_92 (by decide) ?_
    refine wp_iadd hc dX6_ends_93 ?_
    refine wp_iald hc hx (j := 101) (by decide) (by decide) rfl ((fX6_boxAt M i1) + 1).toNatClampNeg rfl (ixbk (isBox_8 hn c5) (by decide)) dX6_ends_94 ?_
    refine wp_aload_n hc 4 dX6_ends_95 rfl ?_
    refine wp_get hc hx hin6 (j := 100) (by decide) (by decide) (ce_5 rfl) rfl 0 (by decide) hf7 rfl dX6_ends_96 ?_
    refine wp_iload hc 3 dX6_ends_99 rfl ?_
    refine wp_iconst (v := 2) hc dX6_ends_101 (by decide) ?_
    refine wp_iadd hc dX6_ends_102 ?_
    refine wp_iald hc hx (j := 101) (by decide) (by decide) rfl ((fX6_boxAt M i1) + 2).toNatClampNeg rfl (ixbk (isBox_8 hn c5) (by decide)) dX6_ends_103 ?_
    refine wp_callSg (As := [.int (M4.1 101 ((fX6_boxAt M i1) + 1).toNatClampNeg), .int (M4.1 101 ((fX6_boxAt M i1) + 2).toNatClampNeg)]) (rest := [.ref (z 100)]) (v := (fX6_by (M4.1 101 ((fX6_boxAt M i1) + 1).toNatClampNeg) (M4.1 101 ((fX6_boxAt M i1) + 2).toNatClampNeg))) hc hNW (kX6_by l (M4.1 101 ((fX6_boxAt M i1) + 1).toNatClampNeg) (M4.1 101 ((fX6_boxAt M i1) + 2).toNatClampNeg)) cw78 rfl rfl (Nat.le_of_ble_eq_true rfl) dX6_ends_104 ?_
    refine wp_iload hc 2 dX6_ends_107 rfl ?_
    refine wp_callSg (As := [.int (fX6_by (M4.1 101 ((fX6_boxAt M i1) + 1).toNatClampNeg) (M4.1 101 ((fX6_boxAt M i1) + 2).toNatClampNeg)), .int (fX6_number i3 i4)]) (rest := [.ref (z 100)]) (v := (fX6_by (fX6_by (M4.1 101 ((fX6_boxAt M i1) + 1).toNatClampNeg) (M4.1 101 ((fX6_boxAt M i1) + 2).toNatClampNeg)) (fX6_number i3 i4))) hc hNW (kX6_by l (fX6_by (M4.1 101 ((fX6_boxAt M i1) + 1).toNatClampNeg) (M4.1 101 ((fX6_boxAt M i1) + 2).toNatClampNeg)) (fX6_number i3 i4)) cw78 rfl rfl (Nat.le_of_ble_eq_true rfl) dX6_ends_109 ?_
    refine wp_sipush (v := 10007) hc dX6_ends_112 (by decide) ?_
    refine wp_iload hc 0 dX6_ends_115 rfl ?_
    refine wp_iload hc 2 dX6_ends_117 rfl ?_
    refine wp_callSg (As := [.int (M.1 101 (((fX6_boxAt M i1) + 3) - (3 * i2)).toNatClampNeg), .int (fX6_number i3 i4)]) (rest := [.int 10007, .int (fX6_by (fX6_by (M4.1 101 ((fX6_boxAt M i1) + 1).toNatClampNeg) (M4.1 101 ((fX6_boxAt M i1) + 2).toNatClampNeg)) (fX6_number i3 i4)), .ref (z 100)]) (v := (fX6_by (M.1 101 (((fX6_boxAt M i1) + 3) - (3 * i2)).toNatClampNeg) (fX6_number i3 i4))) hc hNW (kX6_by l (M.1 101 (((fX6_boxAt M i1) + 3) - (3 * i2)).toNatClampNeg) (fX6_number i3 i4)) cw78 rfl rfl (Nat.le_of_ble_eq_true rfl) dX6_ends_119 ?_
    refine wp_callSg (As := [.int 10007, .int (fX6_by (M.1 101 (((fX6_boxAt M i1) + 3) - (3 * i2)).toNatClampNeg) (fX6_number i3 i4))]) (rest := [.int (fX6_by (fX6_by (M4.1 101 ((fX6_boxAt M i1) + 1).toNatClampNeg) (M4.1 101 ((fX6_boxAt M i1) + 2).toNatClampNeg)) (fX6_number i3 i4)), .ref (z 100)]) (v := (fX6_less 10007 (fX6_by (M.1 101 (((fX6_boxAt M i1) + 3) - (3 * i2)).toNatClampNeg) (fX6_number i3 i4)))) hc hNW (kX6_less l 10007 (fX6_by (M.1 101 (((fX6_boxAt M i1) + 3) - (3 * i2)).toNatClampNeg) (fX6_number i3 i4))) cw114 rfl rfl (Nat.le_of_ble_eq_true rfl) dX6_ends_122 ?_
    refine wp_callVw (As := [.int (fX6_by (fX6_by (M4.1 101 ((fX6_boxAt M i1) + 1).toNatClampNeg) (M4.1 101 ((fX6_boxAt M i1) + 2).toNatClampNeg)) (fX6_number i3 i4)), .int (fX6_less 10007 (fX6_by (M.1 101 (((fX6_boxAt M i1) + 3) - (3 * i2)).toNatClampNeg) (fX6_number i3 i4)))]) (rest := []) (j := 100) (w := sX6_over M4 (fX6_by (fX6_by (M4.1 101 ((fX6_boxAt M i1) + 1).toNatClampNeg) (M4.1 101 ((fX6_boxAt M i1) + 2).toNatClampNeg)) (fX6_number i3 i4)) (fX6_less 10007 (fX6_by (M.1 101 (((fX6_boxAt M i1) + 3) - (3 * i2)).toNatClampNeg) (fX6_number i3 i4)))) hc hx (kX6_over l D cy z hz M4 (fX6_by (fX6_by (M4.1 101 ((fX6_boxAt M i1) + 1).toNatClampNeg) (M4.1 101 ((fX6_boxAt M i1) + 2).toNatClampNeg)) (fX6_number i3 i4)) (fX6_less 10007 (fX6_by (M.1 101 (((fX6_boxAt M i1) + 3) - (3 * i2)).toNatClampNeg) (fX6_number i3 i4)))) cw123 (by decide) (by decide) (ce_5 rfl) rfl rfl rfl rfl (Nat.le_of_ble_eq_true rfl) dX6_ends_125 (fun x5 hx5 => ?_)
    refine wp_istore (lv' := [(9, .int x5.1), (8, .int (M.1 101 (((fX6_boxAt M i1) + 3) - (3 * i2)).toNatClampNeg)), (7, .int (M.1 101 ((fX6_boxAt M i1) + (3 * i2)).toNatClampNeg)), (6, .int (fX6_number i3 i4)), (5, .int (fX6_boxAt M i1)), (0, .ref (z 100)), (1, .int i1), (2, .int i2), (3, .int i3), (4, .int i4)]) hc dX6_ends_128 (by decide) rfl ?_
    refine wp_aload_n hc 5 dX6_ends_130 rfl ?_
    refine wp_get hc hx hin6 (j := 100) (by decide) (by decide) (ce_5 rfl) rfl 7 (by decide) hf68 rfl dX6_ends_131 ?_
    refine wp_if_eq (tgt := 144) hc dX6_ends_134 (by decide) (fun c134 => ?_) (fun c134 => ?_)
    · refine wp_iload hc 2 dX6_ends_144 rfl ?_
      refine wp_iload hc 0 dX6_ends_146 rfl ?_
      refine wp_callSg (As := [.int (M.1 101 ((fX6_boxAt M i1) + (3 * i2)).toNatClampNeg), .int x5.1]) (rest := []) (v := (fX6_plus (M.1 101 ((fX6_boxAt M i1) + (3 * i2)).toNatClampNeg) x5.1)) hc hNW (kX6_plus l (M.1 101 ((fX6_boxAt M i1) + (3 * i2)).toNatClampNeg) x5.1) cw117 rfl rfl (Nat.le_of_ble_eq_true rfl) dX6_ends_148 ?_
      refine wp_iret hc hr hk ?_ dX6_ends_151
      show ((fX6_plus (M.1 101 ((fX6_boxAt M i1) + (3 * i2)).toNatClampNeg) x5.1), x5.2) = sX6_ends M i1 i2 i3 i4
      rw [sX6_ends, if_neg c5, if_neg c14, if_neg c21, if_neg c29, tk_eq hM4, tk_eq hx5, if_pos c134]
    refine wp_aload_n hc 5 dX6_ends_137 rfl ?_
    refine wp_callVw (As := []) (rest := []) (j := 100) (w := sX6_no x5.2) hc hx (kX6_no l D cy z hz x5.2) cw56 (by decide) (by decide) (ce_5 rfl) rfl rfl rfl rfl (Nat.le_of_ble_eq_true rfl) dX6_ends_138 (fun x6 hx6 => ?_)
    refine wp_goto (tgt := 151) hc dX6_ends_141 (by decide) ?_
    refine wp_iret hc hr hk ?_ dX6_ends_151
    show (x6.1, x6.2) = sX6_ends M i1 i2 i3 i4
    rw [sX6_ends, if_neg c5, if_neg c14, if_neg c21, if_neg c29, tk_eq hM4, tk_eq hx5, if_neg c134, tk_eq hx6]
  refine wp_aload_n hc 0 dX6_ends_32 rfl ?_
  refine wp_callVw (As := []) (rest := []) (j := 100) (w := sX6_bad M) hc hx (kX6_bad l D cy z hz M) cw105 (by decide) (by decide) (ce_5 rfl) rfl rfl rfl rfl (Nat.le_of_ble_eq_true rfl) dX6_ends_33 (fun x7 hx7 => ?_)
  refine wp_iret hc hr hk ?_ dX6_ends_36
  show (x7.1, x7.2) = sX6_ends M i1 i2 i3 i4
  rw [sX6_ends, if_neg c5, if_neg c14, if_neg c21, if_pos c29, tk_eq hx7]
def fX6_acrossOf (M : Mem) (i1 : Int32) (i2 : Int32) (i3 : Int32) : Int32 :=
  (fX6_plus (fX6_by (fX6_otherOf (M.1 101 (i1 + i2).toNatClampNeg)) (M.1 101 (i1 + i3).toNatClampNeg)) (fX6_by (fX6_otherOf (M.1 101 ((i1 + i2) + 2).toNatClampNeg)) (M.1 101 ((i1 + i3) + 2).toNatClampNeg)))
set_option maxHeartbeats 4000000 in
set_option maxRecDepth 100000 in
theorem kX6_acrossOf (l : Launch) (D : va_G) (cy : Nat → ClassId) (z : Nat → Nat) (hz : zI z) (M : Mem) (i1 : Int32) (i2 : Int32) (i3 : Int32) (ha : 0 ≤ i1.toInt ∧ i1.toInt < 54) (h2 : 0 ≤ i2.toInt ∧ i2.toInt ≤ 1) (h3 : 0 ≤ i3.toInt ∧ i3.toInt ≤ 1) : KI l yX6_acrossOf wsX6_acrossOf { frames := 3, cells := 0, slots := 0, locals := 67 } D cy z 100 15 [.ref (z 100), .int i1, .int i2, .int i3] M (fun r u => r = fX6_acrossOf M i1 i2 i3 ∧ u = M) := by
  refine met_wp (lv := [(0, .ref (z 100)), (1, .int i1), (2, .int i2), (3, .int i3)]) hz (by decide) (by decide) rfl rfl (Nat.le_of_ble_eq_true rfl) rfl ?_
  intro p e s m below meth c hc hx hr hk
  have hNW := hx.2.1
  have hin6 : ∀ w ∈ wsX60, w ∈ wsX6_acrossOf := by decide +kernel
  have hf7 : Cond.fieldLink RX6 7 (TX6 0).1 (TX6 0).2.1 (TX6 0).2.2.1 ∈ wsX6_acrossOf := by decide +kernel
  have cw75 : CallB ({ frames := 3, cells := 0, slots := 0, locals := 67 }) s _ RX6 75 yX6_otherOf cX6_otherOf 1 (some .int) wsX6_otherOf ({ frames := 2, cells := 0, slots := 0, locals := 42 }) 0 0 1 ∧ (Cond.static yX6_otherOf).before _ s = true := va_cwS 1 hc.2.2.2.2 gX6_acrossOf_X6_otherOf rfl rfl rfl (by decide +kernel) ⟨Nat.le_of_ble_eq_true rfl, Nat.le_of_ble_eq_true rfl⟩
  have cw78 : CallB ({ frames := 3, cells := 0, slots := 0, locals := 67 }) s _ RX6 78 yX6_by cX6_by 6 (some .int) wsX6_by ({ frames := 2, cells := 0, slots := 0, locals := 42 }) 0 0 2 ∧ (Cond.static yX6_by).before _ s = true := va_cwS 2 hc.2.2.2.2 gX6_acrossOf_X6_by rfl rfl rfl (by decide +kernel) ⟨Nat.le_of_ble_eq_true rfl, Nat.le_of_ble_eq_true rfl⟩
  have cw117 : CallB ({ frames := 3, cells := 0, slots := 0, locals := 67 }) s _ RX6 117 yX6_plus cX6_plus 2 (some .int) wsX6_plus ({ frames := 2, cells := 0, slots := 0, locals := 42 }) 0 0 2 ∧ (Cond.static yX6_plus).before _ s = true := va_cwS 2 hc.2.2.2.2 gX6_acrossOf_X6_plus rfl rfl rfl (by decide +kernel) ⟨Nat.le_of_ble_eq_true rfl, Nat.le_of_ble_eq_true rfl⟩
  refine wp_aload_n hc 0 dX6_acrossOf_0 rfl ?_
  refine wp_get hc hx hin6 (j := 100) (by decide) (by decide) (ce_5 rfl) rfl 0 (by decide) hf7 rfl dX6_acrossOf_1 ?_
  refine wp_iload_n hc 1 dX6_acrossOf_4 rfl ?_
  refine wp_iload_n hc 2 dX6_acrossOf_5 rfl ?_
  refine wp_iadd hc dX6_acrossOf_6 ?_
  refine wp_iald hc hx (j := 101) (by decide) (by decide) rfl (i1 + i2).toNatClampNeg rfl (ixa1 ha h2) dX6_acrossOf_7 ?_
  refine wp_callSg (As := [.int (M.1 101 (i1 + i2).toNatClampNeg)]) (rest := []) (v := (fX6_otherOf (M.1 101 (i1 + i2).toNatClampNeg))) hc hNW (kX6_otherOf l (M.1 101 (i1 + i2).toNatClampNeg)) cw75 rfl rfl (Nat.le_of_ble_eq_true rfl) dX6_acrossOf_8 ?_
  refine wp_aload_n hc 0 dX6_acrossOf_11 rfl ?_
  refine wp_get hc hx hin6 (j := 100) (by decide) (by decide) (ce_5 rfl) rfl 0 (by decide) hf7 rfl dX6_acrossOf_12 ?_
  refine wp_iload_n hc 1 dX6_acrossOf_15 rfl ?_
  refine wp_iload_n hc 3 dX6_acrossOf_16 rfl ?_
  refine wp_iadd hc dX6_acrossOf_17 ?_
  refine wp_iald hc hx (j := 101) (by decide) (by decide) rfl (i1 + i3).toNatClampNeg rfl (ixa1 ha h3) dX6_acrossOf_18 ?_
  refine wp_callSg (As := [.int (fX6_otherOf (M.1 101 (i1 + i2).toNatClampNeg)), .int (M.1 101 (i1 + i3).toNatClampNeg)]) (rest := []) (v := (fX6_by (fX6_otherOf (M.1 101 (i1 + i2).toNatClampNeg)) (M.1 101 (i1 + i3).toNatClampNeg))) hc hNW (kX6_by l (fX6_otherOf (M.1 101 (i1 + i2).toNatClampNeg)) (M.1 101 (i1 + i3).toNatClampNeg)) cw78 rfl rfl (Nat.le_of_ble_eq_true rfl) dX6_acrossOf_19 ?_
  refine wp_aload_n hc 0 dX6_acrossOf_22 rfl ?_
  refine wp_get hc hx hin6 (j := 100) (by decide) (by decide) (ce_5 rfl) rfl 0 (by decide) hf7 rfl dX6_acrossOf_23 ?_
  refine wp_iload_n hc 1 dX6_acrossOf_26 rfl ?_
  refine wp_iload_n hc 2 dX6_acrossOf_27 rfl ?_
  refine wp_iadd hc dX6_acrossOf_28 ?_
  refine wp_iconst (v := 2) hc dX6_acrossOf_29 (by decide) ?_
  refine wp_iadd hc dX6_acrossOf_30 ?_
  refine wp_iald hc hx (j := 101) (by decide) (by decide) rfl ((i1 + i2) + 2).toNatClampNeg rfl (ixa2 ha h2) dX6_acrossOf_31 ?_
  refine wp_callSg (As := [.int (M.1 101 ((i1 + i2) + 2).toNatClampNeg)]) (rest := [.int (fX6_by (fX6_otherOf (M.1 101 (i1 + i2).toNatClampNeg)) (M.1 101 (i1 + i3).toNatClampNeg))]) (v := (fX6_otherOf (M.1 101 ((i1 + i2) + 2).toNatClampNeg))) hc hNW (kX6_otherOf l (M.1 101 ((i1 + i2) + 2).toNatClampNeg)) cw75 rfl rfl (Nat.le_of_ble_eq_true rfl) dX6_acrossOf_32 ?_
  refine wp_aload_n hc 0 dX6_acrossOf_35 rfl ?_
  refine wp_get hc hx hin6 (j := 100) (by decide) (by decide) (ce_5 rfl) rfl 0 (by decide) hf7 rfl dX6_acrossOf_36 ?_
  refine wp_iload_n hc 1 dX6_acrossOf_39 rfl ?_
  refine wp_iload_n hc 3 dX6_acrossOf_40 rfl ?_
  refine wp_iadd hc dX6_acrossOf_41 ?_
  refine wp_iconst (v := 2) hc dX6_acrossOf_42 (by decide) ?_
  refine wp_iadd hc dX6_acrossOf_43 ?_
  refine wp_iald hc hx (j := 101) (by decide) (by decide) rfl ((i1 + i3) + 2).toNatClampNeg rfl (ixa2 ha h3) dX6_acrossOf_44 ?_
  refine wp_callSg (As := [.int (fX6_otherOf (M.1 101 ((i1 + i2) + 2).toNatClampNeg)), .int (M.1 101 ((i1 + i3) + 2).toNatClampNeg)]) (rest := [.int (fX6_by (fX6_otherOf (M.1 101 (i1 + i2).toNatClampNeg)) (M.1 101 (i1 + i3).toNatClampNeg))]) (v := (fX6_by (fX6_otherOf (M.1 101 ((i1 + i2) + 2).toNatClampNeg)) (M.1 101 ((i1 + i3) + 2).toNatClampNeg))) hc hNW (kX6_by l (fX6_otherOf (M.1 101 ((i1 + i2) + 2).toNatClampNeg)) (M.1 101 ((i1 + i3) + 2).toNatClampNeg)) cw78 rfl rfl (Nat.le_of_ble_eq_true rfl) dX6_acrossOf_45 ?_
  refine wp_callSg (As := [.int (fX6_by (fX6_otherOf (M.1 101 (i1 + i2).toNatClampNeg)) (M.1 101 (i1 + i3).toNatClampNeg)), .int (fX6_by (fX6_otherOf (M.1 101 ((i1 + i2) + 2).toNatClampNeg)) (M.1 101 ((i1 + i3) + 2).toNatClampNeg))]) (rest := []) (v := (fX6_plus (fX6_by (fX6_otherOf (M.1 101 (i1 + i2).toNatClampNeg)) (M.1 101 (i1 + i3).toNatClampNeg)) (fX6_by (fX6_otherOf (M.1 101 ((i1 + i2) + 2).toNatClampNeg)) (M.1 101 ((i1 + i3) + 2).toNatClampNeg)))) hc hNW (kX6_plus l (fX6_by (fX6_otherOf (M.1 101 (i1 + i2).toNatClampNeg)) (M.1 101 (i1 + i3).toNatClampNeg)) (fX6_by (fX6_otherOf (M.1 101 ((i1 + i2) + 2).toNatClampNeg)) (M.1 101 ((i1 + i3) + 2).toNatClampNeg))) cw117 rfl rfl (Nat.le_of_ble_eq_true rfl) dX6_acrossOf_48 ?_
  refine wp_iret hc hr hk ?_ dX6_acrossOf_51
  show (fX6_plus (fX6_by (fX6_otherOf (M.1 101 (i1 + i2).toNatClampNeg)) (M.1 101 (i1 + i3).toNatClampNeg)) (fX6_by (fX6_otherOf (M.1 101 ((i1 + i2) + 2).toNatClampNeg)) (M.1 101 ((i1 + i3) + 2).toNatClampNeg))) = fX6_acrossOf M i1 i2 i3 ∧ M = M
  exact ⟨by rw [fX6_acrossOf], rfl⟩
def fX6_isSo (M : Mem) (i1 : Int32) (i2 : Int32) : Int32 :=
  if i2 = 0 then
  if (M.1 101 (i1 + 1).toNatClampNeg) = (M.1 101 (i1 + 2).toNatClampNeg) then
  1
  else
  0
  else
  if i2 = 1 then
  if (M.1 101 i1.toNatClampNeg) = (M.1 101 (i1 + 3).toNatClampNeg) then
  1
  else
  0
  else
  if i2 = 2 then
  if (M.1 101 i1.toNatClampNeg) = 0 then
  if (M.1 101 (i1 + 3).toNatClampNeg) = 0 then
  1
  else
  0
  else
  0
  else
  if (fX6_acrossOf M i1 0 0) = 10007 then
  if (fX6_acrossOf M i1 1 1) = 10007 then
  if (fX6_acrossOf M i1 0 1) = 0 then
  1
  else
  0
  else
  0
  else
  0
set_option maxHeartbeats 4000000 in
set_option maxRecDepth 100000 in
theorem kX6_isSo (l : Launch) (D : va_G) (cy : Nat → ClassId) (z : Nat → Nat) (hz : zI z) (M : Mem) (i1 : Int32) (i2 : Int32) (ha : 0 ≤ i1.toInt ∧ i1.toInt < 54) : KI l yX6_isSo wsX6_isSo { frames := 4, cells := 0, slots := 0, locals := 90 } D cy z 100 15 [.ref (z 100), .int i1, .int i2] M (fun r u => r = fX6_isSo M i1 i2 ∧ u = M) := by
  refine met_wp (lv := [(0, .ref (z 100)), (1, .int i1), (2, .int i2)]) hz (by decide) (by decide) rfl rfl (Nat.le_of_ble_eq_true rfl) rfl ?_
  intro p e s m below meth c hc hx hr hk
  have hNW := hx.2.1
  have hin6 : ∀ w ∈ wsX60, w ∈ wsX6_isSo := by decide +kernel
  have hf7 : Cond.fieldLink RX6 7 (TX6 0).1 (TX6 0).2.1 (TX6 0).2.2.1 ∈ wsX6_isSo := by decide +kernel
  have cw206 : CallW ({ frames := 4, cells := 0, slots := 0, locals := 90 }) s _ RX6 RX6 206 yX6_acrossOf cX6_acrossOf 4 (some .int) wsX6_acrossOf ({ frames := 3, cells := 0, slots := 0, locals := 67 }) 0 0 3 := cwV 3 hc.2.2.2.2 gX6_isSo_X6_acrossOf rfl rfl rfl (by decide +kernel) ⟨Nat.le_of_ble_eq_true rfl, Nat.le_of_ble_eq_true rfl⟩
  refine wp_iload_n hc 2 dX6_isSo_0 rfl ?_
  by_cases c1_0 : i2 = 0
  · refine wp_cvt c1_0 ?_
    refine wp_tableIn (tgt := 28) (off := 27) hc dX6_isSo_1 (by decide) (by decide) rfl (by decide) ?_
    refine wp_aload_n hc 0 dX6_isSo_28 rfl ?_
    refine wp_get hc hx hin6 (j := 100) (by decide) (by decide) (ce_5 rfl) rfl 0 (by decide) hf7 rfl dX6_isSo_29 ?_
    refine wp_iload_n hc 1 dX6_isSo_32 rfl ?_
    refine wp_iconst (v := 1) hc dX6_isSo_33 (by decide) ?_
    refine wp_iadd hc dX6_isSo_34 ?_
    refine wp_iald hc hx (j := 101) (by decide) (by decide) rfl (i1 + 1).toNatClampNeg rfl (ixa ha (k := 1) rfl (by decide)) dX6_isSo_35 ?_
    refine wp_aload_n hc 0 dX6_isSo_36 rfl ?_
    refine wp_get hc hx hin6 (j := 100) (by decide) (by decide) (ce_5 rfl) rfl 0 (by decide) hf7 rfl dX6_isSo_37 ?_
    refine wp_iload_n hc 1 dX6_isSo_40 rfl ?_
    refine wp_iconst (v := 2) hc dX6_isSo_41 (by decide) ?_
    refine wp_iadd hc dX6_isSo_42 ?_
    refine wp_iald hc hx (j := 101) (by decide) (by decide) rfl (i1 + 2).toNatClampNeg rfl (ixa ha (k := 2) rfl (by decide)) dX6_isSo_43 ?_
    refine wp_icmp_ne (tgt := 51) hc dX6_isSo_44 (by decide) (fun c44 => ?_) (fun c44 => ?_)
    · refine wp_iconst (v := 0) hc dX6_isSo_51 (by decide) ?_
      refine wp_zret hc hr hk rfl ?_ dX6_isSo_52
      show 0 = fX6_isSo M i1 i2 ∧ M = M
      exact ⟨by rw [fX6_isSo, if_pos c1_0, if_neg c44], rfl⟩
    refine wp_iconst (v := 1) hc dX6_isSo_47 (by decide) ?_
    refine wp_goto (tgt := 52) hc dX6_isSo_48 (by decide) ?_
    refine wp_zret hc hr hk rfl ?_ dX6_isSo_52
    show 1 = fX6_isSo M i1 i2 ∧ M = M
    exact ⟨by rw [fX6_isSo, if_pos c1_0, if_pos c44], rfl⟩
  by_cases c1_1 : i2 = 1
  · refine wp_cvt c1_1 ?_
    refine wp_tableIn (tgt := 53) (off := 52) hc dX6_isSo_1 (by decide) (by decide) rfl (by decide) ?_
    refine wp_aload_n hc 0 dX6_isSo_53 rfl ?_
    refine wp_get hc hx hin6 (j := 100) (by decide) (by decide) (ce_5 rfl) rfl 0 (by decide) hf7 rfl dX6_isSo_54 ?_
    refine wp_iload_n hc 1 dX6_isSo_57 rfl ?_
    refine wp_iald hc hx (j := 101) (by decide) (by decide) rfl i1.toNatClampNeg rfl (ix0 ha) dX6_isSo_58 ?_
    refine wp_aload_n hc 0 dX6_isSo_59 rfl ?_
    refine wp_get hc hx hin6 (j := 100) (by decide) (by decide) (ce_5 rfl) rfl 0 (by decide) hf7 rfl dX6_isSo_60 ?_
    refine wp_iload_n hc 1 dX6_isSo_63 rfl ?_
    refine wp_iconst (v := 3) hc dX6_isSo_64 (by decide) ?_
    refine wp_iadd hc dX6_isSo_65 ?_
    refine wp_iald hc hx (j := 101) (by decide) (by decide) rfl (i1 + 3).toNatClampNeg rfl (ixa ha (k := 3) rfl (by decide)) dX6_isSo_66 ?_
    refine wp_icmp_ne (tgt := 74) hc dX6_isSo_67 (by decide) (fun c67 => ?_) (fun c67 => ?_)
    · refine wp_iconst (v := 0) hc dX6_isSo_74 (by decide) ?_
      refine wp_zret hc hr hk rfl ?_ dX6_isSo_75
      show 0 = fX6_isSo M i1 i2 ∧ M = M
      exact ⟨by rw [fX6_isSo, if_neg c1_0, if_pos c1_1, if_neg c67], rfl⟩
    refine wp_iconst (v := 1) hc dX6_isSo_70 (by decide) ?_
    refine wp_goto (tgt := 75) hc dX6_isSo_71 (by decide) ?_
    refine wp_zret hc hr hk rfl ?_ dX6_isSo_75
    show 1 = fX6_isSo M i1 i2 ∧ M = M
    exact ⟨by rw [fX6_isSo, if_neg c1_0, if_pos c1_1, if_pos c67], rfl⟩
  by_cases c1_2 : i2 = 2
  · refine wp_cvt c1_2 ?_
    refine wp_tableIn (tgt := 76) (off := 75) hc dX6_isSo_1 (by decide) (by decide) rfl (by decide) ?_
    refine wp_aload_n hc 0 dX6_isSo_76 rfl ?_
    refine wp_get hc hx hin6 (j := 100) (by decide) (by decide) (ce_5 rfl) rfl 0 (by decide) hf7 rfl dX6_isSo_77 ?_
    refine wp_iload_n hc 1 dX6_isSo_80 rfl ?_
    refine wp_iald hc hx (j := 101) (by decide) (by decide) rfl i1.toNatClampNeg rfl (ix0 ha) dX6_isSo_81 ?_
    refine wp_if_ne (tgt := 100) hc dX6_isSo_82 (by decide) (fun c82 => ?_) (fun c82 => ?_)
    · refine wp_iconst (v := 0) hc dX6_isSo_100 (by decide) ?_
      refine wp_zret hc hr hk rfl ?_ dX6_isSo_101
      show 0 = fX6_isSo M i1 i2 ∧ M = M
      exact ⟨by rw [fX6_isSo, if_neg c1_0, if_neg c1_1, if_pos c1_2, if_neg c82], rfl⟩
    refine wp_aload_n hc 0 dX6_isSo_85 rfl ?_
    refine wp_get hc hx hin6 (j := 100) (by decide) (by decide) (ce_5 rfl) rfl 0 (by decide) hf7 rfl dX6_isSo_86 ?_
    refine wp_iload_n hc 1 dX6_isSo_89 rfl ?_
    refine wp_iconst (v := 3) hc dX6_isSo_90 (by decide) ?_
    refine wp_iadd hc dX6_isSo_91 ?_
    refine wp_iald hc hx (j := 101) (by decide) (by decide) rfl (i1 + 3).toNatClampNeg rfl (ixa ha (k := 3) rfl (by decide)) dX6_isSo_92 ?_
    refine wp_if_ne (tgt := 100) hc dX6_isSo_93 (by decide) (fun c93 => ?_) (fun c93 => ?_)
    · refine wp_iconst (v := 0) hc dX6_isSo_100 (by decide) ?_
      refine wp_zret hc hr hk rfl ?_ dX6_isSo_101
      show 0 = fX6_isSo M i1 i2 ∧ M = M
      exact ⟨by rw [fX6_isSo, if_neg c1_0, if_neg c1_1, if_pos c1_2, if_pos c82, if_neg c93], rfl⟩
    refine wp_iconst (v := 1) hc dX6_isSo_96 (by decide) ?_
    refine wp_goto (tgt := 101) hc dX6_isSo_97 (by decide) ?_
    refine wp_zret hc hr hk rfl ?_ dX6_isSo_101
    show 1 = fX6_isSo M i1 i2 ∧ M = M
    exact ⟨by rw [fX6_isSo, if_neg c1_0, if_neg c1_1, if_pos c1_2, if_pos c82, if_pos c93], rfl⟩
  refine wp_tableOut (tgt := 102) hc dX6_isSo_1 (by have q0 := lv_neT (a := 0) c1_0 (by decide); have q1 := lv_neT (a := 1) c1_1 (by decide); have q2 := lv_neT (a := 2) c1_2 (by decide); omega) (by decide) ?_
  refine wp_aload_n hc 0 dX6_isSo_102 rfl ?_
  refine wp_iload_n hc 1 dX6_isSo_103 rfl ?_
  refine wp_iconst (v := 0) hc dX6_isSo_104 (by decide) ?_
  refine wp_iconst (v := 0) hc dX6_isSo_105 (by decide) ?_
  refine wp_callVf (As := [.int i1, .int 0, .int 0]) (rest := []) (j := 100) (v := (fX6_acrossOf M i1 0 0)) hc hx (kX6_acrossOf l D cy z hz M i1 0 0 ha (by decide) (by decide)) cw206 (by decide) (by decide) (ce_5 rfl) rfl rfl rfl rfl (Nat.le_of_ble_eq_true rfl) dX6_isSo_106 ?_
  refine wp_sipush (v := 10007) hc dX6_isSo_109 (by decide) ?_
  refine wp_icmp_ne (tgt := 142) hc dX6_isSo_112 (by decide) (fun c112 => ?_) (fun c112 => ?_)
  · refine wp_iconst (v := 0) hc dX6_isSo_142 (by decide) ?_
    refine wp_zret hc hr hk rfl ?_ dX6_isSo_143
    show 0 = fX6_isSo M i1 i2 ∧ M = M
    exact ⟨by rw [fX6_isSo, if_neg c1_0, if_neg c1_1, if_neg c1_2, if_neg c112], rfl⟩
  refine wp_aload_n hc 0 dX6_isSo_115 rfl ?_
  refine wp_iload_n hc 1 dX6_isSo_116 rfl ?_
  refine wp_iconst (v := 1) hc dX6_isSo_117 (by decide) ?_
  refine wp_iconst (v := 1) hc dX6_isSo_118 (by decide) ?_
  refine wp_callVf (As := [.int i1, .int 1, .int 1]) (rest := []) (j := 100) (v := (fX6_acrossOf M i1 1 1)) hc hx (kX6_acrossOf l D cy z hz M i1 1 1 ha (by decide) (by decide)) cw206 (by decide) (by decide) (ce_5 rfl) rfl rfl rfl rfl (Nat.le_of_ble_eq_true rfl) dX6_isSo_119 ?_
  refine wp_sipush (v := 10007) hc dX6_isSo_122 (by decide) ?_
  refine wp_icmp_ne (tgt := 142) hc dX6_isSo_125 (by decide) (fun c125 => ?_) (fun c125 => ?_)
  · refine wp_iconst (v := 0) hc dX6_isSo_142 (by decide) ?_
    refine wp_zret hc hr hk rfl ?_ dX6_isSo_143
    show 0 = fX6_isSo M i1 i2 ∧ M = M
    exact ⟨by rw [fX6_isSo, if_neg c1_0, if_neg c1_1, if_neg c1_2, if_pos c112, if_neg c125], rfl⟩
  refine wp_aload_n hc 0 dX6_isSo_128 rfl ?_
  refine wp_iload_n hc 1 dX6_isSo_129 rfl ?_
  refine wp_iconst (v := 0) hc dX6_isSo_130 (by decide) ?_
  refine wp_iconst (v := 1) hc dX6_isSo_131 (by decide) ?_
  refine wp_callVf (As := [.int i1, .int 0, .int 1]) (rest := []) (j := 100) (v := (fX6_acrossOf M i1 0 1)) hc hx (kX6_acrossOf l D cy z hz M i1 0 1 ha (by decide) (by decide)) cw206 (by decide) (by decide) (ce_5 rfl) rfl rfl rfl rfl (Nat.le_of_ble_eq_true rfl) dX6_isSo_132 ?_
  refine wp_if_ne (tgt := 142) hc dX6_isSo_135 (by decide) (fun c135 => ?_) (fun c135 => ?_)
  · refine wp_iconst (v := 0) hc dX6_isSo_142 (by decide) ?_
    refine wp_zret hc hr hk rfl ?_ dX6_isSo_143
    show 0 = fX6_isSo M i1 i2 ∧ M = M
    exact ⟨by rw [fX6_isSo, if_neg c1_0, if_neg c1_1, if_neg c1_2, if_pos c112, if_pos c125, if_neg c135], rfl⟩
  refine wp_iconst (v := 1) hc dX6_isSo_138 (by decide) ?_
  refine wp_goto (tgt := 143) hc dX6_isSo_139 (by decide) ?_
  refine wp_zret hc hr hk rfl ?_ dX6_isSo_143
  show 1 = fX6_isSo M i1 i2 ∧ M = M
  exact ⟨by rw [fX6_isSo, if_neg c1_0, if_neg c1_1, if_neg c1_2, if_pos c112, if_pos c125, if_pos c135], rfl⟩
theorem bX6_isSo (M : Mem) (i1 : Int32) (i2 : Int32) : fX6_isSo M i1 i2 = 0 ∨ fX6_isSo M i1 i2 = 1 := by
  unfold fX6_isSo
  (repeat' split) <;> first | exact Or.inl rfl | exact Or.inr rfl
def fX6_testOf (M : Mem) (i1 : Int32) (i2 : Int32) : Int32 :=
  if (fX6_isSo M (fX6_boxAt M i1) i2) = 0 then
  0
  else
  1
set_option maxHeartbeats 4000000 in
set_option maxRecDepth 100000 in
theorem kX6_testOf (l : Launch) (D : va_G) (cy : Nat → ClassId) (z : Nat → Nat) (hz : zI z) (M : Mem) (i1 : Int32) (i2 : Int32) (hb : 0 ≤ i1.toInt ∧ i1.toInt < 8) : KI l yX6_testOf wsX6_testOf { frames := 5, cells := 0, slots := 0, locals := 112 } D cy z 100 15 [.ref (z 100), .int i1, .int i2] M (fun r u => r = fX6_testOf M i1 i2 ∧ u = M) := by
  refine met_wp (lv := [(0, .ref (z 100)), (1, .int i1), (2, .int i2)]) hz (by decide) (by decide) rfl rfl (Nat.le_of_ble_eq_true rfl) rfl ?_
  intro p e s m below meth c hc hx hr hk
  have hNW := hx.2.1
  have cw85 : CallW ({ frames := 5, cells := 0, slots := 0, locals := 112 }) s _ RX6 RX6 85 yX6_boxAt cX6_boxAt 2 (some .int) wsX6_boxAt ({ frames := 0, cells := 0, slots := 0, locals := 0 }) 0 0 1 := cwV 1 hc.2.2.2.2 gX6_testOf_X6_boxAt rfl rfl rfl (by decide +kernel) ⟨Nat.le_of_ble_eq_true rfl, Nat.le_of_ble_eq_true rfl⟩
  have cw210 : CallW ({ frames := 5, cells := 0, slots := 0, locals := 112 }) s _ RX6 RX6 210 yX6_isSo cX6_isSo 3 (some .boolean) wsX6_isSo ({ frames := 4, cells := 0, slots := 0, locals := 90 }) 0 0 2 := cwV 2 hc.2.2.2.2 gX6_testOf_X6_isSo rfl rfl rfl (by decide +kernel) ⟨Nat.le_of_ble_eq_true rfl, Nat.le_of_ble_eq_true rfl⟩
  refine wp_aload_n hc 0 dX6_testOf_0 rfl ?_
  refine wp_aload_n hc 0 dX6_testOf_1 rfl ?_
  refine wp_iload_n hc 1 dX6_testOf_2 rfl ?_
  refine wp_callVf (As := [.int i1]) (rest := [.ref (z 100)]) (j := 100) (v := (fX6_boxAt M i1)) hc hx (kX6_boxAt l D cy z hz M i1) cw85 (by decide) (by decide) (ce_5 rfl) rfl rfl rfl rfl (Nat.le_of_ble_eq_true rfl) dX6_testOf_3 ?_
  refine wp_iload_n hc 2 dX6_testOf_6 rfl ?_
  refine wp_callVf (As := [.int (fX6_boxAt M i1), .int i2]) (rest := []) (j := 100) (v := (fX6_isSo M (fX6_boxAt M i1) i2)) hc hx (kX6_isSo l D cy z hz M (fX6_boxAt M i1) i2 (bx54 hb)) cw210 (by decide) (by decide) (ce_5 rfl) rfl rfl rfl rfl (Nat.le_of_ble_eq_true rfl) dX6_testOf_7 ?_
  refine wp_if_eq (tgt := 17) hc dX6_testOf_10 (by decide) (fun c10 => ?_) (fun c10 => ?_)
  · refine wp_iconst (v := 0) hc dX6_testOf_17 (by decide) ?_
    refine wp_iret hc hr hk ?_ dX6_testOf_18
    show 0 = fX6_testOf M i1 i2 ∧ M = M
    exact ⟨by rw [fX6_testOf, if_pos c10], rfl⟩
  refine wp_iconst (v := 1) hc dX6_testOf_13 (by decide) ?_
  refine wp_goto (tgt := 18) hc dX6_testOf_14 (by decide) ?_
  refine wp_iret hc hr hk ?_ dX6_testOf_18
  show 1 = fX6_testOf M i1 i2 ∧ M = M
  exact ⟨by rw [fX6_testOf, if_neg c10], rfl⟩
def sX6_test (M : Mem) (i1 : Int32) (i2 : Int32) : Int32 × Mem :=
  if (fX6_isBox M i1) = 0 then
  tk (sX6_bad M) fun x1 =>
  (x1.1, x1.2)
  else
  if (fX6_in i2 0 3) = 0 then
  tk (sX6_bad M) fun x2 =>
  (x2.1, x2.2)
  else
  ((fX6_testOf M i1 i2), M)
set_option maxHeartbeats 4000000 in
set_option maxRecDepth 100000 in
theorem kX6_test (l : Launch) (D : va_G) (cy : Nat → ClassId) (z : Nat → Nat) (hz : zI z) (M : Mem) (i1 : Int32) (i2 : Int32) (hn : 0 ≤ (M.1 101 0).toInt ∧ (M.1 101 0).toInt ≤ 8) : KI l yX6_test wsX6_test { frames := 6, cells := 0, slots := 0, locals := 134 } D cy z 100 15 [.ref (z 100), .int i1, .int i2] M (fun r u => (r, u) = sX6_test M i1 i2) := by
  refine met_wp (lv := [(0, .ref (z 100)), (1, .int i1), (2, .int i2)]) hz (by decide) (by decide) rfl rfl (Nat.le_of_ble_eq_true rfl) rfl ?_
  intro p e s m below meth c hc hx hr hk
  have hNW := hx.2.1
  have cw81 : CallB ({ frames := 6, cells := 0, slots := 0, locals := 134 }) s _ RX6 81 yX6_in cX6_in 3 (some .boolean) wsX6_in ({ frames := 0, cells := 0, slots := 0, locals := 0 }) 0 0 3 ∧ (Cond.static yX6_in).before _ s = true := va_cwS 3 hc.2.2.2.2 gX6_test_X6_in rfl rfl rfl (by decide +kernel) ⟨Nat.le_of_ble_eq_true rfl, Nat.le_of_ble_eq_true rfl⟩
  have cw98 : CallW ({ frames := 6, cells := 0, slots := 0, locals := 134 }) s _ RX6 RX6 98 yX6_isBox cX6_isBox 2 (some .boolean) wsX6_isBox ({ frames := 1, cells := 0, slots := 0, locals := 22 }) 0 0 1 := cwV 1 hc.2.2.2.2 gX6_test_X6_isBox rfl rfl rfl (by decide +kernel) ⟨Nat.le_of_ble_eq_true rfl, Nat.le_of_ble_eq_true rfl⟩
  have cw105 : CallW ({ frames := 6, cells := 0, slots := 0, locals := 134 }) s _ RX6 RX6 105 yX6_bad cX6_bad 1 (some .int) wsX6_bad ({ frames := 0, cells := 0, slots := 0, locals := 0 }) 0 0 0 := cwV 0 hc.2.2.2.2 gX6_test_X6_bad rfl rfl rfl (by decide +kernel) ⟨Nat.le_of_ble_eq_true rfl, Nat.le_of_ble_eq_true rfl⟩
  have cw213 : CallW ({ frames := 6, cells := 0, slots := 0, locals := 134 }) s _ RX6 RX6 213 yX6_testOf cX6_testOf 3 (some .int) wsX6_testOf ({ frames := 5, cells := 0, slots := 0, locals := 112 }) 0 0 2 := cwV 2 hc.2.2.2.2 gX6_test_X6_testOf rfl rfl rfl (by decide +kernel) ⟨Nat.le_of_ble_eq_true rfl, Nat.le_of_ble_eq_true rfl⟩
  refine wp_aload_n hc 0 dX6_test_0 rfl ?_
  refine wp_iload_n hc 1 dX6_test_1 rfl ?_
  refine wp_callVf (As := [.int i1]) (rest := []) (j := 100) (v := (fX6_isBox M i1)) hc hx (kX6_isBox l D cy z hz M i1) cw98 (by decide) (by decide) (ce_5 rfl) rfl rfl rfl rfl (Nat.le_of_ble_eq_true rfl) dX6_test_2 ?_
  refine wp_if_eq (tgt := 26) hc dX6_test_5 (by decide) (fun c5 => ?_) (fun c5 => ?_)
  · refine wp_aload_n hc 0 dX6_test_26 rfl ?_
    refine wp_callVw (As := []) (rest := []) (j := 100) (w := sX6_bad M) hc hx (kX6_bad l D cy z hz M) cw105 (by decide) (by decide) (ce_5 rfl) rfl rfl rfl rfl (Nat.le_of_ble_eq_true rfl) dX6_test_27 (fun x1 hx1 => ?_)
    refine wp_iret hc hr hk ?_ dX6_test_30
    show (x1.1, x1.2) = sX6_test M i1 i2
    rw [sX6_test, if_pos c5, tk_eq hx1]
  refine wp_iload_n hc 2 dX6_test_8 rfl ?_
  refine wp_iconst (v := 0) hc dX6_test_9 (by decide) ?_
  refine wp_iconst (v := 3) hc dX6_test_10 (by decide) ?_
  refine wp_callSg (As := [.int i2, .int 0, .int 3]) (rest := []) (v := (fX6_in i2 0 3)) hc hNW (kX6_in l i2 0 3) cw81 rfl rfl (Nat.le_of_ble_eq_true rfl) dX6_test_11 ?_
  refine wp_if_eq (tgt := 26) hc dX6_test_14 (by decide) (fun c14 => ?_) (fun c14 => ?_)
  · refine wp_aload_n hc 0 dX6_test_26 rfl ?_
    refine wp_callVw (As := []) (rest := []) (j := 100) (w := sX6_bad M) hc hx (kX6_bad l D cy z hz M) cw105 (by decide) (by decide) (ce_5 rfl) rfl rfl rfl rfl (Nat.le_of_ble_eq_true rfl) dX6_test_27 (fun x2 hx2 => ?_)
    refine wp_iret hc hr hk ?_ dX6_test_30
    show (x2.1, x2.2) = sX6_test M i1 i2
    rw [sX6_test, if_neg c5, if_pos c14, tk_eq hx2]
  refine wp_aload_n hc 0 dX6_test_17 rfl ?_
  refine wp_iload_n hc 1 dX6_test_18 rfl ?_
  refine wp_iload_n hc 2 dX6_test_19 rfl ?_
  refine wp_callVf (As := [.int i1, .int i2]) (rest := []) (j := 100) (v := (fX6_testOf M i1 i2)) hc hx (kX6_testOf l D cy z hz M i1 i2 (isBox_8 hn c5)) cw213 (by decide) (by decide) (ce_5 rfl) rfl rfl rfl rfl (Nat.le_of_ble_eq_true rfl) dX6_test_20 ?_
  refine wp_goto (tgt := 30) hc dX6_test_23 (by decide) ?_
  refine wp_iret hc hr hk ?_ dX6_test_30
  show ((fX6_testOf M i1 i2), M) = sX6_test M i1 i2
  rw [sX6_test, if_neg c5, if_neg c14]
def sX6_type (M : Mem) (i1 : Int32) : Int32 × Mem :=
  if (fX6_in i1 0 127) = 0 then
  tk (sX6_bad M) fun x4 =>
  (x4.1, x4.2)
  else
  if (M.1 100 6) = 120 then
  tk (sX6_full M) fun x3 =>
  (x3.1, x3.2)
  else
  tk (st M 105 (M.1 100 6).toNatClampNeg i1) fun M1 =>
  tk (st M1 100 6 ((M1.1 100 6) + 1)) fun M2 =>
  ((M2.1 100 6), M2)
set_option maxHeartbeats 4000000 in
set_option maxRecDepth 100000 in
theorem kX6_type (l : Launch) (D : va_G) (cy : Nat → ClassId) (z : Nat → Nat) (hz : zI z) (M : Mem) (i1 : Int32) (hy : 0 ≤ (M.1 100 6).toInt ∧ (M.1 100 6).toInt ≤ 120) : KI l yX6_type wsX6_type { frames := 1, cells := 0, slots := 0, locals := 22 } D cy z 100 15 [.ref (z 100), .int i1] M (fun r u => (r, u) = sX6_type M i1) := by
  refine met_wp (lv := [(0, .ref (z 100)), (1, .int i1)]) hz (by decide) (by decide) rfl rfl (Nat.le_of_ble_eq_true rfl) rfl ?_
  intro p e s m below meth c hc hx hr hk
  have hNW := hx.2.1
  have hin6 : ∀ w ∈ wsX60, w ∈ wsX6_type := by decide +kernel
  have hf22 : Cond.fieldLink RX6 22 (TX6 5).1 (TX6 5).2.1 (TX6 5).2.2.1 ∈ wsX6_type := by decide +kernel
  have hf219 : Cond.fieldLink RX6 219 (TX6 6).1 (TX6 6).2.1 (TX6 6).2.2.1 ∈ wsX6_type := by decide +kernel
  have cw81 : CallB ({ frames := 1, cells := 0, slots := 0, locals := 22 }) s _ RX6 81 yX6_in cX6_in 3 (some .boolean) wsX6_in ({ frames := 0, cells := 0, slots := 0, locals := 0 }) 0 0 3 ∧ (Cond.static yX6_in).before _ s = true := va_cwS 3 hc.2.2.2.2 gX6_type_X6_in rfl rfl rfl (by decide +kernel) ⟨Nat.le_of_ble_eq_true rfl, Nat.le_of_ble_eq_true rfl⟩
  have cw88 : CallW ({ frames := 1, cells := 0, slots := 0, locals := 22 }) s _ RX6 RX6 88 yX6_full cX6_full 1 (some .int) wsX6_full ({ frames := 0, cells := 0, slots := 0, locals := 0 }) 0 0 0 := cwV 0 hc.2.2.2.2 gX6_type_X6_full rfl rfl rfl (by decide +kernel) ⟨Nat.le_of_ble_eq_true rfl, Nat.le_of_ble_eq_true rfl⟩
  have cw105 : CallW ({ frames := 1, cells := 0, slots := 0, locals := 22 }) s _ RX6 RX6 105 yX6_bad cX6_bad 1 (some .int) wsX6_bad ({ frames := 0, cells := 0, slots := 0, locals := 0 }) 0 0 0 := cwV 0 hc.2.2.2.2 gX6_type_X6_bad rfl rfl rfl (by decide +kernel) ⟨Nat.le_of_ble_eq_true rfl, Nat.le_of_ble_eq_true rfl⟩
  refine wp_iload_n hc 1 dX6_type_0 rfl ?_
  refine wp_iconst (v := 0) hc dX6_type_1 (by decide) ?_
  refine wp_bipush (v := 127) hc dX6_type_2 (by decide) ?_
  refine wp_callSg (As := [.int i1, .int 0, .int 127]) (rest := []) (v := (fX6_in i1 0 127)) hc hNW (kX6_in l i1 0 127) cw81 rfl rfl (Nat.le_of_ble_eq_true rfl) dX6_type_4 ?_
  refine wp_if_ne (tgt := 15) hc dX6_type_7 (by decide) (fun c7 => ?_) (fun c7 => ?_)
  · refine wp_aload_n hc 0 dX6_type_15 rfl ?_
    refine wp_get hc hx hin6 (j := 100) (by decide) (by decide) (ce_5 rfl) rfl 6 (by decide) hf219 rfl dX6_type_16 ?_
    refine wp_bipush (v := 120) hc dX6_type_19 (by decide) ?_
    refine wp_icmp_ne (tgt := 29) hc dX6_type_21 (by decide) (fun c21 => ?_) (fun c21 => ?_)
    · refine wp_aload_n hc 0 dX6_type_29 rfl ?_
      refine wp_get hc hx hin6 (j := 100) (by decide) (by decide) (ce_5 rfl) rfl 5 (by decide) hf22 rfl dX6_type_30 ?_
      refine wp_aload_n hc 0 dX6_type_33 rfl ?_
      refine wp_get hc hx hin6 (j := 100) (by decide) (by decide) (ce_5 rfl) rfl 6 (by decide) hf219 rfl dX6_type_34 ?_
      refine wp_iload_n hc 1 dX6_type_37 rfl ?_
      refine wp_iast hc hx (j := 105) (by decide) (by decide) rfl (M.1 100 6).toNatClampNeg rfl (vin (by have h5 : (M.1 100 6).toInt ≠ 120 := fun h => c21 (Int32.toInt_inj.mp h); show _ ∧ _ < ((120 : Nat) : Int); omega)) dX6_type_38 ?_
      refine wp_nm (fun M1 hM1 => ?_)
      refine wp_aload_n hc 0 dX6_type_39 rfl ?_
      refine wp_dup hc dX6_type_40 rfl ?_
      refine wp_get hc hx hin6 (j := 100) (by decide) (by decide) (ce_5 rfl) rfl 6 (by decide) hf219 rfl dX6_type_41 ?_
      refine wp_iconst (v := 1) hc dX6_type_44 (by decide) ?_
      refine wp_iadd hc dX6_type_45 ?_
      refine wp_put (M' := st M1 100 6 ((M1.1 100 6) + 1)) hc hx hin6 tyX6 tyX6_ok nmX6 (j := 100) (by decide) (by decide) (ce_5 rfl) rfl 6 (by decide) hf219 rfl rfl rfl (Nat.le_of_ble_eq_true rfl) (by rw [ce_5 rfl]; exact ce_stM6 _ _ _) (fun i hi => ce_row (va_up_ne _ _ hi) rfl) dX6_type_46 ?_
      refine wp_nm (fun M2 hM2 => ?_)
      refine wp_aload_n hc 0 dX6_type_49 rfl ?_
      refine wp_get hc hx hin6 (j := 100) (by decide) (by decide) (ce_5 rfl) rfl 6 (by decide) hf219 rfl dX6_type_50 ?_
      refine wp_iret hc hr hk ?_ dX6_type_53
      show ((M2.1 100 6), M2) = sX6_type M i1
      rw [sX6_type, if_neg c7, if_neg c21, tk_eq hM1, tk_eq hM2]
    refine wp_aload_n hc 0 dX6_type_24 rfl ?_
    refine wp_callVw (As := []) (rest := []) (j := 100) (w := sX6_full M) hc hx (kX6_full l D cy z hz M) cw88 (by decide) (by decide) (ce_5 rfl) rfl rfl rfl rfl (Nat.le_of_ble_eq_true rfl) dX6_type_25 (fun x3 hx3 => ?_)
    refine wp_iret hc hr hk ?_ dX6_type_28
    show (x3.1, x3.2) = sX6_type M i1
    rw [sX6_type, if_neg c7, if_pos c21, tk_eq hx3]
  refine wp_aload_n hc 0 dX6_type_10 rfl ?_
  refine wp_callVw (As := []) (rest := []) (j := 100) (w := sX6_bad M) hc hx (kX6_bad l D cy z hz M) cw105 (by decide) (by decide) (ce_5 rfl) rfl rfl rfl rfl (Nat.le_of_ble_eq_true rfl) dX6_type_11 (fun x4 hx4 => ?_)
  refine wp_iret hc hr hk ?_ dX6_type_14
  show (x4.1, x4.2) = sX6_type M i1
  rw [sX6_type, if_pos c7, tk_eq hx4]
def sX6_clear (M : Mem)  : Int32 × Mem :=
  tk (st M 100 6 0) fun M1 =>
  ((M.1 100 6), M1)
set_option maxHeartbeats 4000000 in
set_option maxRecDepth 100000 in
theorem kX6_clear (l : Launch) (D : va_G) (cy : Nat → ClassId) (z : Nat → Nat) (hz : zI z) (M : Mem)  : KI l yX6_clear wsX6_clear { frames := 0, cells := 0, slots := 0, locals := 0 } D cy z 100 15 [.ref (z 100)] M (fun r u => (r, u) = sX6_clear M) := by
  refine met_wp (lv := [(0, .ref (z 100))]) hz (by decide) (by decide) rfl rfl (Nat.le_of_ble_eq_true rfl) rfl ?_
  intro p e s m below meth c hc hx hr hk
  have hNW := hx.2.1
  have hin6 : ∀ w ∈ wsX60, w ∈ wsX6_clear := by decide +kernel
  have hf219 : Cond.fieldLink RX6 219 (TX6 6).1 (TX6 6).2.1 (TX6 6).2.2.1 ∈ wsX6_clear := by decide +kernel
  refine wp_aload_n hc 0 dX6_clear_0 rfl ?_
  refine wp_get hc hx hin6 (j := 100) (by decide) (by decide) (ce_5 rfl) rfl 6 (by decide) hf219 rfl dX6_clear_1 ?_
  refine wp_istore_n (lv' := [(1, .int (M.1 100 6)), (0, .ref (z 100))]) hc dX6_clear_4 (by decide) rfl ?_
  refine wp_aload_n hc 1 dX6_clear_5 rfl ?_
  refine wp_iconst (v := 0) hc dX6_clear_6 (by decide) ?_
  refine wp_put (M' := st M 100 6 0) hc hx hin6 tyX6 tyX6_ok nmX6 (j := 100) (by decide) (by decide) (ce_5 rfl) rfl 6 (by decide) hf219 rfl rfl rfl (Nat.le_of_ble_eq_true rfl) (by rw [ce_5 rfl]; exact ce_stM6 _ _ _) (fun i hi => ce_row (va_up_ne _ _ hi) rfl) dX6_clear_7 ?_
  refine wp_nm (fun M1 hM1 => ?_)
  refine wp_iload_n hc 0 dX6_clear_10 rfl ?_
  refine wp_iret hc hr hk ?_ dX6_clear_11
  show ((M.1 100 6), M1) = sX6_clear M
  rw [sX6_clear, tk_eq hM1]
def fX6_countOf (M : Mem) (i1 : Int32) : Int32 :=
  if i1 = 0 then
  (M.1 101 0)
  else
  if i1 = 1 then
  (M.1 101 45)
  else
  if i1 = 2 then
  (M.1 104 0)
  else
  if i1 = 3 then
  (M.1 104 1)
  else
  if i1 = 4 then
  (M.1 104 2)
  else
  if i1 = 5 then
  (M.1 100 6)
  else
  if i1 = 6 then
  (M.1 100 3)
  else
  0
set_option maxHeartbeats 4000000 in
set_option maxRecDepth 100000 in
theorem kX6_countOf (l : Launch) (D : va_G) (cy : Nat → ClassId) (z : Nat → Nat) (hz : zI z) (M : Mem) (i1 : Int32) (hw : 0 ≤ i1.toInt ∧ i1.toInt ≤ 6) : KI l yX6_countOf wsX6_countOf { frames := 0, cells := 0, slots := 0, locals := 0 } D cy z 100 15 [.ref (z 100), .int i1] M (fun r u => r = fX6_countOf M i1 ∧ u = M) := by
  refine met_wp (lv := [(0, .ref (z 100)), (1, .int i1)]) hz (by decide) (by decide) rfl rfl (Nat.le_of_ble_eq_true rfl) rfl ?_
  intro p e s m below meth c hc hx hr hk
  have hNW := hx.2.1
  have hin6 : ∀ w ∈ wsX60, w ∈ wsX6_countOf := by decide +kernel
  have hf7 : Cond.fieldLink RX6 7 (TX6 0).1 (TX6 0).2.1 (TX6 0).2.2.1 ∈ wsX6_countOf := by decide +kernel
  have hf19 : Cond.fieldLink RX6 19 (TX6 4).1 (TX6 4).2.1 (TX6 4).2.2.1 ∈ wsX6_countOf := by decide +kernel
  have hf52 : Cond.fieldLink RX6 52 (TX6 3).1 (TX6 3).2.1 (TX6 3).2.2.1 ∈ wsX6_countOf := by decide +kernel
  have hf219 : Cond.fieldLink RX6 219 (TX6 6).1 (TX6 6).2.1 (TX6 6).2.2.1 ∈ wsX6_countOf := by decide +kernel
  refine wp_iload_n hc 1 dX6_countOf_0 rfl ?_
  by_cases c1_0 : i1 = 0
  · subst c1_0
    refine wp_tableIn (tgt := 44) (off := 43) hc dX6_countOf_1 (by decide) (by decide) rfl (by decide) ?_
    refine wp_aload_n hc 0 dX6_countOf_44 rfl ?_
    refine wp_get hc hx hin6 (j := 100) (by decide) (by decide) (ce_5 rfl) rfl 0 (by decide) hf7 rfl dX6_countOf_45 ?_
    refine wp_iconst (v := 0) hc dX6_countOf_48 (by decide) ?_
    refine wp_iald hc hx (j := 101) (by decide) (by decide) rfl 0 rfl (vin (by decide)) dX6_countOf_49 ?_
    refine wp_iret hc hr hk ?_ dX6_countOf_50
    show (M.1 101 0) = fX6_countOf M 0 ∧ M = M
    exact ⟨by rw [fX6_countOf, if_pos rfl], rfl⟩
  by_cases c1_1 : i1 = 1
  · subst c1_1
    refine wp_tableIn (tgt := 51) (off := 50) hc dX6_countOf_1 (by decide) (by decide) rfl (by decide) ?_
    refine wp_aload_n hc 0 dX6_countOf_51 rfl ?_
    refine wp_get hc hx hin6 (j := 100) (by decide) (by decide) (ce_5 rfl) rfl 0 (by decide) hf7 rfl dX6_countOf_52 ?_
    refine wp_bipush (v := 45) hc dX6_countOf_55 (by decide) ?_
    refine wp_iald hc hx (j := 101) (by decide) (by decide) rfl 45 rfl (vin (by decide)) dX6_countOf_57 ?_
    refine wp_iret hc hr hk ?_ dX6_countOf_58
    show (M.1 101 45) = fX6_countOf M 1 ∧ M = M
    exact ⟨by rw [fX6_countOf, if_neg c1_0, if_pos rfl], rfl⟩
  by_cases c1_2 : i1 = 2
  · subst c1_2
    refine wp_tableIn (tgt := 69) (off := 68) hc dX6_countOf_1 (by decide) (by decide) rfl (by decide) ?_
    refine wp_aload_n hc 0 dX6_countOf_69 rfl ?_
    refine wp_get hc hx hin6 (j := 100) (by decide) (by decide) (ce_5 rfl) rfl 4 (by decide) hf19 rfl dX6_countOf_70 ?_
    refine wp_iload_n hc 1 dX6_countOf_73 rfl ?_
    refine wp_iconst (v := 2) hc dX6_countOf_74 (by decide) ?_
    refine wp_isub hc dX6_countOf_75 ?_
    refine wp_cvt (v := 0) (by decide) ?_
    refine wp_iald hc hx (j := 104) (by decide) (by decide) rfl 0 rfl (vin (by decide)) dX6_countOf_76 ?_
    refine wp_iret hc hr hk ?_ dX6_countOf_77
    show (M.1 104 0) = fX6_countOf M 2 ∧ M = M
    exact ⟨by rw [fX6_countOf, if_neg c1_0, if_neg c1_1, if_pos rfl], rfl⟩
  by_cases c1_3 : i1 = 3
  · subst c1_3
    refine wp_tableIn (tgt := 69) (off := 68) hc dX6_countOf_1 (by decide) (by decide) rfl (by decide) ?_
    refine wp_aload_n hc 0 dX6_countOf_69 rfl ?_
    refine wp_get hc hx hin6 (j := 100) (by decide) (by decide) (ce_5 rfl) rfl 4 (by decide) hf19 rfl dX6_countOf_70 ?_
    refine wp_iload_n hc 1 dX6_countOf_73 rfl ?_
    refine wp_iconst (v := 2) hc dX6_countOf_74 (by decide) ?_
    refine wp_isub hc dX6_countOf_75 ?_
    refine wp_cvt (v := 1) (by decide) ?_
    refine wp_iald hc hx (j := 104) (by decide) (by decide) rfl 1 rfl (vin (by decide)) dX6_countOf_76 ?_
    refine wp_iret hc hr hk ?_ dX6_countOf_77
    show (M.1 104 1) = fX6_countOf M 3 ∧ M = M
    exact ⟨by rw [fX6_countOf, if_neg c1_0, if_neg c1_1, if_neg c1_2, if_pos rfl], rfl⟩
  by_cases c1_4 : i1 = 4
  · subst c1_4
    refine wp_tableIn (tgt := 69) (off := 68) hc dX6_countOf_1 (by decide) (by decide) rfl (by decide) ?_
    refine wp_aload_n hc 0 dX6_countOf_69 rfl ?_
    refine wp_get hc hx hin6 (j := 100) (by decide) (by decide) (ce_5 rfl) rfl 4 (by decide) hf19 rfl dX6_countOf_70 ?_
    refine wp_iload_n hc 1 dX6_countOf_73 rfl ?_
    refine wp_iconst (v := 2) hc dX6_countOf_74 (by decide) ?_
    refine wp_isub hc dX6_countOf_75 ?_
    refine wp_cvt (v := 2) (by decide) ?_
    refine wp_iald hc hx (j := 104) (by decide) (by decide) rfl 2 rfl (vin (by decide)) dX6_countOf_76 ?_
    refine wp_iret hc hr hk ?_ dX6_countOf_77
    show (M.1 104 2) = fX6_countOf M 4 ∧ M = M
    exact ⟨by rw [fX6_countOf, if_neg c1_0, if_neg c1_1, if_neg c1_2, if_neg c1_3, if_pos rfl], rfl⟩
  by_cases c1_5 : i1 = 5
  · subst c1_5
    refine wp_tableIn (tgt := 59) (off := 58) hc dX6_countOf_1 (by decide) (by decide) rfl (by decide) ?_
    refine wp_aload_n hc 0 dX6_countOf_59 rfl ?_
    refine wp_get hc hx hin6 (j := 100) (by decide) (by decide) (ce_5 rfl) rfl 6 (by decide) hf219 rfl dX6_countOf_60 ?_
    refine wp_iret hc hr hk ?_ dX6_countOf_63
    show (M.1 100 6) = fX6_countOf M 5 ∧ M = M
    exact ⟨by rw [fX6_countOf, if_neg c1_0, if_neg c1_1, if_neg c1_2, if_neg c1_3, if_neg c1_4, if_pos rfl], rfl⟩
  by_cases c1_6 : i1 = 6
  · subst c1_6
    refine wp_tableIn (tgt := 64) (off := 63) hc dX6_countOf_1 (by decide) (by decide) rfl (by decide) ?_
    refine wp_aload_n hc 0 dX6_countOf_64 rfl ?_
    refine wp_get hc hx hin6 (j := 100) (by decide) (by decide) (ce_5 rfl) rfl 3 (by decide) hf52 rfl dX6_countOf_65 ?_
    refine wp_iret hc hr hk ?_ dX6_countOf_68
    show (M.1 100 3) = fX6_countOf M 6 ∧ M = M
    exact ⟨by rw [fX6_countOf, if_neg c1_0, if_neg c1_1, if_neg c1_2, if_neg c1_3, if_neg c1_4, if_neg c1_5, if_pos rfl], rfl⟩
  exfalso
  have q0 := lv_neT (a := 0) c1_0 (by decide)
  have q1 := lv_neT (a := 1) c1_1 (by decide)
  have q2 := lv_neT (a := 2) c1_2 (by decide)
  have q3 := lv_neT (a := 3) c1_3 (by decide)
  have q4 := lv_neT (a := 4) c1_4 (by decide)
  have q5 := lv_neT (a := 5) c1_5 (by decide)
  have q6 := lv_neT (a := 6) c1_6 (by decide)
  omega
def sX6_count (M : Mem) (i1 : Int32) : Int32 × Mem :=
  if (fX6_in i1 0 6) = 0 then
  tk (sX6_bad M) fun x1 =>
  (x1.1, x1.2)
  else
  ((fX6_countOf M i1), M)
set_option maxHeartbeats 4000000 in
set_option maxRecDepth 100000 in
theorem kX6_count (l : Launch) (D : va_G) (cy : Nat → ClassId) (z : Nat → Nat) (hz : zI z) (M : Mem) (i1 : Int32) : KI l yX6_count wsX6_count { frames := 1, cells := 0, slots := 0, locals := 22 } D cy z 100 15 [.ref (z 100), .int i1] M (fun r u => (r, u) = sX6_count M i1) := by
  refine met_wp (lv := [(0, .ref (z 100)), (1, .int i1)]) hz (by decide) (by decide) rfl rfl (Nat.le_of_ble_eq_true rfl) rfl ?_
  intro p e s m below meth c hc hx hr hk
  have hNW := hx.2.1
  have cw81 : CallB ({ frames := 1, cells := 0, slots := 0, locals := 22 }) s _ RX6 81 yX6_in cX6_in 3 (some .boolean) wsX6_in ({ frames := 0, cells := 0, slots := 0, locals := 0 }) 0 0 3 ∧ (Cond.static yX6_in).before _ s = true := va_cwS 3 hc.2.2.2.2 gX6_count_X6_in rfl rfl rfl (by decide +kernel) ⟨Nat.le_of_ble_eq_true rfl, Nat.le_of_ble_eq_true rfl⟩
  have cw105 : CallW ({ frames := 1, cells := 0, slots := 0, locals := 22 }) s _ RX6 RX6 105 yX6_bad cX6_bad 1 (some .int) wsX6_bad ({ frames := 0, cells := 0, slots := 0, locals := 0 }) 0 0 0 := cwV 0 hc.2.2.2.2 gX6_count_X6_bad rfl rfl rfl (by decide +kernel) ⟨Nat.le_of_ble_eq_true rfl, Nat.le_of_ble_eq_true rfl⟩
  have cw271 : CallW ({ frames := 1, cells := 0, slots := 0, locals := 22 }) s _ RX6 RX6 271 yX6_countOf cX6_countOf 2 (some .int) wsX6_countOf ({ frames := 0, cells := 0, slots := 0, locals := 0 }) 0 0 1 := cwV 1 hc.2.2.2.2 gX6_count_X6_countOf rfl rfl rfl (by decide +kernel) ⟨Nat.le_of_ble_eq_true rfl, Nat.le_of_ble_eq_true rfl⟩
  refine wp_iload_n hc 1 dX6_count_0 rfl ?_
  refine wp_iconst (v := 0) hc dX6_count_1 (by decide) ?_
  refine wp_bipush (v := 6) hc dX6_count_2 (by decide) ?_
  refine wp_callSg (As := [.int i1, .int 0, .int 6]) (rest := []) (v := (fX6_in i1 0 6)) hc hNW (kX6_in l i1 0 6) cw81 rfl rfl (Nat.le_of_ble_eq_true rfl) dX6_count_4 ?_
  refine wp_if_eq (tgt := 18) hc dX6_count_7 (by decide) (fun c7 => ?_) (fun c7 => ?_)
  · refine wp_aload_n hc 0 dX6_count_18 rfl ?_
    refine wp_callVw (As := []) (rest := []) (j := 100) (w := sX6_bad M) hc hx (kX6_bad l D cy z hz M) cw105 (by decide) (by decide) (ce_5 rfl) rfl rfl rfl rfl (Nat.le_of_ble_eq_true rfl) dX6_count_19 (fun x1 hx1 => ?_)
    refine wp_iret hc hr hk ?_ dX6_count_22
    show (x1.1, x1.2) = sX6_count M i1
    rw [sX6_count, if_pos c7, tk_eq hx1]
  refine wp_aload_n hc 0 dX6_count_10 rfl ?_
  refine wp_iload_n hc 1 dX6_count_11 rfl ?_
  refine wp_callVf (As := [.int i1]) (rest := []) (j := 100) (v := (fX6_countOf M i1)) hc hx (kX6_countOf l D cy z hz M i1 (in06 c7)) cw271 (by decide) (by decide) (ce_5 rfl) rfl rfl rfl rfl (Nat.le_of_ble_eq_true rfl) dX6_count_12 ?_
  refine wp_goto (tgt := 22) hc dX6_count_15 (by decide) ?_
  refine wp_iret hc hr hk ?_ dX6_count_22
  show ((fX6_countOf M i1), M) = sX6_count M i1
  rw [sX6_count, if_neg c7]
def sX6_mix (M : Mem) (i1 : Int64) : Mem :=
  tk (sh M ((31 * M.2.2) + i1)) fun M1 =>
  M1
set_option maxHeartbeats 4000000 in
set_option maxRecDepth 100000 in
theorem kX6_mix (l : Launch) (D : va_G) (cy : Nat → ClassId) (z : Nat → Nat) (hz : zI z) (M : Mem) (i1 : Int64) : KV l yX6_mix wsX6_mix { frames := 0, cells := 0, slots := 0, locals := 0 } D cy z 100 15 [.ref (z 100), .long i1] M (fun u => u = sX6_mix M i1) := by
  refine met_wp (lv := [(0, .ref (z 100)), (1, .long i1)]) hz (by decide) (by decide) rfl rfl (Nat.le_of_ble_eq_true rfl) rfl ?_
  intro p e s m below meth c hc hx hr hk
  have hNW := hx.2.1
  have hin6 : ∀ w ∈ wsX60, w ∈ wsX6_mix := by decide +kernel
  have hf276 : Cond.fieldLink RX6 276 (TX6 20).1 (TX6 20).2.1 (TX6 20).2.2.1 ∈ wsX6_mix := by decide +kernel
  refine wp_aload_n hc 0 dX6_mix_0 rfl ?_
  refine wp_ldc2 (v := 31) hc (by decide +kernel) dX6_mix_1 ?_
  refine wp_aload_n hc 0 dX6_mix_4 rfl ?_
  refine wp_get hc hx hin6 (j := 100) (by decide) (by decide) (ce_5 rfl) rfl 20 (by decide) hf276 rfl dX6_mix_5 ?_
  refine wp_lmul hc dX6_mix_8 ?_
  refine wp_lload_n hc 1 dX6_mix_9 rfl ?_
  refine wp_ladd hc dX6_mix_10 ?_
  refine wp_put (M' := sh M ((31 * M.2.2) + i1)) hc hx hin6 tyX6 tyX6_ok nmX6 (j := 100) (by decide) (by decide) (ce_5 rfl) rfl 20 (by decide) hf276 rfl rfl rfl (Nat.le_of_ble_eq_true rfl) (by rw [ce_5 rfl]; rfl) (fun i hi => ce_sh hi) dX6_mix_11 ?_
  refine wp_nm (fun M1 hM1 => ?_)
  refine wp_vret hc hr hk ?_ dX6_mix_14
  show M1 = sX6_mix M i1
  rw [sX6_mix, tk_eq hM1]
