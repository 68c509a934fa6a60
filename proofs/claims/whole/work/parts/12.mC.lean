/-- what a reckoning leaves as it was: all but the rows that it reckons in, and whether it broke -/
def KP (M M' : Mem) : Prop := (∀ j, (j = 101 ∨ j = 102 ∨ j = 103 ∨ j = 104 ∨ j = 105 ∨ j = 112 ∨ j = 113 ∨ j = 114) → M'.1 j = M.1 j) ∧ (∀ k, k ≠ 7 → M'.1 100 k = M.1 100 k) ∧ M'.2 = M.2
theorem KP.rf {M : Mem} : KP M M := ⟨fun _ _ => rfl, fun _ _ => rfl, rfl⟩
theorem KP.trans {A B C : Mem} (h : KP A B) (g : KP B C) : KP A C := ⟨fun j hj => (g.1 j hj).trans (h.1 j hj), fun k hk => (g.2.1 k hk).trans (h.2.1 k hk), g.2.2.trans h.2.2⟩
theorem kp_st {M : Mem} {j k : Nat} {v : Int32} (h : (j = 100 ∧ k = 7) ∨ (105 < j ∧ j < 112)) : KP M (st M j k v) := by
  refine ⟨fun i hi => st_ne _ _ _ (by omega), fun q hq => ?_, rfl⟩
  by_cases e : j = 100
  · subst e
    rw [st_row]
    exact pk_un (by omega)
  · rw [st_ne _ _ _ (Ne.symm e)]
theorem kp_stv {M : Mem} {j k : Nat} {v : Int32} (h : 105 < j ∧ j < 112) : KP M (st M j k v) := kp_st (Or.inr h)
def KP2 (M : Mem) (u : Int32 × Mem) : Prop := KP M u.2
def B01 (u : Int32 × Mem) : Prop := u.1 = 0 ∨ u.1 = 1
theorem ite_ind {β : Type} {c : Prop} [Decidable c] {P : β → Prop} {a b : β} (ha : c → P a) (hb : ¬ c → P b) : P (if c then a else b) := by
  by_cases h : c
  · rw [if_pos h]; exact ha h
  · rw [if_neg h]; exact hb h
theorem tk_ind {α β : Type} {P : β → Prop} (v : α) (f : α → β) (h : ∀ x, x = v → P (f x)) : P (tk v f) := h v rfl
theorem KP.hn {M M' : Mem} (h : KP M M') (q : 0 ≤ (M.1 101 0).toInt ∧ (M.1 101 0).toInt ≤ 8) : 0 ≤ (M'.1 101 0).toInt ∧ (M'.1 101 0).toInt ≤ 8 := by rw [h.1 101 (by decide)]; exact q
theorem KP.hs {M M' : Mem} (h : KP M M') (q : 0 ≤ (M.1 100 3).toInt ∧ (M.1 100 3).toInt ≤ 5) : 0 ≤ (M'.1 100 3).toInt ∧ (M'.1 100 3).toInt ≤ 5 := by rw [h.2.1 3 (by decide)]; exact q
theorem lt8 {x : Int32} (h : 0 ≤ x.toInt ∧ x.toInt ≤ 8) (c : ¬ x = 8) : 0 ≤ x.toInt ∧ x.toInt < 8 := by
  have : x.toInt ≠ 8 := fun q => c (Int32.toInt_inj.mp q)
  omega
theorem fr_rem (M : Mem) : (sX6_remembers M).1 101 = M.1 101 := by
  unfold sX6_remembers tk
  split <;> simp [st_ne, sr_ne]
theorem isBox_8 {M : Mem} {b : Int32} (hn : 0 ≤ (M.1 101 0).toInt ∧ (M.1 101 0).toInt ≤ 8) (h : ¬ fX6_isBox M b = 0) : 0 ≤ b.toInt ∧ b.toInt < 8 := by
  have := isBox_in hn h
  omega
theorem in03 {v : Int32} (h : ¬ fX6_in v 0 3 = 0) : 0 ≤ v.toInt ∧ v.toInt ≤ 3 := in_in h
theorem in03' {v : Int32} (h : ¬ fX6_in v 0 3 = 0) : 0 ≤ v.toInt ∧ v.toInt < 4 := by have := in03 h; omega
theorem inE {v : Int32} (h : ¬ fX6_isError v = 0) : 0 ≤ v.toInt ∧ v.toInt < 12 := by
  have h2 : (0 : Int) ≤ v.toInt ∧ v.toInt ≤ 11 := in_in h
  omega
theorem in127 {v : Int32} (h : ¬ fX6_in v 0 127 = 0) : 0 ≤ v.toInt ∧ v.toInt ≤ 127 := in_in h
theorem in06 {v : Int32} (h : ¬ fX6_in v 0 6 = 0) : 0 ≤ v.toInt ∧ v.toInt ≤ 6 := in_in h
theorem in01 {v : Int32} (h : ¬ fX6_in v 0 1 = 0) : 0 ≤ v.toInt ∧ v.toInt ≤ 1 := in_in h
theorem kpX6_over (M : Mem) (a b : Int32) : KP2 M (sX6_over M a b) := by
  unfold sX6_over
  refine ite_ind (P := KP2 M) (fun _ => ?_) (fun _ => ?_)
  · exact tk_ind (P := KP2 M) _ _ (fun x hx => by rw [hx]; exact (show KP M _ from kp_st (by decide)))
  · exact (show KP M _ from KP.rf)
def fX6_err (M : Mem) (i1 : Int32) : Int32 :=
  (M.1 101 (33 + i1).toNatClampNeg)
set_option maxHeartbeats 4000000 in
set_option maxRecDepth 100000 in
theorem kX6_err (l : Launch) (D : va_G) (cy : Nat → ClassId) (z : Nat → Nat) (hz : zI z) (M : Mem) (i1 : Int32) (h1 : 0 ≤ i1.toInt ∧ i1.toInt < 12) : KI l yX6_err wsX6_err { frames := 0, cells := 0, slots := 0, locals := 0 } D cy z 100 15 [.ref (z 100), .int i1] M (fun r u => r = fX6_err M i1 ∧ u = M) := by
  refine met_wp (lv := [(0, .ref (z 100)), (1, .int i1)]) hz (by decide) (by decide) rfl rfl (Nat.le_of_ble_eq_true rfl) rfl ?_
  intro p e s m below meth c hc hx hr hk
  have hNW := hx.2.1
  have hin6 : ∀ w ∈ wsX60, w ∈ wsX6_err := by decide +kernel
  have hf7 : Cond.fieldLink RX6 7 (TX6 0).1 (TX6 0).2.1 (TX6 0).2.2.1 ∈ wsX6_err := by decide +kernel
  refine wp_aload_n hc 0 dX6_err_0 rfl ?_
  refine wp_get hc hx hin6 (j := 100) (by decide) (by decide) (ce_5 rfl) rfl 0 (by decide) hf7 rfl dX6_err_1 ?_
  refine wp_bipush (v := 33) hc dX6_err_4 (by decide) ?_
  refine wp_iload_n hc 1 dX6_err_6 rfl ?_
  refine wp_iadd hc dX6_err_7 ?_
  refine wp_iald hc hx (j := 101) (by decide) (by decide) rfl (33 + i1).toNatClampNeg rfl (vin (by rw [ixk (c := 33) (k := 33) rfl (by decide) (n := 12) (by decide) h1, ln101]; omega)) dX6_err_8 ?_
  refine wp_iret hc hr hk ?_ dX6_err_9
  show (M.1 101 (33 + i1).toNatClampNeg) = fX6_err M i1 ∧ M = M
  exact ⟨by rw [fX6_err], rfl⟩
def fX6_lrn (M : Mem) (i1 : Int32) : Int32 :=
  (M.1 101 (46 + i1).toNatClampNeg)
set_option maxHeartbeats 4000000 in
set_option maxRecDepth 100000 in
theorem kX6_lrn (l : Launch) (D : va_G) (cy : Nat → ClassId) (z : Nat → Nat) (hz : zI z) (M : Mem) (i1 : Int32) (h1 : 0 ≤ i1.toInt ∧ i1.toInt < 12) : KI l yX6_lrn wsX6_lrn { frames := 0, cells := 0, slots := 0, locals := 0 } D cy z 100 15 [.ref (z 100), .int i1] M (fun r u => r = fX6_lrn M i1 ∧ u = M) := by
  refine met_wp (lv := [(0, .ref (z 100)), (1, .int i1)]) hz (by decide) (by decide) rfl rfl (Nat.le_of_ble_eq_true rfl) rfl ?_
  intro p e s m below meth c hc hx hr hk
  have hNW := hx.2.1
  have hin6 : ∀ w ∈ wsX60, w ∈ wsX6_lrn := by decide +kernel
  have hf7 : Cond.fieldLink RX6 7 (TX6 0).1 (TX6 0).2.1 (TX6 0).2.2.1 ∈ wsX6_lrn := by decide +kernel
  refine wp_aload_n hc 0 dX6_lrn_0 rfl ?_
  refine wp_get hc hx hin6 (j := 100) (by decide) (by decide) (ce_5 rfl) rfl 0 (by decide) hf7 rfl dX6_lrn_1 ?_
  refine wp_bipush (v := 46) hc dX6_lrn_4 (by decide) ?_
  refine wp_iload_n hc 1 dX6_lrn_6 rfl ?_
  refine wp_iadd hc dX6_lrn_7 ?_
  refine wp_iald hc hx (j := 101) (by decide) (by decide) rfl (46 + i1).toNatClampNeg rfl (vin (by rw [ixk (c := 46) (k := 46) rfl (by decide) (n := 12) (by decide) h1, ln101]; omega)) dX6_lrn_8 ?_
  refine wp_iret hc hr hk ?_ dX6_lrn_9
  show (M.1 101 (46 + i1).toNatClampNeg) = fX6_lrn M i1 ∧ M = M
  exact ⟨by rw [fX6_lrn], rfl⟩
def sX6_told4 (M : Mem) (i1 : Int32) (i2 : Int32) (i3 : Int32) (i4 : Int32) : Int32 × Mem :=
  tk (sX6_over M (fX6_by (fX6_err M i2) i3) i4) fun x1 =>
  ((fX6_plus (fX6_err M i1) x1.1), x1.2)
set_option maxHeartbeats 4000000 in
set_option maxRecDepth 100000 in
theorem kX6_told4 (l : Launch) (D : va_G) (cy : Nat → ClassId) (z : Nat → Nat) (hz : zI z) (M : Mem) (i1 : Int32) (i2 : Int32) (i3 : Int32) (i4 : Int32) (h1 : 0 ≤ i1.toInt ∧ i1.toInt < 12) (h2 : 0 ≤ i2.toInt ∧ i2.toInt < 12) : KI l yX6_told4 wsX6_told4 { frames := 4, cells := 0, slots := 0, locals := 92 } D cy z 100 15 [.ref (z 100), .int i1, .int i2, .int i3, .int i4] M (fun r u => (r, u) = sX6_told4 M i1 i2 i3 i4) := by
  refine met_wp (lv := [(0, .ref (z 100)), (1, .int i1), (2, .int i2), (3, .int i3), (4, .int i4)]) hz (by decide) (by decide) rfl rfl (Nat.le_of_ble_eq_true rfl) rfl ?_
  intro p e s m below meth c hc hx hr hk
  have hNW := hx.2.1
  have cw78 : CallB ({ frames := 4, cells := 0, slots := 0, locals := 92 }) s _ RX6 78 yX6_by cX6_by 6 (some .int) wsX6_by ({ frames := 2, cells := 0, slots := 0, locals := 42 }) 0 0 2 ∧ (Cond.static yX6_by).before _ s = true := va_cwS 2 hc.2.2.2.2 gX6_told4_X6_by rfl rfl rfl (by decide +kernel) ⟨Nat.le_of_ble_eq_true rfl, Nat.le_of_ble_eq_true rfl⟩
  have cw117 : CallB ({ frames := 4, cells := 0, slots := 0, locals := 92 }) s _ RX6 117 yX6_plus cX6_plus 2 (some .int) wsX6_plus ({ frames := 2, cells := 0, slots := 0, locals := 42 }) 0 0 2 ∧ (Cond.static yX6_plus).before _ s = true := va_cwS 2 hc.2.2.2.2 gX6_told4_X6_plus rfl rfl rfl (by decide +kernel) ⟨Nat.le_of_ble_eq_true rfl, Nat.le_of_ble_eq_true rfl⟩
  have cw120 : CallW ({ frames := 4, cells := 0, slots := 0, locals := 92 }) s _ RX6 RX6 120 yX6_err cX6_err 2 (some .int) wsX6_err ({ frames := 0, cells := 0, slots := 0, locals := 0 }) 0 0 1 := cwV 1 hc.2.2.2.2 gX6_told4_X6_err rfl rfl rfl (by decide +kernel) ⟨Nat.le_of_ble_eq_true rfl, Nat.le_of_ble_eq_true rfl⟩
  have cw123 : CallW ({ frames := 4, cells := 0, slots := 0, locals := 92 }) s _ RX6 RX6 123 yX6_over cX6_over 6 (some .int) wsX6_over ({ frames := 3, cells := 0, slots := 0, locals := 67 }) 0 0 2 := cwV 2 hc.2.2.2.2 gX6_told4_X6_over rfl rfl rfl (by decide +kernel) ⟨Nat.le_of_ble_eq_true rfl, Nat.le_of_ble_eq_true rfl⟩
  refine wp_aload_n hc 0 dX6_told4_0 rfl ?_
  refine wp_iload_n hc 1 dX6_told4_1 rfl ?_
  refine wp_callVf (As := [.int i1]) (rest := []) (j := 100) (v := (fX6_err M i1)) hc hx (kX6_err l D cy z hz M i1 h1) cw120 (by decide) (by decide) (ce_5 rfl) rfl rfl rfl rfl (Nat.le_of_ble_eq_true rfl) dX6_told4_2 ?_
  refine wp_aload_n hc 0 dX6_told4_5 rfl ?_
  refine wp_aload_n hc 0 dX6_told4_6 rfl ?_
  refine wp_iload_n hc 2 dX6_told4_7 rfl ?_
  refine wp_callVf (As := [.int i2]) (rest := [.ref (z 100), .int (fX6_err M i1)]) (j := 100) (v := (fX6_err M i2)) hc hx (kX6_err l D cy z hz M i2 h2) cw120 (by decide) (by decide) (ce_5 rfl) rfl rfl rfl rfl (Nat.le_of_ble_eq_true rfl) dX6_told4_8 ?_
  refine wp_iload_n hc 3 dX6_told4_11 rfl ?_
  refine wp_callSg (As := [.int (fX6_err M i2), .int i3]) (rest := [.ref (z 100), .int (fX6_err M i1)]) (v := (fX6_by (fX6_err M i2) i3)) hc hNW (kX6_by l (fX6_err M i2) i3) cw78 rfl rfl (Nat.le_of_ble_eq_true rfl) dX6_told4_12 ?_
  refine wp_iload hc 4 dX6_told4_15 rfl ?_
  refine wp_callVw (As := [.int (fX6_by (fX6_err M i2) i3), .int i4]) (rest := [.int (fX6_err M i1)]) (j := 100) (w := sX6_over M (fX6_by (fX6_err M i2) i3) i4) hc hx (kX6_over l D cy z hz M (fX6_by (fX6_err M i2) i3) i4) cw123 (by decide) (by decide) (ce_5 rfl) rfl rfl rfl rfl (Nat.le_of_ble_eq_true rfl) dX6_told4_17 (fun x1 hx1 => ?_)
  refine wp_callSg (As := [.int (fX6_err M i1), .int x1.1]) (rest := []) (v := (fX6_plus (fX6_err M i1) x1.1)) hc hNW (kX6_plus l (fX6_err M i1) x1.1) cw117 rfl rfl (Nat.le_of_ble_eq_true rfl) dX6_told4_20 ?_
  refine wp_iret hc hr hk ?_ dX6_told4_23
  show ((fX6_plus (fX6_err M i1) x1.1), x1.2) = sX6_told4 M i1 i2 i3 i4
  rw [sX6_told4, tk_eq hx1]
set_option maxRecDepth 10000 in
theorem kpX6_told4 (M : Mem) (i1 : Int32) (i2 : Int32) (i3 : Int32) (i4 : Int32) : KP2 M (sX6_told4 M i1 i2 i3 i4) := by
  unfold sX6_told4
  refine tk_ind (P := KP2 M) _ _ (fun x1 hx1 => ?_)
  have k1 : KP2 M x1 := by rw [hx1]; apply kpX6_over
  exact (show KP M x1.2 from k1)
def sX6_tellsOf (M : Mem) (i1 : Int32) (i2 : Int32) (i3 : Int32) (i4 : Int32) : Mem :=
  tk ((fX6_belowOf (fX6_err M 1) i1 (fX6_err M 4) i4 (fX6_detOf i1 i2 i3 i4))) fun x1 =>
  tk ((fX6_belowOf (fX6_err M 10) i1 (fX6_err M 7) i4 (fX6_detOf i1 i2 i3 i4))) fun x2 =>
  tk (sX6_told4 M 0 2 (fX6_less i1 (fX6_by (fX6_err M 4) (fX6_detOf i1 i2 i3 i4))) x1) fun x3 =>
  tk (st x3.2 106 0 x3.1) fun M4 =>
  tk (sX6_told4 M4 9 11 i2 x2) fun x5 =>
  tk (st x5.2 106 1 x5.1) fun M6 =>
  tk (sX6_told4 M6 3 5 i3 x1) fun x7 =>
  tk (st x7.2 106 2 x7.1) fun M8 =>
  tk (sX6_told4 M8 6 8 (fX6_less i4 (fX6_by (fX6_err M8 10) (fX6_detOf i1 i2 i3 i4))) x2) fun x9 =>
  tk (st x9.2 106 3 x9.1) fun M10 =>
  M10
set_option maxHeartbeats 4000000 in
set_option maxRecDepth 100000 in
theorem kX6_tellsOf (l : Launch) (D : va_G) (cy : Nat → ClassId) (z : Nat → Nat) (hz : zI z) (M : Mem) (i1 : Int32) (i2 : Int32) (i3 : Int32) (i4 : Int32) : KV l yX6_tellsOf wsX6_tellsOf { frames := 5, cells := 0, slots := 0, locals := 116 } D cy z 100 15 [.ref (z 100), .int i1, .int i2, .int i3, .int i4] M (fun u => u = sX6_tellsOf M i1 i2 i3 i4) := by
  refine met_wp (lv := [(0, .ref (z 100)), (1, .int i1), (2, .int i2), (3, .int i3), (4, .int i4)]) hz (by decide) (by decide) rfl rfl (Nat.le_of_ble_eq_true rfl) rfl ?_
  intro p e s m below meth c hc hx hr hk
  have hNW := hx.2.1
  have hin6 : ∀ w ∈ wsX60, w ∈ wsX6_tellsOf := by decide +kernel
  have hf25 : Cond.fieldLink RX6 25 (TX6 8).1 (TX6 8).2.1 (TX6 8).2.2.1 ∈ wsX6_tellsOf := by decide +kernel
  have cw78 : CallB ({ frames := 5, cells := 0, slots := 0, locals := 116 }) s _ RX6 78 yX6_by cX6_by 6 (some .int) wsX6_by ({ frames := 2, cells := 0, slots := 0, locals := 42 }) 0 0 2 ∧ (Cond.static yX6_by).before _ s = true := va_cwS 2 hc.2.2.2.2 gX6_tellsOf_X6_by rfl rfl rfl (by decide +kernel) ⟨Nat.le_of_ble_eq_true rfl, Nat.le_of_ble_eq_true rfl⟩
  have cw114 : CallB ({ frames := 5, cells := 0, slots := 0, locals := 116 }) s _ RX6 114 yX6_less cX6_less 2 (some .int) wsX6_less ({ frames := 2, cells := 0, slots := 0, locals := 42 }) 0 0 2 ∧ (Cond.static yX6_less).before _ s = true := va_cwS 2 hc.2.2.2.2 gX6_tellsOf_X6_less rfl rfl rfl (by decide +kernel) ⟨Nat.le_of_ble_eq_true rfl, Nat.le_of_ble_eq_true rfl⟩
  have cw120 : CallW ({ frames := 5, cells := 0, slots := 0, locals := 116 }) s _ RX6 RX6 120 yX6_err cX6_err 2 (some .int) wsX6_err ({ frames := 0, cells := 0, slots := 0, locals := 0 }) 0 0 1 := cwV 1 hc.2.2.2.2 gX6_tellsOf_X6_err rfl rfl rfl (by decide +kernel) ⟨Nat.le_of_ble_eq_true rfl, Nat.le_of_ble_eq_true rfl⟩
  have cw126 : CallB ({ frames := 5, cells := 0, slots := 0, locals := 116 }) s _ RX6 126 yX6_detOf cX6_detOf 4 (some .int) wsX6_detOf ({ frames := 3, cells := 0, slots := 0, locals := 67 }) 0 0 4 ∧ (Cond.static yX6_detOf).before _ s = true := va_cwS 4 hc.2.2.2.2 gX6_tellsOf_X6_detOf rfl rfl rfl (by decide +kernel) ⟨Nat.le_of_ble_eq_true rfl, Nat.le_of_ble_eq_true rfl⟩
  have cw129 : CallB ({ frames := 5, cells := 0, slots := 0, locals := 116 }) s _ RX6 129 yX6_belowOf cX6_belowOf 6 (some .int) wsX6_belowOf ({ frames := 3, cells := 0, slots := 0, locals := 67 }) 0 0 5 ∧ (Cond.static yX6_belowOf).before _ s = true := va_cwS 5 hc.2.2.2.2 gX6_tellsOf_X6_belowOf rfl rfl rfl (by decide +kernel) ⟨Nat.le_of_ble_eq_true rfl, Nat.le_of_ble_eq_true rfl⟩
  have cw133 : CallW ({ frames := 5, cells := 0, slots := 0, locals := 116 }) s _ RX6 RX6 133 yX6_told4 cX6_told4 5 (some .int) wsX6_told4 ({ frames := 4, cells := 0, slots := 0, locals := 92 }) 0 0 4 := cwV 4 hc.2.2.2.2 gX6_tellsOf_X6_told4 rfl rfl rfl (by decide +kernel) ⟨Nat.le_of_ble_eq_true rfl, Nat.le_of_ble_eq_true rfl⟩
  refine wp_iload_n hc 1 dX6_tellsOf_0 rfl ?_
  refine wp_iload_n hc 2 dX6_tellsOf_1 rfl ?_
  refine wp_iload_n hc 3 dX6_tellsOf_2 rfl ?_
  refine wp_iload hc 4 dX6_tellsOf_3 rfl ?_
  refine wp_callSg (As := [.int i1, .int i2, .int i3, .int i4]) (rest := []) (v := (fX6_detOf i1 i2 i3 i4)) hc hNW (kX6_detOf l i1 i2 i3 i4) cw126 rfl rfl (Nat.le_of_ble_eq_true rfl) dX6_tellsOf_5 ?_
  refine wp_istore (lv' := [(5, .int (fX6_detOf i1 i2 i3 i4)), (0, .ref (z 100)), (1, .int i1), (2, .int i2), (3, .int i3), (4, .int i4)]) hc dX6_tellsOf_8 (by decide) rfl ?_
  refine wp_aload_n hc 1 dX6_tellsOf_10 rfl ?_
  refine wp_iconst (v := 1) hc dX6_tellsOf_11 (by decide) ?_
  refine wp_callVf (As := [.int 1]) (rest := []) (j := 100) (v := (fX6_err M 1)) hc hx (kX6_err l D cy z hz M 1 (by decide)) cw120 (by decide) (by decide) (ce_5 rfl) rfl rfl rfl rfl (Nat.le_of_ble_eq_true rfl) dX6_tellsOf_12 ?_
  refine wp_iload_n hc 2 dX6_tellsOf_15 rfl ?_
  refine wp_aload_n hc 1 dX6_tellsOf_16 rfl ?_
  refine wp_iconst (v := 4) hc dX6_tellsOf_17 (by decide) ?_
  refine wp_callVf (As := [.int 4]) (rest := [.int i1, .int (fX6_err M 1)]) (j := 100) (v := (fX6_err M 4)) hc hx (kX6_err l D cy z hz M 4 (by decide)) cw120 (by decide) (by decide) (ce_5 rfl) rfl rfl rfl rfl (Nat.le_of_ble_eq_true rfl) dX6_tellsOf_18 ?_
  refine wp_iload hc 5 dX6_tellsOf_21 rfl ?_
  refine wp_iload hc 0 dX6_tellsOf_23 rfl ?_
  refine wp_callSg (As := [.int (fX6_err M 1), .int i1, .int (fX6_err M 4), .int i4, .int (fX6_detOf i1 i2 i3 i4)]) (rest := []) (v := (fX6_belowOf (fX6_err M 1) i1 (fX6_err M 4) i4 (fX6_detOf i1 i2 i3 i4))) hc hNW (kX6_belowOf l (fX6_err M 1) i1 (fX6_err M 4) i4 (fX6_detOf i1 i2 i3 i4)) cw129 rfl rfl (Nat.le_of_ble_eq_true rfl) dX6_tellsOf_25 ?_
  refine wp_topi (fun x1 hx1 => ?_)
  refine wp_istore (lv' := [(6, .int x1), (5, .int (fX6_detOf i1 i2 i3 i4)), (0, .ref (z 100)), (1, .int i1), (2, .int i2), (3, .int i3), (4, .int i4)]) hc dX6_tellsOf_28 (by decide) rfl ?_
  refine wp_aload_n hc 2 dX6_tellsOf_30 rfl ?_
  refine wp_bipush (v := 10) hc dX6_tellsOf_31 (by decide) ?_
  refine wp_callVf (As := [.int 10]) (rest := []) (j := 100) (v := (fX6_err M 10)) hc hx (kX6_err l D cy z hz M 10 (by decide)) cw120 (by decide) (by decide) (ce_5 rfl) rfl rfl rfl rfl (Nat.le_of_ble_eq_true rfl) dX6_tellsOf_33 ?_
  refine wp_iload_n hc 3 dX6_tellsOf_36 rfl ?_
  refine wp_aload_n hc 2 dX6_tellsOf_37 rfl ?_
  refine wp_bipush (v := 7) hc dX6_tellsOf_38 (by decide) ?_
  refine wp_callVf (As := [.int 7]) (rest := [.int i1, .int (fX6_err M 10)]) (j := 100) (v := (fX6_err M 7)) hc hx (kX6_err l D cy z hz M 7 (by decide)) cw120 (by decide) (by decide) (ce_5 rfl) rfl rfl rfl rfl (Nat.le_of_ble_eq_true rfl) dX6_tellsOf_40 ?_
  refine wp_iload hc 6 dX6_tellsOf_43 rfl ?_
  refine wp_iload hc 1 dX6_tellsOf_45 rfl ?_
  refine wp_callSg (As := [.int (fX6_err M 10), .int i1, .int (fX6_err M 7), .int i4, .int (fX6_detOf i1 i2 i3 i4)]) (rest := []) (v := (fX6_belowOf (fX6_err M 10) i1 (fX6_err M 7) i4 (fX6_detOf i1 i2 i3 i4))) hc hNW (kX6_belowOf l (fX6_err M 10) i1 (fX6_err M 7) i4 (fX6_detOf i1 i2 i3 i4)) cw129 rfl rfl (Nat.le_of_ble_eq_true rfl) dX6_tellsOf_47 ?_
  refine wp_topi (fun x2 hx2 => ?_)
  refine wp_istore (lv' := [(7, .int x2), (6, .int x1), (5, .int (fX6_detOf i1 i2 i3 i4)), (0, .ref (z 100)), (1, .int i1), (2, .int i2), (3, .int i3), (4, .int i4)]) hc dX6_tellsOf_50 (by decide) rfl ?_
  refine wp_aload_n hc 3 dX6_tellsOf_52 rfl ?_
  refine wp_get hc hx hin6 (j := 100) (by decide) (by decide) (ce_5 rfl) rfl 8 (by decide) hf25 rfl dX6_tellsOf_53 ?_
  refine wp_iconst (v := 0) hc dX6_tellsOf_56 (by decide) ?_
  refine wp_aload_n hc 3 dX6_tellsOf_57 rfl ?_
  refine wp_iconst (v := 0) hc dX6_tellsOf_58 (by decide) ?_
  refine wp_iconst (v := 2) hc dX6_tellsOf_59 (by decide) ?_
  refine wp_iload_n hc 4 dX6_tellsOf_60 rfl ?_
  refine wp_aload_n hc 3 dX6_tellsOf_61 rfl ?_
  refine wp_iconst (v := 4) hc dX6_tellsOf_62 (by decide) ?_
  refine wp_callVf (As := [.int 4]) (rest := [.int i1, .int 2, .int 0, .ref (z 100), .int 0, .ref (z 106)]) (j := 100) (v := (fX6_err M 4)) hc hx (kX6_err l D cy z hz M 4 (by decide)) cw120 (by decide) (by decide) (ce_5 rfl) rfl rfl rfl rfl (Nat.le_of_ble_eq_true rfl) dX6_tellsOf_63 ?_
  refine wp_iload hc 2 dX6_tellsOf_66 rfl ?_
  refine wp_callSg (As := [.int (fX6_err M 4), .int (fX6_detOf i1 i2 i3 i4)]) (rest := [.int i1, .int 2, .int 0, .ref (z 100), .int 0, .ref (z 106)]) (v := (fX6_by (fX6_err M 4) (fX6_detOf i1 i2 i3 i4))) hc hNW (kX6_by l (fX6_err M 4) (fX6_detOf i1 i2 i3 i4)) cw78 rfl rfl (Nat.le_of_ble_eq_true rfl) dX6_tellsOf_68 ?_
  refine wp_callSg (As := [.int i1, .int (fX6_by (fX6_err M 4) (fX6_detOf i1 i2 i3 i4))]) (rest := [.int 2, .int 0, .ref (z 100), .int 0, .ref (z 106)]) (v := (fX6_less i1 (fX6_by (fX6_err M 4) (fX6_detOf i1 i2 i3 i4)))) hc hNW (kX6_less l i1 (fX6_by (fX6_err M 4) (fX6_detOf i1 i2 i3 i4))) cw114 rfl rfl (Nat.le_of_ble_eq_true rfl) dX6_tellsOf_71 ?_
  refine wp_iload hc 1 dX6_tellsOf_74 rfl ?_
  refine wp_callVw (As := [.int 0, .int 2, .int (fX6_less i1 (fX6_by (fX6_err M 4) (fX6_detOf i1 i2 i3 i4))), .int x1]) (rest := [.int 0, .ref (z 106)]) (j := 100) (w := sX6_told4 M 0 2 (fX6_less i1 (fX6_by (fX6_err M 4) (fX6_detOf i1 i2 i3 i4))) x1) hc hx (kX6_told4 l D cy z hz M 0 2 (fX6_less i1 (fX6_by (fX6_err M 4) (fX6_detOf i1 i2 i3 i4))) x1 (by decide) (by decide)) cw133 (by decide) (by decide) (ce_5 rfl) rfl rfl rfl rfl (Nat.le_of_ble_eq_true rfl) dX6_tellsOf_76 (fun x3 hx3 => ?_)
  refine wp_iast hc hx (j := 106) (by decide) (by decide) rfl 0 rfl (vin (by decide)) dX6_tellsOf_79 ?_
  refine wp_nm (fun M4 hM4 => ?_)
  refine wp_aload_n hc 3 dX6_tellsOf_80 rfl ?_
  refine wp_get hc hx hin6 (j := 100) (by decide) (by decide) (ce_5 rfl) rfl 8 (by decide) hf25 rfl dX6_tellsOf_81 ?_
  refine wp_iconst (v := 1) hc dX6_tellsOf_84 (by decide) ?_
  refine wp_aload_n hc 3 dX6_tellsOf_85 rfl ?_
  refine wp_bipush (v := 9) hc dX6_tellsOf_86 (by decide) ?_
  refine wp_bipush (v := 11) hc dX6_tellsOf_88 (by decide) ?_
  refine wp_iload_n hc 5 dX6_tellsOf_90 rfl ?_
  refine wp_iload hc 0 dX6_tellsOf_91 rfl ?_
  refine wp_callVw (As := [.int 9, .int 11, .int i2, .int x2]) (rest := [.int 1, .ref (z 106)]) (j := 100) (w := sX6_told4 M4 9 11 i2 x2) hc hx (kX6_told4 l D cy z hz M4 9 11 i2 x2 (by decide) (by decide)) cw133 (by decide) (by decide) (ce_5 rfl) rfl rfl rfl rfl (Nat.le_of_ble_eq_true rfl) dX6_tellsOf_93 (fun x5 hx5 => ?_)
  refine wp_iast hc hx (j := 106) (by decide) (by decide) rfl 1 rfl (vin (by decide)) dX6_tellsOf_96 ?_
  refine wp_nm (fun M6 hM6 => ?_)
  refine wp_aload_n hc 3 dX6_tellsOf_97 rfl ?_
  refine wp_get hc hx hin6 (j := 100) (by decide) (by decide) (ce_5 rfl) rfl 8 (by decide) hf25 rfl dX6_tellsOf_98 ?_
  refine wp_iconst (v := 2) hc dX6_tellsOf_101 (by decide) ?_
  refine wp_aload_n hc 3 dX6_tellsOf_102 rfl ?_
  refine wp_iconst (v := 3) hc dX6_tellsOf_103 (by decide) ?_
  refine wp_iconst (v := 5) hc dX6_tellsOf_104 (by decide) ?_
  refine wp_iload_n hc 6 dX6_tellsOf_105 rfl ?_
  refine wp_iload hc 1 dX6_tellsOf_106 rfl ?_
  refine wp_callVw (As := [.int 3, .int 5, .int i3, .int x1]) (rest := [.int 2, .ref (z 106)]) (j := 100) (w := sX6_told4 M6 3 5 i3 x1) hc hx (kX6_told4 l D cy z hz M6 3 5 i3 x1 (by decide) (by decide)) cw133 (by decide) (by decide) (ce_5 rfl) rfl rfl rfl rfl (Nat.le_of_ble_eq_true rfl) dX6_tellsOf_108 (fun x7 hx7 => ?_)
  refine wp_iast hc hx (j := 106) (by decide) (by decide) rfl 2 rfl (vin (by decide)) dX6_tellsOf_111 ?_
  refine wp_nm (fun M8 hM8 => ?_)
  refine wp_aload_n hc 3 dX6_tellsOf_112 rfl ?_
  refine wp_get hc hx hin6 (j := 100) (by decide) (by decide) (ce_5 rfl) rfl 8 (by decide) hf25 rfl dX6_tellsOf_113 ?_
  refine wp_iconst (v := 3) hc dX6_tellsOf_116 (by decide) ?_
  refine wp_aload_n hc 3 dX6_tellsOf_117 rfl ?_
  refine wp_bipush (v := 6) hc dX6_tellsOf_118 (by decide) ?_
  refine wp_bipush (v := 8) hc dX6_tellsOf_120 (by decide) ?_
  refine wp_iload hc 7 dX6_tellsOf_122 rfl ?_
  refine wp_aload_n hc 3 dX6_tellsOf_124 rfl ?_
  refine wp_bipush (v := 10) hc dX6_tellsOf_125 (by decide) ?_
  refine wp_callVf (As := [.int 10]) (rest := [.int i4, .int 8, .int 6, .ref (z 100), .int 3, .ref (z 106)]) (j := 100) (v := (fX6_err M8 10)) hc hx (kX6_err l D cy z hz M8 10 (by decide)) cw120 (by decide) (by decide) (ce_5 rfl) rfl rfl rfl rfl (Nat.le_of_ble_eq_true rfl) dX6_tellsOf_127 ?_
  refine wp_iload hc 2 dX6_tellsOf_130 rfl ?_
  refine wp_callSg (As := [.int (fX6_err M8 10), .int (fX6_detOf i1 i2 i3 i4)]) (rest := [.int i4, .int 8, .int 6, .ref (z 100), .int 3, .ref (z 106)]) (v := (fX6_by (fX6_err M8 10) (fX6_detOf i1 i2 i3 i4))) hc hNW (kX6_by l (fX6_err M8 10) (fX6_detOf i1 i2 i3 i4)) cw78 rfl rfl (Nat.le_of_ble_eq_true rfl) dX6_tellsOf_132 ?_
  refine wp_callSg (As := [.int i4, .int (fX6_by (fX6_err M8 10) (fX6_detOf i1 i2 i3 i4))]) (rest := [.int 8, .int 6, .ref (z 100), .int 3, .ref (z 106)]) (v := (fX6_less i4 (fX6_by (fX6_err M8 10) (fX6_detOf i1 i2 i3 i4)))) hc hNW (kX6_less l i4 (fX6_by (fX6_err M8 10) (fX6_detOf i1 i2 i3 i4))) cw114 rfl rfl (Nat.le_of_ble_eq_true rfl) dX6_tellsOf_135 ?_
  refine wp_iload hc 0 dX6_tellsOf_138 rfl ?_
  refine wp_callVw (As := [.int 6, .int 8, .int (fX6_less i4 (fX6_by (fX6_err M8 10) (fX6_detOf i1 i2 i3 i4))), .int x2]) (rest := [.int 3, .ref (z 106)]) (j := 100) (w := sX6_told4 M8 6 8 (fX6_less i4 (fX6_by (fX6_err M8 10) (fX6_detOf i1 i2 i3 i4))) x2) hc hx (kX6_told4 l D cy z hz M8 6 8 (fX6_less i4 (fX6_by (fX6_err M8 10) (fX6_detOf i1 i2 i3 i4))) x2 (by decide) (by decide)) cw133 (by decide) (by decide) (ce_5 rfl) rfl rfl rfl rfl (Nat.le_of_ble_eq_true rfl) dX6_tellsOf_140 (fun x9 hx9 => ?_)
  refine wp_iast hc hx (j := 106) (by decide) (by decide) rfl 3 rfl (vin (by decide)) dX6_tellsOf_143 ?_
  refine wp_nm (fun M10 hM10 => ?_)
  refine wp_vret hc hr hk ?_ dX6_tellsOf_144
  show M10 = sX6_tellsOf M i1 i2 i3 i4
  rw [sX6_tellsOf, tk_eq hx1, tk_eq hx2, tk_eq hx3, tk_eq hM4, tk_eq hx5, tk_eq hM6, tk_eq hx7, tk_eq hM8, tk_eq hx9, tk_eq hM10]
set_option maxRecDepth 10000 in
theorem kpX6_tellsOf (M : Mem) (i1 : Int32) (i2 : Int32) (i3 : Int32) (i4 : Int32) : KP M (sX6_tellsOf M i1 i2 i3 i4) := by
  unfold sX6_tellsOf
  refine tk_ind (P := KP M) _ _ (fun x1 hx1 => ?_)
  refine tk_ind (P := KP M) _ _ (fun x2 hx2 => ?_)
  refine tk_ind (P := KP M) _ _ (fun x3 hx3 => ?_)
  have k1 : KP2 M x3 := by rw [hx3]; apply kpX6_told4
  refine tk_ind (P := KP M) _ _ (fun M4 hM4 => ?_)
  have k2 : KP x3.2 M4 := by rw [hM4]; exact kp_st (by decide)
  refine tk_ind (P := KP M) _ _ (fun x5 hx5 => ?_)
  have k3 : KP2 M4 x5 := by rw [hx5]; apply kpX6_told4
  refine tk_ind (P := KP M) _ _ (fun M6 hM6 => ?_)
  have k4 : KP x5.2 M6 := by rw [hM6]; exact kp_st (by decide)
  refine tk_ind (P := KP M) _ _ (fun x7 hx7 => ?_)
  have k5 : KP2 M6 x7 := by rw [hx7]; apply kpX6_told4
  refine tk_ind (P := KP M) _ _ (fun M8 hM8 => ?_)
  have k6 : KP x7.2 M8 := by rw [hM8]; exact kp_st (by decide)
  refine tk_ind (P := KP M) _ _ (fun x9 hx9 => ?_)
  have k7 : KP2 M8 x9 := by rw [hx9]; apply kpX6_told4
  refine tk_ind (P := KP M) _ _ (fun M10 hM10 => ?_)
  have k8 : KP x9.2 M10 := by rw [hM10]; exact kp_st (by decide)
  exact (show KP M M10 from KP.trans k1 (KP.trans k2 (KP.trans k3 (KP.trans k4 (KP.trans k5 (KP.trans k6 (KP.trans k7 (k8))))))))
def sX6_tellsBox (M : Mem) (i1 : Int32) : Mem :=
  tk (sX6_tellsOf M (M.1 101 (fX6_boxAt M i1).toNatClampNeg) (M.1 101 ((fX6_boxAt M i1) + 1).toNatClampNeg) (M.1 101 ((fX6_boxAt M i1) + 2).toNatClampNeg) (M.1 101 ((fX6_boxAt M i1) + 3).toNatClampNeg)) fun M1 =>
  M1
set_option maxHeartbeats 4000000 in
set_option maxRecDepth 100000 in
theorem kX6_tellsBox (l : Launch) (D : va_G) (cy : Nat → ClassId) (z : Nat → Nat) (hz : zI z) (M : Mem) (i1 : Int32) (hb : 0 ≤ i1.toInt ∧ i1.toInt < 8) : KV l yX6_tellsBox wsX6_tellsBox { frames := 6, cells := 0, slots := 0, locals := 143 } D cy z 100 15 [.ref (z 100), .int i1] M (fun u => u = sX6_tellsBox M i1) := by
  refine met_wp (lv := [(0, .ref (z 100)), (1, .int i1)]) hz (by decide) (by decide) rfl rfl (Nat.le_of_ble_eq_true rfl) rfl ?_
  intro p e s m below meth c hc hx hr hk
  have hNW := hx.2.1
  have hin6 : ∀ w ∈ wsX60, w ∈ wsX6_tellsBox := by decide +kernel
  have hf7 : Cond.fieldLink RX6 7 (TX6 0).1 (TX6 0).2.1 (TX6 0).2.2.1 ∈ wsX6_tellsBox := by decide +kernel
  have cw85 : CallW ({ frames := 6, cells := 0, slots := 0, locals := 143 }) s _ RX6 RX6 85 yX6_boxAt cX6_boxAt 2 (some .int) wsX6_boxAt ({ frames := 0, cells := 0, slots := 0, locals := 0 }) 0 0 1 := cwV 1 hc.2.2.2.2 gX6_tellsBox_X6_boxAt rfl rfl rfl (by decide +kernel) ⟨Nat.le_of_ble_eq_true rfl, Nat.le_of_ble_eq_true rfl⟩
  have cw136 : CallW ({ frames := 6, cells := 0, slots := 0, locals := 143 }) s _ RX6 RX6 136 yX6_tellsOf cX6_tellsOf 8 none wsX6_tellsOf ({ frames := 5, cells := 0, slots := 0, locals := 116 }) 0 0 4 := cwV 4 hc.2.2.2.2 gX6_tellsBox_X6_tellsOf rfl rfl rfl (by decide +kernel) ⟨Nat.le_of_ble_eq_true rfl, Nat.le_of_ble_eq_true rfl⟩
  refine wp_aload_n hc 0 dX6_tellsBox_0 rfl ?_
  refine wp_iload_n hc 1 dX6_tellsBox_1 rfl ?_
  refine wp_callVf (As := [.int i1]) (rest := []) (j := 100) (v := (fX6_boxAt M i1)) hc hx (kX6_boxAt l D cy z hz M i1) cw85 (by decide) (by decide) (ce_5 rfl) rfl rfl rfl rfl (Nat.le_of_ble_eq_true rfl) dX6_tellsBox_2 ?_
  refine wp_istore_n (lv' := [(2, .int (fX6_boxAt M i1)), (0, .ref (z 100)), (1, .int i1)]) hc dX6_tellsBox_5 (by decide) rfl ?_
  refine wp_aload_n hc 1 dX6_tellsBox_6 rfl ?_
  refine wp_aload_n hc 1 dX6_tellsBox_7 rfl ?_
  refine wp_get hc hx hin6 (j := 100) (by decide) (by decide) (ce_5 rfl) rfl 0 (by decide) hf7 rfl dX6_tellsBox_8 ?_
  refine wp_iload_n hc 0 dX6_tellsBox_11 rfl ?_
  refine wp_iald hc hx (j := 101) (by decide) (by decide) rfl (fX6_boxAt M i1).toNatClampNeg rfl (ixb hb) dX6_tellsBox_12 ?_
  refine wp_aload_n hc 1 dX6_tellsBox_13 rfl ?_
  refine wp_get hc hx hin6 (j := 100) (by decide) (by decide) (ce_5 rfl) rfl 0 (by decide) hf7 rfl dX6_tellsBox_14 ?_
  refine wp_iload_n hc 0 dX6_tellsBox_17 rfl ?_
  refine wp_iconst (v := 1) hc dX6_tellsBox_18 (by decide) ?_
  refine wp_iadd hc dX6_tellsBox_19 ?_
  refine wp_iald hc hx (j := 101) (by decide) (by decide) rfl ((fX6_boxAt M i1) + 1).toNatClampNeg rfl (ixbk hb (by decide)) dX6_tellsBox_20 ?_
  refine wp_aload_n hc 1 dX6_tellsBox_21 rfl ?_
  refine wp_get hc hx hin6 (j := 100) (by decide) (by decide) (ce_5 rfl) rfl 0 (by decide) hf7 rfl dX6_tellsBox_22 ?_
  refine wp_iload_n hc 0 dX6_tellsBox_25 rfl ?_
  refine wp_iconst (v := 2) hc dX6_tellsBox_26 (by decide) ?_
  refine wp_iadd hc dX6_tellsBox_27 ?_
  refine wp_iald hc hx (j := 101) (by decide) (by decide) rfl ((fX6_boxAt M i1) + 2).toNatClampNeg rfl (ixbk hb (by decide)) dX6_tellsBox_28 ?_
  refine wp_aload_n hc 1 dX6_tellsBox_29 rfl ?_
  refine wp_get hc hx hin6 (j := 100) (by decide) (by decide) (ce_5 rfl) rfl 0 (by decide) hf7 rfl dX6_tellsBox_30 ?_
  refine wp_iload_n hc 0 dX6_tellsBox_33 rfl ?_
  refine wp_iconst (v := 3) hc dX6_tellsBox_34 (by decide) ?_
  refine wp_iadd hc dX6_tellsBox_35 ?_
  refine wp_iald hc hx (j := 101) (by decide) (by decide) rfl ((fX6_boxAt M i1) + 3).toNatClampNeg rfl (ixbk hb (by decide)) dX6_tellsBox_36 ?_
  refine wp_callVvw (As := [.int (M.1 101 (fX6_boxAt M i1).toNatClampNeg), .int (M.1 101 ((fX6_boxAt M i1) + 1).toNatClampNeg), .int (M.1 101 ((fX6_boxAt M i1) + 2).toNatClampNeg), .int (M.1 101 ((fX6_boxAt M i1) + 3).toNatClampNeg)]) (rest := []) (j := 100) (w := sX6_tellsOf M (M.1 101 (fX6_boxAt M i1).toNatClampNeg) (M.1 101 ((fX6_boxAt M i1) + 1).toNatClampNeg) (M.1 101 ((fX6_boxAt M i1) + 2).toNatClampNeg) (M.1 101 ((fX6_boxAt M i1) + 3).toNatClampNeg)) hc hx (kX6_tellsOf l D cy z hz M (M.1 101 (fX6_boxAt M i1).toNatClampNeg) (M.1 101 ((fX6_boxAt M i1) + 1).toNatClampNeg) (M.1 101 ((fX6_boxAt M i1) + 2).toNatClampNeg) (M.1 101 ((fX6_boxAt M i1) + 3).toNatClampNeg)) cw136 (by decide) (by decide) (ce_5 rfl) rfl rfl rfl rfl (Nat.le_of_ble_eq_true rfl) dX6_tellsBox_37 (fun M1 hM1 => ?_)
  refine wp_vret hc hr hk ?_ dX6_tellsBox_40
  show M1 = sX6_tellsBox M i1
  rw [sX6_tellsBox, tk_eq hM1]
set_option maxRecDepth 10000 in
theorem kpX6_tellsBox (M : Mem) (i1 : Int32) : KP M (sX6_tellsBox M i1) := by
  unfold sX6_tellsBox
  refine tk_ind (P := KP M) _ _ (fun M1 hM1 => ?_)
  have k1 : KP M M1 := by rw [hM1]; apply kpX6_tellsOf
  exact (show KP M M1 from k1)
