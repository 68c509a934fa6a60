def fX2_hasBox (M : Mem) (a : Nat) (i1 : Int32) : Int32 :=
  if (fX5_isBelow i1 (M.1 (16 + 12 * a) 3)) = 0 then
  0
  else
  if 8 ≤ i1 then
  0
  else
  1
set_option maxHeartbeats 4000000 in
set_option maxRecDepth 100000 in
theorem kX2_hasBox (l : Launch) (D : va_G) (cy : Nat → ClassId) (z : Nat → Nat) (hz : zI z) (M : Mem) (a : Nat) (i1 : Int32) (ha : a < 7) : KI l yX2_hasBox wsX2_hasBox { frames := 1, cells := 0, slots := 0, locals := 21 } D cy z 0 100 [.ref (z (16 + 12 * a)), .int i1] M (fun r u => r = fX2_hasBox M a i1 ∧ u = M) := by
  refine met_wp (lv := [(0, .ref (z (16 + 12 * a))), (1, .int i1)]) hz (by decide) (by decide) rfl rfl (Nat.le_of_ble_eq_true rfl) rfl ?_
  intro p e s m below meth c hc hx hr hk
  have hNW := hx.2.1
  have hin2 : ∀ w ∈ wsX20, w ∈ wsX2_hasBox := by decide +kernel
  have hf35 : Cond.fieldLink RX2 35 (TX2 3).1 (TX2 3).2.1 (TX2 3).2.2.1 ∈ wsX2_hasBox := by decide +kernel
  have cw43 : va_CN ({ frames := 1, cells := 0, slots := 0, locals := 21 }) s _ RX2 43 yX5_isBelow RX5 cX5_isBelow 2 (some .boolean) wsX5_isBelow ({ frames := 0, cells := 0, slots := 0, locals := 0 }) 0 0 2 ∧ (Cond.static yX5_isBelow).before _ s = true ∧ True := ⟨va_cnB 2 hc.2.2.2.2 gX2_hasBox_X5_isBelow_n43 rfl rfl rfl hNW.1 (hc.2.2.2.2 _ (by decide +kernel)) (by decide +kernel) ⟨Nat.le_of_ble_eq_true rfl, Nat.le_of_ble_eq_true rfl⟩, hc.2.2.2.2 _ (by decide +kernel), trivial⟩
  refine wp_iload_n hc 1 dX2_hasBox_0 rfl ?_
  refine wp_aload_n hc 0 dX2_hasBox_1 rfl ?_
  refine wp_get hc hx hin2 (j := (16 + 12 * a)) (Nat.zero_le _) (by have := ha; omega) (ce_1 (kd_st ha)) rfl 3 (by decide) hf35 rfl dX2_hasBox_2 ?_
  refine wp_callNg (As := [.int i1, .int (M.1 (16 + 12 * a) 3)]) (rest := []) (v := (fX5_isBelow i1 (M.1 (16 + 12 * a) 3))) hc hNW (kX5_isBelow l i1 (M.1 (16 + 12 * a) 3)) cw43 rfl rfl (Nat.le_of_ble_eq_true rfl) dX2_hasBox_5 ?_
  refine wp_if_eq (tgt := 21) hc dX2_hasBox_8 (by decide) (fun c8 => ?_) (fun c8 => ?_)
  · refine wp_iconst (v := 0) hc dX2_hasBox_21 (by decide) ?_
    refine wp_zret hc hr hk rfl ?_ dX2_hasBox_22
    show 0 = fX2_hasBox M a i1 ∧ M = M
    exact ⟨by rw [fX2_hasBox, if_pos c8], rfl⟩
  refine wp_iload_n hc 1 dX2_hasBox_11 rfl ?_
  refine wp_bipush (v := 8) hc dX2_hasBox_12 (by decide) ?_
  refine wp_icmp_ge (tgt := 21) hc dX2_hasBox_14 (by decide) (fun c14 => ?_) (fun c14 => ?_)
  · refine wp_iconst (v := 0) hc dX2_hasBox_21 (by decide) ?_
    refine wp_zret hc hr hk rfl ?_ dX2_hasBox_22
    show 0 = fX2_hasBox M a i1 ∧ M = M
    exact ⟨by rw [fX2_hasBox, if_neg c8, if_pos c14], rfl⟩
  refine wp_iconst (v := 1) hc dX2_hasBox_17 (by decide) ?_
  refine wp_goto (tgt := 22) hc dX2_hasBox_18 (by decide) ?_
  refine wp_zret hc hr hk rfl ?_ dX2_hasBox_22
  show 1 = fX2_hasBox M a i1 ∧ M = M
  exact ⟨by rw [fX2_hasBox, if_neg c8, if_neg c14], rfl⟩
theorem bX2_hasBox (M : Mem) (a : Nat) (i1 : Int32) : fX2_hasBox M a i1 = 0 ∨ fX2_hasBox M a i1 = 1 := by
  unfold fX2_hasBox
  (repeat' split) <;> first | exact Or.inl rfl | exact Or.inr rfl
theorem below_in {v n : Int32} (h : ¬ fX5_isBelow v n = 0) : 0 ≤ v.toInt ∧ v.toInt < n.toInt := by
  unfold fX5_isBelow at h
  split at h
  · exact absurd rfl h
  · rename_i h1
    split at h
    · exact absurd rfl h
    · rename_i h2
      rw [fa_lt] at h1
      rw [fa_le] at h2
      have e0 : (0 : Int32).toInt = 0 := rfl
      omega
theorem hasBox_8 {M : Mem} {a : Nat} {b : Int32} (h : ¬ fX2_hasBox M a b = 0) : 0 ≤ b.toInt ∧ b.toInt < 8 ∧ b.toInt < (M.1 (16 + 12 * a) 3).toInt := by
  unfold fX2_hasBox at h
  split at h
  · exact absurd rfl h
  · rename_i h1
    split at h
    · exact absurd rfl h
    · rename_i h2
      have q := below_in h1
      rw [fa_le] at h2
      have e0 : (8 : Int32).toInt = 8 := rfl
      omega
theorem fz {x : Int32} (h : x = 0 ∨ x = 1) : fits .boolean (.int x) = true := by rcases h with rfl | rfl <;> rfl
theorem cl8 {b : Int32} {n : Nat} (h : 0 ≤ b.toInt ∧ b.toInt < n) : b.toNatClampNeg < n := by
  have := cl_T h.1
  omega
theorem vin8 {b : Int32} {n : Nat} (h : 0 ≤ b.toInt ∧ b.toInt < n) : vp_in b n := vin h
theorem wp_loopI {p : Program} {l : Launch} {e : Env} {R : Room} {s : State} {m : MethodId} {args : Array Value} {below : List Frame} {meth : Method} {c : Code} {Q : State → Prop} {Om : Mem → Heap → List Loc → Prop} {nL : Nat} {pc : Nat} (Iv : Nat → Prop) (N : Nat) (Mi : Nat → Mem) (Li : Nat → List (Nat × Value)) {i0 : Nat} (ex : Iv N → WP p l e R s m args below meth c Q Om nL (Mi N) (Li N) pc []) (bo : ∀ i, i0 ≤ i → i < N → Iv i → (Iv (i + 1) → WP p l e R s m args below meth c Q Om nL (Mi (i + 1)) (Li (i + 1)) pc []) → WP p l e R s m args below meth c Q Om nL (Mi i) (Li i) pc []) (i : Nat) (hi : i ≤ N) (hI : Iv i) (h0 : i0 = i := by rfl) : WP p l e R s m args below meth c Q Om nL (Mi i) (Li i) pc [] := by
  have key : ∀ n i, i + n = N → i0 ≤ i → Iv i → WP p l e R s m args below meth c Q Om nL (Mi i) (Li i) pc [] := by
    intro n
    induction n with
    | zero => intro i h _ hI; have e : i = N := by omega
              rw [e] at hI ⊢; exact ex hI
    | succ n ih => intro i h g hI; exact bo i g (by omega) hI (ih (i + 1) (by omega) (by omega))
  exact key (N - i) i (by omega) (by omega) hI
/-- the boxes behind one that goes, one by one -/
def rmB (M : Mem) (a b : Nat) : Nat → Mem
  | 0 => M
  | n + 1 => sX0_copyFrom (rmB M a b n) (16 + 12 * a + 1 + 3 + (b + n)) (16 + 12 * a + 1 + 3 + (b + n + 1))
/-- the least box from i on that is as box b -/
def laS (M : Mem) (a b : Nat) : Nat → Nat → Int32
  | 0, _ => nI b
  | f + 1, i => if fX0_isAs M (16 + 12 * a + 1 + 3 + i) (16 + 12 * a + 1 + 3 + b) = 0 then laS M a b f (i + 1) else nI i
def sX2_addBox (M : Mem) (a : Nat) (q1 : Nat) : Int32 × Mem :=
  if (fX5_isBelow (M.1 (16 + 12 * a) 3) 8) = 0 then
  ((-4), M)
  else
  tk (sX0_copyFrom M (16 + 12 * a + 1 + 3 + (M.1 (16 + 12 * a) 3).toNatClampNeg) q1) fun M1 =>
  tk (st M1 (16 + 12 * a) 3 ((M1.1 (16 + 12 * a) 3) + 1)) fun M2 =>
  (((M2.1 (16 + 12 * a) 3) - 1), M2)
set_option maxHeartbeats 4000000 in
set_option maxRecDepth 100000 in
theorem kX2_addBox (l : Launch) (D : va_G) (cy : Nat → ClassId) (z : Nat → Nat) (hz : zI z) (M : Mem) (a : Nat) (q1 : Nat) (ha : a < 7) (hjq1 : q1 < 0 + 100) (hkq1 : kd q1 = 0) : KI l yX2_addBox wsX2_addBox { frames := 2, cells := 0, slots := 0, locals := 45 } D cy z 0 100 [.ref (z (16 + 12 * a)), .ref (z q1)] M (fun r u => (r, u) = sX2_addBox M a q1) := by
  refine met_wp (lv := [(0, .ref (z (16 + 12 * a))), (1, .ref (z q1))]) hz (by decide) (by decide) rfl rfl (Nat.le_of_ble_eq_true rfl) rfl ?_
  intro p e s m below meth c hc hx hr hk
  have hNW := hx.2.1
  have hin2 : ∀ w ∈ wsX20, w ∈ wsX2_addBox := by decide +kernel
  have hf11 : Cond.fieldLink RX2 11 (TX2 0).1 (TX2 0).2.1 (TX2 0).2.2.1 ∈ wsX2_addBox := by decide +kernel
  have hf35 : Cond.fieldLink RX2 35 (TX2 3).1 (TX2 3).2.1 (TX2 3).2.2.1 ∈ wsX2_addBox := by decide +kernel
  have cw25 : CallW ({ frames := 2, cells := 0, slots := 0, locals := 45 }) s _ RX2 RX0 25 yX0_copyFrom cX0_copyFrom 2 none wsX0_copyFrom ({ frames := 1, cells := 0, slots := 0, locals := 24 }) 0 0 1 := cwV 1 hc.2.2.2.2 gX2_addBox_X0_copyFrom rfl rfl rfl (by decide +kernel) ⟨Nat.le_of_ble_eq_true rfl, Nat.le_of_ble_eq_true rfl⟩
  have cw43 : va_CN ({ frames := 2, cells := 0, slots := 0, locals := 45 }) s _ RX2 43 yX5_isBelow RX5 cX5_isBelow 2 (some .boolean) wsX5_isBelow ({ frames := 0, cells := 0, slots := 0, locals := 0 }) 0 0 2 ∧ (Cond.static yX5_isBelow).before _ s = true ∧ True := ⟨va_cnB 2 hc.2.2.2.2 gX2_addBox_X5_isBelow_n43 rfl rfl rfl hNW.1 (hc.2.2.2.2 _ (by decide +kernel)) (by decide +kernel) ⟨Nat.le_of_ble_eq_true rfl, Nat.le_of_ble_eq_true rfl⟩, hc.2.2.2.2 _ (by decide +kernel), trivial⟩
  refine wp_aload_n hc 0 dX2_addBox_0 rfl ?_
  refine wp_get hc hx hin2 (j := (16 + 12 * a)) (Nat.zero_le _) (by have := ha; omega) (ce_1 (kd_st ha)) rfl 3 (by decide) hf35 rfl dX2_addBox_1 ?_
  refine wp_bipush (v := 8) hc dX2_addBox_4 (by decide) ?_
  refine wp_callNg (As := [.int (M.1 (16 + 12 * a) 3), .int 8]) (rest := []) (v := (fX5_isBelow (M.1 (16 + 12 * a) 3) 8)) hc hNW (kX5_isBelow l (M.1 (16 + 12 * a) 3) 8) cw43 rfl rfl (Nat.le_of_ble_eq_true rfl) dX2_addBox_6 ?_
  refine wp_if_ne (tgt := 15) hc dX2_addBox_9 (by decide) (fun c9 => ?_) (fun c9 => ?_)
  · refine wp_aload_n hc 0 dX2_addBox_15 rfl ?_
    refine wp_get hc hx hin2 (j := (16 + 12 * a)) (Nat.zero_le _) (by have := ha; omega) (ce_1 (kd_st ha)) rfl 0 (by decide) hf11 rfl dX2_addBox_16 ?_
    refine wp_aload_n hc 0 dX2_addBox_19 rfl ?_
    refine wp_get hc hx hin2 (j := (16 + 12 * a)) (Nat.zero_le _) (by have := ha; omega) (ce_1 (kd_st ha)) rfl 3 (by decide) hf35 rfl dX2_addBox_20 ?_
    refine wp_aald8 hc hx (j := (16 + 12 * a + 1)) (Nat.zero_le _) (by have := ha; omega) (kd_bx ha) (M.1 (16 + 12 * a) 3).toNatClampNeg rfl (vin8 (show 0 ≤ (M.1 (16 + 12 * a) 3).toInt ∧ (M.1 (16 + 12 * a) 3).toInt < (8 : Nat) from below_in c9)) dX2_addBox_23 ?_
    refine wp_aload_n hc 1 dX2_addBox_24 rfl ?_
    refine wp_callVvw (As := [.ref (z q1)]) (rest := []) (j := (16 + 12 * a + 1 + 3 + (M.1 (16 + 12 * a) 3).toNatClampNeg)) (w := sX0_copyFrom M (16 + 12 * a + 1 + 3 + (M.1 (16 + 12 * a) 3).toNatClampNeg) q1) hc hx (kX0_copyFrom l D cy z hz M (16 + 12 * a + 1 + 3 + (M.1 (16 + 12 * a) 3).toNatClampNeg) q1 (by have := ha; have : (M.1 (16 + 12 * a) 3).toNatClampNeg < 8 := (cl8 (show 0 ≤ (M.1 (16 + 12 * a) 3).toInt ∧ (M.1 (16 + 12 * a) 3).toInt < (8 : Nat) from below_in c9)); omega) (kd_fo ha (cl8 (show 0 ≤ (M.1 (16 + 12 * a) 3).toInt ∧ (M.1 (16 + 12 * a) 3).toInt < (8 : Nat) from below_in c9))) hjq1 hkq1) cw25 (Nat.zero_le _) (by have := ha; have : (M.1 (16 + 12 * a) 3).toNatClampNeg < 8 := (cl8 (show 0 ≤ (M.1 (16 + 12 * a) 3).toInt ∧ (M.1 (16 + 12 * a) 3).toInt < (8 : Nat) from below_in c9)); omega) (ce_0 (kd_fo ha (cl8 (show 0 ≤ (M.1 (16 + 12 * a) 3).toInt ∧ (M.1 (16 + 12 * a) 3).toInt < (8 : Nat) from below_in c9)))) rfl rfl rfl rfl (Nat.le_of_ble_eq_true rfl) dX2_addBox_25 (fun M1 hM1 => ?_)
    refine wp_aload_n hc 0 dX2_addBox_28 rfl ?_
    refine wp_dup hc dX2_addBox_29 rfl ?_
    refine wp_get hc hx hin2 (j := (16 + 12 * a)) (Nat.zero_le _) (by have := ha; omega) (ce_1 (kd_st ha)) rfl 3 (by decide) hf35 rfl dX2_addBox_30 ?_
    refine wp_iconst (v := 1) hc dX2_addBox_33 (by decide) ?_
    refine wp_iadd hc dX2_addBox_34 ?_
    refine wp_put (M' := st M1 (16 + 12 * a) 3 ((M1.1 (16 + 12 * a) 3) + 1)) hc hx hin2 tyX2 tyX2_ok nmX2 (j := (16 + 12 * a)) (Nat.zero_le _) (by have := ha; omega) (ce_1 (kd_st ha)) rfl 3 (by decide) hf35 rfl rfl rfl (Nat.le_of_ble_eq_true rfl) (by rw [ce_1 (kd_st ha)]; exact ce_stS3 _ _ _) (fun i hi => ce_row (va_up_ne _ _ hi) rfl) dX2_addBox_35 ?_
    refine wp_nm (fun M2 hM2 => ?_)
    refine wp_aload_n hc 0 dX2_addBox_38 rfl ?_
    refine wp_get hc hx hin2 (j := (16 + 12 * a)) (Nat.zero_le _) (by have := ha; omega) (ce_1 (kd_st ha)) rfl 3 (by decide) hf35 rfl dX2_addBox_39 ?_
    refine wp_iconst (v := 1) hc dX2_addBox_42 (by decide) ?_
    refine wp_isub hc dX2_addBox_43 ?_
    refine wp_iret hc hr hk ?_ dX2_addBox_44
    show (((M2.1 (16 + 12 * a) 3) - 1), M2) = sX2_addBox M a q1
    rw [sX2_addBox, if_neg c9, tk_eq hM1, tk_eq hM2]
  refine wp_bipush (v := (-4)) hc dX2_addBox_12 (by decide) ?_
  refine wp_iret hc hr hk ?_ dX2_addBox_14
  show ((-4), M) = sX2_addBox M a q1
  rw [sX2_addBox, if_pos c9]
set_option maxRecDepth 10000 in
theorem kfX2_addBox (M : Mem) (a : Nat) (q1 : Nat) : KF2 (fun x => 16 + 12 * a ≤ x ∧ x < 28 + 12 * a) M (sX2_addBox M a q1) := by
  unfold sX2_addBox
  refine ite_ind (P := KF2 (fun x => 16 + 12 * a ≤ x ∧ x < 28 + 12 * a) M) (fun c1 => ?_) (fun c1 => ?_)
  · exact (show KF (fun x => 16 + 12 * a ≤ x ∧ x < 28 + 12 * a) M M from KF.rf)
  · refine tk_ind (P := KF2 (fun x => 16 + 12 * a ≤ x ∧ x < 28 + 12 * a) M) _ _ (fun M1 hM1 => ?_)
    have k2 : KF (fun x => 16 + 12 * a ≤ x ∧ x < 28 + 12 * a) M M1 := by rw [hM1]; exact KF.mono (kfX0_copyFrom _ _ _) (fun x h => by first | exact h | ((try dsimp only at h ⊢); (have hq := cl8 (n := 8) (b := M.1 (16 + 12 * a) 3) (below_in c1); omega)))
    refine tk_ind (P := KF2 (fun x => 16 + 12 * a ≤ x ∧ x < 28 + 12 * a) M) _ _ (fun M2 hM2 => ?_)
    have k3 : KF (fun x => 16 + 12 * a ≤ x ∧ x < 28 + 12 * a) M1 M2 := by rw [hM2]; first | exact kf_st (by show _; (have hq := cl8 (n := 8) (b := M.1 (16 + 12 * a) 3) (below_in c1); omega)) | exact kf_sr (by show _; (have hq := cl8 (n := 8) (b := M.1 (16 + 12 * a) 3) (below_in c1); omega))
    exact (show KF (fun x => 16 + 12 * a ≤ x ∧ x < 28 + 12 * a) M M2 from KF.trans k2 (k3))
