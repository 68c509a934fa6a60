set_option maxHeartbeats 4000000 in
set_option maxRecDepth 100000 in
theorem kX0_init (l : Launch) (D : va_G) (cy : Nat → ClassId) (h0 sz : Nat) : KN (S := Nat → Nat) l yX0_init wsX0_init { frames := 1, cells := 0, slots := 0, locals := 12 } D cy h0 (.inr (0, [.int 0, .int 0, .int 0, .int 0])) sz (fun q => q 0 = h0) (fun q => [(q 0, .inr (0, [.int 0, .int 0, .int 0, .int 0]))]) 0 0 := by
  refine met_in (cc := cX0_init) (maxL := 1) (by decide) rfl rfl rfl (by decide) ?_
  intro p e s m below meth c A hc hx hn hr hk
  refine wl_aload_n hc 0 dX0_init_0 rfl ?_
  refine wl_obj hc (by decide +kernel) (by decide +kernel) (by decide +kernel) dX0_init_1 (Nat.le_of_ble_eq_true rfl) (Nat.le_of_ble_eq_true rfl) ?_
  exact wl_vret (blk := fun q : Nat → Nat => [(q 0, .inr (0, [.int 0, .int 0, .int 0, .int 0]))]) hc hr hk (fun _ => h0) rfl (List.Perm.refl _) dX0_init_4
def er0 : Nat → Int32 := upd (upd (upd (upd (fun _ => 0) 2 10007) 5 10007) 8 10007) 11 10007
def stA (q : Nat → Nat) : Nat → Option Nat := fun i => if i < 8 then some (q (4 + i)) else none
def stI (cy : Nat → ClassId) (q : Nat → Nat) : va_W := [(q 1, .inl (cy 2, 8, .inr (.inr (.inr (.inr (stA q)))))), (q 2, .inl (cy 1, 12, .inl er0)), (q 3, .inl (cy 1, 12, .inl (fun _ => 0))), (q 4, .inr (0, [.int 0, .int 0, .int 0, .int 0])), (q 5, .inr (0, [.int 0, .int 0, .int 0, .int 0])), (q 6, .inr (0, [.int 0, .int 0, .int 0, .int 0])), (q 7, .inr (0, [.int 0, .int 0, .int 0, .int 0])), (q 8, .inr (0, [.int 0, .int 0, .int 0, .int 0])), (q 9, .inr (0, [.int 0, .int 0, .int 0, .int 0])), (q 10, .inr (0, [.int 0, .int 0, .int 0, .int 0])), (q 11, .inr (0, [.int 0, .int 0, .int 0, .int 0]))]
def stB (cy : Nat → ClassId) (q : Nat → Nat) : va_W := (q 0, .inr (1, [.ref (q 1), .ref (q 2), .ref (q 3), .int 0, .int 0])) :: stI cy q
set_option maxHeartbeats 4000000 in
set_option maxRecDepth 100000 in
theorem kX2_init (l : Launch) (D : va_G) (cy : Nat → ClassId) (h0 sz : Nat) : KN (S := Nat → Nat) l yX2_init wsX2_init { frames := 2, cells := 11, slots := 64, locals := 32 } D cy h0 (.inr (1, [.null, .null, .null, .int 0, .int 0])) sz (fun q => q 0 = h0) (stB cy) 11 64 := by
  refine met_in (cc := cX2_init) (maxL := 2) (by decide) rfl rfl rfl (by decide) ?_
  intro p e s m below meth c A hc hx hn hr hk
  have hin0 : ∀ w ∈ wsX00, w ∈ wsX2_init := by decide +kernel
  have hin2 : ∀ w ∈ wsX20, w ∈ wsX2_init := by decide +kernel
  have hf11 : Cond.fieldLink RX2 11 (TX2 0).1 (TX2 0).2.1 (TX2 0).2.2.1 ∈ wsX2_init := by decide +kernel
  have hf18 : Cond.fieldLink RX2 18 (TX2 1).1 (TX2 1).2.1 (TX2 1).2.2.1 ∈ wsX2_init := by decide +kernel
  have hf22 : Cond.fieldLink RX2 22 (TX2 2).1 (TX2 2).2.1 (TX2 2).2.2.1 ∈ wsX2_init := by decide +kernel
  have hcl9 : Cond.classLink RX2 9 RX0 ∈ wsX2_init := by decide +kernel
  refine wl_aload_n hc 0 dX2_init_0 rfl ?_
  refine wl_obj hc (by decide +kernel) (by decide +kernel) (by decide +kernel) dX2_init_1 (Nat.le_of_ble_eq_true rfl) (Nat.le_of_ble_eq_true rfl) ?_
  refine wl_aload_n hc 0 dX2_init_4 rfl ?_
  refine wl_bipush (v := 8) hc dX2_init_5 (by decide) ?_
  refine wl_newq (C := RX0) hc hx 8 (cy 2) 2 rfl hx.1.2.2.1 hcl9 (by decide) (by decide) (Nat.le_of_ble_eq_true rfl) (Nat.le_of_ble_eq_true rfl) (Nat.le_of_ble_eq_true rfl) dX2_init_7 (fun q1 => ?_)
  refine wl_putF (ws' := (q1, .inl (cy 2, 8, .inr (.inr (.inr (.inr (fun _ => none)))))) :: (h0, .inr (1, [.ref q1, .null, .null, .int 0, .int 0])) :: []) (C := RX2) (T := TX2) (N := 5) hc hx hn hin2 tyX2 tyX2_ok nmX2 1 rfl rfl 0 (by decide) hf11 rfl rfl rfl rfl (Nat.le_of_ble_eq_true rfl) dX2_init_10 rfl ?_
  refine wl_iconst (v := 0) hc dX2_init_13 (by decide) ?_
  refine wl_istore_n (lv' := [(1, .int 0), (0, .ref h0)]) hc dX2_init_14 (by decide) rfl ?_
  refine wl_iload_n hc 0 dX2_init_15 rfl ?_
  refine wl_bipush (v := 8) hc dX2_init_16 (by decide) ?_
  refine wl_icmp_ge (tgt := 40) hc dX2_init_18 (by decide) (fun c => absurd c (by decide)) (fun _ => ?_)
  refine wl_aload_n hc 1 dX2_init_21 rfl ?_
  refine wl_get (C := RX2) (T := TX2) (N := 5) hc hx hin2 1 rfl rfl 0 (by decide) hf11 rfl dX2_init_22 ?_
  refine wl_iload_n hc 0 dX2_init_25 rfl ?_
  refine wl_new (ci := 0) (fs := [.int 0, .int 0, .int 0, .int 0]) (C := RX0) (T := TX0) (N := 4) hc hx hin0 tyX0 tyX0_ok hcl9 (by decide +kernel) (by decide +kernel) rfl (fun j hj => by rcases (show j = 0 ∨ j = 1 ∨ j = 2 ∨ j = 3 by omega) with rfl | rfl | rfl | rfl <;> rfl) (Nat.le_of_ble_eq_true rfl) (Nat.le_of_ble_eq_true rfl) dX2_init_26 (fun q2 => ?_)
  refine wl_dup hc dX2_init_29 rfl ?_
  refine wl_initN (Y := [(q1, .inl (cy 2, 8, .inr (.inr (.inr (.inr (fun _ => none)))))), (h0, .inr (1, [.ref q1, .null, .null, .int 0, .int 0]))]) (Rs := []) hc hx (fun sz => kX0_init l D cy q2 sz) (⟨va_cnB 0 hc.2.2.2.2 gX2_init_X0_init_n17 rfl rfl rfl hx.1.2.1.2.2.2.2.2.2.2 (hc.2.2.2.2 _ (by decide +kernel)) (by decide +kernel) ⟨Nat.le_of_ble_eq_true rfl, Nat.le_of_ble_eq_true rfl⟩, rfl, hc.2.2.2.2 _ (by decide +kernel)⟩) (Nat.le_of_ble_eq_true rfl) (Nat.le_of_ble_eq_true rfl) (Nat.le_of_ble_eq_true rfl) dX2_init_30 (fun fq2 hfq2 => ?_)
  subst hfq2
  refine wl_eq (ws' := (q1, .inl (cy 2, 8, .inr (.inr (.inr (.inr (fun _ => none)))))) :: (h0, .inr (1, [.ref q1, .null, .null, .int 0, .int 0])) :: ((fq2 0), .inr (0, [.int 0, .int 0, .int 0, .int 0])) :: []) rfl ?_
  refine wl_ast (ws' := (q1, .inl (cy 2, 8, .inr (.inr (.inr (.inr (va_up (fun _ => none) 0 (some (fq2 0)))))))) :: (h0, .inr (1, [.ref q1, .null, .null, .int 0, .int 0])) :: ((fq2 0), .inr (0, [.int 0, .int 0, .int 0, .int 0])) :: []) hc hx 0 2 2 0 rfl rfl rfl rfl 0 (by decide) (vin (by decide)) dX2_init_33 rfl ?_
  refine wl_iinc (v := 1) (lv' := [(1, .int 1), (0, .ref h0)]) hc 0 dX2_init_34 rfl (by decide) (by decide) rfl ?_
  refine wl_goto (tgt := 15) hc dX2_init_37 (by decide) ?_
  refine wl_iload_n hc 0 dX2_init_15 rfl ?_
  refine wl_bipush (v := 8) hc dX2_init_16 (by decide) ?_
  refine wl_icmp_ge (tgt := 40) hc dX2_init_18 (by decide) (fun c => absurd c (by decide)) (fun _ => ?_)
  refine wl_aload_n hc 1 dX2_init_21 rfl ?_
  refine wl_get (C := RX2) (T := TX2) (N := 5) hc hx hin2 1 rfl rfl 0 (by decide) hf11 rfl dX2_init_22 ?_
  refine wl_iload_n hc 0 dX2_init_25 rfl ?_
  refine wl_new (ci := 0) (fs := [.int 0, .int 0, .int 0, .int 0]) (C := RX0) (T := TX0) (N := 4) hc hx hin0 tyX0 tyX0_ok hcl9 (by decide +kernel) (by decide +kernel) rfl (fun j hj => by rcases (show j = 0 ∨ j = 1 ∨ j = 2 ∨ j = 3 by omega) with rfl | rfl | rfl | rfl <;> rfl) (Nat.le_of_ble_eq_true rfl) (Nat.le_of_ble_eq_true rfl) dX2_init_26 (fun q3 => ?_)
  refine wl_dup hc dX2_init_29 rfl ?_
  refine wl_initN (Y := [(q1, .inl (cy 2, 8, .inr (.inr (.inr (.inr (va_up (fun _ => none) 0 (some (fq2 0)))))))), (h0, .inr (1, [.ref q1, .null, .null, .int 0, .int 0])), ((fq2 0), .inr (0, [.int 0, .int 0, .int 0, .int 0]))]) (Rs := []) hc hx (fun sz => kX0_init l D cy q3 sz) (⟨va_cnB 0 hc.2.2.2.2 gX2_init_X0_init_n17 rfl rfl rfl hx.1.2.1.2.2.2.2.2.2.2 (hc.2.2.2.2 _ (by decide +kernel)) (by decide +kernel) ⟨Nat.le_of_ble_eq_true rfl, Nat.le_of_ble_eq_true rfl⟩, rfl, hc.2.2.2.2 _ (by decide +kernel)⟩) (Nat.le_of_ble_eq_true rfl) (Nat.le_of_ble_eq_true rfl) (Nat.le_of_ble_eq_true rfl) dX2_init_30 (fun fq3 hfq3 => ?_)
  subst hfq3
  refine wl_eq (ws' := (q1, .inl (cy 2, 8, .inr (.inr (.inr (.inr (va_up (fun _ => none) 0 (some (fq2 0)))))))) :: (h0, .inr (1, [.ref q1, .null, .null, .int 0, .int 0])) :: ((fq2 0), .inr (0, [.int 0, .int 0, .int 0, .int 0])) :: ((fq3 0), .inr (0, [.int 0, .int 0, .int 0, .int 0])) :: []) rfl ?_
  refine wl_ast (ws' := (q1, .inl (cy 2, 8, .inr (.inr (.inr (.inr (va_up (va_up (fun _ => none) 0 (some (fq2 0))) 1 (some (fq3 0)))))))) :: (h0, .inr (1, [.ref q1, .null, .null, .int 0, .int 0])) :: ((fq2 0), .inr (0, [.int 0, .int 0, .int 0, .int 0])) :: ((fq3 0), .inr (0, [.int 0, .int 0, .int 0, .int 0])) :: []) hc hx 0 3 2 0 rfl rfl rfl rfl 1 (by decide) (vin (by decide)) dX2_init_33 rfl ?_
  refine wl_iinc (v := 2) (lv' := [(1, .int 2), (0, .ref h0)]) hc 0 dX2_init_34 rfl (by decide) (by decide) rfl ?_
  refine wl_goto (tgt := 15) hc dX2_init_37 (by decide) ?_
  refine wl_iload_n hc 0 dX2_init_15 rfl ?_
  refine wl_bipush (v := 8) hc dX2_init_16 (by decide) ?_
  refine wl_icmp_ge (tgt := 40) hc dX2_init_18 (by decide) (fun c => absurd c (by decide)) (fun _ => ?_)
  refine wl_aload_n hc 1 dX2_init_21 rfl ?_
  refine wl_get (C := RX2) (T := TX2) (N := 5) hc hx hin2 1 rfl rfl 0 (by decide) hf11 rfl dX2_init_22 ?_
  refine wl_iload_n hc 0 dX2_init_25 rfl ?_
  refine wl_new (ci := 0) (fs := [.int 0, .int 0, .int 0, .int 0]) (C := RX0) (T := TX0) (N := 4) hc hx hin0 tyX0 tyX0_ok hcl9 (by decide +kernel) (by decide +kernel) rfl (fun j hj => by rcases (show j = 0 ∨ j = 1 ∨ j = 2 ∨ j = 3 by omega) with rfl | rfl | rfl | rfl <;> rfl) (Nat.le_of_ble_eq_true rfl) (Nat.le_of_ble_eq_true rfl) dX2_init_26 (fun q4 => ?_)
  refine wl_dup hc dX2_init_29 rfl ?_
  refine wl_initN (Y := [(q1, .inl (cy 2, 8, .inr (.inr (.inr (.inr (va_up (va_up (fun _ => none) 0 (some (fq2 0))) 1 (some (fq3 0)))))))), (h0, .inr (1, [.ref q1, .null, .null, .int 0, .int 0])), ((fq2 0), .inr (0, [.int 0, .int 0, .int 0, .int 0])), ((fq3 0), .inr (0, [.int 0, .int 0, .int 0, .int 0]))]) (Rs := []) hc hx (fun sz => kX0_init l D cy q4 sz) (⟨va_cnB 0 hc.2.2.2.2 gX2_init_X0_init_n17 rfl rfl rfl hx.1.2.1.2.2.2.2.2.2.2 (hc.2.2.2.2 _ (by decide +kernel)) (by decide +kernel) ⟨Nat.le_of_ble_eq_true rfl, Nat.le_of_ble_eq_true rfl⟩, rfl, hc.2.2.2.2 _ (by decide +kernel)⟩) (Nat.le_of_ble_eq_true rfl) (Nat.le_of_ble_eq_true rfl) (Nat.le_of_ble_eq_true rfl) dX2_init_30 (fun fq4 hfq4 => ?_)
  subst hfq4
  refine wl_eq (ws' := (q1, .inl (cy 2, 8, .inr (.inr (.inr (.inr (va_up (va_up (fun _ => none) 0 (some (fq2 0))) 1 (some (fq3 0)))))))) :: (h0, .inr (1, [.ref q1, .null, .null, .int 0, .int 0])) :: ((fq2 0), .inr (0, [.int 0, .int 0, .int 0, .int 0])) :: ((fq3 0), .inr (0, [.int 0, .int 0, .int 0, .int 0])) :: ((fq4 0), .inr (0, [.int 0, .int 0, .int 0, .int 0])) :: []) rfl ?_
  refine wl_ast (ws' := (q1, .inl (cy 2, 8, .inr (.inr (.inr (.inr (va_up (va_up (va_up (fun _ => none) 0 (some (fq2 0))) 1 (some (fq3 0))) 2 (some (fq4 0)))))))) :: (h0, .inr (1, [.ref q1, .null, .null, .int 0, .int 0])) :: ((fq2 0), .inr (0, [.int 0, .int 0, .int 0, .int 0])) :: ((fq3 0), .inr (0, [.int 0, .int 0, .int 0, .int 0])) :: ((fq4 0), .inr (0, [.int 0, .int 0, .int 0, .int 0])) :: []) hc hx 0 4 2 0 rfl rfl rfl rfl 2 (by decide) (vin (by decide)) dX2_init_33 rfl ?_
  refine wl_iinc (v := 3) (lv' := [(1, .int 3), (0, .ref h0)]) hc 0 dX2_init_34 rfl (by decide) (by decide) rfl ?_
  refine wl_goto (tgt := 15) hc dX2_init_37 (by decide) ?_
  refine wl_iload_n hc 0 dX2_init_15 rfl ?_
  refine wl_bipush (v := 8) hc dX2_init_16 (by decide) ?_
  refine wl_icmp_ge (tgt := 40) hc dX2_init_18 (by decide) (fun c => absurd c (by decide)) (fun _ => ?_)
  refine wl_aload_n hc 1 dX2_init_21 rfl ?_
  refine wl_get (C := RX2) (T := TX2) (N := 5) hc hx hin2 1 rfl rfl 0 (by decide) hf11 rfl dX2_init_22 ?_
  refine wl_iload_n hc 0 dX2_init_25 rfl ?_
  refine wl_new (ci := 0) (fs := [.int 0, .int 0, .int 0, .int 0]) (C := RX0) (T := TX0) (N := 4) hc hx hin0 tyX0 tyX0_ok hcl9 (by decide +kernel) (by decide +kernel) rfl (fun j hj => by rcases (show j = 0 ∨ j = 1 ∨ j = 2 ∨ j = 3 by omega) with rfl | rfl | rfl | rfl <;> rfl) (Nat.le_of_ble_eq_true rfl) (Nat.le_of_ble_eq_true rfl) dX2_init_26 (fun q5 => ?_)
  refine wl_dup hc dX2_init_29 rfl ?_
  refine wl_initN (Y := [(q1, .inl (cy 2, 8, .inr (.inr (.inr (.inr (va_up (va_up (va_up (fun _ => none) 0 (some (fq2 0))) 1 (some (fq3 0))) 2 (some (fq4 0)))))))), (h0, .inr (1, [.ref q1, .null, .null, .int 0, .int 0])), ((fq2 0), .inr (0, [.int 0, .int 0, .int 0, .int 0])), ((fq3 0), .inr (0, [.int 0, .int 0, .int 0, .int 0])), ((fq4 0), .inr (0, [.int 0, .int 0, .int 0, .int 0]))]) (Rs := []) hc hx (fun sz => kX0_init l D cy q5 sz) (⟨va_cnB 0 hc.2.2.2.2 gX2_init_X0_init_n17 rfl rfl rfl hx.1.2.1.2.2.2.2.2.2.2 (hc.2.2.2.2 _ (by decide +kernel)) (by decide +kernel) ⟨Nat.le_of_ble_eq_true rfl, Nat.le_of_ble_eq_true rfl⟩, rfl, hc.2.2.2.2 _ (by decide +kernel)⟩) (Nat.le_of_ble_eq_true rfl) (Nat.le_of_ble_eq_true rfl) (Nat.le_of_ble_eq_true rfl) dX2_init_30 (fun fq5 hfq5 => ?_)
  subst hfq5
  refine wl_eq (ws' := (q1, .inl (cy 2, 8, .inr (.inr (.inr (.inr (va_up (va_up (va_up (fun _ => none) 0 (some (fq2 0))) 1 (some (fq3 0))) 2 (some (fq4 0)))))))) :: (h0, .inr (1, [.ref q1, .null, .null, .int 0, .int 0])) :: ((fq2 0), .inr (0, [.int 0, .int 0, .int 0, .int 0])) :: ((fq3 0), .inr (0, [.int 0, .int 0, .int 0, .int 0])) :: ((fq4 0), .inr (0, [.int 0, .int 0, .int 0, .int 0])) :: ((fq5 0), .inr (0, [.int 0, .int 0, .int 0, .int 0])) :: []) rfl ?_
  refine wl_ast (ws' := (q1, .inl (cy 2, 8, .inr (.inr (.inr (.inr (va_up (va_up (va_up (va_up (fun _ => none) 0 (some (fq2 0))) 1 (some (fq3 0))) 2 (some (fq4 0))) 3 (some (fq5 0)))))))) :: (h0, .inr (1, [.ref q1, .null, .null, .int 0, .int 0])) :: ((fq2 0), .inr (0, [.int 0, .int 0, .int 0, .int 0])) :: ((fq3 0), .inr (0, [.int 0, .int 0, .int 0, .int 0])) :: ((fq4 0), .inr (0, [.int 0, .int 0, .int 0, .int 0])) :: ((fq5 0), .inr (0, [.int 0, .int 0, .int 0, .int 0])) :: []) hc hx 0 5 2 0 rfl rfl rfl rfl 3 (by decide) (vin (by decide)) dX2_init_33 rfl ?_
  refine wl_iinc (v := 4) (lv' := [(1, .int 4), (0, .ref h0)]) hc 0 dX2_init_34 rfl (by decide) (by decide) rfl ?_
  refine wl_goto (tgt := 15) hc dX2_init_37 (by decide) ?_
  refine wl_iload_n hc 0 dX2_init_15 rfl ?_
  refine wl_bipush (v := 8) hc dX2_init_16 (by decide) ?_
  refine wl_icmp_ge (tgt := 40) hc dX2_init_18 (by decide) (fun c => absurd c (by decide)) (fun _ => ?_)
  refine wl_aload_n hc 1 dX2_init_21 rfl ?_
  refine wl_get (C := RX2) (T := TX2) (N := 5) hc hx hin2 1 rfl rfl 0 (by decide) hf11 rfl dX2_init_22 ?_
  refine wl_iload_n hc 0 dX2_init_25 rfl ?_
  refine wl_new (ci := 0) (fs := [.int 0, .int 0, .int 0, .int 0]) (C := RX0) (T := TX0) (N := 4) hc hx hin0 tyX0 tyX0_ok hcl9 (by decide +kernel) (by decide +kernel) rfl (fun j hj => by rcases (show j = 0 ∨ j = 1 ∨ j = 2 ∨ j = 3 by omega) with rfl | rfl | rfl | rfl <;> rfl) (Nat.le_of_ble_eq_true rfl) (Nat.le_of_ble_eq_true rfl) dX2_init_26 (fun q6 => ?_)
  refine wl_dup hc dX2_init_29 rfl ?_
  refine wl_initN (Y := [(q1, .inl (cy 2, 8, .inr (.inr (.inr (.inr (va_up (va_up (va_up (va_up (fun _ => none) 0 (some (fq2 0))) 1 (some (fq3 0))) 2 (some (fq4 0))) 3 (some (fq5 0)))))))), (h0, .inr (1, [.ref q1, .null, .null, .int 0, .int 0])), ((fq2 0), .inr (0, [.int 0, .int 0, .int 0, .int 0])), ((fq3 0), .inr (0, [.int 0, .int 0, .int 0, .int 0])), ((fq4 0), .inr (0, [.int 0, .int 0, .int 0, .int 0])), ((fq5 0), .inr (0, [.int 0, .int 0, .int 0, .int 0]))]) (Rs := []) hc hx (fun sz => kX0_init l D cy q6 sz) (⟨va_cnB 0 hc.2.2.2.2 gX2_init_X0_init_n17 rfl rfl rfl hx.1.2.1.2.2.2.2.2.2.2 (hc.2.2.2.2 _ (by decide +kernel)) (by decide +kernel) ⟨Nat.le_of_ble_eq_true rfl, Nat.le_of_ble_eq_true rfl⟩, rfl, hc.2.2.2.2 _ (by decide +kernel)⟩) (Nat.le_of_ble_eq_true rfl) (Nat.le_of_ble_eq_true rfl) (Nat.le_of_ble_eq_true rfl) dX2_init_30 (fun fq6 hfq6 => ?_)
  subst hfq6
  refine wl_eq (ws' := (q1, .inl (cy 2, 8, .inr (.inr (.inr (.inr (va_up (va_up (va_up (va_up (fun _ => none) 0 (some (fq2 0))) 1 (some (fq3 0))) 2 (some (fq4 0))) 3 (some (fq5 0)))))))) :: (h0, .inr (1, [.ref q1, .null, .null, .int 0, .int 0])) :: ((fq2 0), .inr (0, [.int 0, .int 0, .int 0, .int 0])) :: ((fq3 0), .inr (0, [.int 0, .int 0, .int 0, .int 0])) :: ((fq4 0), .inr (0, [.int 0, .int 0, .int 0, .int 0])) :: ((fq5 0), .inr (0, [.int 0, .int 0, .int 0, .int 0])) :: ((fq6 0), .inr (0, [.int 0, .int 0, .int 0, .int 0])) :: []) rfl ?_
  refine wl_ast (ws' := (q1, .inl (cy 2, 8, .inr (.inr (.inr (.inr (va_up (va_up (va_up (va_up (va_up (fun _ => none) 0 (some (fq2 0))) 1 (some (fq3 0))) 2 (some (fq4 0))) 3 (some (fq5 0))) 4 (some (fq6 0)))))))) :: (h0, .inr (1, [.ref q1, .null, .null, .int 0, .int 0])) :: ((fq2 0), .inr (0, [.int 0, .int 0, .int 0, .int 0])) :: ((fq3 0), .inr (0, [.int 0, .int 0, .int 0, .int 0])) :: ((fq4 0), .inr (0, [.int 0, .int 0, .int 0, .int 0])) :: ((fq5 0), .inr (0, [.int 0, .int 0, .int 0, .int 0])) :: ((fq6 0), .inr (0, [.int 0, .int 0, .int 0, .int 0])) :: []) hc hx 0 6 2 0 rfl rfl rfl rfl 4 (by decide) (vin (by decide)) dX2_init_33 rfl ?_
  refine wl_iinc (v := 5) (lv' := [(1, .int 5), (0, .ref h0)]) hc 0 dX2_init_34 rfl (by decide) (by decide) rfl ?_
  refine wl_goto (tgt := 15) hc dX2_init_37 (by decide) ?_
  refine wl_iload_n hc 0 dX2_init_15 rfl ?_
  refine wl_bipush (v := 8) hc dX2_init_16 (by decide) ?_
  refine wl_icmp_ge (tgt := 40) hc dX2_init_18 (by decide) (fun c => absurd c (by decide)) (fun _ => ?_)
  refine wl_aload_n hc 1 dX2_init_21 rfl ?_
  refine wl_get (C := RX2) (T := TX2) (N := 5) hc hx hin2 1 rfl rfl 0 (by decide) hf11 rfl dX2_init_22 ?_
  refine wl_iload_n hc 0 dX2_init_25 rfl ?_
  refine wl_new (ci := 0) (fs := [.int 0, .int 0, .int 0, .int 0]) (C := RX0) (T := TX0) (N := 4) hc hx hin0 tyX0 tyX0_ok hcl9 (by decide +kernel) (by decide +kernel) rfl (fun j hj => by rcases (show j = 0 ∨ j = 1 ∨ j = 2 ∨ j = 3 by omega) with rfl | rfl | rfl | rfl <;> rfl) (Nat.le_of_ble_eq_true rfl) (Nat.le_of_ble_eq_true rfl) dX2_init_26 (fun q7 => ?_)
  refine wl_dup hc dX2_init_29 rfl ?_
  refine wl_initN (Y := [(q1, .inl (cy 2, 8, .inr (.inr (.inr (.inr (va_up (va_up (va_up (va_up (va_up (fun _ => none) 0 (some (fq2 0))) 1 (some (fq3 0))) 2 (some (fq4 0))) 3 (some (fq5 0))) 4 (some (fq6 0)))))))), (h0, .inr (1, [.ref q1, .null, .null, .int 0, .int 0])), ((fq2 0), .inr (0, [.int 0, .int 0, .int 0, .int 0])), ((fq3 0), .inr (0, [.int 0, .int 0, .int 0, .int 0])), ((fq4 0), .inr (0, [.int 0, .int 0, .int 0, .int 0])), ((fq5 0), .inr (0, [.int 0, .int 0, .int 0, .int 0])), ((fq6 0), .inr (0, [.int 0, .int 0, .int 0, .int 0]))]) (Rs := []) hc hx (fun sz => kX0_init l D cy q7 sz) (⟨va_cnB 0 hc.2.2.2.2 gX2_init_X0_init_n17 rfl rfl rfl hx.1.2.1.2.2.2.2.2.2.2 (hc.2.2.2.2 _ (by decide +kernel)) (by decide +kernel) ⟨Nat.le_of_ble_eq_true rfl, Nat.le_of_ble_eq_true rfl⟩, rfl, hc.2.2.2.2 _ (by decide +kernel)⟩) (Nat.le_of_ble_eq_true rfl) (Nat.le_of_ble_eq_true rfl) (Nat.le_of_ble_eq_true rfl) dX2_init_30 (fun fq7 hfq7 => ?_)
  subst hfq7
  refine wl_eq (ws' := (q1, .inl (cy 2, 8, .inr (.inr (.inr (.inr (va_up (va_up (va_up (va_up (va_up (fun _ => none) 0 (some (fq2 0))) 1 (some (fq3 0))) 2 (some (fq4 0))) 3 (some (fq5 0))) 4 (some (fq6 0)))))))) :: (h0, .inr (1, [.ref q1, .null, .null, .int 0, .int 0])) :: ((fq2 0), .inr (0, [.int 0, .int 0, .int 0, .int 0])) :: ((fq3 0), .inr (0, [.int 0, .int 0, .int 0, .int 0])) :: ((fq4 0), .inr (0, [.int 0, .int 0, .int 0, .int 0])) :: ((fq5 0), .inr (0, [.int 0, .int 0, .int 0, .int 0])) :: ((fq6 0), .inr (0, [.int 0, .int 0, .int 0, .int 0])) :: ((fq7 0), .inr (0, [.int 0, .int 0, .int 0, .int 0])) :: []) rfl ?_
  refine wl_ast (ws' := (q1, .inl (cy 2, 8, .inr (.inr (.inr (.inr (va_up (va_up (va_up (va_up (va_up (va_up (fun _ => none) 0 (some (fq2 0))) 1 (some (fq3 0))) 2 (some (fq4 0))) 3 (some (fq5 0))) 4 (some (fq6 0))) 5 (some (fq7 0)))))))) :: (h0, .inr (1, [.ref q1, .null, .null, .int 0, .int 0])) :: ((fq2 0), .inr (0, [.int 0, .int 0, .int 0, .int 0])) :: ((fq3 0), .inr (0, [.int 0, .int 0, .int 0, .int 0])) :: ((fq4 0), .inr (0, [.int 0, .int 0, .int 0, .int 0])) :: ((fq5 0), .inr (0, [.int 0, .int 0, .int 0, .int 0])) :: ((fq6 0), .inr (0, [.int 0, .int 0, .int 0, .int 0])) :: ((fq7 0), .inr (0, [.int 0, .int 0, .int 0, .int 0])) :: []) hc hx 0 7 2 0 rfl rfl rfl rfl 5 (by decide) (vin (by decide)) dX2_init_33 rfl ?_
  refine wl_iinc (v := 6) (lv' := [(1, .int 6), (0, .ref h0)]) hc 0 dX2_init_34 rfl (by decide) (by decide) rfl ?_
  refine wl_goto (tgt := 15) hc dX2_init_37 (by decide) ?_
  refine wl_iload_n hc 0 dX2_init_15 rfl ?_
  refine wl_bipush (v := 8) hc dX2_init_16 (by decide) ?_
  refine wl_icmp_ge (tgt := 40) hc dX2_init_18 (by decide) (fun c => absurd c (by decide)) (fun _ => ?_)
  refine wl_aload_n hc 1 dX2_init_21 rfl ?_
  refine wl_get (C := RX2) (T := TX2) (N := 5) hc hx hin2 1 rfl rfl 0 (by decide) hf11 rfl dX2_init_22 ?_
  refine wl_iload_n hc 0 dX2_init_25 rfl ?_
  refine wl_new (ci := 0) (fs := [.int 0, .int 0, .int 0, .int 0]) (C := RX0) (T := TX0) (N := 4) hc hx hin0 tyX0 tyX0_ok hcl9 (by decide +kernel) (by decide +kernel) rfl (fun j hj => by rcases (show j = 0 ∨ j = 1 ∨ j = 2 ∨ j = 3 by omega) with rfl | rfl | rfl | rfl <;> rfl) (Nat.le_of_ble_eq_true rfl) (Nat.le_of_ble_eq_true rfl) dX2_init_26 (fun q8 => ?_)
  refine wl_dup hc dX2_init_29 rfl ?_
  refine wl_initN (Y := [(q1, .inl (cy 2, 8, .inr (.inr (.inr (.inr (va_up (va_up (va_up (va_up (va_up (va_up (fun _ => none) 0 (some (fq2 0))) 1 (some (fq3 0))) 2 (some (fq4 0))) 3 (some (fq5 0))) 4 (some (fq6 0))) 5 (some (fq7 0)))))))), (h0, .inr (1, [.ref q1, .null, .null, .int 0, .int 0])), ((fq2 0), .inr (0, [.int 0, .int 0, .int 0, .int 0])), ((fq3 0), .inr (0, [.int 0, .int 0, .int 0, .int 0])), ((fq4 0), .inr (0, [.int 0, .int 0, .int 0, .int 0])), ((fq5 0), .inr (0, [.int 0, .int 0, .int 0, .int 0])), ((fq6 0), .inr (0, [.int 0, .int 0, .int 0, .int 0])), ((fq7 0), .inr (0, [.int 0, .int 0, .int 0, .int 0]))]) (Rs := []) hc hx (fun sz => kX0_init l D cy q8 sz) (⟨va_cnB 0 hc.2.2.2.2 gX2_init_X0_init_n17 rfl rfl rfl hx.1.2.1.2.2.2.2.2.2.2 (hc.2.2.2.2 _ (by decide +kernel)) (by decide +kernel) ⟨Nat.le_of_ble_eq_true rfl, Nat.le_of_ble_eq_true rfl⟩, rfl, hc.2.2.2.2 _ (by decide +kernel)⟩) (Nat.le_of_ble_eq_true rfl) (Nat.le_of_ble_eq_true rfl) (Nat.le_of_ble_eq_true rfl) dX2_init_30 (fun fq8 hfq8 => ?_)
  subst hfq8
  refine wl_eq (ws' := (q1, .inl (cy 2, 8, .inr (.inr (.inr (.inr (va_up (va_up (va_up (va_up (va_up (va_up (fun _ => none) 0 (some (fq2 0))) 1 (some (fq3 0))) 2 (some (fq4 0))) 3 (some (fq5 0))) 4 (some (fq6 0))) 5 (some (fq7 0)))))))) :: (h0, .inr (1, [.ref q1, .null, .null, .int 0, .int 0])) :: ((fq2 0), .inr (0, [.int 0, .int 0, .int 0, .int 0])) :: ((fq3 0), .inr (0, [.int 0, .int 0, .int 0, .int 0])) :: ((fq4 0), .inr (0, [.int 0, .int 0, .int 0, .int 0])) :: ((fq5 0), .inr (0, [.int 0, .int 0, .int 0, .int 0])) :: ((fq6 0), .inr (0, [.int 0, .int 0, .int 0, .int 0])) :: ((fq7 0), .inr (0, [.int 0, .int 0, .int 0, .int 0])) :: ((fq8 0), .inr (0, [.int 0, .int 0, .int 0, .int 0])) :: []) rfl ?_
  refine wl_ast (ws' := (q1, .inl (cy 2, 8, .inr (.inr (.inr (.inr (va_up (va_up (va_up (va_up (va_up (va_up (va_up (fun _ => none) 0 (some (fq2 0))) 1 (some (fq3 0))) 2 (some (fq4 0))) 3 (some (fq5 0))) 4 (some (fq6 0))) 5 (some (fq7 0))) 6 (some (fq8 0)))))))) :: (h0, .inr (1, [.ref q1, .null, .null, .int 0, .int 0])) :: ((fq2 0), .inr (0, [.int 0, .int 0, .int 0, .int 0])) :: ((fq3 0), .inr (0, [.int 0, .int 0, .int 0, .int 0])) :: ((fq4 0), .inr (0, [.int 0, .int 0, .int 0, .int 0])) :: ((fq5 0), .inr (0, [.int 0, .int 0, .int 0, .int 0])) :: ((fq6 0), .inr (0, [.int 0, .int 0, .int 0, .int 0])) :: ((fq7 0), .inr (0, [.int 0, .int 0, .int 0, .int 0])) :: ((fq8 0), .inr (0, [.int 0, .int 0, .int 0, .int 0])) :: []) hc hx 0 8 2 0 rfl rfl rfl rfl 6 (by decide) (vin (by decide)) dX2_init_33 rfl ?_
  refine wl_iinc (v := 7) (lv' := [(1, .int 7), (0, .ref h0)]) hc 0 dX2_init_34 rfl (by decide) (by decide) rfl ?_
  refine wl_goto (tgt := 15) hc dX2_init_37 (by decide) ?_
  refine wl_iload_n hc 0 dX2_init_15 rfl ?_
  refine wl_bipush (v := 8) hc dX2_init_16 (by decide) ?_
  refine wl_icmp_ge (tgt := 40) hc dX2_init_18 (by decide) (fun c => absurd c (by decide)) (fun _ => ?_)
  refine wl_aload_n hc 1 dX2_init_21 rfl ?_
  refine wl_get (C := RX2) (T := TX2) (N := 5) hc hx hin2 1 rfl rfl 0 (by decide) hf11 rfl dX2_init_22 ?_
  refine wl_iload_n hc 0 dX2_init_25 rfl ?_
  refine wl_new (ci := 0) (fs := [.int 0, .int 0, .int 0, .int 0]) (C := RX0) (T := TX0) (N := 4) hc hx hin0 tyX0 tyX0_ok hcl9 (by decide +kernel) (by decide +kernel) rfl (fun j hj => by rcases (show j = 0 ∨ j = 1 ∨ j = 2 ∨ j = 3 by omega) with rfl | rfl | rfl | rfl <;> rfl) (Nat.le_of_ble_eq_true rfl) (Nat.le_of_ble_eq_true rfl) dX2_init_26 (fun q9 => ?_)
  refine wl_dup hc dX2_init_29 rfl ?_
  refine wl_initN (Y := [(q1, .inl (cy 2, 8, .inr (.inr (.inr (.inr (va_up (va_up (va_up (va_up (va_up (va_up (va_up (fun _ => none) 0 (some (fq2 0))) 1 (some (fq3 0))) 2 (some (fq4 0))) 3 (some (fq5 0))) 4 (some (fq6 0))) 5 (some (fq7 0))) 6 (some (fq8 0)))))))), (h0, .inr (1, [.ref q1, .null, .null, .int 0, .int 0])), ((fq2 0), .inr (0, [.int 0, .int 0, .int 0, .int 0])), ((fq3 0), .inr (0, [.int 0, .int 0, .int 0, .int 0])), ((fq4 0), .inr (0, [.int 0, .int 0, .int 0, .int 0])), ((fq5 0), .inr (0, [.int 0, .int 0, .int 0, .int 0])), ((fq6 0), .inr (0, [.int 0, .int 0, .int 0, .int 0])), ((fq7 0), .inr (0, [.int 0, .int 0, .int 0, .int 0])), ((fq8 0), .inr (0, [.int 0, .int 0, .int 0, .int 0]))]) (Rs := []) hc hx (fun sz => kX0_init l D cy q9 sz) (⟨va_cnB 0 hc.2.2.2.2 gX2_init_X0_init_n17 rfl rfl rfl hx.1.2.1.2.2.2.2.2.2.2 (hc.2.2.2.2 _ (by decide +kernel)) (by decide +kernel) ⟨Nat.le_of_ble_eq_true rfl, Nat.le_of_ble_eq_true rfl⟩, rfl, hc.2.2.2.2 _ (by decide +kernel)⟩) (Nat.le_of_ble_eq_true rfl) (Nat.le_of_ble_eq_true rfl) (Nat.le_of_ble_eq_true rfl) dX2_init_30 (fun fq9 hfq9 => ?_)
  subst hfq9
  refine wl_eq (ws' := (q1, .inl (cy 2, 8, .inr (.inr (.inr (.inr (va_up (va_up (va_up (va_up (va_up (va_up (va_up (fun _ => none) 0 (some (fq2 0))) 1 (some (fq3 0))) 2 (some (fq4 0))) 3 (some (fq5 0))) 4 (some (fq6 0))) 5 (some (fq7 0))) 6 (some (fq8 0)))))))) :: (h0, .inr (1, [.ref q1, .null, .null, .int 0, .int 0])) :: ((fq2 0), .inr (0, [.int 0, .int 0, .int 0, .int 0])) :: ((fq3 0), .inr (0, [.int 0, .int 0, .int 0, .int 0])) :: ((fq4 0), .inr (0, [.int 0, .int 0, .int 0, .int 0])) :: ((fq5 0), .inr (0, [.int 0, .int 0, .int 0, .int 0])) :: ((fq6 0), .inr (0, [.int 0, .int 0, .int 0, .int 0])) :: ((fq7 0), .inr (0, [.int 0, .int 0, .int 0, .int 0])) :: ((fq8 0), .inr (0, [.int 0, .int 0, .int 0, .int 0])) :: ((fq9 0), .inr (0, [.int 0, .int 0, .int 0, .int 0])) :: []) rfl ?_
  refine wl_ast (ws' := (q1, .inl (cy 2, 8, .inr (.inr (.inr (.inr (va_up (va_up (va_up (va_up (va_up (va_up (va_up (va_up (fun _ => none) 0 (some (fq2 0))) 1 (some (fq3 0))) 2 (some (fq4 0))) 3 (some (fq5 0))) 4 (some (fq6 0))) 5 (some (fq7 0))) 6 (some (fq8 0))) 7 (some (fq9 0)))))))) :: (h0, .inr (1, [.ref q1, .null, .null, .int 0, .int 0])) :: ((fq2 0), .inr (0, [.int 0, .int 0, .int 0, .int 0])) :: ((fq3 0), .inr (0, [.int 0, .int 0, .int 0, .int 0])) :: ((fq4 0), .inr (0, [.int 0, .int 0, .int 0, .int 0])) :: ((fq5 0), .inr (0, [.int 0, .int 0, .int 0, .int 0])) :: ((fq6 0), .inr (0, [.int 0, .int 0, .int 0, .int 0])) :: ((fq7 0), .inr (0, [.int 0, .int 0, .int 0, .int 0])) :: ((fq8 0), .inr (0, [.int 0, .int 0, .int 0, .int 0])) :: ((fq9 0), .inr (0, [.int 0, .int 0, .int 0, .int 0])) :: []) hc hx 0 9 2 0 rfl rfl rfl rfl 7 (by decide) (vin (by decide)) dX2_init_33 rfl ?_
  refine wl_iinc (v := 8) (lv' := [(1, .int 8), (0, .ref h0)]) hc 0 dX2_init_34 rfl (by decide) (by decide) rfl ?_
  refine wl_goto (tgt := 15) hc dX2_init_37 (by decide) ?_
  refine wl_iload_n hc 0 dX2_init_15 rfl ?_
  refine wl_bipush (v := 8) hc dX2_init_16 (by decide) ?_
  refine wl_icmp_ge (tgt := 40) hc dX2_init_18 (by decide) (fun _ => ?_) (fun c => absurd c (by decide))
  refine wl_aload_n hc 1 dX2_init_40 rfl ?_
  refine wl_bipush (v := 12) hc dX2_init_41 (by decide) ?_
  refine wl_newI hc hx 12 (by decide +kernel) (by decide) (by decide) (Nat.le_of_ble_eq_true rfl) (Nat.le_of_ble_eq_true rfl) (Nat.le_of_ble_eq_true rfl) dX2_init_43 (fun q10 => ?_)
  refine wl_putF (ws' := (q10, .inl (cy 1, 12, .inl (fun _ => 0))) :: (q1, .inl (cy 2, 8, .inr (.inr (.inr (.inr (va_up (va_up (va_up (va_up (va_up (va_up (va_up (va_up (fun _ => none) 0 (some (fq2 0))) 1 (some (fq3 0))) 2 (some (fq4 0))) 3 (some (fq5 0))) 4 (some (fq6 0))) 5 (some (fq7 0))) 6 (some (fq8 0))) 7 (some (fq9 0)))))))) :: (h0, .inr (1, [.ref q1, .ref q10, .null, .int 0, .int 0])) :: ((fq2 0), .inr (0, [.int 0, .int 0, .int 0, .int 0])) :: ((fq3 0), .inr (0, [.int 0, .int 0, .int 0, .int 0])) :: ((fq4 0), .inr (0, [.int 0, .int 0, .int 0, .int 0])) :: ((fq5 0), .inr (0, [.int 0, .int 0, .int 0, .int 0])) :: ((fq6 0), .inr (0, [.int 0, .int 0, .int 0, .int 0])) :: ((fq7 0), .inr (0, [.int 0, .int 0, .int 0, .int 0])) :: ((fq8 0), .inr (0, [.int 0, .int 0, .int 0, .int 0])) :: ((fq9 0), .inr (0, [.int 0, .int 0, .int 0, .int 0])) :: []) (C := RX2) (T := TX2) (N := 5) hc hx hn hin2 tyX2 tyX2_ok nmX2 2 rfl rfl 1 (by decide) hf18 rfl rfl rfl rfl (Nat.le_of_ble_eq_true rfl) dX2_init_45 rfl ?_
  refine wl_iconst (v := 2) hc dX2_init_48 (by decide) ?_
  refine wl_istore_n (lv' := [(1, .int 2), (0, .ref h0)]) hc dX2_init_49 (by decide) rfl ?_
  refine wl_iload_n hc 0 dX2_init_50 rfl ?_
  refine wl_bipush (v := 12) hc dX2_init_51 (by decide) ?_
  refine wl_icmp_ge (tgt := 71) hc dX2_init_53 (by decide) (fun c => absurd c (by decide)) (fun _ => ?_)
  refine wl_aload_n hc 1 dX2_init_56 rfl ?_
  refine wl_get (C := RX2) (T := TX2) (N := 5) hc hx hin2 2 rfl rfl 1 (by decide) hf18 rfl dX2_init_57 ?_
  refine wl_iload_n hc 0 dX2_init_60 rfl ?_
  refine wl_sipush (v := 10007) hc dX2_init_61 (by decide) ?_
  refine wl_iast (ws' := (q10, .inl (cy 1, 12, .inl (upd (fun _ => 0) 2 10007))) :: (q1, .inl (cy 2, 8, .inr (.inr (.inr (.inr (va_up (va_up (va_up (va_up (va_up (va_up (va_up (va_up (fun _ => none) 0 (some (fq2 0))) 1 (some (fq3 0))) 2 (some (fq4 0))) 3 (some (fq5 0))) 4 (some (fq6 0))) 5 (some (fq7 0))) 6 (some (fq8 0))) 7 (some (fq9 0)))))))) :: (h0, .inr (1, [.ref q1, .ref q10, .null, .int 0, .int 0])) :: ((fq2 0), .inr (0, [.int 0, .int 0, .int 0, .int 0])) :: ((fq3 0), .inr (0, [.int 0, .int 0, .int 0, .int 0])) :: ((fq4 0), .inr (0, [.int 0, .int 0, .int 0, .int 0])) :: ((fq5 0), .inr (0, [.int 0, .int 0, .int 0, .int 0])) :: ((fq6 0), .inr (0, [.int 0, .int 0, .int 0, .int 0])) :: ((fq7 0), .inr (0, [.int 0, .int 0, .int 0, .int 0])) :: ((fq8 0), .inr (0, [.int 0, .int 0, .int 0, .int 0])) :: ((fq9 0), .inr (0, [.int 0, .int 0, .int 0, .int 0])) :: []) hc hx 0 rfl 2 (by decide) (vin (by decide)) dX2_init_64 rfl ?_
  refine wl_iinc (v := 5) (lv' := [(1, .int 5), (0, .ref h0)]) hc 0 dX2_init_65 rfl (by decide) (by decide) rfl ?_
  refine wl_goto (tgt := 50) hc dX2_init_68 (by decide) ?_
  refine wl_iload_n hc 0 dX2_init_50 rfl ?_
  refine wl_bipush (v := 12) hc dX2_init_51 (by decide) ?_
  refine wl_icmp_ge (tgt := 71) hc dX2_init_53 (by decide) (fun c => absurd c (by decide)) (fun _ => ?_)
  refine wl_aload_n hc 1 dX2_init_56 rfl ?_
  refine wl_get (C := RX2) (T := TX2) (N := 5) hc hx hin2 2 rfl rfl 1 (by decide) hf18 rfl dX2_init_57 ?_
  refine wl_iload_n hc 0 dX2_init_60 rfl ?_
  refine wl_sipush (v := 10007) hc dX2_init_61 (by decide) ?_
  refine wl_iast (ws' := (q10, .inl (cy 1, 12, .inl (upd (upd (fun _ => 0) 2 10007) 5 10007))) :: (q1, .inl (cy 2, 8, .inr (.inr (.inr (.inr (va_up (va_up (va_up (va_up (va_up (va_up (va_up (va_up (fun _ => none) 0 (some (fq2 0))) 1 (some (fq3 0))) 2 (some (fq4 0))) 3 (some (fq5 0))) 4 (some (fq6 0))) 5 (some (fq7 0))) 6 (some (fq8 0))) 7 (some (fq9 0)))))))) :: (h0, .inr (1, [.ref q1, .ref q10, .null, .int 0, .int 0])) :: ((fq2 0), .inr (0, [.int 0, .int 0, .int 0, .int 0])) :: ((fq3 0), .inr (0, [.int 0, .int 0, .int 0, .int 0])) :: ((fq4 0), .inr (0, [.int 0, .int 0, .int 0, .int 0])) :: ((fq5 0), .inr (0, [.int 0, .int 0, .int 0, .int 0])) :: ((fq6 0), .inr (0, [.int 0, .int 0, .int 0, .int 0])) :: ((fq7 0), .inr (0, [.int 0, .int 0, .int 0, .int 0])) :: ((fq8 0), .inr (0, [.int 0, .int 0, .int 0, .int 0])) :: ((fq9 0), .inr (0, [.int 0, .int 0, .int 0, .int 0])) :: []) hc hx 0 rfl 5 (by decide) (vin (by decide)) dX2_init_64 rfl ?_
  refine wl_iinc (v := 8) (lv' := [(1, .int 8), (0, .ref h0)]) hc 0 dX2_init_65 rfl (by decide) (by decide) rfl ?_
  refine wl_goto (tgt := 50) hc dX2_init_68 (by decide) ?_
  refine wl_iload_n hc 0 dX2_init_50 rfl ?_
  refine wl_bipush (v := 12) hc dX2_init_51 (by decide) ?_
  refine wl_icmp_ge (tgt := 71) hc dX2_init_53 (by decide) (fun c => absurd c (by decide)) (fun _ => ?_)
  refine wl_aload_n hc 1 dX2_init_56 rfl ?_
  refine wl_get (C := RX2) (T := TX2) (N := 5) hc hx hin2 2 rfl rfl 1 (by decide) hf18 rfl dX2_init_57 ?_
  refine wl_iload_n hc 0 dX2_init_60 rfl ?_
  refine wl_sipush (v := 10007) hc dX2_init_61 (by decide) ?_
  refine wl_iast (ws' := (q10, .inl (cy 1, 12, .inl (upd (upd (upd (fun _ => 0) 2 10007) 5 10007) 8 10007))) :: (q1, .inl (cy 2, 8, .inr (.inr (.inr (.inr (va_up (va_up (va_up (va_up (va_up (va_up (va_up (va_up (fun _ => none) 0 (some (fq2 0))) 1 (some (fq3 0))) 2 (some (fq4 0))) 3 (some (fq5 0))) 4 (some (fq6 0))) 5 (some (fq7 0))) 6 (some (fq8 0))) 7 (some (fq9 0)))))))) :: (h0, .inr (1, [.ref q1, .ref q10, .null, .int 0, .int 0])) :: ((fq2 0), .inr (0, [.int 0, .int 0, .int 0, .int 0])) :: ((fq3 0), .inr (0, [.int 0, .int 0, .int 0, .int 0])) :: ((fq4 0), .inr (0, [.int 0, .int 0, .int 0, .int 0])) :: ((fq5 0), .inr (0, [.int 0, .int 0, .int 0, .int 0])) :: ((fq6 0), .inr (0, [.int 0, .int 0, .int 0, .int 0])) :: ((fq7 0), .inr (0, [.int 0, .int 0, .int 0, .int 0])) :: ((fq8 0), .inr (0, [.int 0, .int 0, .int 0, .int 0])) :: ((fq9 0), .inr (0, [.int 0, .int 0, .int 0, .int 0])) :: []) hc hx 0 rfl 8 (by decide) (vin (by decide)) dX2_init_64 rfl ?_
  refine wl_iinc (v := 11) (lv' := [(1, .int 11), (0, .ref h0)]) hc 0 dX2_init_65 rfl (by decide) (by decide) rfl ?_
  refine wl_goto (tgt := 50) hc dX2_init_68 (by decide) ?_
  refine wl_iload_n hc 0 dX2_init_50 rfl ?_
  refine wl_bipush (v := 12) hc dX2_init_51 (by decide) ?_
  refine wl_icmp_ge (tgt := 71) hc dX2_init_53 (by decide) (fun c => absurd c (by decide)) (fun _ => ?_)
  refine wl_aload_n hc 1 dX2_init_56 rfl ?_
  refine wl_get (C := RX2) (T := TX2) (N := 5) hc hx hin2 2 rfl rfl 1 (by decide) hf18 rfl dX2_init_57 ?_
  refine wl_iload_n hc 0 dX2_init_60 rfl ?_
  refine wl_sipush (v := 10007) hc dX2_init_61 (by decide) ?_
  refine wl_iast (ws' := (q10, .inl (cy 1, 12, .inl (upd (upd (upd (upd (fun _ => 0) 2 10007) 5 10007) 8 10007) 11 10007))) :: (q1, .inl (cy 2, 8, .inr (.inr (.inr (.inr (va_up (va_up (va_up (va_up (va_up (va_up (va_up (va_up (fun _ => none) 0 (some (fq2 0))) 1 (some (fq3 0))) 2 (some (fq4 0))) 3 (some (fq5 0))) 4 (some (fq6 0))) 5 (some (fq7 0))) 6 (some (fq8 0))) 7 (some (fq9 0)))))))) :: (h0, .inr (1, [.ref q1, .ref q10, .null, .int 0, .int 0])) :: ((fq2 0), .inr (0, [.int 0, .int 0, .int 0, .int 0])) :: ((fq3 0), .inr (0, [.int 0, .int 0, .int 0, .int 0])) :: ((fq4 0), .inr (0, [.int 0, .int 0, .int 0, .int 0])) :: ((fq5 0), .inr (0, [.int 0, .int 0, .int 0, .int 0])) :: ((fq6 0), .inr (0, [.int 0, .int 0, .int 0, .int 0])) :: ((fq7 0), .inr (0, [.int 0, .int 0, .int 0, .int 0])) :: ((fq8 0), .inr (0, [.int 0, .int 0, .int 0, .int 0])) :: ((fq9 0), .inr (0, [.int 0, .int 0, .int 0, .int 0])) :: []) hc hx 0 rfl 11 (by decide) (vin (by decide)) dX2_init_64 rfl ?_
  refine wl_iinc (v := 14) (lv' := [(1, .int 14), (0, .ref h0)]) hc 0 dX2_init_65 rfl (by decide) (by decide) rfl ?_
  refine wl_goto (tgt := 50) hc dX2_init_68 (by decide) ?_
  refine wl_iload_n hc 0 dX2_init_50 rfl ?_
  refine wl_bipush (v := 12) hc dX2_init_51 (by decide) ?_
  refine wl_icmp_ge (tgt := 71) hc dX2_init_53 (by decide) (fun _ => ?_) (fun c => absurd c (by decide))
  refine wl_aload_n hc 1 dX2_init_71 rfl ?_
  refine wl_bipush (v := 12) hc dX2_init_72 (by decide) ?_
  refine wl_newI hc hx 12 (by decide +kernel) (by decide) (by decide) (Nat.le_of_ble_eq_true rfl) (Nat.le_of_ble_eq_true rfl) (Nat.le_of_ble_eq_true rfl) dX2_init_74 (fun q11 => ?_)
  refine wl_putF (ws' := (q11, .inl (cy 1, 12, .inl (fun _ => 0))) :: (q10, .inl (cy 1, 12, .inl (upd (upd (upd (upd (fun _ => 0) 2 10007) 5 10007) 8 10007) 11 10007))) :: (q1, .inl (cy 2, 8, .inr (.inr (.inr (.inr (va_up (va_up (va_up (va_up (va_up (va_up (va_up (va_up (fun _ => none) 0 (some (fq2 0))) 1 (some (fq3 0))) 2 (some (fq4 0))) 3 (some (fq5 0))) 4 (some (fq6 0))) 5 (some (fq7 0))) 6 (some (fq8 0))) 7 (some (fq9 0)))))))) :: (h0, .inr (1, [.ref q1, .ref q10, .ref q11, .int 0, .int 0])) :: ((fq2 0), .inr (0, [.int 0, .int 0, .int 0, .int 0])) :: ((fq3 0), .inr (0, [.int 0, .int 0, .int 0, .int 0])) :: ((fq4 0), .inr (0, [.int 0, .int 0, .int 0, .int 0])) :: ((fq5 0), .inr (0, [.int 0, .int 0, .int 0, .int 0])) :: ((fq6 0), .inr (0, [.int 0, .int 0, .int 0, .int 0])) :: ((fq7 0), .inr (0, [.int 0, .int 0, .int 0, .int 0])) :: ((fq8 0), .inr (0, [.int 0, .int 0, .int 0, .int 0])) :: ((fq9 0), .inr (0, [.int 0, .int 0, .int 0, .int 0])) :: []) (C := RX2) (T := TX2) (N := 5) hc hx hn hin2 tyX2 tyX2_ok nmX2 3 rfl rfl 2 (by decide) hf22 rfl rfl rfl rfl (Nat.le_of_ble_eq_true rfl) dX2_init_76 rfl ?_
  refine wl_fn (ws' := (q11, .inl (cy 1, 12, .inl (fun _ => 0))) :: (q10, .inl (cy 1, 12, .inl (upd (upd (upd (upd (fun _ => 0) 2 10007) 5 10007) 8 10007) 11 10007))) :: (q1, .inl (cy 2, 8, .inr (.inr (.inr (.inr (stA (fun i => ([h0, q1, q10, q11, (fq2 0), (fq3 0), (fq4 0), (fq5 0), (fq6 0), (fq7 0), (fq8 0), (fq9 0)] : List Nat).getD i 0))))))) :: (h0, .inr (1, [.ref q1, .ref q10, .ref q11, .int 0, .int 0])) :: ((fq2 0), .inr (0, [.int 0, .int 0, .int 0, .int 0])) :: ((fq3 0), .inr (0, [.int 0, .int 0, .int 0, .int 0])) :: ((fq4 0), .inr (0, [.int 0, .int 0, .int 0, .int 0])) :: ((fq5 0), .inr (0, [.int 0, .int 0, .int 0, .int 0])) :: ((fq6 0), .inr (0, [.int 0, .int 0, .int 0, .int 0])) :: ((fq7 0), .inr (0, [.int 0, .int 0, .int 0, .int 0])) :: ((fq8 0), .inr (0, [.int 0, .int 0, .int 0, .int 0])) :: ((fq9 0), .inr (0, [.int 0, .int 0, .int 0, .int 0])) :: []) (g := stA (fun i => ([h0, q1, q10, q11, (fq2 0), (fq3 0), (fq4 0), (fq5 0), (fq6 0), (fq7 0), (fq8 0), (fq9 0)] : List Nat).getD i 0)) 2 rfl (fun i hi => by rcases (show i = 0 ∨ i = 1 ∨ i = 2 ∨ i = 3 ∨ i = 4 ∨ i = 5 ∨ i = 6 ∨ i = 7 by omega) with rfl | rfl | rfl | rfl | rfl | rfl | rfl | rfl <;> rfl) rfl ?_
  exact wl_vret (blk := stB cy) hc hr hk (fun i => ([h0, q1, q10, q11, (fq2 0), (fq3 0), (fq4 0), (fq5 0), (fq6 0), (fq7 0), (fq8 0), (fq9 0)] : List Nat).getD i 0) rfl ((List.reverse_perm ([(h0, .inr (1, [.ref q1, .ref q10, .ref q11, .int 0, .int 0])), (q1, .inl (cy 2, 8, .inr (.inr (.inr (.inr (stA (fun i => ([h0, q1, q10, q11, (fq2 0), (fq3 0), (fq4 0), (fq5 0), (fq6 0), (fq7 0), (fq8 0), (fq9 0)] : List Nat).getD i 0))))))), (q10, .inl (cy 1, 12, .inl (upd (upd (upd (upd (fun _ => 0) 2 10007) 5 10007) 8 10007) 11 10007))), (q11, .inl (cy 1, 12, .inl (fun _ => 0)))] : va_W)).append_right ([((fq2 0), .inr (0, [.int 0, .int 0, .int 0, .int 0])), ((fq3 0), .inr (0, [.int 0, .int 0, .int 0, .int 0])), ((fq4 0), .inr (0, [.int 0, .int 0, .int 0, .int 0])), ((fq5 0), .inr (0, [.int 0, .int 0, .int 0, .int 0])), ((fq6 0), .inr (0, [.int 0, .int 0, .int 0, .int 0])), ((fq7 0), .inr (0, [.int 0, .int 0, .int 0, .int 0])), ((fq8 0), .inr (0, [.int 0, .int 0, .int 0, .int 0])), ((fq9 0), .inr (0, [.int 0, .int 0, .int 0, .int 0]))] : va_W)) dX2_init_79
def wkI (cy : Nat → ClassId) (q : Nat → Nat) : va_W := [(q 1, .inr (0, [.int 0, .int 0, .int 0, .int 0])), (q 2, .inr (0, [.int 0, .int 0, .int 0, .int 0])), (q 3, .inr (0, [.int 0, .int 0, .int 0, .int 0])), (q 4, .inr (0, [.int 0, .int 0, .int 0, .int 0])), (q 5, .inr (0, [.int 0, .int 0, .int 0, .int 0])), (q 6, .inr (0, [.int 0, .int 0, .int 0, .int 0])), (q 7, .inr (0, [.int 0, .int 0, .int 0, .int 0])), (q 8, .inl (cy 1, 12, .inl (fun _ => 0)))]
def wkB (cy : Nat → ClassId) (q : Nat → Nat) : va_W := (q 0, .inr (3, [.ref (q 1), .ref (q 2), .ref (q 3), .ref (q 4), .ref (q 5), .ref (q 6), .ref (q 7), .ref (q 8)])) :: wkI cy q
set_option maxHeartbeats 4000000 in
set_option maxRecDepth 100000 in
theorem kX4_init (l : Launch) (D : va_G) (cy : Nat → ClassId) (h0 sz : Nat) : KN (S := Nat → Nat) l yX4_init wsX4_init { frames := 2, cells := 8, slots := 40, locals := 32 } D cy h0 (.inr (3, [.null, .null, .null, .null, .null, .null, .null, .null])) sz (fun q => q 0 = h0) (wkB cy) 8 40 := by
  refine met_in (cc := cX4_init) (maxL := 1) (by decide) rfl rfl rfl (by decide) ?_
  intro p e s m below meth c A hc hx hn hr hk
  have hin0 : ∀ w ∈ wsX00, w ∈ wsX4_init := by decide +kernel
  have hin4 : ∀ w ∈ wsX40, w ∈ wsX4_init := by decide +kernel
  have hf12 : Cond.fieldLink RX4 12 (TX4 0).1 (TX4 0).2.1 (TX4 0).2.2.1 ∈ wsX4_init := by decide +kernel
  have hf18 : Cond.fieldLink RX4 18 (TX4 1).1 (TX4 1).2.1 (TX4 1).2.2.1 ∈ wsX4_init := by decide +kernel
  have hf21 : Cond.fieldLink RX4 21 (TX4 2).1 (TX4 2).2.1 (TX4 2).2.2.1 ∈ wsX4_init := by decide +kernel
  have hf24 : Cond.fieldLink RX4 24 (TX4 3).1 (TX4 3).2.1 (TX4 3).2.2.1 ∈ wsX4_init := by decide +kernel
  have hf27 : Cond.fieldLink RX4 27 (TX4 4).1 (TX4 4).2.1 (TX4 4).2.2.1 ∈ wsX4_init := by decide +kernel
  have hf30 : Cond.fieldLink RX4 30 (TX4 5).1 (TX4 5).2.1 (TX4 5).2.2.1 ∈ wsX4_init := by decide +kernel
  have hf33 : Cond.fieldLink RX4 33 (TX4 6).1 (TX4 6).2.1 (TX4 6).2.2.1 ∈ wsX4_init := by decide +kernel
  have hf36 : Cond.fieldLink RX4 36 (TX4 7).1 (TX4 7).2.1 (TX4 7).2.2.1 ∈ wsX4_init := by decide +kernel
  have hcl9 : Cond.classLink RX4 9 RX0 ∈ wsX4_init := by decide +kernel
  refine wl_aload_n hc 0 dX4_init_0 rfl ?_
  refine wl_obj hc (by decide +kernel) (by decide +kernel) (by decide +kernel) dX4_init_1 (Nat.le_of_ble_eq_true rfl) (Nat.le_of_ble_eq_true rfl) ?_
  refine wl_aload_n hc 0 dX4_init_4 rfl ?_
  refine wl_new (ci := 0) (fs := [.int 0, .int 0, .int 0, .int 0]) (C := RX0) (T := TX0) (N := 4) hc hx hin0 tyX0 tyX0_ok hcl9 (by decide +kernel) (by decide +kernel) rfl (fun j hj => by rcases (show j = 0 ∨ j = 1 ∨ j = 2 ∨ j = 3 by omega) with rfl | rfl | rfl | rfl <;> rfl) (Nat.le_of_ble_eq_true rfl) (Nat.le_of_ble_eq_true rfl) dX4_init_5 (fun q1 => ?_)
  refine wl_dup hc dX4_init_8 rfl ?_
  refine wl_initN (Y := [(h0, .inr (3, [.null, .null, .null, .null, .null, .null, .null, .null]))]) (Rs := []) hc hx (fun sz => kX0_init l D cy q1 sz) (⟨va_cnB 0 hc.2.2.2.2 gX4_init_X0_init_n11 rfl rfl rfl hx.1.2.1.2.2.2.2.2.1 (hc.2.2.2.2 _ (by decide +kernel)) (by decide +kernel) ⟨Nat.le_of_ble_eq_true rfl, Nat.le_of_ble_eq_true rfl⟩, rfl, hc.2.2.2.2 _ (by decide +kernel)⟩) (Nat.le_of_ble_eq_true rfl) (Nat.le_of_ble_eq_true rfl) (Nat.le_of_ble_eq_true rfl) dX4_init_9 (fun fq1 hfq1 => ?_)
  subst hfq1
  refine wl_eq (ws' := (h0, .inr (3, [.null, .null, .null, .null, .null, .null, .null, .null])) :: ((fq1 0), .inr (0, [.int 0, .int 0, .int 0, .int 0])) :: []) rfl ?_
  refine wl_putF (ws' := (h0, .inr (3, [.ref (fq1 0), .null, .null, .null, .null, .null, .null, .null])) :: ((fq1 0), .inr (0, [.int 0, .int 0, .int 0, .int 0])) :: []) (C := RX4) (T := TX4) (N := 8) hc hx hn hin4 tyX4 tyX4_ok nmX4 0 rfl rfl 0 (by decide) hf12 rfl rfl rfl rfl (Nat.le_of_ble_eq_true rfl) dX4_init_12 rfl ?_
  refine wl_aload_n hc 0 dX4_init_15 rfl ?_
  refine wl_new (ci := 0) (fs := [.int 0, .int 0, .int 0, .int 0]) (C := RX0) (T := TX0) (N := 4) hc hx hin0 tyX0 tyX0_ok hcl9 (by decide +kernel) (by decide +kernel) rfl (fun j hj => by rcases (show j = 0 ∨ j = 1 ∨ j = 2 ∨ j = 3 by omega) with rfl | rfl | rfl | rfl <;> rfl) (Nat.le_of_ble_eq_true rfl) (Nat.le_of_ble_eq_true rfl) dX4_init_16 (fun q2 => ?_)
  refine wl_dup hc dX4_init_19 rfl ?_
  refine wl_initN (Y := [(h0, .inr (3, [.ref (fq1 0), .null, .null, .null, .null, .null, .null, .null])), ((fq1 0), .inr (0, [.int 0, .int 0, .int 0, .int 0]))]) (Rs := []) hc hx (fun sz => kX0_init l D cy q2 sz) (⟨va_cnB 0 hc.2.2.2.2 gX4_init_X0_init_n11 rfl rfl rfl hx.1.2.1.2.2.2.2.2.1 (hc.2.2.2.2 _ (by decide +kernel)) (by decide +kernel) ⟨Nat.le_of_ble_eq_true rfl, Nat.le_of_ble_eq_true rfl⟩, rfl, hc.2.2.2.2 _ (by decide +kernel)⟩) (Nat.le_of_ble_eq_true rfl) (Nat.le_of_ble_eq_true rfl) (Nat.le_of_ble_eq_true rfl) dX4_init_20 (fun fq2 hfq2 => ?_)
  subst hfq2
  refine wl_eq (ws' := (h0, .inr (3, [.ref (fq1 0), .null, .null, .null, .null, .null, .null, .null])) :: ((fq1 0), .inr (0, [.int 0, .int 0, .int 0, .int 0])) :: ((fq2 0), .inr (0, [.int 0, .int 0, .int 0, .int 0])) :: []) rfl ?_
  refine wl_putF (ws' := (h0, .inr (3, [.ref (fq1 0), .ref (fq2 0), .null, .null, .null, .null, .null, .null])) :: ((fq1 0), .inr (0, [.int 0, .int 0, .int 0, .int 0])) :: ((fq2 0), .inr (0, [.int 0, .int 0, .int 0, .int 0])) :: []) (C := RX4) (T := TX4) (N := 8) hc hx hn hin4 tyX4 tyX4_ok nmX4 0 rfl rfl 1 (by decide) hf18 rfl rfl rfl rfl (Nat.le_of_ble_eq_true rfl) dX4_init_23 rfl ?_
  refine wl_aload_n hc 0 dX4_init_26 rfl ?_
  refine wl_new (ci := 0) (fs := [.int 0, .int 0, .int 0, .int 0]) (C := RX0) (T := TX0) (N := 4) hc hx hin0 tyX0 tyX0_ok hcl9 (by decide +kernel) (by decide +kernel) rfl (fun j hj => by rcases (show j = 0 ∨ j = 1 ∨ j = 2 ∨ j = 3 by omega) with rfl | rfl | rfl | rfl <;> rfl) (Nat.le_of_ble_eq_true rfl) (Nat.le_of_ble_eq_true rfl) dX4_init_27 (fun q3 => ?_)
  refine wl_dup hc dX4_init_30 rfl ?_
  refine wl_initN (Y := [(h0, .inr (3, [.ref (fq1 0), .ref (fq2 0), .null, .null, .null, .null, .null, .null])), ((fq1 0), .inr (0, [.int 0, .int 0, .int 0, .int 0])), ((fq2 0), .inr (0, [.int 0, .int 0, .int 0, .int 0]))]) (Rs := []) hc hx (fun sz => kX0_init l D cy q3 sz) (⟨va_cnB 0 hc.2.2.2.2 gX4_init_X0_init_n11 rfl rfl rfl hx.1.2.1.2.2.2.2.2.1 (hc.2.2.2.2 _ (by decide +kernel)) (by decide +kernel) ⟨Nat.le_of_ble_eq_true rfl, Nat.le_of_ble_eq_true rfl⟩, rfl, hc.2.2.2.2 _ (by decide +kernel)⟩) (Nat.le_of_ble_eq_true rfl) (Nat.le_of_ble_eq_true rfl) (Nat.le_of_ble_eq_true rfl) dX4_init_31 (fun fq3 hfq3 => ?_)
  subst hfq3
  refine wl_eq (ws' := (h0, .inr (3, [.ref (fq1 0), .ref (fq2 0), .null, .null, .null, .null, .null, .null])) :: ((fq1 0), .inr (0, [.int 0, .int 0, .int 0, .int 0])) :: ((fq2 0), .inr (0, [.int 0, .int 0, .int 0, .int 0])) :: ((fq3 0), .inr (0, [.int 0, .int 0, .int 0, .int 0])) :: []) rfl ?_
  refine wl_putF (ws' := (h0, .inr (3, [.ref (fq1 0), .ref (fq2 0), .ref (fq3 0), .null, .null, .null, .null, .null])) :: ((fq1 0), .inr (0, [.int 0, .int 0, .int 0, .int 0])) :: ((fq2 0), .inr (0, [.int 0, .int 0, .int 0, .int 0])) :: ((fq3 0), .inr (0, [.int 0, .int 0, .int 0, .int 0])) :: []) (C := RX4) (T := TX4) (N := 8) hc hx hn hin4 tyX4 tyX4_ok nmX4 0 rfl rfl 2 (by decide) hf21 rfl rfl rfl rfl (Nat.le_of_ble_eq_true rfl) dX4_init_34 rfl ?_
  refine wl_aload_n hc 0 dX4_init_37 rfl ?_
  refine wl_new (ci := 0) (fs := [.int 0, .int 0, .int 0, .int 0]) (C := RX0) (T := TX0) (N := 4) hc hx hin0 tyX0 tyX0_ok hcl9 (by decide +kernel) (by decide +kernel) rfl (fun j hj => by rcases (show j = 0 ∨ j = 1 ∨ j = 2 ∨ j = 3 by omega) with rfl | rfl | rfl | rfl <;> rfl) (Nat.le_of_ble_eq_true rfl) (Nat.le_of_ble_eq_true rfl) dX4_init_38 (fun q4 => ?_)
  refine wl_dup hc dX4_init_41 rfl ?_
  refine wl_initN (Y := [(h0, .inr (3, [.ref (fq1 0), .ref (fq2 0), .ref (fq3 0), .null, .null, .null, .null, .null])), ((fq1 0), .inr (0, [.int 0, .int 0, .int 0, .int 0])), ((fq2 0), .inr (0, [.int 0, .int 0, .int 0, .int 0])), ((fq3 0), .inr (0, [.int 0, .int 0, .int 0, .int 0]))]) (Rs := []) hc hx (fun sz => kX0_init l D cy q4 sz) (⟨va_cnB 0 hc.2.2.2.2 gX4_init_X0_init_n11 rfl rfl rfl hx.1.2.1.2.2.2.2.2.1 (hc.2.2.2.2 _ (by decide +kernel)) (by decide +kernel) ⟨Nat.le_of_ble_eq_true rfl, Nat.le_of_ble_eq_true rfl⟩, rfl, hc.2.2.2.2 _ (by decide +kernel)⟩) (Nat.le_of_ble_eq_true rfl) (Nat.le_of_ble_eq_true rfl) (Nat.le_of_ble_eq_true rfl) dX4_init_42 (fun fq4 hfq4 => ?_)
  subst hfq4
  refine wl_eq (ws' := (h0, .inr (3, [.ref (fq1 0), .ref (fq2 0), .ref (fq3 0), .null, .null, .null, .null, .null])) :: ((fq1 0), .inr (0, [.int 0, .int 0, .int 0, .int 0])) :: ((fq2 0), .inr (0, [.int 0, .int 0, .int 0, .int 0])) :: ((fq3 0), .inr (0, [.int 0, .int 0, .int 0, .int 0])) :: ((fq4 0), .inr (0, [.int 0, .int 0, .int 0, .int 0])) :: []) rfl ?_
  refine wl_putF (ws' := (h0, .inr (3, [.ref (fq1 0), .ref (fq2 0), .ref (fq3 0), .ref (fq4 0), .null, .null, .null, .null])) :: ((fq1 0), .inr (0, [.int 0, .int 0, .int 0, .int 0])) :: ((fq2 0), .inr (0, [.int 0, .int 0, .int 0, .int 0])) :: ((fq3 0), .inr (0, [.int 0, .int 0, .int 0, .int 0])) :: ((fq4 0), .inr (0, [.int 0, .int 0, .int 0, .int 0])) :: []) (C := RX4) (T := TX4) (N := 8) hc hx hn hin4 tyX4 tyX4_ok nmX4 0 rfl rfl 3 (by decide) hf24 rfl rfl rfl rfl (Nat.le_of_ble_eq_true rfl) dX4_init_45 rfl ?_
  refine wl_aload_n hc 0 dX4_init_48 rfl ?_
  refine wl_new (ci := 0) (fs := [.int 0, .int 0, .int 0, .int 0]) (C := RX0) (T := TX0) (N := 4) hc hx hin0 tyX0 tyX0_ok hcl9 (by decide +kernel) (by decide +kernel) rfl (fun j hj => by rcases (show j = 0 ∨ j = 1 ∨ j = 2 ∨ j = 3 by omega) with rfl | rfl | rfl | rfl <;> rfl) (Nat.le_of_ble_eq_true rfl) (Nat.le_of_ble_eq_true rfl) dX4_init_49 (fun q5 => ?_)
  refine wl_dup hc dX4_init_52 rfl ?_
  refine wl_initN (Y := [(h0, .inr (3, [.ref (fq1 0), .ref (fq2 0), .ref (fq3 0), .ref (fq4 0), .null, .null, .null, .null])), ((fq1 0), .inr (0, [.int 0, .int 0, .int 0, .int 0])), ((fq2 0), .inr (0, [.int 0, .int 0, .int 0, .int 0])), ((fq3 0), .inr (0, [.int 0, .int 0, .int 0, .int 0])), ((fq4 0), .inr (0, [.int 0, .int 0, .int 0, .int 0]))]) (Rs := []) hc hx (fun sz => kX0_init l D cy q5 sz) (⟨va_cnB 0 hc.2.2.2.2 gX4_init_X0_init_n11 rfl rfl rfl hx.1.2.1.2.2.2.2.2.1 (hc.2.2.2.2 _ (by decide +kernel)) (by decide +kernel) ⟨Nat.le_of_ble_eq_true rfl, Nat.le_of_ble_eq_true rfl⟩, rfl, hc.2.2.2.2 _ (by decide +kernel)⟩) (Nat.le_of_ble_eq_true rfl) (Nat.le_of_ble_eq_true rfl) (Nat.le_of_ble_eq_true rfl) dX4_init_53 (fun fq5 hfq5 => ?_)
  subst hfq5
  refine wl_eq (ws' := (h0, .inr (3, [.ref (fq1 0), .ref (fq2 0), .ref (fq3 0), .ref (fq4 0), .null, .null, .null, .null])) :: ((fq1 0), .inr (0, [.int 0, .int 0, .int 0, .int 0])) :: ((fq2 0), .inr (0, [.int 0, .int 0, .int 0, .int 0])) :: ((fq3 0), .inr (0, [.int 0, .int 0, .int 0, .int 0])) :: ((fq4 0), .inr (0, [.int 0, .int 0, .int 0, .int 0])) :: ((fq5 0), .inr (0, [.int 0, .int 0, .int 0, .int 0])) :: []) rfl ?_
  refine wl_putF (ws' := (h0, .inr (3, [.ref (fq1 0), .ref (fq2 0), .ref (fq3 0), .ref (fq4 0), .ref (fq5 0), .null, .null, .null])) :: ((fq1 0), .inr (0, [.int 0, .int 0, .int 0, .int 0])) :: ((fq2 0), .inr (0, [.int 0, .int 0, .int 0, .int 0])) :: ((fq3 0), .inr (0, [.int 0, .int 0, .int 0, .int 0])) :: ((fq4 0), .inr (0, [.int 0, .int 0, .int 0, .int 0])) :: ((fq5 0), .inr (0, [.int 0, .int 0, .int 0, .int 0])) :: []) (C := RX4) (T := TX4) (N := 8) hc hx hn hin4 tyX4 tyX4_ok nmX4 0 rfl rfl 4 (by decide) hf27 rfl rfl rfl rfl (Nat.le_of_ble_eq_true rfl) dX4_init_56 rfl ?_
  refine wl_aload_n hc 0 dX4_init_59 rfl ?_
  refine wl_new (ci := 0) (fs := [.int 0, .int 0, .int 0, .int 0]) (C := RX0) (T := TX0) (N := 4) hc hx hin0 tyX0 tyX0_ok hcl9 (by decide +kernel) (by decide +kernel) rfl (fun j hj => by rcases (show j = 0 ∨ j = 1 ∨ j = 2 ∨ j = 3 by omega) with rfl | rfl | rfl | rfl <;> rfl) (Nat.le_of_ble_eq_true rfl) (Nat.le_of_ble_eq_true rfl) dX4_init_60 (fun q6 => ?_)
  refine wl_dup hc dX4_init_63 rfl ?_
  refine wl_initN (Y := [(h0, .inr (3, [.ref (fq1 0), .ref (fq2 0), .ref (fq3 0), .ref (fq4 0), .ref (fq5 0), .null, .null, .null])), ((fq1 0), .inr (0, [.int 0, .int 0, .int 0, .int 0])), ((fq2 0), .inr (0, [.int 0, .int 0, .int 0, .int 0])), ((fq3 0), .inr (0, [.int 0, .int 0, .int 0, .int 0])), ((fq4 0), .inr (0, [.int 0, .int 0, .int 0, .int 0])), ((fq5 0), .inr (0, [.int 0, .int 0, .int 0, .int 0]))]) (Rs := []) hc hx (fun sz => kX0_init l D cy q6 sz) (⟨va_cnB 0 hc.2.2.2.2 gX4_init_X0_init_n11 rfl rfl rfl hx.1.2.1.2.2.2.2.2.1 (hc.2.2.2.2 _ (by decide +kernel)) (by decide +kernel) ⟨Nat.le_of_ble_eq_true rfl, Nat.le_of_ble_eq_true rfl⟩, rfl, hc.2.2.2.2 _ (by decide +kernel)⟩) (Nat.le_of_ble_eq_true rfl) (Nat.le_of_ble_eq_true rfl) (Nat.le_of_ble_eq_true rfl) dX4_init_64 (fun fq6 hfq6 => ?_)
  subst hfq6
  refine wl_eq (ws' := (h0, .inr (3, [.ref (fq1 0), .ref (fq2 0), .ref (fq3 0), .ref (fq4 0), .ref (fq5 0), .null, .null, .null])) :: ((fq1 0), .inr (0, [.int 0, .int 0, .int 0, .int 0])) :: ((fq2 0), .inr (0, [.int 0, .int 0, .int 0, .int 0])) :: ((fq3 0), .inr (0, [.int 0, .int 0, .int 0, .int 0])) :: ((fq4 0), .inr (0, [.int 0, .int 0, .int 0, .int 0])) :: ((fq5 0), .inr (0, [.int 0, .int 0, .int 0, .int 0])) :: ((fq6 0), .inr (0, [.int 0, .int 0, .int 0, .int 0])) :: []) rfl ?_
  refine wl_putF (ws' := (h0, .inr (3, [.ref (fq1 0), .ref (fq2 0), .ref (fq3 0), .ref (fq4 0), .ref (fq5 0), .ref (fq6 0), .null, .null])) :: ((fq1 0), .inr (0, [.int 0, .int 0, .int 0, .int 0])) :: ((fq2 0), .inr (0, [.int 0, .int 0, .int 0, .int 0])) :: ((fq3 0), .inr (0, [.int 0, .int 0, .int 0, .int 0])) :: ((fq4 0), .inr (0, [.int 0, .int 0, .int 0, .int 0])) :: ((fq5 0), .inr (0, [.int 0, .int 0, .int 0, .int 0])) :: ((fq6 0), .inr (0, [.int 0, .int 0, .int 0, .int 0])) :: []) (C := RX4) (T := TX4) (N := 8) hc hx hn hin4 tyX4 tyX4_ok nmX4 0 rfl rfl 5 (by decide) hf30 rfl rfl rfl rfl (Nat.le_of_ble_eq_true rfl) dX4_init_67 rfl ?_
  refine wl_aload_n hc 0 dX4_init_70 rfl ?_
  refine wl_new (ci := 0) (fs := [.int 0, .int 0, .int 0, .int 0]) (C := RX0) (T := TX0) (N := 4) hc hx hin0 tyX0 tyX0_ok hcl9 (by decide +kernel) (by decide +kernel) rfl (fun j hj => by rcases (show j = 0 ∨ j = 1 ∨ j = 2 ∨ j = 3 by omega) with rfl | rfl | rfl | rfl <;> rfl) (Nat.le_of_ble_eq_true rfl) (Nat.le_of_ble_eq_true rfl) dX4_init_71 (fun q7 => ?_)
  refine wl_dup hc dX4_init_74 rfl ?_
  refine wl_initN (Y := [(h0, .inr (3, [.ref (fq1 0), .ref (fq2 0), .ref (fq3 0), .ref (fq4 0), .ref (fq5 0), .ref (fq6 0), .null, .null])), ((fq1 0), .inr (0, [.int 0, .int 0, .int 0, .int 0])), ((fq2 0), .inr (0, [.int 0, .int 0, .int 0, .int 0])), ((fq3 0), .inr (0, [.int 0, .int 0, .int 0, .int 0])), ((fq4 0), .inr (0, [.int 0, .int 0, .int 0, .int 0])), ((fq5 0), .inr (0, [.int 0, .int 0, .int 0, .int 0])), ((fq6 0), .inr (0, [.int 0, .int 0, .int 0, .int 0]))]) (Rs := []) hc hx (fun sz => kX0_init l D cy q7 sz) (⟨va_cnB 0 hc.2.2.2.2 gX4_init_X0_init_n11 rfl rfl rfl hx.1.2.1.2.2.2.2.2.1 (hc.2.2.2.2 _ (by decide +kernel)) (by decide +kernel) ⟨Nat.le_of_ble_eq_true rfl, Nat.le_of_ble_eq_true rfl⟩, rfl, hc.2.2.2.2 _ (by decide +kernel)⟩) (Nat.le_of_ble_eq_true rfl) (Nat.le_of_ble_eq_true rfl) (Nat.le_of_ble_eq_true rfl) dX4_init_75 (fun fq7 hfq7 => ?_)
  subst hfq7
  refine wl_eq (ws' := (h0, .inr (3, [.ref (fq1 0), .ref (fq2 0), .ref (fq3 0), .ref (fq4 0), .ref (fq5 0), .ref (fq6 0), .null, .null])) :: ((fq1 0), .inr (0, [.int 0, .int 0, .int 0, .int 0])) :: ((fq2 0), .inr (0, [.int 0, .int 0, .int 0, .int 0])) :: ((fq3 0), .inr (0, [.int 0, .int 0, .int 0, .int 0])) :: ((fq4 0), .inr (0, [.int 0, .int 0, .int 0, .int 0])) :: ((fq5 0), .inr (0, [.int 0, .int 0, .int 0, .int 0])) :: ((fq6 0), .inr (0, [.int 0, .int 0, .int 0, .int 0])) :: ((fq7 0), .inr (0, [.int 0, .int 0, .int 0, .int 0])) :: []) rfl ?_
  refine wl_putF (ws' := (h0, .inr (3, [.ref (fq1 0), .ref (fq2 0), .ref (fq3 0), .ref (fq4 0), .ref (fq5 0), .ref (fq6 0), .ref (fq7 0), .null])) :: ((fq1 0), .inr (0, [.int 0, .int 0, .int 0, .int 0])) :: ((fq2 0), .inr (0, [.int 0, .int 0, .int 0, .int 0])) :: ((fq3 0), .inr (0, [.int 0, .int 0, .int 0, .int 0])) :: ((fq4 0), .inr (0, [.int 0, .int 0, .int 0, .int 0])) :: ((fq5 0), .inr (0, [.int 0, .int 0, .int 0, .int 0])) :: ((fq6 0), .inr (0, [.int 0, .int 0, .int 0, .int 0])) :: ((fq7 0), .inr (0, [.int 0, .int 0, .int 0, .int 0])) :: []) (C := RX4) (T := TX4) (N := 8) hc hx hn hin4 tyX4 tyX4_ok nmX4 0 rfl rfl 6 (by decide) hf33 rfl rfl rfl rfl (Nat.le_of_ble_eq_true rfl) dX4_init_78 rfl ?_
  refine wl_aload_n hc 0 dX4_init_81 rfl ?_
  refine wl_bipush (v := 12) hc dX4_init_82 (by decide) ?_
  refine wl_newI hc hx 12 (by decide +kernel) (by decide) (by decide) (Nat.le_of_ble_eq_true rfl) (Nat.le_of_ble_eq_true rfl) (Nat.le_of_ble_eq_true rfl) dX4_init_84 (fun q8 => ?_)
  refine wl_putF (ws' := (q8, .inl (cy 1, 12, .inl (fun _ => 0))) :: (h0, .inr (3, [.ref (fq1 0), .ref (fq2 0), .ref (fq3 0), .ref (fq4 0), .ref (fq5 0), .ref (fq6 0), .ref (fq7 0), .ref q8])) :: ((fq1 0), .inr (0, [.int 0, .int 0, .int 0, .int 0])) :: ((fq2 0), .inr (0, [.int 0, .int 0, .int 0, .int 0])) :: ((fq3 0), .inr (0, [.int 0, .int 0, .int 0, .int 0])) :: ((fq4 0), .inr (0, [.int 0, .int 0, .int 0, .int 0])) :: ((fq5 0), .inr (0, [.int 0, .int 0, .int 0, .int 0])) :: ((fq6 0), .inr (0, [.int 0, .int 0, .int 0, .int 0])) :: ((fq7 0), .inr (0, [.int 0, .int 0, .int 0, .int 0])) :: []) (C := RX4) (T := TX4) (N := 8) hc hx hn hin4 tyX4 tyX4_ok nmX4 1 rfl rfl 7 (by decide) hf36 rfl rfl rfl rfl (Nat.le_of_ble_eq_true rfl) dX4_init_86 rfl ?_
  exact wl_vret (blk := wkB cy) hc hr hk (fun i => ([h0, (fq1 0), (fq2 0), (fq3 0), (fq4 0), (fq5 0), (fq6 0), (fq7 0), q8] : List Nat).getD i 0) rfl (pushp (ws := ([(h0, .inr (3, [.ref (fq1 0), .ref (fq2 0), .ref (fq3 0), .ref (fq4 0), .ref (fq5 0), .ref (fq6 0), .ref (fq7 0), .ref q8])), ((fq1 0), .inr (0, [.int 0, .int 0, .int 0, .int 0])), ((fq2 0), .inr (0, [.int 0, .int 0, .int 0, .int 0])), ((fq3 0), .inr (0, [.int 0, .int 0, .int 0, .int 0])), ((fq4 0), .inr (0, [.int 0, .int 0, .int 0, .int 0])), ((fq5 0), .inr (0, [.int 0, .int 0, .int 0, .int 0])), ((fq6 0), .inr (0, [.int 0, .int 0, .int 0, .int 0])), ((fq7 0), .inr (0, [.int 0, .int 0, .int 0, .int 0]))] : va_W)) (x := (q8, .inl (cy 1, 12, .inl (fun _ => 0))))).symm dX4_init_89
def txI (cy : Nat → ClassId) (q : Nat → Nat) : va_W := [(q 1, .inl (cy 0, 120, .inl (fun _ => 0))), (q 2, .inl (cy 0, 60, .inl (fun _ => 0))), (q 3, .inl (cy 1, 60, .inl (fun _ => 0))), (q 4, .inl (cy 1, 120, .inl (fun _ => 0)))]
def txB (cy : Nat → ClassId) (q : Nat → Nat) : va_W := (q 0, .inr (2, [.ref (q 1), .ref (q 2), .ref (q 3), .ref (q 4), .int 0, .int 0, .int 0, .int 0])) :: txI cy q
set_option maxHeartbeats 4000000 in
set_option maxRecDepth 100000 in
theorem kX3_init (l : Launch) (D : va_G) (cy : Nat → ClassId) (h0 sz : Nat) : KN (S := Nat → Nat) l yX3_init wsX3_init { frames := 1, cells := 4, slots := 360, locals := 12 } D cy h0 (.inr (2, [.null, .null, .null, .null, .int 0, .int 0, .int 0, .int 0])) sz (fun q => q 0 = h0) (txB cy) 4 360 := by
  refine met_in (cc := cX3_init) (maxL := 1) (by decide) rfl rfl rfl (by decide) ?_
  intro p e s m below meth c A hc hx hn hr hk
  have hin3 : ∀ w ∈ wsX30, w ∈ wsX3_init := by decide +kernel
  have hf9 : Cond.fieldLink RX3 9 (TX3 0).1 (TX3 0).2.1 (TX3 0).2.2.1 ∈ wsX3_init := by decide +kernel
  have hf15 : Cond.fieldLink RX3 15 (TX3 1).1 (TX3 1).2.1 (TX3 1).2.2.1 ∈ wsX3_init := by decide +kernel
  have hf18 : Cond.fieldLink RX3 18 (TX3 2).1 (TX3 2).2.1 (TX3 2).2.2.1 ∈ wsX3_init := by decide +kernel
  have hf22 : Cond.fieldLink RX3 22 (TX3 3).1 (TX3 3).2.1 (TX3 3).2.2.1 ∈ wsX3_init := by decide +kernel
  refine wl_aload_n hc 0 dX3_init_0 rfl ?_
  refine wl_obj hc (by decide +kernel) (by decide +kernel) (by decide +kernel) dX3_init_1 (Nat.le_of_ble_eq_true rfl) (Nat.le_of_ble_eq_true rfl) ?_
  refine wl_aload_n hc 0 dX3_init_4 rfl ?_
  refine wl_bipush (v := 120) hc dX3_init_5 (by decide) ?_
  refine wl_newB hc hx 120 (by decide +kernel) (by decide) (by decide) (Nat.le_of_ble_eq_true rfl) (Nat.le_of_ble_eq_true rfl) (Nat.le_of_ble_eq_true rfl) dX3_init_7 (fun q1 => ?_)
  refine wl_putF (ws' := (q1, .inl (cy 0, 120, .inl (fun _ => 0))) :: (h0, .inr (2, [.ref q1, .null, .null, .null, .int 0, .int 0, .int 0, .int 0])) :: []) (C := RX3) (T := TX3) (N := 8) hc hx hn hin3 tyX3 tyX3_ok nmX3 1 rfl rfl 0 (by decide) hf9 rfl rfl rfl rfl (Nat.le_of_ble_eq_true rfl) dX3_init_9 rfl ?_
  refine wl_aload_n hc 0 dX3_init_12 rfl ?_
  refine wl_bipush (v := 60) hc dX3_init_13 (by decide) ?_
  refine wl_newB hc hx 60 (by decide +kernel) (by decide) (by decide) (Nat.le_of_ble_eq_true rfl) (Nat.le_of_ble_eq_true rfl) (Nat.le_of_ble_eq_true rfl) dX3_init_15 (fun q2 => ?_)
  refine wl_putF (ws' := (q2, .inl (cy 0, 60, .inl (fun _ => 0))) :: (q1, .inl (cy 0, 120, .inl (fun _ => 0))) :: (h0, .inr (2, [.ref q1, .ref q2, .null, .null, .int 0, .int 0, .int 0, .int 0])) :: []) (C := RX3) (T := TX3) (N := 8) hc hx hn hin3 tyX3 tyX3_ok nmX3 2 rfl rfl 1 (by decide) hf15 rfl rfl rfl rfl (Nat.le_of_ble_eq_true rfl) dX3_init_17 rfl ?_
  refine wl_aload_n hc 0 dX3_init_20 rfl ?_
  refine wl_bipush (v := 60) hc dX3_init_21 (by decide) ?_
  refine wl_newI hc hx 60 (by decide +kernel) (by decide) (by decide) (Nat.le_of_ble_eq_true rfl) (Nat.le_of_ble_eq_true rfl) (Nat.le_of_ble_eq_true rfl) dX3_init_23 (fun q3 => ?_)
  refine wl_putF (ws' := (q3, .inl (cy 1, 60, .inl (fun _ => 0))) :: (q2, .inl (cy 0, 60, .inl (fun _ => 0))) :: (q1, .inl (cy 0, 120, .inl (fun _ => 0))) :: (h0, .inr (2, [.ref q1, .ref q2, .ref q3, .null, .int 0, .int 0, .int 0, .int 0])) :: []) (C := RX3) (T := TX3) (N := 8) hc hx hn hin3 tyX3 tyX3_ok nmX3 3 rfl rfl 2 (by decide) hf18 rfl rfl rfl rfl (Nat.le_of_ble_eq_true rfl) dX3_init_25 rfl ?_
  refine wl_aload_n hc 0 dX3_init_28 rfl ?_
  refine wl_bipush (v := 120) hc dX3_init_29 (by decide) ?_
  refine wl_newI hc hx 120 (by decide +kernel) (by decide) (by decide) (Nat.le_of_ble_eq_true rfl) (Nat.le_of_ble_eq_true rfl) (Nat.le_of_ble_eq_true rfl) dX3_init_31 (fun q4 => ?_)
  refine wl_putF (ws' := (q4, .inl (cy 1, 120, .inl (fun _ => 0))) :: (q3, .inl (cy 1, 60, .inl (fun _ => 0))) :: (q2, .inl (cy 0, 60, .inl (fun _ => 0))) :: (q1, .inl (cy 0, 120, .inl (fun _ => 0))) :: (h0, .inr (2, [.ref q1, .ref q2, .ref q3, .ref q4, .int 0, .int 0, .int 0, .int 0])) :: []) (C := RX3) (T := TX3) (N := 8) hc hx hn hin3 tyX3 tyX3_ok nmX3 4 rfl rfl 3 (by decide) hf22 rfl rfl rfl rfl (Nat.le_of_ble_eq_true rfl) dX3_init_33 rfl ?_
  exact wl_vret (blk := txB cy) hc hr hk (fun i => ([h0, q1, q2, q3, q4] : List Nat).getD i 0) rfl (List.reverse_perm ([(h0, .inr (2, [.ref q1, .ref q2, .ref q3, .ref q4, .int 0, .int 0, .int 0, .int 0])), (q1, .inl (cy 0, 120, .inl (fun _ => 0))), (q2, .inl (cy 0, 60, .inl (fun _ => 0))), (q3, .inl (cy 1, 60, .inl (fun _ => 0))), (q4, .inl (cy 1, 120, .inl (fun _ => 0)))] : va_W)) dX3_init_36
def nw0 : Nat → Int32 := upd (upd (upd (upd (fun _ => 0) 35 10007) 38 10007) 41 10007) 44 10007
def mdB (cy : Nat → ClassId) (q : Nat → Nat) : va_W := [(q 0, .inr (5, [.ref (q 1), .ref (q 2), .ref (q 3), .int 0, .ref (q 4), .ref (q 5), .int 0, .int 0, .ref (q 6), .ref (q 7), .ref (q 8), .ref (q 9), .ref (q 10), .ref (q 11), .ref (q 12), .ref (q 13), .ref (q 14), .int 0, .int 0, .int 0, .long 0])), (q 1, .inl (cy 1, 58, .inl nw0)), (q 2, .inl (cy 1, 58, .inl (fun _ => 0))), (q 3, .inl (cy 1, 290, .inl (fun _ => 0))), (q 4, .inl (cy 1, 3, .inl (fun _ => 0))), (q 5, .inl (cy 1, 120, .inl (fun _ => 0))), (q 6, .inl (cy 1, 4, .inl (fun _ => 0))), (q 7, .inl (cy 1, 12, .inl (fun _ => 0))), (q 8, .inl (cy 1, 4, .inl (fun _ => 0))), (q 9, .inl (cy 1, 4, .inl (fun _ => 0))), (q 10, .inl (cy 1, 4, .inl (fun _ => 0))), (q 11, .inl (cy 1, 4, .inl (fun _ => 0))), (q 12, .inl (cy 1, 60, .inl (fun _ => 0))), (q 13, .inl (cy 1, 61, .inl (fun _ => 0))), (q 14, .inl (cy 1, 120, .inl (fun _ => 0)))]
set_option maxHeartbeats 4000000 in
set_option maxRecDepth 100000 in
theorem kX6_init (l : Launch) (D : va_G) (cy : Nat → ClassId) (h0 sz : Nat) : KN (S := Nat → Nat) l yX6_init wsX6_init { frames := 1, cells := 14, slots := 802, locals := 12 } D cy h0 (.inr (5, [.null, .null, .null, .int 0, .null, .null, .int 0, .int 0, .null, .null, .null, .null, .null, .null, .null, .null, .null, .int 0, .int 0, .int 0, .long 0])) sz (fun q => q 0 = h0) (mdB cy) 14 802 := by
  refine met_in (cc := cX6_init) (maxL := 2) (by decide) rfl rfl rfl (by decide) ?_
  intro p e s m below meth c A hc hx hn hr hk
  have hin6 : ∀ w ∈ wsX60, w ∈ wsX6_init := by decide +kernel
  have hf7 : Cond.fieldLink RX6 7 (TX6 0).1 (TX6 0).2.1 (TX6 0).2.2.1 ∈ wsX6_init := by decide +kernel
  have hf13 : Cond.fieldLink RX6 13 (TX6 1).1 (TX6 1).2.1 (TX6 1).2.2.1 ∈ wsX6_init := by decide +kernel
  have hf16 : Cond.fieldLink RX6 16 (TX6 2).1 (TX6 2).2.1 (TX6 2).2.2.1 ∈ wsX6_init := by decide +kernel
  have hf19 : Cond.fieldLink RX6 19 (TX6 4).1 (TX6 4).2.1 (TX6 4).2.2.1 ∈ wsX6_init := by decide +kernel
  have hf22 : Cond.fieldLink RX6 22 (TX6 5).1 (TX6 5).2.1 (TX6 5).2.2.1 ∈ wsX6_init := by decide +kernel
  have hf25 : Cond.fieldLink RX6 25 (TX6 8).1 (TX6 8).2.1 (TX6 8).2.2.1 ∈ wsX6_init := by decide +kernel
  have hf28 : Cond.fieldLink RX6 28 (TX6 9).1 (TX6 9).2.1 (TX6 9).2.2.1 ∈ wsX6_init := by decide +kernel
  have hf31 : Cond.fieldLink RX6 31 (TX6 10).1 (TX6 10).2.1 (TX6 10).2.2.1 ∈ wsX6_init := by decide +kernel
  have hf34 : Cond.fieldLink RX6 34 (TX6 11).1 (TX6 11).2.1 (TX6 11).2.2.1 ∈ wsX6_init := by decide +kernel
  have hf37 : Cond.fieldLink RX6 37 (TX6 12).1 (TX6 12).2.1 (TX6 12).2.2.1 ∈ wsX6_init := by decide +kernel
  have hf40 : Cond.fieldLink RX6 40 (TX6 13).1 (TX6 13).2.1 (TX6 13).2.2.1 ∈ wsX6_init := by decide +kernel
  have hf43 : Cond.fieldLink RX6 43 (TX6 14).1 (TX6 14).2.1 (TX6 14).2.2.1 ∈ wsX6_init := by decide +kernel
  have hf46 : Cond.fieldLink RX6 46 (TX6 15).1 (TX6 15).2.1 (TX6 15).2.2.1 ∈ wsX6_init := by decide +kernel
  have hf49 : Cond.fieldLink RX6 49 (TX6 16).1 (TX6 16).2.1 (TX6 16).2.2.1 ∈ wsX6_init := by decide +kernel
  refine wl_aload_n hc 0 dX6_init_0 rfl ?_
  refine wl_obj hc (by decide +kernel) (by decide +kernel) (by decide +kernel) dX6_init_1 (Nat.le_of_ble_eq_true rfl) (Nat.le_of_ble_eq_true rfl) ?_
  refine wl_aload_n hc 0 dX6_init_4 rfl ?_
  refine wl_bipush (v := 58) hc dX6_init_5 (by decide) ?_
  refine wl_newI hc hx 58 (by decide +kernel) (by decide) (by decide) (Nat.le_of_ble_eq_true rfl) (Nat.le_of_ble_eq_true rfl) (Nat.le_of_ble_eq_true rfl) dX6_init_7 (fun q1 => ?_)
  refine wl_putF (ws' := (q1, .inl (cy 1, 58, .inl (fun _ => 0))) :: (h0, .inr (5, [.ref q1, .null, .null, .int 0, .null, .null, .int 0, .int 0, .null, .null, .null, .null, .null, .null, .null, .null, .null, .int 0, .int 0, .int 0, .long 0])) :: []) (C := RX6) (T := TX6) (N := 21) hc hx hn hin6 tyX6 tyX6_ok nmX6 1 rfl rfl 0 (by decide) hf7 rfl rfl rfl rfl (Nat.le_of_ble_eq_true rfl) dX6_init_9 rfl ?_
  refine wl_aload_n hc 0 dX6_init_12 rfl ?_
  refine wl_bipush (v := 58) hc dX6_init_13 (by decide) ?_
  refine wl_newI hc hx 58 (by decide +kernel) (by decide) (by decide) (Nat.le_of_ble_eq_true rfl) (Nat.le_of_ble_eq_true rfl) (Nat.le_of_ble_eq_true rfl) dX6_init_15 (fun q2 => ?_)
  refine wl_putF (ws' := (q2, .inl (cy 1, 58, .inl (fun _ => 0))) :: (q1, .inl (cy 1, 58, .inl (fun _ => 0))) :: (h0, .inr (5, [.ref q1, .ref q2, .null, .int 0, .null, .null, .int 0, .int 0, .null, .null, .null, .null, .null, .null, .null, .null, .null, .int 0, .int 0, .int 0, .long 0])) :: []) (C := RX6) (T := TX6) (N := 21) hc hx hn hin6 tyX6 tyX6_ok nmX6 2 rfl rfl 1 (by decide) hf13 rfl rfl rfl rfl (Nat.le_of_ble_eq_true rfl) dX6_init_17 rfl ?_
  refine wl_aload_n hc 0 dX6_init_20 rfl ?_
  refine wl_sipush (v := 290) hc dX6_init_21 (by decide) ?_
  refine wl_newI hc hx 290 (by decide +kernel) (by decide) (by decide) (Nat.le_of_ble_eq_true rfl) (Nat.le_of_ble_eq_true rfl) (Nat.le_of_ble_eq_true rfl) dX6_init_24 (fun q3 => ?_)
  refine wl_putF (ws' := (q3, .inl (cy 1, 290, .inl (fun _ => 0))) :: (q2, .inl (cy 1, 58, .inl (fun _ => 0))) :: (q1, .inl (cy 1, 58, .inl (fun _ => 0))) :: (h0, .inr (5, [.ref q1, .ref q2, .ref q3, .int 0, .null, .null, .int 0, .int 0, .null, .null, .null, .null, .null, .null, .null, .null, .null, .int 0, .int 0, .int 0, .long 0])) :: []) (C := RX6) (T := TX6) (N := 21) hc hx hn hin6 tyX6 tyX6_ok nmX6 3 rfl rfl 2 (by decide) hf16 rfl rfl rfl rfl (Nat.le_of_ble_eq_true rfl) dX6_init_26 rfl ?_
  refine wl_aload_n hc 0 dX6_init_29 rfl ?_
  refine wl_iconst (v := 3) hc dX6_init_30 (by decide) ?_
  refine wl_newI hc hx 3 (by decide +kernel) (by decide) (by decide) (Nat.le_of_ble_eq_true rfl) (Nat.le_of_ble_eq_true rfl) (Nat.le_of_ble_eq_true rfl) dX6_init_31 (fun q4 => ?_)
  refine wl_putF (ws' := (q4, .inl (cy 1, 3, .inl (fun _ => 0))) :: (q3, .inl (cy 1, 290, .inl (fun _ => 0))) :: (q2, .inl (cy 1, 58, .inl (fun _ => 0))) :: (q1, .inl (cy 1, 58, .inl (fun _ => 0))) :: (h0, .inr (5, [.ref q1, .ref q2, .ref q3, .int 0, .ref q4, .null, .int 0, .int 0, .null, .null, .null, .null, .null, .null, .null, .null, .null, .int 0, .int 0, .int 0, .long 0])) :: []) (C := RX6) (T := TX6) (N := 21) hc hx hn hin6 tyX6 tyX6_ok nmX6 4 rfl rfl 4 (by decide) hf19 rfl rfl rfl rfl (Nat.le_of_ble_eq_true rfl) dX6_init_33 rfl ?_
  refine wl_aload_n hc 0 dX6_init_36 rfl ?_
  refine wl_bipush (v := 120) hc dX6_init_37 (by decide) ?_
  refine wl_newI hc hx 120 (by decide +kernel) (by decide) (by decide) (Nat.le_of_ble_eq_true rfl) (Nat.le_of_ble_eq_true rfl) (Nat.le_of_ble_eq_true rfl) dX6_init_39 (fun q5 => ?_)
  refine wl_putF (ws' := (q5, .inl (cy 1, 120, .inl (fun _ => 0))) :: (q4, .inl (cy 1, 3, .inl (fun _ => 0))) :: (q3, .inl (cy 1, 290, .inl (fun _ => 0))) :: (q2, .inl (cy 1, 58, .inl (fun _ => 0))) :: (q1, .inl (cy 1, 58, .inl (fun _ => 0))) :: (h0, .inr (5, [.ref q1, .ref q2, .ref q3, .int 0, .ref q4, .ref q5, .int 0, .int 0, .null, .null, .null, .null, .null, .null, .null, .null, .null, .int 0, .int 0, .int 0, .long 0])) :: []) (C := RX6) (T := TX6) (N := 21) hc hx hn hin6 tyX6 tyX6_ok nmX6 5 rfl rfl 5 (by decide) hf22 rfl rfl rfl rfl (Nat.le_of_ble_eq_true rfl) dX6_init_41 rfl ?_
  refine wl_aload_n hc 0 dX6_init_44 rfl ?_
  refine wl_iconst (v := 4) hc dX6_init_45 (by decide) ?_
  refine wl_newI hc hx 4 (by decide +kernel) (by decide) (by decide) (Nat.le_of_ble_eq_true rfl) (Nat.le_of_ble_eq_true rfl) (Nat.le_of_ble_eq_true rfl) dX6_init_46 (fun q6 => ?_)
  refine wl_putF (ws' := (q6, .inl (cy 1, 4, .inl (fun _ => 0))) :: (q5, .inl (cy 1, 120, .inl (fun _ => 0))) :: (q4, .inl (cy 1, 3, .inl (fun _ => 0))) :: (q3, .inl (cy 1, 290, .inl (fun _ => 0))) :: (q2, .inl (cy 1, 58, .inl (fun _ => 0))) :: (q1, .inl (cy 1, 58, .inl (fun _ => 0))) :: (h0, .inr (5, [.ref q1, .ref q2, .ref q3, .int 0, .ref q4, .ref q5, .int 0, .int 0, .ref q6, .null, .null, .null, .null, .null, .null, .null, .null, .int 0, .int 0, .int 0, .long 0])) :: []) (C := RX6) (T := TX6) (N := 21) hc hx hn hin6 tyX6 tyX6_ok nmX6 6 rfl rfl 8 (by decide) hf25 rfl rfl rfl rfl (Nat.le_of_ble_eq_true rfl) dX6_init_48 rfl ?_
  refine wl_aload_n hc 0 dX6_init_51 rfl ?_
  refine wl_bipush (v := 12) hc dX6_init_52 (by decide) ?_
  refine wl_newI hc hx 12 (by decide +kernel) (by decide) (by decide) (Nat.le_of_ble_eq_true rfl) (Nat.le_of_ble_eq_true rfl) (Nat.le_of_ble_eq_true rfl) dX6_init_54 (fun q7 => ?_)
  refine wl_putF (ws' := (q7, .inl (cy 1, 12, .inl (fun _ => 0))) :: (q6, .inl (cy 1, 4, .inl (fun _ => 0))) :: (q5, .inl (cy 1, 120, .inl (fun _ => 0))) :: (q4, .inl (cy 1, 3, .inl (fun _ => 0))) :: (q3, .inl (cy 1, 290, .inl (fun _ => 0))) :: (q2, .inl (cy 1, 58, .inl (fun _ => 0))) :: (q1, .inl (cy 1, 58, .inl (fun _ => 0))) :: (h0, .inr (5, [.ref q1, .ref q2, .ref q3, .int 0, .ref q4, .ref q5, .int 0, .int 0, .ref q6, .ref q7, .null, .null, .null, .null, .null, .null, .null, .int 0, .int 0, .int 0, .long 0])) :: []) (C := RX6) (T := TX6) (N := 21) hc hx hn hin6 tyX6 tyX6_ok nmX6 7 rfl rfl 9 (by decide) hf28 rfl rfl rfl rfl (Nat.le_of_ble_eq_true rfl) dX6_init_56 rfl ?_
  refine wl_aload_n hc 0 dX6_init_59 rfl ?_
  refine wl_iconst (v := 4) hc dX6_init_60 (by decide) ?_
  refine wl_newI hc hx 4 (by decide +kernel) (by decide) (by decide) (Nat.le_of_ble_eq_true rfl) (Nat.le_of_ble_eq_true rfl) (Nat.le_of_ble_eq_true rfl) dX6_init_61 (fun q8 => ?_)
  refine wl_putF (ws' := (q8, .inl (cy 1, 4, .inl (fun _ => 0))) :: (q7, .inl (cy 1, 12, .inl (fun _ => 0))) :: (q6, .inl (cy 1, 4, .inl (fun _ => 0))) :: (q5, .inl (cy 1, 120, .inl (fun _ => 0))) :: (q4, .inl (cy 1, 3, .inl (fun _ => 0))) :: (q3, .inl (cy 1, 290, .inl (fun _ => 0))) :: (q2, .inl (cy 1, 58, .inl (fun _ => 0))) :: (q1, .inl (cy 1, 58, .inl (fun _ => 0))) :: (h0, .inr (5, [.ref q1, .ref q2, .ref q3, .int 0, .ref q4, .ref q5, .int 0, .int 0, .ref q6, .ref q7, .ref q8, .null, .null, .null, .null, .null, .null, .int 0, .int 0, .int 0, .long 0])) :: []) (C := RX6) (T := TX6) (N := 21) hc hx hn hin6 tyX6 tyX6_ok nmX6 8 rfl rfl 10 (by decide) hf31 rfl rfl rfl rfl (Nat.le_of_ble_eq_true rfl) dX6_init_63 rfl ?_
  refine wl_aload_n hc 0 dX6_init_66 rfl ?_
  refine wl_iconst (v := 4) hc dX6_init_67 (by decide) ?_
  refine wl_newI hc hx 4 (by decide +kernel) (by decide) (by decide) (Nat.le_of_ble_eq_true rfl) (Nat.le_of_ble_eq_true rfl) (Nat.le_of_ble_eq_true rfl) dX6_init_68 (fun q9 => ?_)
  refine wl_putF (ws' := (q9, .inl (cy 1, 4, .inl (fun _ => 0))) :: (q8, .inl (cy 1, 4, .inl (fun _ => 0))) :: (q7, .inl (cy 1, 12, .inl (fun _ => 0))) :: (q6, .inl (cy 1, 4, .inl (fun _ => 0))) :: (q5, .inl (cy 1, 120, .inl (fun _ => 0))) :: (q4, .inl (cy 1, 3, .inl (fun _ => 0))) :: (q3, .inl (cy 1, 290, .inl (fun _ => 0))) :: (q2, .inl (cy 1, 58, .inl (fun _ => 0))) :: (q1, .inl (cy 1, 58, .inl (fun _ => 0))) :: (h0, .inr (5, [.ref q1, .ref q2, .ref q3, .int 0, .ref q4, .ref q5, .int 0, .int 0, .ref q6, .ref q7, .ref q8, .ref q9, .null, .null, .null, .null, .null, .int 0, .int 0, .int 0, .long 0])) :: []) (C := RX6) (T := TX6) (N := 21) hc hx hn hin6 tyX6 tyX6_ok nmX6 9 rfl rfl 11 (by decide) hf34 rfl rfl rfl rfl (Nat.le_of_ble_eq_true rfl) dX6_init_70 rfl ?_
  refine wl_aload_n hc 0 dX6_init_73 rfl ?_
  refine wl_iconst (v := 4) hc dX6_init_74 (by decide) ?_
  refine wl_newI hc hx 4 (by decide +kernel) (by decide) (by decide) (Nat.le_of_ble_eq_true rfl) (Nat.le_of_ble_eq_true rfl) (Nat.le_of_ble_eq_true rfl) dX6_init_75 (fun q10 => ?_)
  refine wl_putF (ws' := (q10, .inl (cy 1, 4, .inl (fun _ => 0))) :: (q9, .inl (cy 1, 4, .inl (fun _ => 0))) :: (q8, .inl (cy 1, 4, .inl (fun _ => 0))) :: (q7, .inl (cy 1, 12, .inl (fun _ => 0))) :: (q6, .inl (cy 1, 4, .inl (fun _ => 0))) :: (q5, .inl (cy 1, 120, .inl (fun _ => 0))) :: (q4, .inl (cy 1, 3, .inl (fun _ => 0))) :: (q3, .inl (cy 1, 290, .inl (fun _ => 0))) :: (q2, .inl (cy 1, 58, .inl (fun _ => 0))) :: (q1, .inl (cy 1, 58, .inl (fun _ => 0))) :: (h0, .inr (5, [.ref q1, .ref q2, .ref q3, .int 0, .ref q4, .ref q5, .int 0, .int 0, .ref q6, .ref q7, .ref q8, .ref q9, .ref q10, .null, .null, .null, .null, .int 0, .int 0, .int 0, .long 0])) :: []) (C := RX6) (T := TX6) (N := 21) hc hx hn hin6 tyX6 tyX6_ok nmX6 10 rfl rfl 12 (by decide) hf37 rfl rfl rfl rfl (Nat.le_of_ble_eq_true rfl) dX6_init_77 rfl ?_
  refine wl_aload_n hc 0 dX6_init_80 rfl ?_
  refine wl_iconst (v := 4) hc dX6_init_81 (by decide) ?_
  refine wl_newI hc hx 4 (by decide +kernel) (by decide) (by decide) (Nat.le_of_ble_eq_true rfl) (Nat.le_of_ble_eq_true rfl) (Nat.le_of_ble_eq_true rfl) dX6_init_82 (fun q11 => ?_)
  refine wl_putF (ws' := (q11, .inl (cy 1, 4, .inl (fun _ => 0))) :: (q10, .inl (cy 1, 4, .inl (fun _ => 0))) :: (q9, .inl (cy 1, 4, .inl (fun _ => 0))) :: (q8, .inl (cy 1, 4, .inl (fun _ => 0))) :: (q7, .inl (cy 1, 12, .inl (fun _ => 0))) :: (q6, .inl (cy 1, 4, .inl (fun _ => 0))) :: (q5, .inl (cy 1, 120, .inl (fun _ => 0))) :: (q4, .inl (cy 1, 3, .inl (fun _ => 0))) :: (q3, .inl (cy 1, 290, .inl (fun _ => 0))) :: (q2, .inl (cy 1, 58, .inl (fun _ => 0))) :: (q1, .inl (cy 1, 58, .inl (fun _ => 0))) :: (h0, .inr (5, [.ref q1, .ref q2, .ref q3, .int 0, .ref q4, .ref q5, .int 0, .int 0, .ref q6, .ref q7, .ref q8, .ref q9, .ref q10, .ref q11, .null, .null, .null, .int 0, .int 0, .int 0, .long 0])) :: []) (C := RX6) (T := TX6) (N := 21) hc hx hn hin6 tyX6 tyX6_ok nmX6 11 rfl rfl 13 (by decide) hf40 rfl rfl rfl rfl (Nat.le_of_ble_eq_true rfl) dX6_init_84 rfl ?_
  refine wl_aload_n hc 0 dX6_init_87 rfl ?_
  refine wl_bipush (v := 60) hc dX6_init_88 (by decide) ?_
  refine wl_newI hc hx 60 (by decide +kernel) (by decide) (by decide) (Nat.le_of_ble_eq_true rfl) (Nat.le_of_ble_eq_true rfl) (Nat.le_of_ble_eq_true rfl) dX6_init_90 (fun q12 => ?_)
  refine wl_putF (ws' := (q12, .inl (cy 1, 60, .inl (fun _ => 0))) :: (q11, .inl (cy 1, 4, .inl (fun _ => 0))) :: (q10, .inl (cy 1, 4, .inl (fun _ => 0))) :: (q9, .inl (cy 1, 4, .inl (fun _ => 0))) :: (q8, .inl (cy 1, 4, .inl (fun _ => 0))) :: (q7, .inl (cy 1, 12, .inl (fun _ => 0))) :: (q6, .inl (cy 1, 4, .inl (fun _ => 0))) :: (q5, .inl (cy 1, 120, .inl (fun _ => 0))) :: (q4, .inl (cy 1, 3, .inl (fun _ => 0))) :: (q3, .inl (cy 1, 290, .inl (fun _ => 0))) :: (q2, .inl (cy 1, 58, .inl (fun _ => 0))) :: (q1, .inl (cy 1, 58, .inl (fun _ => 0))) :: (h0, .inr (5, [.ref q1, .ref q2, .ref q3, .int 0, .ref q4, .ref q5, .int 0, .int 0, .ref q6, .ref q7, .ref q8, .ref q9, .ref q10, .ref q11, .ref q12, .null, .null, .int 0, .int 0, .int 0, .long 0])) :: []) (C := RX6) (T := TX6) (N := 21) hc hx hn hin6 tyX6 tyX6_ok nmX6 12 rfl rfl 14 (by decide) hf43 rfl rfl rfl rfl (Nat.le_of_ble_eq_true rfl) dX6_init_92 rfl ?_
  refine wl_aload_n hc 0 dX6_init_95 rfl ?_
  refine wl_bipush (v := 61) hc dX6_init_96 (by decide) ?_
  refine wl_newI hc hx 61 (by decide +kernel) (by decide) (by decide) (Nat.le_of_ble_eq_true rfl) (Nat.le_of_ble_eq_true rfl) (Nat.le_of_ble_eq_true rfl) dX6_init_98 (fun q13 => ?_)
  refine wl_putF (ws' := (q13, .inl (cy 1, 61, .inl (fun _ => 0))) :: (q12, .inl (cy 1, 60, .inl (fun _ => 0))) :: (q11, .inl (cy 1, 4, .inl (fun _ => 0))) :: (q10, .inl (cy 1, 4, .inl (fun _ => 0))) :: (q9, .inl (cy 1, 4, .inl (fun _ => 0))) :: (q8, .inl (cy 1, 4, .inl (fun _ => 0))) :: (q7, .inl (cy 1, 12, .inl (fun _ => 0))) :: (q6, .inl (cy 1, 4, .inl (fun _ => 0))) :: (q5, .inl (cy 1, 120, .inl (fun _ => 0))) :: (q4, .inl (cy 1, 3, .inl (fun _ => 0))) :: (q3, .inl (cy 1, 290, .inl (fun _ => 0))) :: (q2, .inl (cy 1, 58, .inl (fun _ => 0))) :: (q1, .inl (cy 1, 58, .inl (fun _ => 0))) :: (h0, .inr (5, [.ref q1, .ref q2, .ref q3, .int 0, .ref q4, .ref q5, .int 0, .int 0, .ref q6, .ref q7, .ref q8, .ref q9, .ref q10, .ref q11, .ref q12, .ref q13, .null, .int 0, .int 0, .int 0, .long 0])) :: []) (C := RX6) (T := TX6) (N := 21) hc hx hn hin6 tyX6 tyX6_ok nmX6 13 rfl rfl 15 (by decide) hf46 rfl rfl rfl rfl (Nat.le_of_ble_eq_true rfl) dX6_init_100 rfl ?_
  refine wl_aload_n hc 0 dX6_init_103 rfl ?_
  refine wl_bipush (v := 120) hc dX6_init_104 (by decide) ?_
  refine wl_newI hc hx 120 (by decide +kernel) (by decide) (by decide) (Nat.le_of_ble_eq_true rfl) (Nat.le_of_ble_eq_true rfl) (Nat.le_of_ble_eq_true rfl) dX6_init_106 (fun q14 => ?_)
  refine wl_putF (ws' := (q14, .inl (cy 1, 120, .inl (fun _ => 0))) :: (q13, .inl (cy 1, 61, .inl (fun _ => 0))) :: (q12, .inl (cy 1, 60, .inl (fun _ => 0))) :: (q11, .inl (cy 1, 4, .inl (fun _ => 0))) :: (q10, .inl (cy 1, 4, .inl (fun _ => 0))) :: (q9, .inl (cy 1, 4, .inl (fun _ => 0))) :: (q8, .inl (cy 1, 4, .inl (fun _ => 0))) :: (q7, .inl (cy 1, 12, .inl (fun _ => 0))) :: (q6, .inl (cy 1, 4, .inl (fun _ => 0))) :: (q5, .inl (cy 1, 120, .inl (fun _ => 0))) :: (q4, .inl (cy 1, 3, .inl (fun _ => 0))) :: (q3, .inl (cy 1, 290, .inl (fun _ => 0))) :: (q2, .inl (cy 1, 58, .inl (fun _ => 0))) :: (q1, .inl (cy 1, 58, .inl (fun _ => 0))) :: (h0, .inr (5, [.ref q1, .ref q2, .ref q3, .int 0, .ref q4, .ref q5, .int 0, .int 0, .ref q6, .ref q7, .ref q8, .ref q9, .ref q10, .ref q11, .ref q12, .ref q13, .ref q14, .int 0, .int 0, .int 0, .long 0])) :: []) (C := RX6) (T := TX6) (N := 21) hc hx hn hin6 tyX6 tyX6_ok nmX6 14 rfl rfl 16 (by decide) hf49 rfl rfl rfl rfl (Nat.le_of_ble_eq_true rfl) dX6_init_108 rfl ?_
  refine wl_iconst (v := 2) hc dX6_init_111 (by decide) ?_
  refine wl_istore_n (lv' := [(1, .int 2), (0, .ref h0)]) hc dX6_init_112 (by decide) rfl ?_
  refine wl_iload_n hc 0 dX6_init_113 rfl ?_
  refine wl_bipush (v := 12) hc dX6_init_114 (by decide) ?_
  refine wl_icmp_ge (tgt := 137) hc dX6_init_116 (by decide) (fun c => absurd c (by decide)) (fun _ => ?_)
  refine wl_aload_n hc 1 dX6_init_119 rfl ?_
  refine wl_get (C := RX6) (T := TX6) (N := 21) hc hx hin6 14 rfl rfl 0 (by decide) hf7 rfl dX6_init_120 ?_
  refine wl_bipush (v := 33) hc dX6_init_123 (by decide) ?_
  refine wl_iload_n hc 0 dX6_init_125 rfl ?_
  refine wl_iadd (v := 35) hc (by decide) dX6_init_126 ?_
  refine wl_sipush (v := 10007) hc dX6_init_127 (by decide) ?_
  refine wl_iast (ws' := (q14, .inl (cy 1, 120, .inl (fun _ => 0))) :: (q13, .inl (cy 1, 61, .inl (fun _ => 0))) :: (q12, .inl (cy 1, 60, .inl (fun _ => 0))) :: (q11, .inl (cy 1, 4, .inl (fun _ => 0))) :: (q10, .inl (cy 1, 4, .inl (fun _ => 0))) :: (q9, .inl (cy 1, 4, .inl (fun _ => 0))) :: (q8, .inl (cy 1, 4, .inl (fun _ => 0))) :: (q7, .inl (cy 1, 12, .inl (fun _ => 0))) :: (q6, .inl (cy 1, 4, .inl (fun _ => 0))) :: (q5, .inl (cy 1, 120, .inl (fun _ => 0))) :: (q4, .inl (cy 1, 3, .inl (fun _ => 0))) :: (q3, .inl (cy 1, 290, .inl (fun _ => 0))) :: (q2, .inl (cy 1, 58, .inl (fun _ => 0))) :: (q1, .inl (cy 1, 58, .inl (upd (fun _ => 0) 35 10007))) :: (h0, .inr (5, [.ref q1, .ref q2, .ref q3, .int 0, .ref q4, .ref q5, .int 0, .int 0, .ref q6, .ref q7, .ref q8, .ref q9, .ref q10, .ref q11, .ref q12, .ref q13, .ref q14, .int 0, .int 0, .int 0, .long 0])) :: []) hc hx 13 rfl 35 (by decide) (vin (by decide)) dX6_init_130 rfl ?_
  refine wl_iinc (v := 5) (lv' := [(1, .int 5), (0, .ref h0)]) hc 0 dX6_init_131 rfl (by decide) (by decide) rfl ?_
  refine wl_goto (tgt := 113) hc dX6_init_134 (by decide) ?_
  refine wl_iload_n hc 0 dX6_init_113 rfl ?_
  refine wl_bipush (v := 12) hc dX6_init_114 (by decide) ?_
  refine wl_icmp_ge (tgt := 137) hc dX6_init_116 (by decide) (fun c => absurd c (by decide)) (fun _ => ?_)
  refine wl_aload_n hc 1 dX6_init_119 rfl ?_
  refine wl_get (C := RX6) (T := TX6) (N := 21) hc hx hin6 14 rfl rfl 0 (by decide) hf7 rfl dX6_init_120 ?_
  refine wl_bipush (v := 33) hc dX6_init_123 (by decide) ?_
  refine wl_iload_n hc 0 dX6_init_125 rfl ?_
  refine wl_iadd (v := 38) hc (by decide) dX6_init_126 ?_
  refine wl_sipush (v := 10007) hc dX6_init_127 (by decide) ?_
  refine wl_iast (ws' := (q14, .inl (cy 1, 120, .inl (fun _ => 0))) :: (q13, .inl (cy 1, 61, .inl (fun _ => 0))) :: (q12, .inl (cy 1, 60, .inl (fun _ => 0))) :: (q11, .inl (cy 1, 4, .inl (fun _ => 0))) :: (q10, .inl (cy 1, 4, .inl (fun _ => 0))) :: (q9, .inl (cy 1, 4, .inl (fun _ => 0))) :: (q8, .inl (cy 1, 4, .inl (fun _ => 0))) :: (q7, .inl (cy 1, 12, .inl (fun _ => 0))) :: (q6, .inl (cy 1, 4, .inl (fun _ => 0))) :: (q5, .inl (cy 1, 120, .inl (fun _ => 0))) :: (q4, .inl (cy 1, 3, .inl (fun _ => 0))) :: (q3, .inl (cy 1, 290, .inl (fun _ => 0))) :: (q2, .inl (cy 1, 58, .inl (fun _ => 0))) :: (q1, .inl (cy 1, 58, .inl (upd (upd (fun _ => 0) 35 10007) 38 10007))) :: (h0, .inr (5, [.ref q1, .ref q2, .ref q3, .int 0, .ref q4, .ref q5, .int 0, .int 0, .ref q6, .ref q7, .ref q8, .ref q9, .ref q10, .ref q11, .ref q12, .ref q13, .ref q14, .int 0, .int 0, .int 0, .long 0])) :: []) hc hx 13 rfl 38 (by decide) (vin (by decide)) dX6_init_130 rfl ?_
  refine wl_iinc (v := 8) (lv' := [(1, .int 8), (0, .ref h0)]) hc 0 dX6_init_131 rfl (by decide) (by decide) rfl ?_
  refine wl_goto (tgt := 113) hc dX6_init_134 (by decide) ?_
  refine wl_iload_n hc 0 dX6_init_113 rfl ?_
  refine wl_bipush (v := 12) hc dX6_init_114 (by decide) ?_
  refine wl_icmp_ge (tgt := 137) hc dX6_init_116 (by decide) (fun c => absurd c (by decide)) (fun _ => ?_)
  refine wl_aload_n hc 1 dX6_init_119 rfl ?_
  refine wl_get (C := RX6) (T := TX6) (N := 21) hc hx hin6 14 rfl rfl 0 (by decide) hf7 rfl dX6_init_120 ?_
  refine wl_bipush (v := 33) hc dX6_init_123 (by decide) ?_
  refine wl_iload_n hc 0 dX6_init_125 rfl ?_
  refine wl_iadd (v := 41) hc (by decide) dX6_init_126 ?_
  refine wl_sipush (v := 10007) hc dX6_init_127 (by decide) ?_
  refine wl_iast (ws' := (q14, .inl (cy 1, 120, .inl (fun _ => 0))) :: (q13, .inl (cy 1, 61, .inl (fun _ => 0))) :: (q12, .inl (cy 1, 60, .inl (fun _ => 0))) :: (q11, .inl (cy 1, 4, .inl (fun _ => 0))) :: (q10, .inl (cy 1, 4, .inl (fun _ => 0))) :: (q9, .inl (cy 1, 4, .inl (fun _ => 0))) :: (q8, .inl (cy 1, 4, .inl (fun _ => 0))) :: (q7, .inl (cy 1, 12, .inl (fun _ => 0))) :: (q6, .inl (cy 1, 4, .inl (fun _ => 0))) :: (q5, .inl (cy 1, 120, .inl (fun _ => 0))) :: (q4, .inl (cy 1, 3, .inl (fun _ => 0))) :: (q3, .inl (cy 1, 290, .inl (fun _ => 0))) :: (q2, .inl (cy 1, 58, .inl (fun _ => 0))) :: (q1, .inl (cy 1, 58, .inl (upd (upd (upd (fun _ => 0) 35 10007) 38 10007) 41 10007))) :: (h0, .inr (5, [.ref q1, .ref q2, .ref q3, .int 0, .ref q4, .ref q5, .int 0, .int 0, .ref q6, .ref q7, .ref q8, .ref q9, .ref q10, .ref q11, .ref q12, .ref q13, .ref q14, .int 0, .int 0, .int 0, .long 0])) :: []) hc hx 13 rfl 41 (by decide) (vin (by decide)) dX6_init_130 rfl ?_
  refine wl_iinc (v := 11) (lv' := [(1, .int 11), (0, .ref h0)]) hc 0 dX6_init_131 rfl (by decide) (by decide) rfl ?_
  refine wl_goto (tgt := 113) hc dX6_init_134 (by decide) ?_
  refine wl_iload_n hc 0 dX6_init_113 rfl ?_
  refine wl_bipush (v := 12) hc dX6_init_114 (by decide) ?_
  refine wl_icmp_ge (tgt := 137) hc dX6_init_116 (by decide) (fun c => absurd c (by decide)) (fun _ => ?_)
  refine wl_aload_n hc 1 dX6_init_119 rfl ?_
  refine wl_get (C := RX6) (T := TX6) (N := 21) hc hx hin6 14 rfl rfl 0 (by decide) hf7 rfl dX6_init_120 ?_
  refine wl_bipush (v := 33) hc dX6_init_123 (by decide) ?_
  refine wl_iload_n hc 0 dX6_init_125 rfl ?_
  refine wl_iadd (v := 44) hc (by decide) dX6_init_126 ?_
  refine wl_sipush (v := 10007) hc dX6_init_127 (by decide) ?_
  refine wl_iast (ws' := (q14, .inl (cy 1, 120, .inl (fun _ => 0))) :: (q13, .inl (cy 1, 61, .inl (fun _ => 0))) :: (q12, .inl (cy 1, 60, .inl (fun _ => 0))) :: (q11, .inl (cy 1, 4, .inl (fun _ => 0))) :: (q10, .inl (cy 1, 4, .inl (fun _ => 0))) :: (q9, .inl (cy 1, 4, .inl (fun _ => 0))) :: (q8, .inl (cy 1, 4, .inl (fun _ => 0))) :: (q7, .inl (cy 1, 12, .inl (fun _ => 0))) :: (q6, .inl (cy 1, 4, .inl (fun _ => 0))) :: (q5, .inl (cy 1, 120, .inl (fun _ => 0))) :: (q4, .inl (cy 1, 3, .inl (fun _ => 0))) :: (q3, .inl (cy 1, 290, .inl (fun _ => 0))) :: (q2, .inl (cy 1, 58, .inl (fun _ => 0))) :: (q1, .inl (cy 1, 58, .inl (upd (upd (upd (upd (fun _ => 0) 35 10007) 38 10007) 41 10007) 44 10007))) :: (h0, .inr (5, [.ref q1, .ref q2, .ref q3, .int 0, .ref q4, .ref q5, .int 0, .int 0, .ref q6, .ref q7, .ref q8, .ref q9, .ref q10, .ref q11, .ref q12, .ref q13, .ref q14, .int 0, .int 0, .int 0, .long 0])) :: []) hc hx 13 rfl 44 (by decide) (vin (by decide)) dX6_init_130 rfl ?_
  refine wl_iinc (v := 14) (lv' := [(1, .int 14), (0, .ref h0)]) hc 0 dX6_init_131 rfl (by decide) (by decide) rfl ?_
  refine wl_goto (tgt := 113) hc dX6_init_134 (by decide) ?_
  refine wl_iload_n hc 0 dX6_init_113 rfl ?_
  refine wl_bipush (v := 12) hc dX6_init_114 (by decide) ?_
  refine wl_icmp_ge (tgt := 137) hc dX6_init_116 (by decide) (fun _ => ?_) (fun c => absurd c (by decide))
  exact wl_vret (blk := mdB cy) hc hr hk (fun i => ([h0, q1, q2, q3, q4, q5, q6, q7, q8, q9, q10, q11, q12, q13, q14] : List Nat).getD i 0) rfl (List.reverse_perm ([(h0, .inr (5, [.ref q1, .ref q2, .ref q3, .int 0, .ref q4, .ref q5, .int 0, .int 0, .ref q6, .ref q7, .ref q8, .ref q9, .ref q10, .ref q11, .ref q12, .ref q13, .ref q14, .int 0, .int 0, .int 0, .long 0])), (q1, .inl (cy 1, 58, .inl (upd (upd (upd (upd (fun _ => 0) 35 10007) 38 10007) 41 10007) 44 10007))), (q2, .inl (cy 1, 58, .inl (fun _ => 0))), (q3, .inl (cy 1, 290, .inl (fun _ => 0))), (q4, .inl (cy 1, 3, .inl (fun _ => 0))), (q5, .inl (cy 1, 120, .inl (fun _ => 0))), (q6, .inl (cy 1, 4, .inl (fun _ => 0))), (q7, .inl (cy 1, 12, .inl (fun _ => 0))), (q8, .inl (cy 1, 4, .inl (fun _ => 0))), (q9, .inl (cy 1, 4, .inl (fun _ => 0))), (q10, .inl (cy 1, 4, .inl (fun _ => 0))), (q11, .inl (cy 1, 4, .inl (fun _ => 0))), (q12, .inl (cy 1, 60, .inl (fun _ => 0))), (q13, .inl (cy 1, 61, .inl (fun _ => 0))), (q14, .inl (cy 1, 120, .inl (fun _ => 0)))] : va_W)) dX6_init_137
