theorem fr_sw (M : Mem) : (sX6_swapsAside M).1 100 = M.1 100 := by
  unfold sX6_swapsAside tk
  rw [sr_ne _ _ (by decide), sr_ne _ _ (by decide)]
/-- what an order of the reference leaves as it was -/
def KO (M M' : Mem) : Prop := (∀ j, (j = 102 ∨ j = 103 ∨ j = 104 ∨ j = 105 ∨ j = 112 ∨ j = 113 ∨ j = 114) → M'.1 j = M.1 j) ∧ (∀ k, k ≠ 7 → M'.1 100 k = M.1 100 k) ∧ M'.2 = M.2
def NB (M : Mem) : Prop := 0 ≤ (M.1 101 0).toInt ∧ (M.1 101 0).toInt ≤ 8
def KO2 (M : Mem) (u : Int32 × Mem) : Prop := KO M u.2 ∧ NB u.2
theorem KO.rf {M : Mem} : KO M M := ⟨fun _ _ => rfl, fun _ _ => rfl, rfl⟩
theorem KO.trans {A B C : Mem} (h : KO A B) (g : KO B C) : KO A C := ⟨fun j hj => (g.1 j hj).trans (h.1 j hj), fun k hk => (g.2.1 k hk).trans (h.2.1 k hk), g.2.2.trans h.2.2⟩
theorem KP.o {A B : Mem} (h : KP A B) : KO A B := ⟨fun j hj => h.1 j (by omega), h.2.1, h.2.2⟩
theorem ko_st {M : Mem} {k : Nat} {v : Int32} : KO M (st M 101 k v) := ⟨fun j hj => st_ne _ _ _ (by omega), fun k hk => by rw [st_ne _ _ _ (by decide)], rfl⟩
theorem ko_sr {M : Mem} {f : Nat → Int32} : KO M (sr M 101 f) := ⟨fun j hj => sr_ne _ _ (by omega), fun k hk => by rw [sr_ne _ _ (by decide)], rfl⟩
theorem bx_cl {M : Mem} {b : Int32} (h : 0 ≤ b.toInt ∧ b.toInt < 8) : (fX6_boxAt M b).toNatClampNeg = 1 + 4 * b.toNatClampNeg := by
  have e := bxT M (b := b) (by omega)
  have q := cl_T h.1
  refine cl_of ?_
  omega
theorem bxk_cl {M : Mem} {b k : Int32} (h : 0 ≤ b.toInt ∧ b.toInt < 8) (hk : 0 ≤ k.toInt ∧ k.toInt < 4) : (fX6_boxAt M b + k).toNatClampNeg = 1 + 4 * b.toNatClampNeg + k.toNatClampNeg := by
  have e := bxkT (M := M) (b := b) (by omega) hk
  have q := cl_T h.1
  have q2 := cl_T hk.1
  refine cl_of ?_
  omega
theorem ko_comes {M : Mem} {a b c d : Int32} (h : 0 ≤ (M.1 101 0).toInt ∧ (M.1 101 0).toInt < 8) : KO2 M (sX6_comes M a b c d) := by
  unfold sX6_comes
  rw [bx_cl h, bxk_cl h (by decide), bxk_cl h (by decide), bxk_cl h (by decide)]
  refine tk_ind (P := KO2 M) _ _ (fun M1 h1 => ?_)
  refine tk_ind (P := KO2 M) _ _ (fun M2 h2 => ?_)
  refine tk_ind (P := KO2 M) _ _ (fun M3 h3 => ?_)
  refine tk_ind (P := KO2 M) _ _ (fun M4 h4 => ?_)
  refine tk_ind (P := KO2 M) _ _ (fun M5 h5 => ?_)
  have k1 : KO M M1 := by rw [h1]; exact ko_st
  have k2 : KO M1 M2 := by rw [h2]; exact ko_st
  have k3 : KO M2 M3 := by rw [h3]; exact ko_st
  have k4 : KO M3 M4 := by rw [h4]; exact ko_st
  have k5 : KO M4 M5 := by rw [h5]; exact ko_st
  refine ⟨k1.trans (k2.trans (k3.trans (k4.trans k5))), ?_⟩
  show NB M5
  unfold NB
  have e : M4.1 101 0 = M.1 101 0 := by rw [h4, st_at_ne _ _ _ _ (by omega), h3, st_at_ne _ _ _ _ (by omega), h2, st_at_ne _ _ _ _ (by omega), h1, st_at_ne _ _ _ _ (by omega)]
  rw [h5, st_at, e, inc_T (by omega)]
  omega
theorem ko_told {M : Mem} {a : Int32} (hn : NB M) : KO2 M (sX6_comesTold M a) := by
  unfold sX6_comesTold
  refine ite_ind (P := KO2 M) (fun c => ⟨KO.rf, hn⟩) (fun c => ?_)
  refine ite_ind (P := KO2 M) (fun _ => ⟨KO.rf, hn⟩) (fun _ => ?_)
  refine ite_ind (P := KO2 M) (fun _ => ⟨KO.rf, hn⟩) (fun _ => ?_)
  refine ite_ind (P := KO2 M) (fun _ => ⟨KO.rf, hn⟩) (fun _ => ?_)
  refine ite_ind (P := KO2 M) (fun _ => ⟨KO.rf, hn⟩) (fun _ => ?_)
  refine ite_ind (P := KO2 M) (fun _ => ⟨KO.rf, hn⟩) (fun _ => ?_)
  refine ite_ind (P := KO2 M) (fun _ => ⟨KO.rf, hn⟩) (fun _ => ?_)
  refine ite_ind (P := KO2 M) (fun _ => ⟨KO.rf, hn⟩) (fun _ => ?_)
  refine ite_ind (P := KO2 M) (fun _ => ⟨KO.rf, hn⟩) (fun _ => ?_)
  refine tk_ind (P := KO2 M) _ _ (fun x hx => ?_)
  have k : KO2 M x := by rw [hx]; exact ko_comes (nge8 hn c)
  exact ite_ind (P := KO2 M) (fun _ => k) (fun _ => k)
theorem ko_by {M : Mem} {a : Int32} (hn : NB M) : KO2 M (sX6_comesBy M a) := by
  unfold sX6_comesBy
  refine ite_ind (P := KO2 M) (fun c => ⟨KO.rf, hn⟩) (fun c => ?_)
  refine ite_ind (P := KO2 M) (fun _ => ⟨KO.rf, hn⟩) (fun c => ?_)
  refine tk_ind (P := KO2 M) _ _ (fun x hx => ?_)
  have k : KO2 M x := by rw [hx]; exact ko_comes (nge8 hn c)
  exact ite_ind (P := KO2 M) (fun _ => k) (fun _ => k)
theorem ko_errs {M : Mem} {a b d : Int32} (hn : NB M) : KO2 M (sX6_errsTold M a b d) := by
  unfold sX6_errsTold
  refine ite_ind (P := KO2 M) (fun c => ⟨KO.rf, hn⟩) (fun c => ?_)
  refine ite_ind (P := KO2 M) (fun _ => ⟨KO.rf, hn⟩) (fun _ => ?_)
  refine ite_ind (P := KO2 M) (fun _ => ⟨KO.rf, hn⟩) (fun _ => ?_)
  refine tk_ind (P := KO2 M) _ _ (fun x hx => ?_)
  have q := inE c
  have e : (33 + a).toNatClampNeg = 33 + a.toNatClampNeg := by
    have e33 : (33 : Int32).toInt = 33 := rfl
    refine cl_of ?_
    have := cl_T q.1
    rw [fb_addI (by rw [e33]; omega) (by rw [e33]; omega), e33]
    omega
  refine ⟨by rw [hx]; exact ko_st, ?_⟩
  show NB x
  unfold NB
  rw [hx, e, st_at_ne _ _ _ _ (by omega)]
  exact hn
theorem ko_now {M : Mem} (hn : NB M) : KO2 M (sX6_learnsNow M) := by
  unfold sX6_learnsNow
  refine tk_ind (P := KO2 M) _ _ (fun M1 h1 => ?_)
  refine tk_ind (P := KO2 M) _ _ (fun M2 h2 => ?_)
  have k1 : KO M M1 := by rw [h1]; exact ko_st
  have k2 : KO M1 M2 := by rw [h2]; exact ko_sr
  refine ⟨k1.trans k2, ?_⟩
  show NB M2
  unfold NB
  rw [h2, sr_row, fb_put_out (by omega), h1, st_at_ne _ _ _ _ (by omega)]
  exact hn
theorem ko_obeys {M : Mem} {k : Int32} (hn : NB M) : KO2 M (sX6_obeys M k) := by
  unfold sX6_obeys
  refine ite_ind (P := KO2 M) (fun c => ?_) (fun c => ?_)
  · refine tk_ind (P := KO2 M) _ _ (fun x hx => ?_)
    have k : KO2 M x := by rw [hx]; exact ko_told hn
    exact k
  refine ite_ind (P := KO2 M) (fun c => ?_) (fun c => ?_)
  · refine tk_ind (P := KO2 M) _ _ (fun x hx => ?_)
    have k : KO2 M x := by rw [hx]; exact ko_errs hn
    exact k
  refine ite_ind (P := KO2 M) (fun c => ?_) (fun c => ?_)
  · refine tk_ind (P := KO2 M) _ _ (fun x hx => ?_)
    have k : KP M x.2 := (show KP2 M x from by rw [hx]; apply kpX6_canLearn)
    have n : NB x.2 := k.hn hn
    refine ite_ind (P := KO2 M) (fun _ => ⟨k.o, n⟩) (fun _ => ?_)
    refine tk_ind (P := KO2 M) _ _ (fun y hy => ?_)
    have k2 : KO2 x.2 y := by rw [hy]; exact ko_now n
    exact ite_ind (P := KO2 M) (fun _ => ⟨k.o.trans k2.1, k2.2⟩) (fun _ => ⟨k.o.trans k2.1, k2.2⟩)
  refine ite_ind (P := KO2 M) (fun c => ?_) (fun c => ?_)
  · refine ite_ind (P := KO2 M) (fun c => ⟨KO.rf, hn⟩) (fun c => ?_)
    refine tk_ind (P := KO2 M) _ _ (fun x hx => ?_)
    have k : KP M x.2 := (show KP2 M x from by rw [hx]; apply kpX6_canRead)
    have n : NB x.2 := k.hn hn
    refine tk_ind (P := KO2 M) _ _ (fun y hy => ?_)
    have k2 : KO2 x.2 y := by rw [hy]; exact ko_by n
    exact ite_ind (P := KO2 M) (fun _ => ⟨k.o.trans k2.1, k2.2⟩) (fun _ => ⟨k.o.trans k2.1, k2.2⟩)
  · refine ite_ind (P := KO2 M) (fun c => ⟨KO.rf, hn⟩) (fun c => ?_)
    refine ite_ind (P := KO2 M) (fun c => ⟨KO.rf, hn⟩) (fun c => ?_)
    refine tk_ind (P := KO2 M) _ _ (fun x hx => ?_)
    have k : KP M x.2 := (show KP2 M x from by rw [hx]; apply kpX6_canChain)
    have n : NB x.2 := k.hn hn
    refine tk_ind (P := KO2 M) _ _ (fun y hy => ?_)
    have k2 : KO2 x.2 y := by rw [hy]; exact ko_by n
    exact ite_ind (P := KO2 M) (fun _ => ⟨k.o.trans k2.1, k2.2⟩) (fun _ => ⟨k.o.trans k2.1, k2.2⟩)
/-- what stands of the text's reading while its orders are done -/
def KX (X A : Mem) : Prop := (∀ j, (j = 103 ∨ j = 104 ∨ j = 105 ∨ j = 112 ∨ j = 113 ∨ j = 114) → A.1 j = X.1 j) ∧ (∀ k, k ≠ 7 → A.1 100 k = X.1 100 k) ∧ A.2 = X.2 ∧ NB A
theorem KX.o {X A : Mem} {u : Int32 × Mem} (h : KX X A) (g : KO2 A u) : KX X u.2 := ⟨fun j hj => (g.1.1 j (by omega)).trans (h.1 j hj), fun k hk => (g.1.2.1 k hk).trans (h.2.1 k hk), g.1.2.2.trans h.2.2.1, g.2⟩
theorem kx_0 {X A : Mem} {f : Nat → Int32} (hn : NB X) (h : A = sr X 102 f) : KX X A := by
  subst h
  exact ⟨fun j hj => sr_ne _ _ (by omega), fun k hk => by rw [sr_ne _ _ (by decide)], rfl, by unfold NB; rw [sr_ne _ _ (by decide)]; exact hn⟩
theorem ir_nb {M : Mem} {x : Int32 × Mem} (hy : 0 ≤ (M.1 100 6).toInt ∧ (M.1 100 6).toInt ≤ 120) (hn : NB M) (h : x = sX6_isRead M) : NB x.2 := by
  have p := ir_post hy
  rw [← h] at p
  unfold NB
  rw [p.1.1 101 (by decide) (by decide)]
  exact hn
theorem ir_hs {M : Mem} {x : Int32 × Mem} (hy : 0 ≤ (M.1 100 6).toInt ∧ (M.1 100 6).toInt ≤ 120) (hs : 0 ≤ (M.1 100 3).toInt ∧ (M.1 100 3).toInt ≤ 5) (h : x = sX6_isRead M) : 0 ≤ (x.2.1 100 3).toInt ∧ (x.2.1 100 3).toInt ≤ 5 := by
  have p := ir_post hy
  rw [← h] at p
  rw [p.1.2.1 3 (by decide) (by decide) (by decide)]
  exact hs
theorem kx_i {M A : Mem} {x : Int32 × Mem} {i : Int32} (hy : 0 ≤ (M.1 100 6).toInt ∧ (M.1 100 6).toInt ≤ 120) (h : x = sX6_isRead M) (c : ¬ x.1 = 0) (k : KX x.2 A) (hi : 0 ≤ i.toInt) (c2 : ¬ A.1 100 17 ≤ i) : (0 ≤ i.toInt ∧ i.toInt < 60) ∧ FQ A i := by
  have p := ir_post hy
  rw [← h] at p
  obtain ⟨hT, hO, hP⟩ := p.2 c
  have lt := le_nT c2
  have hb := prs_le hP
  have hi2 := cl_T hi
  have q := hP i.toNatClampNeg (by rw [k.2.1 17 (by decide)] at lt; omega)
  unfold TM at hT
  unfold OQ frO at hO
  have ho := cl_T hO.1
  rw [k.2.1 17 (by decide)] at lt
  have r := hb ((x.2.1 100 17).toNatClampNeg - (i.toNatClampNeg + 1)) (i.toNatClampNeg + 1) (by omega)
  rw [show i.toNatClampNeg + 1 + ((x.2.1 100 17).toNatClampNeg - (i.toNatClampNeg + 1)) = (x.2.1 100 17).toNatClampNeg by omega] at r
  refine ⟨by omega, ?_⟩
  unfold FQ
  rw [k.1 113 (by decide), k.1 112 (by decide)]
  omega
theorem kx_next {X A : Mem} {u : Int32 × Mem} {i : Int32} {f : Nat} (k : KX X A) (hi : 0 ≤ i.toInt) (hu : u = sX6_obeys A i) (hf : ((A.1 100 17).toInt - i.toInt).toNat < f + 1) (c : ¬ A.1 100 17 ≤ i) : ((u.2.1 100 17).toInt - (i + 1).toInt).toNat < f ∧ KX X u.2 ∧ 0 ≤ (i + 1).toInt := by
  have g := ko_obeys (k := i) k.2.2.2
  rw [← hu] at g
  have c2 := le_nT c
  have r := (fb_rng (A.1 100 17)).2
  have e1 : (1 : Int32).toInt = 1 := rfl
  have t : (i + 1).toInt = i.toInt + 1 := by rw [fb_addI (by rw [e1]; omega) (by rw [e1]; omega), e1]
  rw [g.1.2.1 17 (by decide), t]
  exact ⟨by omega, k.o g, by omega⟩
def wX6_does_43 : Nat → Int32 → Mem → Int32 × Mem
  | 0, _, A43 => (0, A43)
  | f + 1, i, A43 =>
  if (A43.1 100 17) ≤ i then
  tk (sX6_swapsAside A43) fun M3 =>
  tk (sX6_remembers M3) fun M4 =>
  tk (sX6_swapsAside M4) fun M5 =>
  ((M5.1 100 17), M5)
  else
  tk (sX6_obeys A43 i) fun x6 =>
  if x6.1 = 0 then
  tk (sX6_swapsAside x6.2) fun M7 =>
  (((-1000) - i), M7)
  else
  wX6_does_43 f (i + 1) x6.2
def sX6_does (M : Mem)  : Int32 × Mem :=
  tk (sX6_isRead M) fun x1 =>
  if x1.1 = 0 then
  (((-10) - (x1.2.1 100 19)), x1.2)
  else
  tk (sr x1.2 102 (fb_put (x1.2.1 102) (x1.2.1 101) 0 (58))) fun M2 =>
  wX6_does_43 (((M2.1 100 17).toInt.toNat + 1)) 0 M2
set_option maxHeartbeats 4000000 in
set_option maxRecDepth 100000 in
theorem kX6_does (l : Launch) (D : va_G) (cy : Nat → ClassId) (z : Nat → Nat) (hz : zI z) (M : Mem)  (hn : 0 ≤ (M.1 101 0).toInt ∧ (M.1 101 0).toInt ≤ 8) (hs : 0 ≤ (M.1 100 3).toInt ∧ (M.1 100 3).toInt ≤ 5) (hy : 0 ≤ (M.1 100 6).toInt ∧ (M.1 100 6).toInt ≤ 120) : KI l yX6_does wsX6_does { frames := 10, cells := 0, slots := 0, locals := 240 } D cy z 100 15 [.ref (z 100)] M (fun r u => (r, u) = sX6_does M) := by
  refine met_wp (lv := [(0, .ref (z 100))]) hz (by decide) (by decide) rfl rfl (Nat.le_of_ble_eq_true rfl) rfl ?_
  intro p e s m below meth c hc hx hr hk
  have hNW := hx.2.1
  have hin6 : ∀ w ∈ wsX60, w ∈ wsX6_does := by decide +kernel
  have hf7 : Cond.fieldLink RX6 7 (TX6 0).1 (TX6 0).2.1 (TX6 0).2.2.1 ∈ wsX6_does := by decide +kernel
  have hf13 : Cond.fieldLink RX6 13 (TX6 1).1 (TX6 1).2.1 (TX6 1).2.2.1 ∈ wsX6_does := by decide +kernel
  have hf228 : Cond.fieldLink RX6 228 (TX6 19).1 (TX6 19).2.1 (TX6 19).2.2.1 ∈ wsX6_does := by decide +kernel
  have hf240 : Cond.fieldLink RX6 240 (TX6 17).1 (TX6 17).2.1 (TX6 17).2.2.1 ∈ wsX6_does := by decide +kernel
  have cw91 : CallW ({ frames := 10, cells := 0, slots := 0, locals := 240 }) s _ RX6 RX6 91 yX6_remembers cX6_remembers 2 none wsX6_remembers ({ frames := 0, cells := 0, slots := 0, locals := 0 }) 0 0 0 := cwV 0 hc.2.2.2.2 gX6_does_X6_remembers rfl rfl rfl (by decide +kernel) ⟨Nat.le_of_ble_eq_true rfl, Nat.le_of_ble_eq_true rfl⟩
  have cw262 : CallW ({ frames := 10, cells := 0, slots := 0, locals := 240 }) s _ RX6 RX6 262 yX6_isRead cX6_isRead 1 (some .boolean) wsX6_isRead ({ frames := 5, cells := 0, slots := 0, locals := 110 }) 0 0 0 := cwV 0 hc.2.2.2.2 gX6_does_X6_isRead rfl rfl rfl (by decide +kernel) ⟨Nat.le_of_ble_eq_true rfl, Nat.le_of_ble_eq_true rfl⟩
  have cw265 : CallW ({ frames := 10, cells := 0, slots := 0, locals := 240 }) s _ RX6 RX6 265 yX6_obeys cX6_obeys 5 (some .boolean) wsX6_obeys ({ frames := 9, cells := 0, slots := 0, locals := 216 }) 0 0 1 := cwV 1 hc.2.2.2.2 gX6_does_X6_obeys rfl rfl rfl (by decide +kernel) ⟨Nat.le_of_ble_eq_true rfl, Nat.le_of_ble_eq_true rfl⟩
  have cw268 : CallW ({ frames := 10, cells := 0, slots := 0, locals := 240 }) s _ RX6 RX6 268 yX6_swapsAside cX6_swapsAside 3 none wsX6_swapsAside ({ frames := 0, cells := 0, slots := 0, locals := 0 }) 0 0 0 := cwV 0 hc.2.2.2.2 gX6_does_X6_swapsAside rfl rfl rfl (by decide +kernel) ⟨Nat.le_of_ble_eq_true rfl, Nat.le_of_ble_eq_true rfl⟩
  refine wp_aload_n hc 0 dX6_does_0 rfl ?_
  refine wp_callVw (As := []) (rest := []) (j := 100) (w := sX6_isRead M) hc hx (kX6_isRead l D cy z hz M hy) cw262 (by decide) (by decide) (ce_5 rfl) rfl rfl rfl rfl (Nat.le_of_ble_eq_true rfl) dX6_does_1 (fun x1 hx1 => ?_)
  refine wp_if_ne (tgt := 15) hc dX6_does_4 (by decide) (fun c4 => ?_) (fun c4 => ?_)
  · refine wp_iconst (v := 0) hc dX6_does_15 (by decide) ?_
    refine wp_istore_n (lv' := [(1, .int 0), (0, .ref (z 100))]) hc dX6_does_16 (by decide) rfl ?_
    refine wp_eqM (M' := sr x1.2 102 (fb_put (x1.2.1 102) (x1.2.1 101) 0 (0))) (sr_put0 _ _ _ _) ?_
    refine wp_lv (lv' := [(0, .ref (z 100)), (1, .int (nI (0)))]) [1, 0] rfl ?_
    refine wp_loop (58) (fun i => sr x1.2 102 (fb_put (x1.2.1 102) (x1.2.1 101) 0 (i))) (fun i => [(0, .ref (z 100)), (1, .int (nI (i)))]) ?_ ?_ 0 (by omega)
    · show WP _ _ _ _ _ _ _ _ _ _ _ _ _ (sr x1.2 102 (fb_put (x1.2.1 102) (x1.2.1 101) 0 (58))) [(0, .ref (z 100)), (1, .int (nI (58)))] _ _
      refine wp_nm (fun M2 hM2 => ?_)
      refine wp_iload_n hc 1 dX6_does_17 rfl ?_
      refine wp_bipush (v := 58) hc dX6_does_18 (by decide) ?_
      refine wp_icmp_ge (tgt := 41) hc dX6_does_20 (by decide) (fun _ => ?_) (fun c => absurd c (by decide))
      refine wp_iconst (v := 0) hc dX6_does_41 (by decide) ?_
      refine wp_istore_n (lv' := [(1, .int 0), (0, .ref (z 100))]) hc dX6_does_42 (by decide) rfl ?_
      refine wp_lv (lv' := [(0, .ref (z 100)), (1, .int 0)]) [1, 0] rfl ?_
      refine wp_rec (α := Int32 × Mem) (fun a => a.2.2) (fun a => [(0, .ref (z 100)), (1, .int a.2.1)]) (fun a => (((a.2.2.1 100 17).toInt - a.2.1.toInt).toNat < a.1 ∧ (KX x1.2 a.2.2 ∧ 0 ≤ a.2.1.toInt)) ∧ sX6_does M = wX6_does_43 a.1 a.2.1 a.2.2) ?_ (((M2.1 100 17).toInt.toNat + 1), 0, M2) ⟨(show ((M2.1 100 17).toInt - (0 : Int32).toInt).toNat < ((M2.1 100 17).toInt.toNat + 1) ∧ (KX x1.2 M2 ∧ 0 ≤ (0 : Int32).toInt) from (by have e0 : (0 : Int32).toInt = 0 := rfl; rw [e0]; exact ⟨by omega, kx_0 (ir_nb hy hn hx1) hM2, by omega⟩)), by rw [sX6_does, tk_eq hx1, if_neg c4, tk_eq hM2]⟩
      rintro ⟨f, i, A43⟩ ⟨hI, hS⟩ ih
      have hI : ((A43.1 100 17).toInt - i.toInt).toNat < f ∧ (KX x1.2 A43 ∧ 0 ≤ i.toInt) := hI
      have hS : sX6_does M = wX6_does_43 f i A43 := hS
      show WP _ _ _ _ _ _ _ _ _ _ _ _ _ A43 [(0, .ref (z 100)), (1, .int i)] _ _
      cases f with
      | zero => exact absurd hI.1 (Nat.not_lt_zero _)
      | succ f =>
        refine wp_iload_n hc 1 dX6_does_43 rfl ?_
        refine wp_aload_n hc 0 dX6_does_44 rfl ?_
        refine wp_get hc hx hin6 (j := 100) (by decide) (by decide) (ce_5 rfl) rfl 17 (by decide) hf240 rfl dX6_does_45 ?_
        refine wp_icmp_ge (tgt := 75) hc dX6_does_48 (by decide) (fun c48 => ?_) (fun c48 => ?_)
        · refine wp_aload_n hc 0 dX6_does_75 rfl ?_
          refine wp_callVvw (As := []) (rest := []) (j := 100) (w := sX6_swapsAside A43) hc hx (kX6_swapsAside l D cy z hz A43) cw268 (by decide) (by decide) (ce_5 rfl) rfl rfl rfl rfl (Nat.le_of_ble_eq_true rfl) dX6_does_76 (fun M3 hM3 => ?_)
          refine wp_aload_n hc 0 dX6_does_79 rfl ?_
          refine wp_callVvw (As := []) (rest := []) (j := 100) (w := sX6_remembers M3) hc hx (kX6_remembers l D cy z hz M3 (by rw [hM3, fr_sw, hI.2.1.2.1 3 (by decide)]; exact ir_hs hy hs hx1)) cw91 (by decide) (by decide) (ce_5 rfl) rfl rfl rfl rfl (Nat.le_of_ble_eq_true rfl) dX6_does_80 (fun M4 hM4 => ?_)
          refine wp_aload_n hc 0 dX6_does_83 rfl ?_
          refine wp_callVvw (As := []) (rest := []) (j := 100) (w := sX6_swapsAside M4) hc hx (kX6_swapsAside l D cy z hz M4) cw268 (by decide) (by decide) (ce_5 rfl) rfl rfl rfl rfl (Nat.le_of_ble_eq_true rfl) dX6_does_84 (fun M5 hM5 => ?_)
          refine wp_aload_n hc 0 dX6_does_87 rfl ?_
          refine wp_get hc hx hin6 (j := 100) (by decide) (by decide) (ce_5 rfl) rfl 17 (by decide) hf240 rfl dX6_does_88 ?_
          refine wp_iret hc hr hk ?_ dX6_does_91
          show ((M5.1 100 17), M5) = sX6_does M
          rw [hS, wX6_does_43, if_pos c48, tk_eq hM3, tk_eq hM4, tk_eq hM5]
        refine wp_aload_n hc 0 dX6_does_51 rfl ?_
        refine wp_iload_n hc 1 dX6_does_52 rfl ?_
        refine wp_callVw (As := [.int i]) (rest := []) (j := 100) (w := sX6_obeys A43 i) hc hx (kX6_obeys l D cy z hz A43 i hI.2.1.2.2.2 (kx_i hy hx1 c4 hI.2.1 hI.2.2 c48).1 (kx_i hy hx1 c4 hI.2.1 hI.2.2 c48).2) cw265 (by decide) (by decide) (ce_5 rfl) rfl rfl rfl rfl (Nat.le_of_ble_eq_true rfl) dX6_does_53 (fun x6 hx6 => ?_)
        refine wp_if_ne (tgt := 69) hc dX6_does_56 (by decide) (fun c56 => ?_) (fun c56 => ?_)
        · refine wp_iinc (v := (i + 1)) (lv' := [(1, .int (i + 1)), (0, .ref (z 100))]) hc 1 dX6_does_69 rfl rfl (by decide) rfl ?_
          refine wp_goto (tgt := 43) hc dX6_does_72 (by decide) ?_
          exact wp_lv [1, 0] rfl (ih (f, (i + 1), x6.2) ⟨(show ((x6.2.1 100 17).toInt - (i + 1).toInt).toNat < f ∧ (KX x1.2 x6.2 ∧ 0 ≤ (i + 1).toInt) from (kx_next hI.2.1 hI.2.2 hx6 hI.1 c48)), by rw [hS, wX6_does_43, if_neg c48, tk_eq hx6, if_neg c56]⟩ (Nat.lt_succ_self f))
        refine wp_aload_n hc 0 dX6_does_59 rfl ?_
        refine wp_callVvw (As := []) (rest := []) (j := 100) (w := sX6_swapsAside x6.2) hc hx (kX6_swapsAside l D cy z hz x6.2) cw268 (by decide) (by decide) (ce_5 rfl) rfl rfl rfl rfl (Nat.le_of_ble_eq_true rfl) dX6_does_60 (fun M7 hM7 => ?_)
        refine wp_sipush (v := (-1000)) hc dX6_does_63 (by decide) ?_
        refine wp_iload_n hc 1 dX6_does_66 rfl ?_
        refine wp_isub hc dX6_does_67 ?_
        refine wp_iret hc hr hk ?_ dX6_does_68
        show (((-1000) - i), M7) = sX6_does M
        rw [hS, wX6_does_43, if_neg c48, tk_eq hx6, if_pos c56, tk_eq hM7]
    · intro i hi ih
      show WP _ _ _ _ _ _ _ _ _ _ _ _ _ (sr x1.2 102 (fb_put (x1.2.1 102) (x1.2.1 101) 0 (i))) [(0, .ref (z 100)), (1, .int (nI (i)))] _ _
      refine wp_nm (fun M8 hM8 => ?_)
      refine wp_iload_n hc 1 dX6_does_17 rfl ?_
      refine wp_bipush (v := 58) hc dX6_does_18 (by decide) ?_
      refine wp_icmp_ge (tgt := 41) hc dX6_does_20 (by decide) (fun c => absurd c (nIlt hi (by decide))) (fun _ => ?_)
      refine wp_aload_n hc 0 dX6_does_23 rfl ?_
      refine wp_get hc hx hin6 (j := 100) (by decide) (by decide) (ce_5 rfl) rfl 1 (by decide) hf13 rfl dX6_does_24 ?_
      refine wp_iload_n hc 1 dX6_does_27 rfl ?_
      refine wp_aload_n hc 0 dX6_does_28 rfl ?_
      refine wp_get hc hx hin6 (j := 100) (by decide) (by decide) (ce_5 rfl) rfl 0 (by decide) hf7 rfl dX6_does_29 ?_
      refine wp_iload_n hc 1 dX6_does_32 rfl ?_
      refine wp_iald hc hx (j := 101) (by decide) (by decide) rfl i (nI_clamp (by omega)) (vpl 58 rfl (by omega) (by decide)) dX6_does_33 ?_
      refine wp_iast hc hx (j := 102) (by decide) (by decide) rfl i (nI_clamp (by omega)) (vpl 58 rfl (by omega) (by decide)) dX6_does_34 ?_
      refine wp_nm (fun M9 hM9 => ?_)
      refine wp_iinc (v := ((nI (i)) + 1)) (lv' := [(1, .int ((nI (i)) + 1)), (0, .ref (z 100))]) hc 1 dX6_does_35 rfl rfl (by decide) rfl ?_
      refine wp_goto (tgt := 17) hc dX6_does_38 (by decide) ?_
      rw [nI_1]
      have hEq : sr x1.2 102 (fb_put (x1.2.1 102) (x1.2.1 101) 0 (i + 1)) = M9 := by
        rw [hM9, hM8]
        exact (st_put _ _ _ _ _ _ _ _ (by omega) (by rw [sr_ne _ _ (by decide)])).symm
      exact wp_eqM hEq (wp_lv [1, 0] rfl ih)
  refine wp_bipush (v := (-10)) hc dX6_does_7 (by decide) ?_
  refine wp_aload_n hc 0 dX6_does_9 rfl ?_
  refine wp_get hc hx hin6 (j := 100) (by decide) (by decide) (ce_5 rfl) rfl 19 (by decide) hf228 rfl dX6_does_10 ?_
  refine wp_isub hc dX6_does_13 ?_
  refine wp_iret hc hr hk ?_ dX6_does_14
  show (((-10) - (x1.2.1 100 19)), x1.2) = sX6_does M
  rw [sX6_does, tk_eq hx1, if_pos c4]
