theorem wp_rec {p : Program} {l : Launch} {e : Env} {R : Room} {s : State} {m : MethodId} {args : Array Value} {below : List Frame} {meth : Method} {c : Code} {Q : State → Prop} {Om : Mem → Heap → List Loc → Prop} {nL : Nat} {pc : Nat} {α : Type} (Mi : Nat × α → Mem) (Li : Nat × α → List (Nat × Value)) (Iv : Nat × α → Prop) (step : ∀ a, Iv a → (∀ b, Iv b → b.1 < a.1 → WP p l e R s m args below meth c Q Om nL (Mi b) (Li b) pc []) → WP p l e R s m args below meth c Q Om nL (Mi a) (Li a) pc []) (a : Nat × α) (h : Iv a) : WP p l e R s m args below meth c Q Om nL (Mi a) (Li a) pc [] := by
  have key : ∀ n (a : Nat × α), a.1 < n → Iv a → WP p l e R s m args below meth c Q Om nL (Mi a) (Li a) pc [] := by
    intro n
    induction n with
    | zero => intro a h; exact absurd h (Nat.not_lt_zero _)
    | succ n ih => intro a h hI; exact step a hI (fun b hb hl => ih b (by omega) hb)
  exact key (a.1 + 1) a (Nat.lt_succ_self _) h
/-- the reference's text as it is read: the place is in it -/
def TM (A : Mem) : Prop := 0 ≤ (A.1 100 18).toInt ∧ (A.1 100 18).toInt ≤ (A.1 100 6).toInt ∧ (A.1 100 6).toInt ≤ 120
def muM (A : Mem) : Nat := ((A.1 100 6).toInt - (A.1 100 18).toInt).toNat
def TC (A : Mem) : Prop := 0 ≤ (A.1 10 7).toInt ∧ (A.1 10 7).toInt ≤ (A.1 10 4).toInt ∧ (A.1 10 4).toInt ≤ 120
def muC (A : Mem) : Nat := ((A.1 10 4).toInt - (A.1 10 7).toInt).toNat
theorem st_at (M : Mem) (j k : Nat) (v : Int32) : (st M j k v).1 j k = v := by rw [st_row, pk_us]
theorem st_at_ne (M : Mem) (j k : Nat) (v : Int32) {q : Nat} (h : q ≠ k) : (st M j k v).1 j q = M.1 j q := by rw [st_row, pk_un h]
theorem inc_T {x : Int32} (h : 0 ≤ x.toInt ∧ x.toInt ≤ 1000) : (x + 1).toInt = x.toInt + 1 := by
  have e : (1 : Int32).toInt = 1 := rfl
  rw [fb_addI (by rw [e]; omega) (by rw [e]; omega), e]
theorem TM.inc {A : Mem} (h : TM A) (c : ¬ A.1 100 6 ≤ A.1 100 18) : TM (st A 100 18 (A.1 100 18 + 1)) ∧ muM (st A 100 18 (A.1 100 18 + 1)) + 1 = muM A := by
  obtain ⟨h1, h2, h3⟩ := h
  rw [fa_le] at c
  unfold TM muM
  rw [st_at, st_at_ne _ _ _ _ (by decide), inc_T (by omega)]
  omega
theorem TC.inc {A : Mem} (h : TC A) (c : ¬ A.1 10 4 ≤ A.1 10 7) : TC (st A 10 7 (A.1 10 7 + 1)) ∧ muC (st A 10 7 (A.1 10 7 + 1)) + 1 = muC A := by
  obtain ⟨h1, h2, h3⟩ := h
  rw [fa_le] at c
  unfold TC muC
  rw [st_at, st_at_ne _ _ _ _ (by decide), inc_T (by omega)]
  omega
def sX6_fails (M : Mem) (i1 : Int32) : Int32 × Mem :=
  tk (st M 100 19 i1) fun M1 =>
  (0, M1)
set_option maxHeartbeats 4000000 in
set_option maxRecDepth 100000 in
theorem kX6_fails (l : Launch) (D : va_G) (cy : Nat → ClassId) (z : Nat → Nat) (hz : zI z) (M : Mem) (i1 : Int32) : KI l yX6_fails wsX6_fails { frames := 0, cells := 0, slots := 0, locals := 0 } D cy z 100 15 [.ref (z 100), .int i1] M (fun r u => (r, u) = sX6_fails M i1) := by
  refine met_wp (lv := [(0, .ref (z 100)), (1, .int i1)]) hz (by decide) (by decide) rfl rfl (Nat.le_of_ble_eq_true rfl) rfl ?_
  intro p e s m below meth c hc hx hr hk
  have hNW := hx.2.1
  have hin6 : ∀ w ∈ wsX60, w ∈ wsX6_fails := by decide +kernel
  have hf228 : Cond.fieldLink RX6 228 (TX6 19).1 (TX6 19).2.1 (TX6 19).2.2.1 ∈ wsX6_fails := by decide +kernel
  refine wp_aload_n hc 0 dX6_fails_0 rfl ?_
  refine wp_iload_n hc 1 dX6_fails_1 rfl ?_
  refine wp_put (M' := st M 100 19 i1) hc hx hin6 tyX6 tyX6_ok nmX6 (j := 100) (by decide) (by decide) (ce_5 rfl) rfl 19 (by decide) hf228 rfl rfl rfl (Nat.le_of_ble_eq_true rfl) (by rw [ce_5 rfl]; exact ce_stM19 _ _ _) (fun i hi => ce_row (va_up_ne _ _ hi) rfl) dX6_fails_2 ?_
  refine wp_nm (fun M1 hM1 => ?_)
  refine wp_iconst (v := 0) hc dX6_fails_5 (by decide) ?_
  refine wp_zret hc hr hk rfl ?_ dX6_fails_6
  show (0, M1) = sX6_fails M i1
  rw [sX6_fails, tk_eq hM1]
theorem bX6_fails (M : Mem) (i1 : Int32) : B01 (sX6_fails M i1) := by
  unfold sX6_fails
  refine tk_ind (P := B01) _ _ (fun M1 hM1 => ?_)
  exact (show _ ∨ _ from Or.inl rfl)
def fX6_isAt (M : Mem) (i1 : Int32) (i2 : Int32) : Int32 :=
  if (M.1 100 6) ≤ (M.1 100 18) then
  0
  else
  if (fX6_in (M.1 105 (M.1 100 18).toNatClampNeg) i1 i2) = 0 then
  0
  else
  1
set_option maxHeartbeats 4000000 in
set_option maxRecDepth 100000 in
theorem kX6_isAt (l : Launch) (D : va_G) (cy : Nat → ClassId) (z : Nat → Nat) (hz : zI z) (M : Mem) (i1 : Int32) (i2 : Int32) (hT : TM M) : KI l yX6_isAt wsX6_isAt { frames := 1, cells := 0, slots := 0, locals := 22 } D cy z 100 15 [.ref (z 100), .int i1, .int i2] M (fun r u => r = fX6_isAt M i1 i2 ∧ u = M) := by
  refine met_wp (lv := [(0, .ref (z 100)), (1, .int i1), (2, .int i2)]) hz (by decide) (by decide) rfl rfl (Nat.le_of_ble_eq_true rfl) rfl ?_
  intro p e s m below meth c hc hx hr hk
  have hNW := hx.2.1
  have hin6 : ∀ w ∈ wsX60, w ∈ wsX6_isAt := by decide +kernel
  have hf22 : Cond.fieldLink RX6 22 (TX6 5).1 (TX6 5).2.1 (TX6 5).2.2.1 ∈ wsX6_isAt := by decide +kernel
  have hf219 : Cond.fieldLink RX6 219 (TX6 6).1 (TX6 6).2.1 (TX6 6).2.2.1 ∈ wsX6_isAt := by decide +kernel
  have hf222 : Cond.fieldLink RX6 222 (TX6 18).1 (TX6 18).2.1 (TX6 18).2.2.1 ∈ wsX6_isAt := by decide +kernel
  have cw81 : CallB ({ frames := 1, cells := 0, slots := 0, locals := 22 }) s _ RX6 81 yX6_in cX6_in 3 (some .boolean) wsX6_in ({ frames := 0, cells := 0, slots := 0, locals := 0 }) 0 0 3 ∧ (Cond.static yX6_in).before _ s = true := va_cwS 3 hc.2.2.2.2 gX6_isAt_X6_in rfl rfl rfl (by decide +kernel) ⟨Nat.le_of_ble_eq_true rfl, Nat.le_of_ble_eq_true rfl⟩
  refine wp_aload_n hc 0 dX6_isAt_0 rfl ?_
  refine wp_get hc hx hin6 (j := 100) (by decide) (by decide) (ce_5 rfl) rfl 18 (by decide) hf222 rfl dX6_isAt_1 ?_
  refine wp_aload_n hc 0 dX6_isAt_4 rfl ?_
  refine wp_get hc hx hin6 (j := 100) (by decide) (by decide) (ce_5 rfl) rfl 6 (by decide) hf219 rfl dX6_isAt_5 ?_
  refine wp_icmp_ge (tgt := 32) hc dX6_isAt_8 (by decide) (fun c8 => ?_) (fun c8 => ?_)
  · refine wp_iconst (v := 0) hc dX6_isAt_32 (by decide) ?_
    refine wp_zret hc hr hk rfl ?_ dX6_isAt_33
    show 0 = fX6_isAt M i1 i2 ∧ M = M
    exact ⟨by rw [fX6_isAt, if_pos c8], rfl⟩
  refine wp_aload_n hc 0 dX6_isAt_11 rfl ?_
  refine wp_get hc hx hin6 (j := 100) (by decide) (by decide) (ce_5 rfl) rfl 5 (by decide) hf22 rfl dX6_isAt_12 ?_
  refine wp_aload_n hc 0 dX6_isAt_15 rfl ?_
  refine wp_get hc hx hin6 (j := 100) (by decide) (by decide) (ce_5 rfl) rfl 18 (by decide) hf222 rfl dX6_isAt_16 ?_
  refine wp_iald hc hx (j := 105) (by decide) (by decide) rfl (M.1 100 18).toNatClampNeg rfl (vin (by have h := hT; rw [fa_le] at c8; unfold TM at h; show _ ∧ _ < ((120 : Nat) : Int); omega)) dX6_isAt_19 ?_
  refine wp_iload_n hc 1 dX6_isAt_20 rfl ?_
  refine wp_iload_n hc 2 dX6_isAt_21 rfl ?_
  refine wp_callSg (As := [.int (M.1 105 (M.1 100 18).toNatClampNeg), .int i1, .int i2]) (rest := []) (v := (fX6_in (M.1 105 (M.1 100 18).toNatClampNeg) i1 i2)) hc hNW (kX6_in l (M.1 105 (M.1 100 18).toNatClampNeg) i1 i2) cw81 rfl rfl (Nat.le_of_ble_eq_true rfl) dX6_isAt_22 ?_
  refine wp_if_eq (tgt := 32) hc dX6_isAt_25 (by decide) (fun c25 => ?_) (fun c25 => ?_)
  · refine wp_iconst (v := 0) hc dX6_isAt_32 (by decide) ?_
    refine wp_zret hc hr hk rfl ?_ dX6_isAt_33
    show 0 = fX6_isAt M i1 i2 ∧ M = M
    exact ⟨by rw [fX6_isAt, if_neg c8, if_pos c25], rfl⟩
  refine wp_iconst (v := 1) hc dX6_isAt_28 (by decide) ?_
  refine wp_goto (tgt := 33) hc dX6_isAt_29 (by decide) ?_
  refine wp_zret hc hr hk rfl ?_ dX6_isAt_33
  show 1 = fX6_isAt M i1 i2 ∧ M = M
  exact ⟨by rw [fX6_isAt, if_neg c8, if_neg c25], rfl⟩
theorem bX6_isAt (M : Mem) (i1 : Int32) (i2 : Int32) : fX6_isAt M i1 i2 = 0 ∨ fX6_isAt M i1 i2 = 1 := by
  unfold fX6_isAt
  (repeat' split) <;> first | exact Or.inl rfl | exact Or.inr rfl
theorem isAt_lt {A : Mem} {a b : Int32} (h : ¬ fX6_isAt A a b = 0) : ¬ A.1 100 6 ≤ A.1 100 18 := by
  intro c
  unfold fX6_isAt at h
  rw [if_pos c] at h
  exact h rfl
theorem TM.mu {A : Mem} (h : TM A) : muM A < 121 := by
  unfold TM at h
  unfold muM
  omega
theorem TC.mu {A : Mem} (h : TC A) : muC A < 121 := by
  unfold TC at h
  unfold muC
  omega
def wX6_blanks_0 : Nat → Mem → Mem
  | 0, A0 => A0
  | f + 1, A0 =>
  if (fX6_isAt A0 32 32) = 0 then
  A0
  else
  tk (st A0 100 18 ((A0.1 100 18) + 1)) fun M1 =>
  wX6_blanks_0 f M1
def sX6_blanks (M : Mem)  : Mem :=
  wX6_blanks_0 121 M
set_option maxHeartbeats 4000000 in
set_option maxRecDepth 100000 in
theorem kX6_blanks (l : Launch) (D : va_G) (cy : Nat → ClassId) (z : Nat → Nat) (hz : zI z) (M : Mem)  (hT : TM M) : KV l yX6_blanks wsX6_blanks { frames := 2, cells := 0, slots := 0, locals := 44 } D cy z 100 15 [.ref (z 100)] M (fun u => u = sX6_blanks M) := by
  refine met_wp (lv := [(0, .ref (z 100))]) hz (by decide) (by decide) rfl rfl (Nat.le_of_ble_eq_true rfl) rfl ?_
  intro p e s m below meth c hc hx hr hk
  have hNW := hx.2.1
  have hin6 : ∀ w ∈ wsX60, w ∈ wsX6_blanks := by decide +kernel
  have hf222 : Cond.fieldLink RX6 222 (TX6 18).1 (TX6 18).2.1 (TX6 18).2.2.1 ∈ wsX6_blanks := by decide +kernel
  have cw225 : CallW ({ frames := 2, cells := 0, slots := 0, locals := 44 }) s _ RX6 RX6 225 yX6_isAt cX6_isAt 3 (some .boolean) wsX6_isAt ({ frames := 1, cells := 0, slots := 0, locals := 22 }) 0 0 2 := cwV 2 hc.2.2.2.2 gX6_blanks_X6_isAt rfl rfl rfl (by decide +kernel) ⟨Nat.le_of_ble_eq_true rfl, Nat.le_of_ble_eq_true rfl⟩
  refine wp_lv (lv' := [(0, .ref (z 100))]) [0] rfl ?_
  refine wp_rec (α := Mem) (fun a => a.2) (fun a => [(0, .ref (z 100))]) (fun a => (muM a.2 < a.1 ∧ TM a.2) ∧ sX6_blanks M = wX6_blanks_0 a.1 a.2) ?_ (121, M) ⟨(show muM M < 121 ∧ TM M from ⟨TM.mu hT, hT⟩), by rw [sX6_blanks]⟩
  rintro ⟨f, A0⟩ ⟨hI, hS⟩ ih
  have hI : muM A0 < f ∧ TM A0 := hI
  have hS : sX6_blanks M = wX6_blanks_0 f A0 := hS
  show WP _ _ _ _ _ _ _ _ _ _ _ _ _ A0 [(0, .ref (z 100))] _ _
  cases f with
  | zero => exact absurd hI.1 (Nat.not_lt_zero _)
  | succ f =>
    refine wp_aload_n hc 0 dX6_blanks_0 rfl ?_
    refine wp_bipush (v := 32) hc dX6_blanks_1 (by decide) ?_
    refine wp_bipush (v := 32) hc dX6_blanks_3 (by decide) ?_
    refine wp_callVf (As := [.int 32, .int 32]) (rest := []) (j := 100) (v := (fX6_isAt A0 32 32)) hc hx (kX6_isAt l D cy z hz A0 32 32 hI.2) cw225 (by decide) (by decide) (ce_5 rfl) rfl rfl rfl rfl (Nat.le_of_ble_eq_true rfl) dX6_blanks_5 ?_
    refine wp_if_eq (tgt := 24) hc dX6_blanks_8 (by decide) (fun c8 => ?_) (fun c8 => ?_)
    · refine wp_vret hc hr hk ?_ dX6_blanks_24
      show A0 = sX6_blanks M
      rw [hS, wX6_blanks_0, if_pos c8]
    refine wp_aload_n hc 0 dX6_blanks_11 rfl ?_
    refine wp_dup hc dX6_blanks_12 rfl ?_
    refine wp_get hc hx hin6 (j := 100) (by decide) (by decide) (ce_5 rfl) rfl 18 (by decide) hf222 rfl dX6_blanks_13 ?_
    refine wp_iconst (v := 1) hc dX6_blanks_16 (by decide) ?_
    refine wp_iadd hc dX6_blanks_17 ?_
    refine wp_put (M' := st A0 100 18 ((A0.1 100 18) + 1)) hc hx hin6 tyX6 tyX6_ok nmX6 (j := 100) (by decide) (by decide) (ce_5 rfl) rfl 18 (by decide) hf222 rfl rfl rfl (Nat.le_of_ble_eq_true rfl) (by rw [ce_5 rfl]; exact ce_stM18 _ _ _) (fun i hi => ce_row (va_up_ne _ _ hi) rfl) dX6_blanks_18 ?_
    refine wp_nm (fun M1 hM1 => ?_)
    refine wp_goto (tgt := 0) hc dX6_blanks_21 (by decide) ?_
    exact wp_lv [0] rfl (ih (f, M1) ⟨(show muM M1 < f ∧ TM M1 from (by have q := TM.inc hI.2 (isAt_lt c8); rw [← hM1] at q; exact ⟨by omega, q.1⟩)), by rw [hS, wX6_blanks_0, if_neg c8, tk_eq hM1]⟩ (Nat.lt_succ_self f))
def wX3_skipBlanks_0 : Nat → Mem → Mem
  | 0, A0 => A0
  | f + 1, A0 =>
  if (A0.1 10 4) ≤ (A0.1 10 7) then
  A0
  else
  if (fX3_here A0) = 32 then
  tk (st A0 10 7 ((A0.1 10 7) + 1)) fun M1 =>
  wX3_skipBlanks_0 f M1
  else
  A0
def sX3_skipBlanks (M : Mem)  : Mem :=
  wX3_skipBlanks_0 121 M
set_option maxHeartbeats 4000000 in
set_option maxRecDepth 100000 in
theorem kX3_skipBlanks (l : Launch) (D : va_G) (cy : Nat → ClassId) (z : Nat → Nat) (hz : zI z) (M : Mem)  (hT : TC M) : KV l yX3_skipBlanks wsX3_skipBlanks { frames := 2, cells := 0, slots := 0, locals := 41 } D cy z 0 100 [.ref (z 10)] M (fun u => u = sX3_skipBlanks M) := by
  refine met_wp (lv := [(0, .ref (z 10))]) hz (by decide) (by decide) rfl rfl (Nat.le_of_ble_eq_true rfl) rfl ?_
  intro p e s m below meth c hc hx hr hk
  have hNW := hx.2.1
  have hin3 : ∀ w ∈ wsX30, w ∈ wsX3_skipBlanks := by decide +kernel
  have hf29 : Cond.fieldLink RX3 29 (TX3 4).1 (TX3 4).2.1 (TX3 4).2.2.1 ∈ wsX3_skipBlanks := by decide +kernel
  have hf39 : Cond.fieldLink RX3 39 (TX3 7).1 (TX3 7).2.1 (TX3 7).2.2.1 ∈ wsX3_skipBlanks := by decide +kernel
  have cw49 : CallW ({ frames := 2, cells := 0, slots := 0, locals := 41 }) s _ RX3 RX3 49 yX3_here cX3_here 1 (some .int) wsX3_here ({ frames := 1, cells := 0, slots := 0, locals := 21 }) 0 0 0 := cwV 0 hc.2.2.2.2 gX3_skipBlanks_X3_here rfl rfl rfl (by decide +kernel) ⟨Nat.le_of_ble_eq_true rfl, Nat.le_of_ble_eq_true rfl⟩
  refine wp_lv (lv' := [(0, .ref (z 10))]) [0] rfl ?_
  refine wp_rec (α := Mem) (fun a => a.2) (fun a => [(0, .ref (z 10))]) (fun a => (muC a.2 < a.1 ∧ TC a.2) ∧ sX3_skipBlanks M = wX3_skipBlanks_0 a.1 a.2) ?_ (121, M) ⟨(show muC M < 121 ∧ TC M from ⟨TC.mu hT, hT⟩), by rw [sX3_skipBlanks]⟩
  rintro ⟨f, A0⟩ ⟨hI, hS⟩ ih
  have hI : muC A0 < f ∧ TC A0 := hI
  have hS : sX3_skipBlanks M = wX3_skipBlanks_0 f A0 := hS
  show WP _ _ _ _ _ _ _ _ _ _ _ _ _ A0 [(0, .ref (z 10))] _ _
  cases f with
  | zero => exact absurd hI.1 (Nat.not_lt_zero _)
  | succ f =>
    refine wp_aload_n hc 0 dX3_skipBlanks_0 rfl ?_
    refine wp_get hc hx hin3 (j := 10) (by decide) (by decide) (ce_2 rfl) rfl 7 (by decide) hf39 rfl dX3_skipBlanks_1 ?_
    refine wp_aload_n hc 0 dX3_skipBlanks_4 rfl ?_
    refine wp_get hc hx hin3 (j := 10) (by decide) (by decide) (ce_2 rfl) rfl 4 (by decide) hf29 rfl dX3_skipBlanks_5 ?_
    refine wp_icmp_ge (tgt := 33) hc dX3_skipBlanks_8 (by decide) (fun c8 => ?_) (fun c8 => ?_)
    · refine wp_vret hc hr hk ?_ dX3_skipBlanks_33
      show A0 = sX3_skipBlanks M
      rw [hS, wX3_skipBlanks_0, if_pos c8]
    refine wp_aload_n hc 0 dX3_skipBlanks_11 rfl ?_
    refine wp_callVf (As := []) (rest := []) (j := 10) (v := (fX3_here A0)) hc hx (kX3_here l D cy z hz A0) cw49 (by decide) (by decide) (ce_2 rfl) rfl rfl rfl rfl (Nat.le_of_ble_eq_true rfl) dX3_skipBlanks_12 ?_
    refine wp_bipush (v := 32) hc dX3_skipBlanks_15 (by decide) ?_
    refine wp_icmp_ne (tgt := 33) hc dX3_skipBlanks_17 (by decide) (fun c17 => ?_) (fun c17 => ?_)
    · refine wp_vret hc hr hk ?_ dX3_skipBlanks_33
      show A0 = sX3_skipBlanks M
      rw [hS, wX3_skipBlanks_0, if_neg c8, if_neg c17]
    refine wp_aload_n hc 0 dX3_skipBlanks_20 rfl ?_
    refine wp_dup hc dX3_skipBlanks_21 rfl ?_
    refine wp_get hc hx hin3 (j := 10) (by decide) (by decide) (ce_2 rfl) rfl 7 (by decide) hf39 rfl dX3_skipBlanks_22 ?_
    refine wp_iconst (v := 1) hc dX3_skipBlanks_25 (by decide) ?_
    refine wp_iadd hc dX3_skipBlanks_26 ?_
    refine wp_put (M' := st A0 10 7 ((A0.1 10 7) + 1)) hc hx hin3 tyX3 tyX3_ok nmX3 (j := 10) (by decide) (by decide) (ce_2 rfl) rfl 7 (by decide) hf39 rfl rfl rfl (Nat.le_of_ble_eq_true rfl) (by rw [ce_2 rfl]; exact ce_stT7 _ _ _) (fun i hi => ce_row (va_up_ne _ _ hi) rfl) dX3_skipBlanks_27 ?_
    refine wp_nm (fun M1 hM1 => ?_)
    refine wp_goto (tgt := 0) hc dX3_skipBlanks_30 (by decide) ?_
    exact wp_lv [0] rfl (ih (f, M1) ⟨(show muC M1 < f ∧ TC M1 from (by have q := TC.inc hI.2 c8; rw [← hM1] at q; exact ⟨by omega, q.1⟩)), by rw [hS, wX3_skipBlanks_0, if_neg c8, if_pos c17, tk_eq hM1]⟩ (Nat.lt_succ_self f))
