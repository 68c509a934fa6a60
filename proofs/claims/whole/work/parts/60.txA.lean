/-! ===== the text is read alike ===== -/
def PX (C N : Mem) : Prop := C.1 10 4 = N.1 100 6 ∧ C.1 10 7 = N.1 100 18 ∧ TM N ∧ ∀ k : Nat, (k : Int) < (N.1 100 6).toInt → C.1 11 k = N.1 105 k ∧ 0 ≤ (N.1 105 k).toInt ∧ (N.1 105 k).toInt < 128
theorem PX.tc {C N : Mem} (h : PX C N) : TC C := by
  unfold TC
  rw [h.1, h.2.1]
  exact h.2.2.1
theorem PX.pos {C N C' N' : Mem} {p : Int32} (h : PX C N) (hp : 0 ≤ p.toInt ∧ p.toInt ≤ (N.1 100 6).toInt) (c1 : C'.1 10 7 = p) (c2 : C'.1 10 4 = C.1 10 4) (c3 : C'.1 11 = C.1 11) (n1 : N'.1 100 18 = p) (n2 : N'.1 100 6 = N.1 100 6) (n3 : N'.1 105 = N.1 105) : PX C' N' := by
  unfold PX TM
  rw [c1, c2, c3, n1, n2, n3]
  exact ⟨h.1, rfl, ⟨hp.1, hp.2, h.2.2.1.2.2⟩, h.2.2.2⟩
theorem hereV {C N : Mem} (h : PX C N) : (N.1 100 6 ≤ N.1 100 18 → fX3_here C = -1) ∧ (¬ N.1 100 6 ≤ N.1 100 18 → fX3_here C = N.1 105 (N.1 100 18).toNatClampNeg ∧ 0 ≤ (fX3_here C).toInt ∧ (fX3_here C).toInt < 128) := by
  unfold fX3_here
  rw [h.1, h.2.1]
  refine ⟨fun c => by rw [if_pos c], fun c => ?_⟩
  have t := h.2.2.1
  unfold TM at t
  have l := le_nT c
  have cl := cl_T t.1
  have b : ¬ fX5_isBelow (N.1 100 18) 120 = 0 := by rw [below_iff, e120]; omega
  have q := h.2.2.2 (N.1 100 18).toNatClampNeg (by omega)
  rw [if_neg c, if_neg b, q.1]
  exact ⟨rfl, q.2⟩
theorem at_iff {C N : Mem} {lo hi : Int32} (h : PX C N) (hl : 0 ≤ lo.toInt) : fX6_isAt N lo hi = 0 ↔ ¬ (lo.toInt ≤ (fX3_here C).toInt ∧ (fX3_here C).toInt ≤ hi.toInt) := by
  have v := hereV h
  unfold fX6_isAt
  by_cases c : N.1 100 6 ≤ N.1 100 18
  · rw [if_pos c, v.1 c]
    refine ⟨fun _ g => ?_, fun _ => rfl⟩
    have : (-1 : Int32).toInt = -1 := rfl
    omega
  · rw [if_neg c, (v.2 c).1]
    by_cases d : fX6_in (N.1 105 (N.1 100 18).toNatClampNeg) lo hi = 0
    · rw [if_pos d]
      exact ⟨fun _ => (in_iff _ _ _).mp d, fun _ => rfl⟩
    · rw [if_neg d]
      exact ⟨fun q => absurd q (by decide), fun q => absurd ((in_iff _ _ _).mpr q) d⟩
theorem fig_iff (c : Int32) : fX3_isFigure c = 0 ↔ ¬ (48 ≤ c.toInt ∧ c.toInt ≤ 57) := by
  have a : (48 : Int32).toInt = 48 := rfl
  have b : (57 : Int32).toInt = 57 := rfl
  unfold fX3_isFigure
  by_cases q : c < 48
  · rw [if_pos q]
    rw [fa_lt, a] at q
    exact ⟨fun _ g => by omega, fun _ => rfl⟩
  · rw [if_neg q]
    rw [fa_lt, a] at q
    by_cases r : 57 < c
    · rw [if_pos r]
      rw [fa_lt, b] at r
      exact ⟨fun _ g => by omega, fun _ => rfl⟩
    · rw [if_neg r]
      rw [fa_lt, b] at r
      exact ⟨fun g => absurd g (by decide), fun g => absurd ⟨by omega, by omega⟩ g⟩
theorem figAt {C N : Mem} (h : PX C N) : fX6_isAt N 48 57 = 0 ↔ fX3_isFigure (fX3_here C) = 0 := (at_iff h (by decide)).trans (fig_iff _).symm
theorem is_iff {C N : Mem} (h : PX C N) (c : Int32) (hc : 0 ≤ c.toInt) : fX6_isAt N c c = 0 ↔ ¬ fX3_here C = c := (at_iff h hc).trans ⟨fun g e => g (by rw [e]; exact ⟨Int.le_refl _, Int.le_refl _⟩), fun g e => g (by rw [fa_eq]; omega)⟩
theorem here_cg {C C' : Mem} (h1 : C'.1 10 4 = C.1 10 4) (h2 : C'.1 10 7 = C.1 10 7) (h3 : C'.1 11 = C.1 11) : fX3_here C' = fX3_here C := by
  unfold fX3_here
  rw [h1, h2, h3]
theorem PX.step {C N : Mem} (h : PX C N) (c : ¬ N.1 100 6 ≤ N.1 100 18) : PX (st C 10 7 (C.1 10 7 + 1)) (st N 100 18 (N.1 100 18 + 1)) := by
  have t := h.2.2.1
  unfold TM at t
  have l := le_nT c
  have e := incT_ (x := N.1 100 18) (by omega)
  exact h.pos (p := N.1 100 18 + 1) (by omega) (by rw [st_at, h.2.1]) (st_at_ne _ _ _ _ (by decide)) (st_ne _ _ _ (by decide)) (st_at _ _ _ _) (st_at_ne _ _ _ _ (by decide)) (st_ne _ _ _ (by decide))
theorem blX : ∀ (f : Nat) (C N : Mem), PX C N → ∃ p : Int32, wX3_skipBlanks_0 f C = st C 10 7 p ∧ wX6_blanks_0 f N = st N 100 18 p ∧ (N.1 100 18).toInt ≤ p.toInt ∧ p.toInt ≤ (N.1 100 6).toInt
  | 0, C, N, h => ⟨N.1 100 18, by rw [← h.2.1, st_self]; rfl, by rw [st_self]; rfl, Int.le_refl _, h.2.2.1.2.1⟩
  | f + 1, C, N, h => by
    have ii := is_iff h 32 (by decide)
    rw [wX3_skipBlanks_0, wX6_blanks_0]
    have v := hereV h
    by_cases c : N.1 100 6 ≤ N.1 100 18
    · rw [h.1, h.2.1, if_pos c, if_pos (ii.mpr (by rw [v.1 c]; decide))]
      exact ⟨N.1 100 18, by rw [← h.2.1, st_self], by rw [st_self], Int.le_refl _, h.2.2.1.2.1⟩
    · rw [h.1, if_neg (by rw [h.2.1]; exact c)]
      by_cases d : fX3_here C = 32
      · rw [if_pos d, if_neg (fun n => (ii.mp n) d)]
        obtain ⟨p, e1, e2, e3, e4⟩ := blX f _ _ (h.step c)
        have t := h.2.2.1
        unfold TM at t
        have l := le_nT c
        have e := incT_ (x := N.1 100 18) (by omega)
        rw [st_at] at e3
        rw [st_at_ne _ _ _ _ (by decide)] at e4
        rw [st_st] at e1 e2
        exact ⟨p, e1, e2, by omega, e4⟩
      · rw [if_neg d, if_pos (ii.mpr d)]
        exact ⟨N.1 100 18, by rw [← h.2.1, st_self], by rw [st_self], Int.le_refl _, h.2.2.1.2.1⟩
theorem bl2 {C N : Mem} (h : PX C N) : ∃ p : Int32, sX3_skipBlanks C = st C 10 7 p ∧ sX6_blanks N = st N 100 18 p ∧ (N.1 100 18).toInt ≤ p.toInt ∧ p.toInt ≤ (N.1 100 6).toInt := blX 121 C N h
theorem bl_PX {C N : Mem} (h : PX C N) : PX (sX3_skipBlanks C) (sX6_blanks N) := by
  obtain ⟨p, e1, e2, e3, e4⟩ := bl2 h
  rw [e1, e2]
  have t := h.2.2.1
  unfold TM at t
  exact h.pos (p := p) (by omega) (st_at _ _ _ _) (st_at_ne _ _ _ _ (by decide)) (st_ne _ _ _ (by decide)) (st_at _ _ _ _) (st_at_ne _ _ _ _ (by decide)) (st_ne _ _ _ (by decide))
/-- a number: both read it, or both fail at one place -/
def NumR (C N : Mem) (at0 : Nat) (x y : Int32 × Mem) : Prop := (y.1 = 0 → x.1 = 0 ∧ x.2.1 10 7 = y.2.1 100 19 ∧ 0 ≤ (y.2.1 100 19).toInt) ∧ (¬ y.1 = 0 → ¬ x.1 = 0 ∧ ∃ p v : Int32, x.2 = st (st (st C 10 7 p) 14 (C.1 10 6).toNatClampNeg v) 10 6 (C.1 10 6 + 1) ∧ y.2 = st (st N 100 18 p) 114 at0 v ∧ (N.1 100 18).toInt ≤ p.toInt ∧ p.toInt ≤ (N.1 100 6).toInt)
theorem num_no {C N X Y : Mem} {at0 : Nat} (e : X.1 10 7 = Y.1 100 19) (h : 0 ≤ (Y.1 100 19).toInt) : NumR C N at0 (0, X) (0, Y) := ⟨fun _ => ⟨rfl, e, h⟩, fun n => absurd rfl n⟩
theorem wrE {A : Mem} {v : Int32} : (tk (st A 14 (A.1 10 6).toNatClampNeg v) fun M1 => tk (st M1 10 6 ((M1.1 10 6) + 1)) fun M2 => if (fX3_isFigure (fX3_here M2)) = 0 then ((1 : Int32), M2) else (0, M2)) = (if fX3_isFigure (fX3_here A) = 0 then (1, st (st A 14 (A.1 10 6).toNatClampNeg v) 10 6 (A.1 10 6 + 1)) else (0, st (st A 14 (A.1 10 6).toNatClampNeg v) 10 6 (A.1 10 6 + 1))) := by
  have e : fX3_here (st (st A 14 (A.1 10 6).toNatClampNeg v) 10 6 (A.1 10 6 + 1)) = fX3_here A := here_cg (by rw [st_at_ne _ _ _ _ (by decide), st_ne _ _ _ (by decide)]) (by rw [st_at_ne _ _ _ _ (by decide), st_ne _ _ _ (by decide)]) (by rw [st_ne _ _ _ (by decide), st_ne _ _ _ (by decide)])
  have e2 : (st A 14 (A.1 10 6).toNatClampNeg v).1 10 6 = A.1 10 6 := by rw [st_ne _ _ _ (by decide)]
  show (if fX3_isFigure (fX3_here (st (st A 14 (A.1 10 6).toNatClampNeg v) 10 6 ((st A 14 (A.1 10 6).toNatClampNeg v).1 10 6 + 1))) = 0 then _ else _) = _
  rw [e2, e]
theorem lt_T {a b : Int32} : (a < b) = (a.toInt < b.toInt) := propext (fa_lt a b)
theorem numF (i1 st0 : Int32) : ∀ (f : Nat) (v n : Int32) (C N : Mem), PX C N → n.toInt = (N.1 100 18).toInt - st0.toInt → 0 ≤ st0.toInt → 0 ≤ n.toInt ∧ n.toInt ≤ 5 → (n.toInt = 0 → ¬ fX3_isFigure (fX3_here C) = 0) → (5 - n.toInt).toNat < f → NumR C N i1.toNatClampNeg (wX3_readNumber_28 f v n C) (wX6_takesNumber_11 i1 st0 f v N)
  | 0, v, n, C, N, h, hn, h0, hr, hz, hf => by omega
  | f + 1, v, n, C, N, h, hn, h0, hr, hz, hf => by
    have t := h.2.2.1
    unfold TM at t
    have ff := figAt h
    rw [wX3_readNumber_28, wX6_takesNumber_11, wrE]
    have wm : ¬ n.toInt = 0 → (tk (st N 114 i1.toNatClampNeg v) fun M2 => if st0 < (M2.1 100 18) then ((1 : Int32), M2) else tk (sX6_fails M2 (M2.1 100 18)) fun x3 => if x3.1 = 0 then (0, x3.2) else (1, x3.2)) = (1, st N 114 i1.toNatClampNeg v) := fun nz => by
      show (if st0 < ((st N 114 i1.toNatClampNeg v).1 100 18) then _ else _) = _
      rw [st_ne _ _ _ (by decide), if_pos (by rw [lt_T]; omega)]
    have good : NumR C N i1.toNatClampNeg (1, st (st C 14 (C.1 10 6).toNatClampNeg v) 10 6 (C.1 10 6 + 1)) (1, st N 114 i1.toNatClampNeg v) := ⟨fun q => absurd q (show ¬ (1 : Int32) = 0 by decide), fun _ => ⟨show ¬ (1 : Int32) = 0 by decide, N.1 100 18, v, by rw [← h.2.1, st_self], by rw [st_self], Int.le_refl _, t.2.1⟩⟩
    by_cases c5 : 5 ≤ n
    · have n5 : n.toInt = 5 := by rw [fa_le, e5] at c5; omega
      rw [if_pos c5]
      by_cases fg : fX3_isFigure (fX3_here C) = 0
      · rw [if_pos fg, if_pos (ff.mpr fg), wm (by omega)]
        exact good
      · have s5 : N.1 100 18 = st0 + 5 := by rw [fa_eq, fb_addI (by rw [e5]; omega) (by rw [e5]; omega), e5]; omega
        rw [if_neg fg, if_neg (fun n => fg (ff.mp n)), if_pos s5, tk_eta, failsE]
        refine num_no ?_ ?_
        · rw [st_at_ne _ _ _ _ (by decide), st_ne _ _ _ (by decide), st_at]; exact h.2.1
        · rw [st_at]; exact t.1
    · have n5 : n.toInt < 5 := by rw [fa_le, e5] at c5; omega
      rw [if_neg c5]
      by_cases fg : fX3_isFigure (fX3_here C) = 0
      · rw [if_pos fg, if_pos fg, if_pos (ff.mpr fg), wm (fun q => hz q fg)]
        exact good
      · have lt : ¬ N.1 100 6 ≤ N.1 100 18 := by have := fig_lt fg; rw [h.1, h.2.1] at this; exact this
        have hv := ((hereV h).2 lt).1
        have s5 : ¬ N.1 100 18 = st0 + 5 := by rw [fa_eq, fb_addI (by rw [e5]; omega) (by rw [e5]; omega), e5]; omega
        rw [if_neg fg, if_neg (fun n => fg (ff.mp n)), if_neg s5]
        have ev : ((10 * v) + (N.1 105 (N.1 100 18).toNatClampNeg)) - 48 = (10 * v) + ((fX3_here C) - 48) := by
          rw [hv, Int32.sub_eq_add_neg, Int32.sub_eq_add_neg, Int32.add_assoc]
        rw [ev]
        have e1 := incT_ (x := n) (by omega)
        have e2 := incT_ (x := N.1 100 18) (by omega)
        have l := le_nT lt
        have ih := numF i1 st0 f ((10 * v) + ((fX3_here C) - 48)) (n + 1) (st C 10 7 (C.1 10 7 + 1)) (st N 100 18 (N.1 100 18 + 1)) (h.step lt) (by rw [st_at]; omega) h0 (by omega) (fun q => by omega) (by omega)
        refine ⟨fun q => ih.1 q, fun q => ?_⟩
        obtain ⟨i2, p, u, x1, x2, x3, x4⟩ := ih.2 q
        rw [st_st, st_at_ne _ _ _ _ (by decide)] at x1
        rw [st_st] at x2
        rw [st_at] at x3
        rw [st_at_ne _ _ _ _ (by decide)] at x4
        exact ⟨i2, p, u, x1, x2, by omega, x4⟩
theorem numX {C B : Mem} {i1 : Int32} (h : PX C (sX6_blanks B)) (hn : 0 ≤ (C.1 10 6).toInt ∧ (C.1 10 6).toInt < 120) : NumR C (sX6_blanks B) i1.toNatClampNeg (sX3_readNumber C) (sX6_takesNumber B i1) := by
  have e : sX6_takesNumber B i1 = wX6_takesNumber_11 i1 ((sX6_blanks B).1 100 18) 121 0 (sX6_blanks B) := by
    unfold sX6_takesNumber
    rfl
  rw [e]
  generalize sX6_blanks B = N at *
  have t := h.2.2.1
  unfold TM at t
  unfold sX3_readNumber
  by_cases fg : fX3_isFigure (fX3_here C) = 0
  · rw [if_pos fg, wX6_takesNumber_11, if_pos ((figAt h).mpr fg)]
    show NumR C N i1.toNatClampNeg (0, C) (if N.1 100 18 < ((st N 114 i1.toNatClampNeg 0).1 100 18) then _ else _)
    rw [st_ne _ _ _ (by decide), if_neg (by rw [lt_T]; omega), failsE]
    show NumR C N i1.toNatClampNeg (0, C) (if (0 : Int32) = 0 then (0, st (st N 114 i1.toNatClampNeg 0) 100 19 (N.1 100 18)) else (1, st (st N 114 i1.toNatClampNeg 0) 100 19 (N.1 100 18)))
    rw [if_pos rfl]
    refine num_no ?_ ?_
    · rw [st_at]; exact h.2.1
    · rw [st_at]; exact t.1
  · rw [if_neg fg, if_neg (by rw [below_iff, e120]; exact fun n => n hn)]
    exact numF i1 (N.1 100 18) 121 0 0 C N h (by show (0 : Int) = _; omega) t.1 ⟨by decide, by decide⟩ (fun _ => fg) (by decide)
/-- between orders: what has been read is alike -/
def PZ (C N : Mem) : Prop := PX C N ∧ C.1 10 5 = N.1 100 17 ∧ C.1 10 6 = frO N ∧ (∀ i : Nat, (i : Int) < (N.1 100 17).toInt → C.1 12 i = N.1 112 i ∧ C.1 13 i = N.1 113 i) ∧ (∀ i : Nat, (i : Int) < (frO N).toInt → C.1 14 i = N.1 114 i) ∧ OQ N 0
/-- within an order, k numbers read -/
def IO' (C N : Mem) (k : Int32) : Prop := PX C (sX6_blanks N) ∧ C.1 10 5 = N.1 100 17 ∧ C.1 10 6 = frO N + k ∧ (∀ i : Nat, (i : Int) ≤ (N.1 100 17).toInt → C.1 12 i = N.1 112 i ∧ C.1 13 i = N.1 113 i) ∧ (∀ i : Nat, (i : Int) < (frO N + k).toInt → C.1 14 i = N.1 114 i) ∧ TM N ∧ OQ N (1 + k.toInt)
def OrdR (x y : Int32 × Mem) : Prop := (y.1 = 0 → x.1 = 0 ∧ x.2.1 10 7 = y.2.1 100 19 ∧ 0 ≤ (y.2.1 100 19).toInt) ∧ (¬ y.1 = 0 → ¬ x.1 = 0 ∧ PZ x.2 y.2)
theorem ord_no {X Y : Mem} (e : X.1 10 7 = Y.1 100 19) (h : 0 ≤ (Y.1 100 19).toInt) : OrdR (0, X) (0, Y) := ⟨fun _ => ⟨rfl, e, h⟩, fun n => absurd rfl n⟩
theorem ordF (mn : Int32) (hm : mn.toInt ≤ 8) : ∀ (f : Nat) (k : Int32) (C N : Mem), IO' C N k → 0 ≤ k.toInt → k.toInt ≤ mn.toInt → (mn.toInt - k.toInt).toNat < f → OrdR (wX3_readOrder_69 mn f k C) (wX6_takesOrder_50 mn f k N)
  | 0, k, C, N, h, hk, hl, hf => by omega
  | f + 1, k, C, N, h, hk, hl, hf => by
    obtain ⟨h1, h2, h3, h4, h5, h6, h7⟩ := h
    have ai := at_in h6 hk h7
    rw [wX3_readOrder_69, wX6_takesOrder_50]
    obtain ⟨q, bq, q1, q2⟩ := bl_form h6
    have t1 := h1.2.2.1
    unfold TM at t1
    by_cases c : mn ≤ k
    · have ek : mn = k := by rw [fa_le] at c; rw [fa_eq]; omega
      rw [if_pos c, if_pos c]
      obtain ⟨M3, e3⟩ : ∃ M3, M3 = sX6_blanks N := ⟨_, rfl⟩
      rw [tk_eq e3]
      rw [← e3] at h1 t1
      have ii := is_iff h1 59 (by decide)
      by_cases d : fX3_here C = 59
      · rw [if_pos d, if_neg (fun n => (ii.mp n) d)]
        have lt : ¬ M3.1 100 6 ≤ M3.1 100 18 := fun n => by
          have := (hereV h1).1 n
          rw [d] at this
          exact absurd this (by decide)
        have ps := h1.step lt
        have l := le_nT lt
        have i18 := incT_ (x := M3.1 100 18) (by omega)
        rw [bq] at e3
        obtain ⟨M5, g5⟩ : ∃ M5, M5 = st C 10 7 (C.1 10 7 + 1) := ⟨_, rfl⟩
        obtain ⟨M6, g6⟩ : ∃ M6, M6 = st M5 10 5 (M5.1 10 5 + 1) := ⟨_, rfl⟩
        obtain ⟨A4, a4⟩ : ∃ A4, A4 = st M3 100 18 (M3.1 100 18 + 1) := ⟨_, rfl⟩
        obtain ⟨A5, a5⟩ : ∃ A5, A5 = st A4 100 17 (A4.1 100 17 + 1) := ⟨_, rfl⟩
        obtain ⟨A6, a6⟩ : ∃ A6, A6 = st A5 113 (A5.1 100 17).toNatClampNeg ((A5.1 113 (A5.1 100 17 - 1).toNatClampNeg) + mn) := ⟨_, rfl⟩
        rw [tk_eq g5, tk_eq g6, tk_eq a4, tk_eq a5, tk_eq a6]
        unfold OQ at h7
        have r17 : A4.1 100 17 = N.1 100 17 := by rw [a4, st_at_ne _ _ _ _ (by decide), e3, st_at_ne _ _ _ _ (by decide)]
        have s17 : A5.1 100 17 = N.1 100 17 + 1 := by rw [a5, st_at, r17]
        have r113 : A5.1 113 = N.1 113 := by rw [a5, st_ne _ _ _ (by decide), a4, st_ne _ _ _ (by decide), e3, st_ne _ _ _ (by decide)]
        have r6 : M3.1 100 6 = N.1 100 6 := by rw [e3, st_at_ne _ _ _ _ (by decide)]
        have h6' := h6
        unfold TM at h6'
        have i17 := incT_ (x := N.1 100 17) (by omega)
        have c17 := cl_T (x := N.1 100 17) (by omega)
        have d17 := cl_T (x := N.1 100 17 + 1) (by omega)
        rw [s17, r113, inc_dec] at a6
        have ef : N.1 113 (N.1 100 17).toNatClampNeg = frO N := rfl
        rw [ef, ek] at a6
        have f17 : A6.1 100 17 = N.1 100 17 + 1 := by rw [a6, st_ne _ _ _ (by decide)]; exact s17
        have f18 : A6.1 100 18 = M3.1 100 18 + 1 := by rw [a6, st_ne _ _ _ (by decide), a5, st_at_ne _ _ _ _ (by decide), a4, st_at]
        have ff : frO A6 = frO N + k := by unfold frO; rw [f17, a6, st_at]; rfl
        have n114 : A6.1 114 = N.1 114 := by rw [a6, st_ne _ _ _ (by decide), a5, st_ne _ _ _ (by decide), a4, st_ne _ _ _ (by decide), e3, st_ne _ _ _ (by decide)]
        have n112 : A6.1 112 = N.1 112 := by rw [a6, st_ne _ _ _ (by decide), a5, st_ne _ _ _ (by decide), a4, st_ne _ _ _ (by decide), e3, st_ne _ _ _ (by decide)]
        have kc : ∀ j, j ≠ 10 → M6.1 j = C.1 j := fun j hj => by rw [g6, st_ne _ _ _ hj, g5, st_ne _ _ _ hj]
        refine ⟨fun z => absurd z (show ¬ (1 : Int32) = 0 by decide), fun _ => ⟨show ¬ (1 : Int32) = 0 by decide, ?_, ?_, ?_, fun i hi => ?_, fun i hi => ?_, ?_⟩⟩
        · refine h1.pos (p := M3.1 100 18 + 1) (by omega) ?_ ?_ ?_ f18 ?_ ?_
          · rw [g6, st_at_ne _ _ _ _ (by decide), g5, st_at, h1.2.1]
          · rw [g6, st_at_ne _ _ _ _ (by decide), g5, st_at_ne _ _ _ _ (by decide)]
          · exact kc 11 (by decide)
          · rw [a6, st_ne _ _ _ (by decide), a5, st_at_ne _ _ _ _ (by decide), a4, st_at_ne _ _ _ _ (by decide)]
          · rw [a6, st_ne _ _ _ (by decide), a5, st_ne _ _ _ (by decide), a4, st_ne _ _ _ (by decide)]
        · show M6.1 10 5 = A6.1 100 17
          rw [f17, g6, st_at, g5, st_at_ne _ _ _ _ (by decide), h2]
        · show M6.1 10 6 = frO A6
          rw [ff, g6, st_at_ne _ _ _ _ (by decide), g5, st_at_ne _ _ _ _ (by decide), h3]
        · show M6.1 12 i = A6.1 112 i ∧ M6.1 13 i = A6.1 113 i
          rw [show (_, A6).2 = A6 from rfl, f17] at hi
          have z := h4 i (by omega)
          rw [kc 12 (by decide), kc 13 (by decide), n112, a6, st_at_ne _ _ _ _ (by omega), r113]
          exact z
        · show M6.1 14 i = A6.1 114 i
          rw [show (_, A6).2 = A6 from rfl, ff] at hi
          rw [kc 14 (by decide), n114]
          exact h5 i hi
        · show OQ A6 0
          have af := at_in h6 hk (by unfold OQ; exact h7)
          have m18 : (N.1 100 18).toInt ≤ (M3.1 100 18).toInt := by rw [e3, st_at]; exact q1
          unfold OQ
          rw [f17, ff, f18]
          have kk := hk
          have fk : (frO N + k).toInt = (frO N).toInt + k.toInt := by
            rw [fb_addI (by omega) (by omega)]
          omega
      · rw [if_neg d, if_pos (ii.mpr d), tk_eta, failsE]
        refine ord_no ?_ ?_
        · rw [st_at]; exact h1.2.1
        · rw [st_at]; exact t1.1
    · rw [if_neg c, if_neg c]
      have lt := le_nT c
      have ef : N.1 113 (N.1 100 17).toNatClampNeg = frO N := rfl
      rw [ef]
      obtain ⟨x7, e7⟩ : ∃ x7, x7 = sX3_readNumber C := ⟨_, rfl⟩
      obtain ⟨x8, e8⟩ : ∃ x8, x8 = sX6_takesNumber N (frO N + k) := ⟨_, rfl⟩
      rw [tk_eq e7, tk_eq e8]
      have nr := numX (i1 := frO N + k) h1 (by rw [h3]; exact ai)
      rw [← e7, ← e8] at nr
      by_cases z : x8.1 = 0
      · obtain ⟨n1, n2, n3⟩ := nr.1 z
        rw [if_pos z, if_pos n1]
        exact ord_no n2 n3
      · obtain ⟨n1, p, v, y1, y2, y3, y4⟩ := nr.2 z
        rw [if_neg z, if_neg n1]
        have tn := to_next h6 hk h7 hm hf e8 z c
        obtain ⟨M8, e9⟩ : ∃ M8, M8 = sX3_skipBlanks x7.2 := ⟨_, rfl⟩
        rw [tk_eq e9]
        have ik := incT_ (x := k) (by omega)
        refine ordF mn hm f (k + 1) M8 x8.2 ?_ tn.2.2.1 (by omega) tn.1
        rw [bq] at y2
        have px : PX x7.2 x8.2 := by
          refine h1.pos (p := p) (by omega) ?_ ?_ ?_ ?_ ?_ ?_
          · rw [y1, st_at_ne _ _ _ _ (by decide), st_ne _ _ _ (by decide), st_at]
          · rw [y1, st_at_ne _ _ _ _ (by decide), st_ne _ _ _ (by decide), st_at_ne _ _ _ _ (by decide)]
          · rw [y1, st_ne _ _ _ (by decide), st_ne _ _ _ (by decide), st_ne _ _ _ (by decide)]
          · rw [y2, st_ne _ _ _ (by decide), st_at]
          · rw [y2, st_ne _ _ _ (by decide), st_at_ne _ _ _ _ (by decide), bq]
          · rw [y2, st_ne _ _ _ (by decide), st_ne _ _ _ (by decide), bq]
        obtain ⟨r, b1, b2, b3, b4⟩ := bl2 px
        have pb := bl_PX px
        rw [← e9] at pb
        rw [b1] at e9
        have n17 : x8.2.1 100 17 = N.1 100 17 := by rw [y2, st_ne _ _ _ (by decide), st_at_ne _ _ _ _ (by decide), st_at_ne _ _ _ _ (by decide)]
        have n113 : x8.2.1 113 = N.1 113 := by rw [y2, st_ne _ _ _ (by decide), st_ne _ _ _ (by decide), st_ne _ _ _ (by decide)]
        have n112 : x8.2.1 112 = N.1 112 := by rw [y2, st_ne _ _ _ (by decide), st_ne _ _ _ (by decide), st_ne _ _ _ (by decide)]
        have n114 : x8.2.1 114 = upd (N.1 114) (frO N + k).toNatClampNeg v := by rw [y2, st_row, st_ne _ _ _ (by decide), st_ne _ _ _ (by decide)]
        have fr : frO x8.2 = frO N := by unfold frO; rw [n17, n113]
        have m14 : M8.1 14 = upd (C.1 14) (frO N + k).toNatClampNeg v := by rw [e9, st_ne _ _ _ (by decide), y1, st_ne _ _ _ (by decide), st_row, st_ne _ _ _ (by decide), h3]
        have kc : ∀ j, j ≠ 10 → j ≠ 14 → M8.1 j = C.1 j := fun j j1 j2 => by rw [e9, st_ne _ _ _ j1, y1, st_ne _ _ _ j1, st_ne _ _ _ j2, st_ne _ _ _ j1]
        have ck := cl_T ai.1
        have ea : frO N + (k + 1) = frO N + k + 1 := by rw [Int32.add_assoc]
        have ia := incT_ (x := frO N + k) (by omega)
        refine ⟨pb, ?_, ?_, fun i hi => ?_, fun i hi => ?_, tn.2.1, tn.2.2.2⟩
        · rw [n17, e9, st_at_ne _ _ _ _ (by decide), y1, st_at_ne _ _ _ _ (by decide), st_ne _ _ _ (by decide), st_at_ne _ _ _ _ (by decide)]; exact h2
        · rw [fr, ea, e9, st_at_ne _ _ _ _ (by decide), y1, st_at, h3]
        · rw [n17] at hi
          rw [kc 12 (by decide) (by decide), kc 13 (by decide) (by decide), n112, n113]
          exact h4 i hi
        · rw [fr, ea, ia] at hi
          rw [m14, n114]
          by_cases ei : i = (frO N + k).toNatClampNeg
          · rw [ei, pk_us, pk_us]
          · rw [pk_un ei, pk_un ei]
            exact h5 i (by omega)
