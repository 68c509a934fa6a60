theorem manyE (c : Int32) : fX3_numbersWanted c = fX6_manyOf c := by
  unfold fX3_numbersWanted fX6_manyOf
  by_cases a : c = 98
  · rw [if_pos a, if_pos a]
  · rw [if_neg a, if_neg a]
    by_cases b : c = 99
    · subst b
      rfl
    · rw [if_neg b]
      by_cases d : c = 101
      · rw [if_pos d, if_pos d]
      · rw [if_neg d, if_neg d]
        by_cases e : c = 108
        · rw [if_pos e, if_pos e]
        · rw [if_neg e, if_neg e]
          by_cases g : c = 114
          · rw [if_pos g, if_pos g]
          · rw [if_neg g, if_neg g, if_neg b]
theorem ordX {C N : Mem} (h : PZ C N) (lt : ¬ N.1 100 6 ≤ N.1 100 18) : OrdR (sX3_readOrder C) (sX6_takesOrder N) := by
  obtain ⟨h1, h2, h3, h4, h5, h6⟩ := h
  have hT := h1.2.2.1
  have t := hT
  unfold TM at t
  have hv := (hereV h1).2 lt
  have l := le_nT lt
  unfold sX3_readOrder sX6_takesOrder
  obtain ⟨ch, ec⟩ : ∃ ch, ch = fX3_here C := ⟨_, rfl⟩
  have em : ch = N.1 105 (N.1 100 18).toNatClampNeg := ec.trans hv.1
  rw [← ec] at hv
  obtain ⟨mn, e⟩ : ∃ mn, mn = fX6_manyOf ch := ⟨_, rfl⟩
  have ew : mn = fX3_numbersWanted ch := by rw [manyE]; exact e
  rw [tk_eq ec, tk_eq em, tk_eq ew, tk_eq e]
  by_cases z : mn = -1
  · rw [if_pos z, if_neg (by rw [z]; decide), tk_eta, failsE]
    exact ord_no (by rw [st_at]; exact h1.2.1) (by rw [st_at]; exact t.1)
  · have mr : 0 ≤ mn.toInt ∧ mn.toInt ≤ 8 := by
      rcases many_rng ch with q | q
      · rw [← e] at q; exact absurd q z
      · rw [← e] at q; exact q
    have q6 := h6
    unfold OQ at q6
    have b60 : ¬ fX5_isBelow (C.1 10 5) 60 = 0 := by
      rw [below_iff, h2]
      have : (60 : Int32).toInt = 60 := rfl
      omega
    rw [if_neg z, if_neg b60, if_pos (by rw [fa_le]; exact mr.1)]
    obtain ⟨M1, g1⟩ : ∃ M1, M1 = st C 12 (C.1 10 5).toNatClampNeg (vp_nar .byte ch.toInt8.toInt32) := ⟨_, rfl⟩
    obtain ⟨M2, g2⟩ : ∃ M2, M2 = st M1 13 (M1.1 10 5).toNatClampNeg (M1.1 10 6) := ⟨_, rfl⟩
    obtain ⟨M3, g3⟩ : ∃ M3, M3 = st M2 10 7 (M2.1 10 7 + 1) := ⟨_, rfl⟩
    obtain ⟨M4, g4⟩ : ∃ M4, M4 = sX3_skipBlanks M3 := ⟨_, rfl⟩
    obtain ⟨A1, a1⟩ : ∃ A1, A1 = st N 112 (N.1 100 17).toNatClampNeg ch := ⟨_, rfl⟩
    obtain ⟨A2, a2⟩ : ∃ A2, A2 = st A1 100 18 (A1.1 100 18 + 1) := ⟨_, rfl⟩
    rw [tk_eq g1, tk_eq g2, tk_eq g3, tk_eq g4, tk_eq a1, tk_eq a2]
    have st2 := to_start hT h6 lt a1 a2
    rw [nar_b hv.2] at g1
    have m5 : M1.1 10 5 = N.1 100 17 := by rw [g1, st_ne _ _ _ (by decide)]; exact h2
    have m6 : M1.1 10 6 = frO N := by rw [g1, st_ne _ _ _ (by decide)]; exact h3
    rw [m5, m6] at g2
    rw [h2] at g1
    have p18 : A1.1 100 18 = N.1 100 18 := by rw [a1, st_ne _ _ _ (by decide)]
    have i18 := incT_ (x := N.1 100 18) (by omega)
    have px : PX M3 A2 := by
      refine h1.pos (p := N.1 100 18 + 1) (by omega) ?_ ?_ ?_ ?_ ?_ ?_
      · rw [g3, st_at, g2, st_ne _ _ _ (by decide), g1, st_ne _ _ _ (by decide), h1.2.1]
      · rw [g3, st_at_ne _ _ _ _ (by decide), g2, st_ne _ _ _ (by decide), g1, st_ne _ _ _ (by decide)]
      · rw [g3, st_ne _ _ _ (by decide), g2, st_ne _ _ _ (by decide), g1, st_ne _ _ _ (by decide)]
      · rw [a2, st_at, p18]
      · rw [a2, st_at_ne _ _ _ _ (by decide), a1, st_ne _ _ _ (by decide)]
      · rw [a2, st_ne _ _ _ (by decide), a1, st_ne _ _ _ (by decide)]
    have pb := bl_PX px
    rw [← g4] at pb
    obtain ⟨r, b1, b2, b3, b4⟩ := bl2 px
    rw [b1] at g4
    have n17 : A2.1 100 17 = N.1 100 17 := by rw [a2, st_at_ne _ _ _ _ (by decide), a1, st_ne _ _ _ (by decide)]
    have n113 : A2.1 113 = N.1 113 := by rw [a2, st_ne _ _ _ (by decide), a1, st_ne _ _ _ (by decide)]
    have n114 : A2.1 114 = N.1 114 := by rw [a2, st_ne _ _ _ (by decide), a1, st_ne _ _ _ (by decide)]
    have n112 : A2.1 112 = upd (N.1 112) (N.1 100 17).toNatClampNeg ch := by rw [a2, st_ne _ _ _ (by decide), a1, st_row]
    have fr : frO A2 = frO N := by unfold frO; rw [n17, n113]
    have c12 : M4.1 12 = upd (C.1 12) (N.1 100 17).toNatClampNeg ch := by rw [g4, st_ne _ _ _ (by decide), g3, st_ne _ _ _ (by decide), g2, st_ne _ _ _ (by decide), g1, st_row]
    have c13 : M4.1 13 = upd (C.1 13) (N.1 100 17).toNatClampNeg (frO N) := by rw [g4, st_ne _ _ _ (by decide), g3, st_ne _ _ _ (by decide), g2, st_row, g1, st_ne _ _ _ (by decide)]
    have c14 : M4.1 14 = C.1 14 := by rw [g4, st_ne _ _ _ (by decide), g3, st_ne _ _ _ (by decide), g2, st_ne _ _ _ (by decide), g1, st_ne _ _ _ (by decide)]
    have cl := cl_T q6.1
    refine ordF mn mr.2 9 0 M4 A2 ⟨pb, ?_, ?_, fun i hi => ?_, fun i hi => ?_, st2.1, st2.2⟩ (by decide) mr.1 ?_
    · rw [n17, g4, st_at_ne _ _ _ _ (by decide), g3, st_at_ne _ _ _ _ (by decide), g2, st_ne _ _ _ (by decide), g1, st_ne _ _ _ (by decide)]; exact h2
    · rw [fr, Int32.add_zero, g4, st_at_ne _ _ _ _ (by decide), g3, st_at_ne _ _ _ _ (by decide), g2, st_ne _ _ _ (by decide), g1, st_ne _ _ _ (by decide)]; exact h3
    · rw [n17] at hi
      rw [c12, c13, n112, n113]
      by_cases ei : i = (N.1 100 17).toNatClampNeg
      · rw [ei, pk_us, pk_us, pk_us]
        exact ⟨rfl, rfl⟩
      · rw [pk_un ei, pk_un ei, pk_un ei]
        exact h4 i (by omega)
    · rw [fr, Int32.add_zero] at hi
      rw [c14, n114]
      exact h5 i hi
    · have : (0 : Int32).toInt = 0 := rfl
      omega
theorem bl_PZ {C N : Mem} (h : PZ C N) : PZ (sX3_skipBlanks C) (sX6_blanks N) := by
  obtain ⟨h1, h2, h3, h4, h5, h6⟩ := h
  have pb := bl_PX h1
  obtain ⟨p, e1, e2, e3, e4⟩ := bl2 h1
  rw [e1, e2] at pb ⊢
  have n17 : (st N 100 18 p).1 100 17 = N.1 100 17 := st_at_ne _ _ _ _ (by decide)
  have kn : ∀ j, j ≠ 100 → (st N 100 18 p).1 j = N.1 j := fun j hj => st_ne _ _ _ hj
  have kc : ∀ j, j ≠ 10 → (st C 10 7 p).1 j = C.1 j := fun j hj => st_ne _ _ _ hj
  have fr : frO (st N 100 18 p) = frO N := by unfold frO; rw [n17, kn 113 (by decide)]
  refine ⟨pb, ?_, ?_, fun i hi => ?_, fun i hi => ?_, ?_⟩
  · rw [n17, st_at_ne _ _ _ _ (by decide)]; exact h2
  · rw [fr, st_at_ne _ _ _ _ (by decide)]; exact h3
  · rw [n17] at hi
    rw [kc 12 (by decide), kc 13 (by decide), kn 112 (by decide), kn 113 (by decide)]
    exact h4 i hi
  · rw [fr] at hi
    rw [kc 14 (by decide), kn 114 (by decide)]
    exact h5 i hi
  · unfold OQ at *
    rw [n17, fr, st_at]
    omega
def RdR (x y : Int32 × Mem) : Prop := (y.1 = 0 → x.1 = y.2.1 100 19 ∧ 0 ≤ (y.2.1 100 19).toInt) ∧ (¬ y.1 = 0 → x.1 = -1 ∧ PZ x.2 y.2)
theorem rdF : ∀ (f g : Nat) (n : Int32) (C N : Mem), PZ C N → ¬ N.1 100 6 ≤ N.1 100 18 → n = N.1 100 17 → (60 - n.toInt).toNat < f → muM N < g → RdR (wX3_readOrders_21 f n C) (wX6_isRead_21 g N)
  | 0, _, n, C, N, _, _, _, hf, _ => by omega
  | _ + 1, 0, n, C, N, _, _, _, _, hg => by omega
  | f + 1, g + 1, n, C, N, h, lt, hn, hf, hg => by
    have hT := h.1.2.2.1
    have hO := h.2.2.2.2.2
    have t := hT
    have o := hO
    unfold TM at t
    unfold OQ at o
    have l := le_nT lt
    have e60 : (60 : Int32).toInt = 60 := rfl
    have nT : n.toInt = (N.1 100 17).toInt := by rw [hn]
    rw [wX3_readOrders_21, wX6_isRead_21, if_neg (show ¬ 60 ≤ n by rw [fa_le, e60]; omega), if_neg lt]
    obtain ⟨x5, e5'⟩ : ∃ x5, x5 = sX3_readOrder C := ⟨_, rfl⟩
    obtain ⟨x6, e6'⟩ : ∃ x6, x6 = sX6_takesOrder N := ⟨_, rfl⟩
    rw [tk_eq e5', tk_eq e6']
    have od := ordX h lt
    rw [← e5', ← e6'] at od
    by_cases z : x6.1 = 0
    · obtain ⟨z1, z2, z3⟩ := od.1 z
      rw [if_pos z, if_pos z1]
      exact ⟨fun _ => ⟨z2, z3⟩, fun q => absurd rfl q⟩
    · obtain ⟨z1, pz⟩ := od.2 z
      rw [if_neg z, if_neg z1]
      obtain ⟨M6, e6⟩ : ∃ M6, M6 = sX3_skipBlanks x5.2 := ⟨_, rfl⟩
      obtain ⟨M7, e7⟩ : ∃ M7, M7 = sX6_blanks x6.2 := ⟨_, rfl⟩
      rw [tk_eq e6, tk_eq e7]
      have pz' := bl_PZ pz
      rw [← e6, ← e7] at pz'
      have nx := ir_next hg hT hO lt e6' z e7
      have pr := (pr_to hT hO lt).1
      rw [← e6'] at pr
      obtain ⟨ch, _, _, _, e17⟩ := pr z
      obtain ⟨p, eb, _, _⟩ := bl_form pz.1.2.2.1
      have m17 : M7.1 100 17 = N.1 100 17 + 1 := by rw [e7, eb, st_at_ne _ _ _ _ (by decide)]; exact e17
      have i17 := incT_ (x := N.1 100 17) (by omega)
      have lt7 : (M6.1 10 7 < M6.1 10 4) ↔ ¬ M7.1 100 6 ≤ M7.1 100 18 := by
        rw [pz'.1.1, pz'.1.2.1, fa_lt, fa_le]
        omega
      by_cases d : M6.1 10 7 < M6.1 10 4
      · rw [if_pos d]
        have in1 := incT_ (x := n) (by omega)
        exact rdF f g (n + 1) M6 M7 pz' (lt7.mp d) (by rw [m17, hn]) (by omega) nx.1
      · rw [if_neg d]
        cases g with
        | zero => exact absurd nx.1 (Nat.not_lt_zero _)
        | succ g =>
          have le7 : M7.1 100 6 ≤ M7.1 100 18 := nn (fun q => d (lt7.mpr q))
          rw [wX6_isRead_21, if_pos le7, if_pos (show 0 < M7.1 100 17 by rw [m17, fa_lt]; show (0 : Int) < _; omega)]
          exact ⟨fun q => absurd q (show ¬ (1 : Int32) = 0 by decide), fun _ => ⟨rfl, pz'⟩⟩
theorem rdX {C N : Mem} (h6 : C.1 10 4 = N.1 100 6 ∧ 0 ≤ (N.1 100 6).toInt ∧ (N.1 100 6).toInt ≤ 120) (h7 : ∀ k : Nat, (k : Int) < (N.1 100 6).toInt → C.1 11 k = N.1 105 k ∧ 0 ≤ (N.1 105 k).toInt ∧ (N.1 105 k).toInt < 128) : RdR (sX3_readOrders C) (sX6_isRead N) := by
  unfold sX3_readOrders sX6_isRead
  obtain ⟨M1, g1⟩ : ∃ M1, M1 = st C 10 5 0 := ⟨_, rfl⟩
  obtain ⟨M2, g2⟩ : ∃ M2, M2 = st M1 10 6 0 := ⟨_, rfl⟩
  obtain ⟨M3, g3⟩ : ∃ M3, M3 = st M2 10 7 0 := ⟨_, rfl⟩
  obtain ⟨M4, g4⟩ : ∃ M4, M4 = sX3_skipBlanks M3 := ⟨_, rfl⟩
  obtain ⟨A1, a1⟩ : ∃ A1, A1 = st N 100 18 0 := ⟨_, rfl⟩
  obtain ⟨A2, a2⟩ : ∃ A2, A2 = st A1 100 17 0 := ⟨_, rfl⟩
  obtain ⟨A3, a3⟩ : ∃ A3, A3 = st A2 113 0 0 := ⟨_, rfl⟩
  obtain ⟨A4, a4⟩ : ∃ A4, A4 = sX6_blanks A3 := ⟨_, rfl⟩
  rw [tk_eq g1, tk_eq g2, tk_eq g3, tk_eq g4, tk_eq a1, tk_eq a2, tk_eq a3, tk_eq a4]
  have is := ir_start h6.2 a1 a2 a3 (M4 := A4)
  have n6 : A3.1 100 6 = N.1 100 6 := by rw [a3, st_ne _ _ _ (by decide), a2, st_at_ne _ _ _ _ (by decide), a1, st_at_ne _ _ _ _ (by decide)]
  have n105 : A3.1 105 = N.1 105 := by rw [a3, st_ne _ _ _ (by decide), a2, st_ne _ _ _ (by decide), a1, st_ne _ _ _ (by decide)]
  have n18 : A3.1 100 18 = 0 := by rw [a3, st_ne _ _ _ (by decide), a2, st_at_ne _ _ _ _ (by decide), a1, st_at]
  have n17 : A3.1 100 17 = 0 := by rw [a3, st_ne _ _ _ (by decide), a2, st_at]
  have fr : frO A3 = 0 := by unfold frO; rw [n17, a3]; exact st_at _ _ _ _
  have c4 : M3.1 10 4 = C.1 10 4 := by rw [g3, st_at_ne _ _ _ _ (by decide), g2, st_at_ne _ _ _ _ (by decide), g1, st_at_ne _ _ _ _ (by decide)]
  have c11 : M3.1 11 = C.1 11 := by rw [g3, st_ne _ _ _ (by decide), g2, st_ne _ _ _ (by decide), g1, st_ne _ _ _ (by decide)]
  have c7 : M3.1 10 7 = 0 := by rw [g3, st_at]
  have c6 : M3.1 10 6 = 0 := by rw [g3, st_at_ne _ _ _ _ (by decide), g2, st_at]
  have c5 : M3.1 10 5 = 0 := by rw [g3, st_at_ne _ _ _ _ (by decide), g2, st_at_ne _ _ _ _ (by decide), g1, st_at]
  have z0 : (0 : Int32).toInt = 0 := rfl
  have pz : PZ M3 A3 := by
    refine ⟨⟨by rw [c4, n6]; exact h6.1, by rw [c7, n18], is.1, by rw [c11, n6, n105]; exact h7⟩, by rw [c5, n17], by rw [c6, fr], fun i hi => ?_, fun i hi => ?_, is.2⟩
    · rw [n17, z0] at hi; omega
    · rw [fr, z0] at hi; omega
  have pz4 := bl_PZ pz
  rw [← g4, ← a4] at pz4
  obtain ⟨p, eb, _, _⟩ := bl_form is.1
  have m17 : A4.1 100 17 = 0 := by rw [a4, eb, st_at_ne _ _ _ _ (by decide)]; exact n17
  have tm := pz4.1.2.2.1
  by_cases lt : A4.1 100 6 ≤ A4.1 100 18
  · have hv := (hereV pz4.1).1 lt
    have er : sX3_readOrder M4 = (0, M4) := by
      unfold sX3_readOrder
      rw [tk_eq hv.symm]
      rfl
    have ex : wX3_readOrders_21 61 0 M4 = (M4.1 10 7, M4) := by
      rw [wX3_readOrders_21, if_neg (show ¬ (60 : Int32) ≤ 0 by decide), tk_eq er.symm]
      exact if_pos rfl
    have ey : wX6_isRead_21 121 A4 = (0, st A4 100 19 (A4.1 100 6)) := by
      rw [wX6_isRead_21, if_pos lt, if_neg (show ¬ 0 < A4.1 100 17 by rw [m17]; decide), failsE, tk_eq (rfl : ((0 : Int32), st A4 100 19 (A4.1 100 6)) = (0, st A4 100 19 (A4.1 100 6)))]
      exact if_pos rfl
    rw [ex, ey]
    refine ⟨fun _ => ⟨?_, ?_⟩, fun q => absurd rfl q⟩
    · show M4.1 10 7 = (st A4 100 19 (A4.1 100 6)).1 100 19
      rw [st_at, pz4.1.2.1, fa_eq]
      rw [fa_le] at lt
      unfold TM at tm
      omega
    · show 0 ≤ ((st A4 100 19 (A4.1 100 6)).1 100 19).toInt
      rw [st_at]
      unfold TM at tm
      omega
  · exact rdF 61 121 0 M4 A4 pz4 lt m17.symm (by decide) tm.mu
/-- the class's memory but for what reading the text writes -/
def K4 (A M' : Mem) : Prop := (∀ j, j ≠ 10 → j ≠ 12 → j ≠ 13 → j ≠ 14 → M'.1 j = A.1 j) ∧ M'.1 10 4 = A.1 10 4 ∧ M'.2 = A.2
def K42 (A : Mem) (u : Int32 × Mem) : Prop := K4 A u.2
theorem K4.rf {M : Mem} : K4 M M := ⟨fun _ _ _ _ _ => rfl, rfl, rfl⟩
theorem K4.trans {A B C : Mem} (h : K4 A B) (g : K4 B C) : K4 A C := ⟨fun j a b c d => (g.1 j a b c d).trans (h.1 j a b c d), g.2.1.trans h.2.1, g.2.2.trans h.2.2⟩
theorem k4_c {A B : Mem} (h : KTC A B) : K4 A B := ⟨fun j a _ _ d => h.1 j a d, h.2.1 4 (by decide) (by decide), h.2.2⟩
theorem k4_st {M : Mem} {j k : Nat} {v : Int32} (h : (j = 10 ∧ k ≠ 4) ∨ j = 12 ∨ j = 13 ∨ j = 14) : K4 M (st M j k v) := by
  refine ⟨fun i a b c d => st_ne _ _ _ (by omega), ?_, rfl⟩
  by_cases e : j = 10
  · subst e
    exact st_at_ne _ _ _ _ (by omega)
  · rw [st_ne _ _ _ (fun q => e q.symm)]
theorem k4F_readOrder (wn : Int32) (hm : wn.toInt ≤ 8) : ∀ (f : Nat) (k : Int32) (A : Mem), TC A → 0 ≤ k.toInt → K42 A (wX3_readOrder_69 wn f k A)
  | 0, k, A, _, _ => K4.rf
  | f + 1, k, A, hT, hk => by
    rw [wX3_readOrder_69]
    refine ite_ind (P := K42 A) (fun c => ?_) (fun c => ?_)
    · refine ite_ind (P := K42 A) (fun c2 => ?_) (fun c2 => K4.rf)
      refine tk_ind (P := K42 A) _ _ (fun M5 h5 => ?_)
      refine tk_ind (P := K42 A) _ _ (fun M6 h6 => ?_)
      exact (show K4 A M6 from K4.trans (B := M5) (by rw [h5]; exact k4_st (by omega)) (by rw [h6]; exact k4_st (by omega)))
    · refine tk_ind (P := K42 A) _ _ (fun x h => ?_)
      have hp := rn_post hT
      rw [← h] at hp
      refine ite_ind (P := K42 A) (fun c2 => k4_c hp.1) (fun c2 => ?_)
      refine tk_ind (P := K42 A) _ _ (fun M8 h8 => ?_)
      have hn := roF_next (f := (wn.toInt - k.toInt).toNat) hT hm hk (Nat.lt_succ_self _) h h8 c
      have k8 := k4_c (sk_K hp.2)
      rw [← h8] at k8
      exact (show K4 A _ from K4.trans (k4_c hp.1) (K4.trans k8 (k4F_readOrder wn hm f (k + 1) M8 hn.2.1 hn.2.2)))
theorem k4_readOrder {M : Mem} (hT : TC M) : K42 M (sX3_readOrder M) := by
  unfold sX3_readOrder
  refine tk_ind (P := K42 M) _ _ (fun ch hch => ?_)
  refine tk_ind (P := K42 M) _ _ (fun wn hwn => ?_)
  refine ite_ind (P := K42 M) (fun c => K4.rf) (fun c => ?_)
  refine ite_ind (P := K42 M) (fun c2 => K4.rf) (fun c2 => ?_)
  refine tk_ind (P := K42 M) _ _ (fun M1 h1 => ?_)
  refine tk_ind (P := K42 M) _ _ (fun M2 h2 => ?_)
  refine tk_ind (P := K42 M) _ _ (fun M3 h3 => ?_)
  refine tk_ind (P := K42 M) _ _ (fun M4 h4 => ?_)
  have hwr : 0 ≤ wn.toInt ∧ wn.toInt ≤ 8 := by
    rcases wanted_rng ch with q | q
    · rw [← hwn] at q; exact absurd q c
    · rw [← hwn] at q; exact q
  have t3 := roc_start hT (wanted_here (by rw [← hch, ← hwn]; exact c)) h1 h2 h3
  have t := sk_TC t3
  have k4 := k4_c (sk_K t3)
  rw [← h4] at t k4
  have k1 : K4 M M1 := by rw [h1]; exact k4_st (by omega)
  have k2 : K4 M1 M2 := by rw [h2]; exact k4_st (by omega)
  have k3 : K4 M2 M3 := by rw [h3]; exact k4_st (by omega)
  exact (show K4 M _ from K4.trans k1 (K4.trans k2 (K4.trans k3 (K4.trans k4 (k4F_readOrder wn hwr.2 9 0 M4 t (by decide))))))
theorem k4F_readOrders : ∀ (f : Nat) (n : Int32) (A : Mem), TC A → K42 A (wX3_readOrders_21 f n A)
  | 0, n, A, _ => K4.rf
  | f + 1, n, A, hT => by
    rw [wX3_readOrders_21]
    refine ite_ind (P := K42 A) (fun c => K4.rf) (fun c => ?_)
    refine tk_ind (P := K42 A) _ _ (fun x h => ?_)
    have hk := k4_readOrder hT
    have hp := ro_post hT
    rw [← h] at hk hp
    refine ite_ind (P := K42 A) (fun c2 => hk) (fun c2 => ?_)
    refine tk_ind (P := K42 A) _ _ (fun M6 h6 => ?_)
    have k6 := k4_c (sk_K (hp c2))
    have t6 := sk_TC (hp c2)
    rw [← h6] at k6 t6
    refine ite_ind (P := K42 A) (fun c3 => ?_) (fun c3 => ?_)
    · exact (show K4 A _ from K4.trans hk (K4.trans k6 (k4F_readOrders f (n + 1) M6 t6)))
    · exact (show K4 A _ from K4.trans hk k6)
theorem k4_ros {M : Mem} (hy : 0 ≤ (M.1 10 4).toInt ∧ (M.1 10 4).toInt ≤ 120) : K42 M (sX3_readOrders M) := by
  unfold sX3_readOrders
  refine tk_ind (P := K42 M) _ _ (fun M1 h1 => ?_)
  refine tk_ind (P := K42 M) _ _ (fun M2 h2 => ?_)
  refine tk_ind (P := K42 M) _ _ (fun M3 h3 => ?_)
  refine tk_ind (P := K42 M) _ _ (fun M4 h4 => ?_)
  have t3 := ros_start hy h1 h2 h3
  have t := sk_TC t3
  have k4 := k4_c (sk_K t3)
  rw [← h4] at t k4
  have k1 : K4 M M1 := by rw [h1]; exact k4_st (by omega)
  have k2 : K4 M1 M2 := by rw [h2]; exact k4_st (by omega)
  have k3 : K4 M2 M3 := by rw [h3]; exact k4_st (by omega)
  exact (show K4 M _ from K4.trans k1 (K4.trans k2 (K4.trans k3 (K4.trans k4 (k4F_readOrders 61 0 M4 t)))))
