/-! ===== the class learns, reads, chains, peels ===== -/
theorem tk3 (M : Mem) (p q : Nat) : KF2 (fun x => x = 3) M (sX4_tells M p q) := by
  unfold sX4_tells
  refine tk_ind (P := KF2 (fun x => x = 3) M) _ _ (fun x1 h1 => ?_)
  refine tk_ind (P := KF2 (fun x => x = 3) M) _ _ (fun x2 h2 => ?_)
  refine tk_ind (P := KF2 (fun x => x = 3) M) _ _ (fun x3 h3 => ?_)
  refine tk_ind (P := KF2 (fun x => x = 3) M) _ _ (fun x4 h4 => ?_)
  refine ite_ind (P := KF2 (fun x => x = 3) M) (fun _ => KF.rf) (fun _ => ?_)
  refine ite_ind (P := KF2 (fun x => x = 3) M) (fun _ => KF.rf) (fun _ => ?_)
  refine tk_ind (P := KF2 (fun x => x = 3) M) _ _ (fun x5 h5 => ?_)
  refine tk_ind (P := KF2 (fun x => x = 3) M) _ _ (fun x6 h6 => ?_)
  refine tk_ind (P := KF2 (fun x => x = 3) M) _ _ (fun M7 h7 => ?_)
  have k := kfX0_fill M 3 (fX1_plus (M.1 p 0) (fX1_over x5 x3)) (fX1_plus (M.1 p 9) (fX1_over (fX1_times (M.1 p 11) (M.1 q 1)) x4)) (fX1_plus (M.1 p 3) (fX1_over (fX1_times (M.1 p 5) (M.1 q 2)) x3)) (fX1_plus (M.1 p 6) (fX1_over x6 x4))
  rw [← h7] at k
  exact k
theorem sk4 (M : Mem) (q : Nat) : KF2 (fun x => x = 4) M (sX4_strip M q) := by
  unfold sX4_strip
  refine ite_ind (P := KF2 (fun x => x = 4) M) (fun _ => KF.rf) (fun _ => ?_)
  refine ite_ind (P := KF2 (fun x => x = 4) M) (fun _ => KF.rf) (fun _ => ?_)
  refine ite_ind (P := KF2 (fun x => x = 4) M) (fun _ => KF.rf) (fun _ => ?_)
  refine ite_ind (P := KF2 (fun x => x = 4) M) (fun _ => KF.rf) (fun _ => ?_)
  refine tk_ind (P := KF2 (fun x => x = 4) M) _ _ (fun M7 h7 => ?_)
  have k := kfX0_fill M 4 (fX1_over (fX1_minus (M.1 3 0) (M.1 q 0)) (M.1 q 2)) (fX1_over (fX1_minus (M.1 3 1) (M.1 q 9)) (M.1 q 11)) (fX1_over (fX1_minus (M.1 3 2) (M.1 q 3)) (M.1 q 5)) (fX1_over (fX1_minus (M.1 3 3) (M.1 q 6)) (M.1 q 8))
  rw [← h7] at k
  exact k
/-- ends broken, or with what G says -/
def LPq (bad : Prop) (G : Mem → Prop) (u : Int32 × Mem) : Prop := (u.1 = 0 ↔ bad) ∧ (¬ bad → G u.2)
theorem lp_no {b : Prop} {G : Mem → Prop} {u : Int32 × Mem} (h : b) (hu : u.1 = 0) : LPq b G u := ⟨⟨fun _ => h, fun _ => hu⟩, fun q => absurd h q⟩
theorem lp_no' {b : Prop} {G : Mem → Prop} {M : Mem} (h : b) : LPq b G (0, M) := lp_no h rfl
theorem lp_yes {b : Prop} {G : Mem → Prop} {M : Mem} (h : ¬ b) (q : G M) : LPq b G (1, M) := ⟨⟨fun c => absurd c (show ¬ (1 : Int32) = 0 by decide), fun c => absurd c h⟩, fun _ => q⟩
/-- what the bench tells of a standard -/
theorem tellsStd {M M1 : Mem} {x : Int32 × Mem} {q : Nat} {e : Nat → Int32} {a b c d : Int32} (hq : 16 ≤ q) (he : tr 12 (M.1 q) = e) (h1 : M1 = sX0_fill M 2 a b c d) (hx : x = sX4_tells M1 q 2) : CP 3 4 (TB e (s4 a b c d)) (tlV e (s4 a b c d)) x ∧ (∀ i, i ≠ 2 → i ≠ 3 → x.2.1 i = M.1 i) := by
  have k1 := kfX0_fill M 2 a b c d
  rw [← h1] at k1
  have k2 := tk3 M1 q 2
  rw [← hx] at k2
  have f := fillV M 2 a b c d
  rw [← h1] at f
  have t := cTl' (M := M1) (p := q) (q := 2) (e := e) (by rw [k1.1 q (by omega)]; exact he) f
  rw [← hx] at t
  exact ⟨t, fun i h2 h3 => by rw [k2.1 i h3, k1.1 i h2]⟩
theorem cLoad {M : Mem} {q : Nat} {e : Nat → Int32} (hq : 16 ≤ q) (he : tr 12 (M.1 q) = e) : LPq (TB e sd0) (fun X => X.1 9 0 = lq0 e ∧ X.1 9 3 = lq3 e ∧ X.1 9 6 = lq6 e ∧ X.1 9 9 = lq9 e) (sX4_learnLoad M q) := by
  unfold sX4_learnLoad
  refine tk_ind (P := LPq (TB e sd0) (fun X => X.1 9 0 = lq0 e ∧ X.1 9 3 = lq3 e ∧ X.1 9 6 = lq6 e ∧ X.1 9 9 = lq9 e)) _ _ (fun M1 h1 => ?_)
  refine tk_ind (P := LPq (TB e sd0) (fun X => X.1 9 0 = lq0 e ∧ X.1 9 3 = lq3 e ∧ X.1 9 6 = lq6 e ∧ X.1 9 9 = lq9 e)) _ _ (fun x2 h2 => ?_)
  have t := tellsStd hq he h1 h2
  have t1 : CP 3 4 (TB e sd0) (tlV e sd0) x2 := t.1
  refine ite_ind (P := LPq (TB e sd0) (fun X => X.1 9 0 = lq0 e ∧ X.1 9 3 = lq3 e ∧ X.1 9 6 = lq6 e ∧ X.1 9 9 = lq9 e)) (fun c => lp_no' (t1.1.mp c)) (fun c => ?_)
  have nb : ¬ TB e sd0 := fun h => c (t1.1.mpr h)
  have v := t1.2 nb
  refine tk_ind (P := LPq (TB e sd0) (fun X => X.1 9 0 = lq0 e ∧ X.1 9 3 = lq3 e ∧ X.1 9 6 = lq6 e ∧ X.1 9 9 = lq9 e)) _ _ (fun M3 h3 => ?_)
  refine tk_ind (P := LPq (TB e sd0) (fun X => X.1 9 0 = lq0 e ∧ X.1 9 3 = lq3 e ∧ X.1 9 6 = lq6 e ∧ X.1 9 9 = lq9 e)) _ _ (fun M4 h4 => ?_)
  refine tk_ind (P := LPq (TB e sd0) (fun X => X.1 9 0 = lq0 e ∧ X.1 9 3 = lq3 e ∧ X.1 9 6 = lq6 e ∧ X.1 9 9 = lq9 e)) _ _ (fun M5 h5 => ?_)
  refine tk_ind (P := LPq (TB e sd0) (fun X => X.1 9 0 = lq0 e ∧ X.1 9 3 = lq3 e ∧ X.1 9 6 = lq6 e ∧ X.1 9 9 = lq9 e)) _ _ (fun M6 h6 => ?_)
  have r3 : M3.1 3 = x2.2.1 3 := by rw [h3, st_ne _ _ _ (by decide)]
  have r4' : M4.1 3 = x2.2.1 3 := by rw [h4, st_ne _ _ _ (by decide), r3]
  have r5 : M5.1 3 = x2.2.1 3 := by rw [h5, st_ne _ _ _ (by decide), r4']
  refine lp_yes nb ⟨?_, ?_, ?_, ?_⟩
  · rw [h6, st_at_ne _ _ _ _ (by decide), h5, st_at_ne _ _ _ _ (by decide), h4, st_at_ne _ _ _ _ (by decide), h3, st_at, v 0 (by decide), lq0]
  · rw [h6, st_at_ne _ _ _ _ (by decide), h5, st_at_ne _ _ _ _ (by decide), h4, st_at, r3, v 2 (by decide), lq3]
  · rw [h6, st_at_ne _ _ _ _ (by decide), h5, st_at, r4', v 3 (by decide), lq6]
  · rw [h6, st_at, r5, v 1 (by decide), lq9]
theorem cEnds_0 {M : Mem} {q : Nat} {e : Nat → Int32} (hq : 16 ≤ q) (he : tr 12 (M.1 q) = e) (h9 : M.1 9 0 = lq0 e) : LPq (TB e sd1 ∨ TB e sd2 ∨ fX1_minus (la1 e) (lc1 e) = 0) (fun X => X.1 9 1 = lq1 e ∧ X.1 9 2 = lq2 e ∧ ∀ k, k ≠ 1 → k ≠ 2 → X.1 9 k = M.1 9 k) (sX4_learnEnds_0 M q) := by
  unfold sX4_learnEnds_0 sX4_endStandard_0 fX4_seenAt_0
  refine tk_ind (P := LPq (TB e sd1 ∨ TB e sd2 ∨ fX1_minus (la1 e) (lc1 e) = 0) (fun X => X.1 9 1 = lq1 e ∧ X.1 9 2 = lq2 e ∧ ∀ k, k ≠ 1 → k ≠ 2 → X.1 9 k = M.1 9 k)) _ _ (fun M1 h1 => ?_)
  have h1 : M1 = sX0_fill M 2 10007 0 0 0 := h1
  refine tk_ind (P := LPq (TB e sd1 ∨ TB e sd2 ∨ fX1_minus (la1 e) (lc1 e) = 0) (fun X => X.1 9 1 = lq1 e ∧ X.1 9 2 = lq2 e ∧ ∀ k, k ≠ 1 → k ≠ 2 → X.1 9 k = M.1 9 k)) _ _ (fun x2 h2 => ?_)
  have t := tellsStd hq he h1 h2
  have t1 : CP 3 4 (TB e sd1) (tlV e sd1) x2 := t.1
  refine ite_ind (P := LPq (TB e sd1 ∨ TB e sd2 ∨ fX1_minus (la1 e) (lc1 e) = 0) (fun X => X.1 9 1 = lq1 e ∧ X.1 9 2 = lq2 e ∧ ∀ k, k ≠ 1 → k ≠ 2 → X.1 9 k = M.1 9 k)) (fun c => lp_no' (Or.inl (t1.1.mp c))) (fun c => ?_)
  have nb : ¬ TB e sd1 := fun h => c (t1.1.mpr h)
  have v := t1.2 nb
  refine tk_ind (P := LPq (TB e sd1 ∨ TB e sd2 ∨ fX1_minus (la1 e) (lc1 e) = 0) (fun X => X.1 9 1 = lq1 e ∧ X.1 9 2 = lq2 e ∧ ∀ k, k ≠ 1 → k ≠ 2 → X.1 9 k = M.1 9 k)) _ _ (fun M3 h3 => ?_)
  have h3 : M3 = sX0_fill x2.2 2 100130042 0 0 0 := h3
  refine tk_ind (P := LPq (TB e sd1 ∨ TB e sd2 ∨ fX1_minus (la1 e) (lc1 e) = 0) (fun X => X.1 9 1 = lq1 e ∧ X.1 9 2 = lq2 e ∧ ∀ k, k ≠ 1 → k ≠ 2 → X.1 9 k = M.1 9 k)) _ _ (fun x4 h4 => ?_)
  have u := tellsStd hq (show tr 12 (x2.2.1 q) = e by rw [t.2 q (by omega) (by omega)]; exact he) h3 h4
  have u1 : CP 3 4 (TB e sd2) (tlV e sd2) x4 := u.1
  refine ite_ind (P := LPq (TB e sd1 ∨ TB e sd2 ∨ fX1_minus (la1 e) (lc1 e) = 0) (fun X => X.1 9 1 = lq1 e ∧ X.1 9 2 = lq2 e ∧ ∀ k, k ≠ 1 → k ≠ 2 → X.1 9 k = M.1 9 k)) (fun c2 => lp_no' (Or.inr (Or.inl (u1.1.mp c2)))) (fun c2 => ?_)
  have nb2 : ¬ TB e sd2 := fun h => c2 (u1.1.mpr h)
  have w := u1.2 nb2
  have g2 : x2.2.1 9 = M.1 9 := t.2 9 (by decide) (by decide)
  have g4 : x4.2.1 9 = M.1 9 := (u.2 9 (by decide) (by decide)).trans g2
  have ea : fX1_minus (x2.2.1 3 0) (x2.2.1 9 0) = la1 e := by rw [v 0 (by decide), g2, h9, la1]
  have eb : fX1_minus (x4.2.1 3 0) (x4.2.1 9 0) = lc1 e := by rw [w 0 (by decide), g4, h9, lc1]
  rw [ea, eb]
  refine tk_ind (P := LPq (TB e sd1 ∨ TB e sd2 ∨ fX1_minus (la1 e) (lc1 e) = 0) (fun X => X.1 9 1 = lq1 e ∧ X.1 9 2 = lq2 e ∧ ∀ k, k ≠ 1 → k ≠ 2 → X.1 9 k = M.1 9 k)) _ _ (fun x5 h5 => ?_)
  rw [h5]
  refine ite_ind (P := LPq (TB e sd1 ∨ TB e sd2 ∨ fX1_minus (la1 e) (lc1 e) = 0) (fun X => X.1 9 1 = lq1 e ∧ X.1 9 2 = lq2 e ∧ ∀ k, k ≠ 1 → k ≠ 2 → X.1 9 k = M.1 9 k)) (fun c3 => lp_no' (Or.inr (Or.inr c3))) (fun c3 => ?_)
  rw [show fX1_over (fX1_plus (la1 e) (lc1 e)) (fX1_minus (la1 e) (lc1 e)) = lq1 e from by rw [lq1]]
  refine tk_ind (P := LPq (TB e sd1 ∨ TB e sd2 ∨ fX1_minus (la1 e) (lc1 e) = 0) (fun X => X.1 9 1 = lq1 e ∧ X.1 9 2 = lq2 e ∧ ∀ k, k ≠ 1 → k ≠ 2 → X.1 9 k = M.1 9 k)) _ _ (fun M6 h6 => ?_)
  have w6 : M6.1 9 1 = lq1 e := by rw [h6, st_at]
  rw [w6]
  refine tk_ind (P := LPq (TB e sd1 ∨ TB e sd2 ∨ fX1_minus (la1 e) (lc1 e) = 0) (fun X => X.1 9 1 = lq1 e ∧ X.1 9 2 = lq2 e ∧ ∀ k, k ≠ 1 → k ≠ 2 → X.1 9 k = M.1 9 k)) _ _ (fun M7 h7 => ?_)
  refine lp_yes (fun h => h.elim nb (fun h => h.elim nb2 c3)) ⟨?_, ?_, fun k n1 n2 => ?_⟩
  · rw [h7, st_at_ne _ _ _ _ (by decide)]; exact w6
  · rw [h7, st_at, lq2]
  · rw [h7, st_at_ne _ _ _ _ n2, h6, st_at_ne _ _ _ _ n1, g4]
theorem cEnds_1 {M : Mem} {q : Nat} {e : Nat → Int32} (hq : 16 ≤ q) (he : tr 12 (M.1 q) = e) (h9 : M.1 9 6 = lq6 e) : LPq (TB e sd3 ∨ TB e sd4 ∨ fX1_minus (la7 e) (lc7 e) = 0) (fun X => X.1 9 7 = lq7 e ∧ X.1 9 8 = lq8 e ∧ ∀ k, k ≠ 7 → k ≠ 8 → X.1 9 k = M.1 9 k) (sX4_learnEnds_1 M q) := by
  unfold sX4_learnEnds_1 sX4_endStandard_1 fX4_seenAt_1
  refine tk_ind (P := LPq (TB e sd3 ∨ TB e sd4 ∨ fX1_minus (la7 e) (lc7 e) = 0) (fun X => X.1 9 7 = lq7 e ∧ X.1 9 8 = lq8 e ∧ ∀ k, k ≠ 7 → k ≠ 8 → X.1 9 k = M.1 9 k)) _ _ (fun M1 h1 => ?_)
  have h1 : M1 = sX0_fill M 2 0 0 0 10007 := h1
  refine tk_ind (P := LPq (TB e sd3 ∨ TB e sd4 ∨ fX1_minus (la7 e) (lc7 e) = 0) (fun X => X.1 9 7 = lq7 e ∧ X.1 9 8 = lq8 e ∧ ∀ k, k ≠ 7 → k ≠ 8 → X.1 9 k = M.1 9 k)) _ _ (fun x2 h2 => ?_)
  have t := tellsStd hq he h1 h2
  have t1 : CP 3 4 (TB e sd3) (tlV e sd3) x2 := t.1
  refine ite_ind (P := LPq (TB e sd3 ∨ TB e sd4 ∨ fX1_minus (la7 e) (lc7 e) = 0) (fun X => X.1 9 7 = lq7 e ∧ X.1 9 8 = lq8 e ∧ ∀ k, k ≠ 7 → k ≠ 8 → X.1 9 k = M.1 9 k)) (fun c => lp_no' (Or.inl (t1.1.mp c))) (fun c => ?_)
  have nb : ¬ TB e sd3 := fun h => c (t1.1.mpr h)
  have v := t1.2 nb
  refine tk_ind (P := LPq (TB e sd3 ∨ TB e sd4 ∨ fX1_minus (la7 e) (lc7 e) = 0) (fun X => X.1 9 7 = lq7 e ∧ X.1 9 8 = lq8 e ∧ ∀ k, k ≠ 7 → k ≠ 8 → X.1 9 k = M.1 9 k)) _ _ (fun M3 h3 => ?_)
  have h3 : M3 = sX0_fill x2.2 2 0 0 0 100130042 := h3
  refine tk_ind (P := LPq (TB e sd3 ∨ TB e sd4 ∨ fX1_minus (la7 e) (lc7 e) = 0) (fun X => X.1 9 7 = lq7 e ∧ X.1 9 8 = lq8 e ∧ ∀ k, k ≠ 7 → k ≠ 8 → X.1 9 k = M.1 9 k)) _ _ (fun x4 h4 => ?_)
  have u := tellsStd hq (show tr 12 (x2.2.1 q) = e by rw [t.2 q (by omega) (by omega)]; exact he) h3 h4
  have u1 : CP 3 4 (TB e sd4) (tlV e sd4) x4 := u.1
  refine ite_ind (P := LPq (TB e sd3 ∨ TB e sd4 ∨ fX1_minus (la7 e) (lc7 e) = 0) (fun X => X.1 9 7 = lq7 e ∧ X.1 9 8 = lq8 e ∧ ∀ k, k ≠ 7 → k ≠ 8 → X.1 9 k = M.1 9 k)) (fun c2 => lp_no' (Or.inr (Or.inl (u1.1.mp c2)))) (fun c2 => ?_)
  have nb2 : ¬ TB e sd4 := fun h => c2 (u1.1.mpr h)
  have w := u1.2 nb2
  have g2 : x2.2.1 9 = M.1 9 := t.2 9 (by decide) (by decide)
  have g4 : x4.2.1 9 = M.1 9 := (u.2 9 (by decide) (by decide)).trans g2
  have ea : fX1_minus (x2.2.1 3 3) (x2.2.1 9 6) = la7 e := by rw [v 3 (by decide), g2, h9, la7]
  have eb : fX1_minus (x4.2.1 3 3) (x4.2.1 9 6) = lc7 e := by rw [w 3 (by decide), g4, h9, lc7]
  rw [ea, eb]
  refine tk_ind (P := LPq (TB e sd3 ∨ TB e sd4 ∨ fX1_minus (la7 e) (lc7 e) = 0) (fun X => X.1 9 7 = lq7 e ∧ X.1 9 8 = lq8 e ∧ ∀ k, k ≠ 7 → k ≠ 8 → X.1 9 k = M.1 9 k)) _ _ (fun x5 h5 => ?_)
  rw [h5]
  refine ite_ind (P := LPq (TB e sd3 ∨ TB e sd4 ∨ fX1_minus (la7 e) (lc7 e) = 0) (fun X => X.1 9 7 = lq7 e ∧ X.1 9 8 = lq8 e ∧ ∀ k, k ≠ 7 → k ≠ 8 → X.1 9 k = M.1 9 k)) (fun c3 => lp_no' (Or.inr (Or.inr c3))) (fun c3 => ?_)
  rw [show fX1_over (fX1_plus (la7 e) (lc7 e)) (fX1_minus (la7 e) (lc7 e)) = lq7 e from by rw [lq7]]
  refine tk_ind (P := LPq (TB e sd3 ∨ TB e sd4 ∨ fX1_minus (la7 e) (lc7 e) = 0) (fun X => X.1 9 7 = lq7 e ∧ X.1 9 8 = lq8 e ∧ ∀ k, k ≠ 7 → k ≠ 8 → X.1 9 k = M.1 9 k)) _ _ (fun M6 h6 => ?_)
  have w6 : M6.1 9 7 = lq7 e := by rw [h6, st_at]
  rw [w6]
  refine tk_ind (P := LPq (TB e sd3 ∨ TB e sd4 ∨ fX1_minus (la7 e) (lc7 e) = 0) (fun X => X.1 9 7 = lq7 e ∧ X.1 9 8 = lq8 e ∧ ∀ k, k ≠ 7 → k ≠ 8 → X.1 9 k = M.1 9 k)) _ _ (fun M7 h7 => ?_)
  refine lp_yes (fun h => h.elim nb (fun h => h.elim nb2 c3)) ⟨?_, ?_, fun k n1 n2 => ?_⟩
  · rw [h7, st_at_ne _ _ _ _ (by decide)]; exact w6
  · rw [h7, st_at, lq8]
  · rw [h7, st_at_ne _ _ _ _ n2, h6, st_at_ne _ _ _ _ n1, g4]
theorem cCross_0 {M : Mem} {e : Nat → Int32} (t0 : M.1 3 0 = tlV e sd5 0) (g0 : M.1 9 0 = lq0 e) (g1 : M.1 9 1 = lq1 e) (g2 : M.1 9 2 = lq2 e) (g3 : M.1 9 3 = lq3 e) : LPq (ld4 e = 0) (fun X => X.1 9 4 = lq4 e ∧ X.1 9 5 = lq5 e ∧ (∀ k, k ≠ 4 → k ≠ 5 → X.1 9 k = M.1 9 k) ∧ X.1 3 = M.1 3) (sX4_learnCrossing_0 M (tlV e sd5 2)) := by
  unfold sX4_learnCrossing_0 fX4_seenAt_0
  rw [t0, g0, g1, g2, show fX1_minus (tlV e sd5 0) (lq0 e) = lc4 e from by rw [lc4]]
  refine tk_ind (P := LPq (ld4 e = 0) (fun X => X.1 9 4 = lq4 e ∧ X.1 9 5 = lq5 e ∧ (∀ k, k ≠ 4 → k ≠ 5 → X.1 9 k = M.1 9 k) ∧ X.1 3 = M.1 3)) _ _ (fun x1 h1 => ?_)
  have e1 : x1 = ld4 e := by rw [h1, ld4]
  rw [e1]
  refine ite_ind (P := LPq (ld4 e = 0) (fun X => X.1 9 4 = lq4 e ∧ X.1 9 5 = lq5 e ∧ (∀ k, k ≠ 4 → k ≠ 5 → X.1 9 k = M.1 9 k) ∧ X.1 3 = M.1 3)) (fun c => lp_no' c) (fun c => ?_)
  rw [show fX1_over (lc4 e) (ld4 e) = lq4 e from by rw [lq4]]
  refine tk_ind (P := LPq (ld4 e = 0) (fun X => X.1 9 4 = lq4 e ∧ X.1 9 5 = lq5 e ∧ (∀ k, k ≠ 4 → k ≠ 5 → X.1 9 k = M.1 9 k) ∧ X.1 3 = M.1 3)) _ _ (fun M2 h2 => ?_)
  have w1 : M2.1 9 1 = lq1 e := by rw [h2, st_at_ne _ _ _ _ (by decide)]; exact g1
  have w3 : M2.1 9 3 = lq3 e := by rw [h2, st_at_ne _ _ _ _ (by decide)]; exact g3
  have w4 : M2.1 9 4 = lq4 e := by rw [h2, st_at]
  rw [w1, w3, w4]
  refine tk_ind (P := LPq (ld4 e = 0) (fun X => X.1 9 4 = lq4 e ∧ X.1 9 5 = lq5 e ∧ (∀ k, k ≠ 4 → k ≠ 5 → X.1 9 k = M.1 9 k) ∧ X.1 3 = M.1 3)) _ _ (fun M3 h3 => ?_)
  refine lp_yes c ⟨?_, ?_, fun k n1 n2 => ?_, ?_⟩
  · rw [h3, st_at_ne _ _ _ _ (by decide)]; exact w4
  · rw [h3, st_at, lq5]
  · rw [h3, st_at_ne _ _ _ _ n2, h2, st_at_ne _ _ _ _ n1]
  · rw [h3, st_ne _ _ _ (by decide), h2, st_ne _ _ _ (by decide)]
theorem cCross_1 {M : Mem} {e : Nat → Int32} (t0 : M.1 3 3 = tlV e sd5 3) (g0 : M.1 9 6 = lq6 e) (g1 : M.1 9 7 = lq7 e) (g2 : M.1 9 8 = lq8 e) (g3 : M.1 9 9 = lq9 e) : LPq (ld10 e = 0) (fun X => X.1 9 10 = lq10 e ∧ X.1 9 11 = lq11 e ∧ (∀ k, k ≠ 10 → k ≠ 11 → X.1 9 k = M.1 9 k) ∧ X.1 3 = M.1 3) (sX4_learnCrossing_1 M (tlV e sd5 1)) := by
  unfold sX4_learnCrossing_1 fX4_seenAt_1
  rw [t0, g0, g1, g2, show fX1_minus (tlV e sd5 3) (lq6 e) = lc10 e from by rw [lc10]]
  refine tk_ind (P := LPq (ld10 e = 0) (fun X => X.1 9 10 = lq10 e ∧ X.1 9 11 = lq11 e ∧ (∀ k, k ≠ 10 → k ≠ 11 → X.1 9 k = M.1 9 k) ∧ X.1 3 = M.1 3)) _ _ (fun x1 h1 => ?_)
  have e1 : x1 = ld10 e := by rw [h1, ld10]
  rw [e1]
  refine ite_ind (P := LPq (ld10 e = 0) (fun X => X.1 9 10 = lq10 e ∧ X.1 9 11 = lq11 e ∧ (∀ k, k ≠ 10 → k ≠ 11 → X.1 9 k = M.1 9 k) ∧ X.1 3 = M.1 3)) (fun c => lp_no' c) (fun c => ?_)
  rw [show fX1_over (lc10 e) (ld10 e) = lq10 e from by rw [lq10]]
  refine tk_ind (P := LPq (ld10 e = 0) (fun X => X.1 9 10 = lq10 e ∧ X.1 9 11 = lq11 e ∧ (∀ k, k ≠ 10 → k ≠ 11 → X.1 9 k = M.1 9 k) ∧ X.1 3 = M.1 3)) _ _ (fun M2 h2 => ?_)
  have w1 : M2.1 9 7 = lq7 e := by rw [h2, st_at_ne _ _ _ _ (by decide)]; exact g1
  have w3 : M2.1 9 9 = lq9 e := by rw [h2, st_at_ne _ _ _ _ (by decide)]; exact g3
  have w4 : M2.1 9 10 = lq10 e := by rw [h2, st_at]
  rw [w1, w3, w4]
  refine tk_ind (P := LPq (ld10 e = 0) (fun X => X.1 9 10 = lq10 e ∧ X.1 9 11 = lq11 e ∧ (∀ k, k ≠ 10 → k ≠ 11 → X.1 9 k = M.1 9 k) ∧ X.1 3 = M.1 3)) _ _ (fun M3 h3 => ?_)
  refine lp_yes c ⟨?_, ?_, fun k n1 n2 => ?_, ?_⟩
  · rw [h3, st_at_ne _ _ _ _ (by decide)]; exact w4
  · rw [h3, st_at, lq11]
  · rw [h3, st_at_ne _ _ _ _ n2, h2, st_at_ne _ _ _ _ n1]
  · rw [h3, st_ne _ _ _ (by decide), h2, st_ne _ _ _ (by decide)]
theorem cThr {M : Mem} {q : Nat} {e : Nat → Int32} (hq : 16 ≤ q) (he : tr 12 (M.1 q) = e) (g0 : M.1 9 0 = lq0 e) (g1 : M.1 9 1 = lq1 e) (g2 : M.1 9 2 = lq2 e) (g3 : M.1 9 3 = lq3 e) (g6 : M.1 9 6 = lq6 e) (g7 : M.1 9 7 = lq7 e) (g8 : M.1 9 8 = lq8 e) (g9 : M.1 9 9 = lq9 e) : LPq (TB e sd5 ∨ ld4 e = 0 ∨ ld10 e = 0) (fun X => X.1 9 4 = lq4 e ∧ X.1 9 5 = lq5 e ∧ X.1 9 10 = lq10 e ∧ X.1 9 11 = lq11 e ∧ ∀ k, k ≠ 4 → k ≠ 5 → k ≠ 10 → k ≠ 11 → X.1 9 k = M.1 9 k) (sX4_learnThrough M q) := by
  unfold sX4_learnThrough
  refine tk_ind (P := LPq (TB e sd5 ∨ ld4 e = 0 ∨ ld10 e = 0) (fun X => X.1 9 4 = lq4 e ∧ X.1 9 5 = lq5 e ∧ X.1 9 10 = lq10 e ∧ X.1 9 11 = lq11 e ∧ ∀ k, k ≠ 4 → k ≠ 5 → k ≠ 10 → k ≠ 11 → X.1 9 k = M.1 9 k)) _ _ (fun M1 h1 => ?_)
  refine tk_ind (P := LPq (TB e sd5 ∨ ld4 e = 0 ∨ ld10 e = 0) (fun X => X.1 9 4 = lq4 e ∧ X.1 9 5 = lq5 e ∧ X.1 9 10 = lq10 e ∧ X.1 9 11 = lq11 e ∧ ∀ k, k ≠ 4 → k ≠ 5 → k ≠ 10 → k ≠ 11 → X.1 9 k = M.1 9 k)) _ _ (fun x2 h2 => ?_)
  have t := tellsStd hq he h1 h2
  have t1 : CP 3 4 (TB e sd5) (tlV e sd5) x2 := t.1
  refine ite_ind (P := LPq (TB e sd5 ∨ ld4 e = 0 ∨ ld10 e = 0) (fun X => X.1 9 4 = lq4 e ∧ X.1 9 5 = lq5 e ∧ X.1 9 10 = lq10 e ∧ X.1 9 11 = lq11 e ∧ ∀ k, k ≠ 4 → k ≠ 5 → k ≠ 10 → k ≠ 11 → X.1 9 k = M.1 9 k)) (fun c => lp_no' (Or.inl (t1.1.mp c))) (fun c => ?_)
  have nb : ¬ TB e sd5 := fun h => c (t1.1.mpr h)
  have v := t1.2 nb
  have r9 : x2.2.1 9 = M.1 9 := t.2 9 (by decide) (by decide)
  rw [v 2 (by decide)]
  refine tk_ind (P := LPq (TB e sd5 ∨ ld4 e = 0 ∨ ld10 e = 0) (fun X => X.1 9 4 = lq4 e ∧ X.1 9 5 = lq5 e ∧ X.1 9 10 = lq10 e ∧ X.1 9 11 = lq11 e ∧ ∀ k, k ≠ 4 → k ≠ 5 → k ≠ 10 → k ≠ 11 → X.1 9 k = M.1 9 k)) _ _ (fun x3 h3 => ?_)
  have p := cCross_0 (M := x2.2) (e := e) (v 0 (by decide)) (by rw [r9]; exact g0) (by rw [r9]; exact g1) (by rw [r9]; exact g2) (by rw [r9]; exact g3)
  rw [← h3] at p
  refine ite_ind (P := LPq (TB e sd5 ∨ ld4 e = 0 ∨ ld10 e = 0) (fun X => X.1 9 4 = lq4 e ∧ X.1 9 5 = lq5 e ∧ X.1 9 10 = lq10 e ∧ X.1 9 11 = lq11 e ∧ ∀ k, k ≠ 4 → k ≠ 5 → k ≠ 10 → k ≠ 11 → X.1 9 k = M.1 9 k)) (fun c2 => lp_no' (Or.inr (Or.inl (p.1.mp c2)))) (fun c2 => ?_)
  have nb2 : ¬ ld4 e = 0 := fun h => c2 (p.1.mpr h)
  obtain ⟨p4, p5, pk, p3⟩ := p.2 nb2
  rw [show x3.2.1 3 1 = tlV e sd5 1 from by rw [p3]; exact v 1 (by decide)]
  refine tk_ind (P := LPq (TB e sd5 ∨ ld4 e = 0 ∨ ld10 e = 0) (fun X => X.1 9 4 = lq4 e ∧ X.1 9 5 = lq5 e ∧ X.1 9 10 = lq10 e ∧ X.1 9 11 = lq11 e ∧ ∀ k, k ≠ 4 → k ≠ 5 → k ≠ 10 → k ≠ 11 → X.1 9 k = M.1 9 k)) _ _ (fun x4 h4 => ?_)
  have y := cCross_1 (M := x3.2) (e := e) (by rw [p3]; exact v 3 (by decide)) (by rw [pk 6 (by decide) (by decide), r9]; exact g6) (by rw [pk 7 (by decide) (by decide), r9]; exact g7) (by rw [pk 8 (by decide) (by decide), r9]; exact g8) (by rw [pk 9 (by decide) (by decide), r9]; exact g9)
  rw [← h4] at y
  refine ite_ind (P := LPq (TB e sd5 ∨ ld4 e = 0 ∨ ld10 e = 0) (fun X => X.1 9 4 = lq4 e ∧ X.1 9 5 = lq5 e ∧ X.1 9 10 = lq10 e ∧ X.1 9 11 = lq11 e ∧ ∀ k, k ≠ 4 → k ≠ 5 → k ≠ 10 → k ≠ 11 → X.1 9 k = M.1 9 k)) (fun c3 => lp_no' (Or.inr (Or.inr (y.1.mp c3)))) (fun c3 => ?_)
  have nb3 : ¬ ld10 e = 0 := fun h => c3 (y.1.mpr h)
  obtain ⟨y10, y11, yk, y3⟩ := y.2 nb3
  refine lp_yes (fun h => h.elim nb (fun h => h.elim nb2 nb3)) ⟨?_, ?_, y10, y11, fun k n4 n5 n10 n11 => ?_⟩
  · rw [yk 4 (by decide) (by decide)]; exact p4
  · rw [yk 5 (by decide) (by decide)]; exact p5
  · rw [yk k n10 n11, pk k n4 n5, r9]
/-- what learning does to a state: refused, or all twelve are known -/
def LEq (M : Mem) (a : Nat) (e : Nat → Int32) (u : Int32 × Mem) : Prop := (lbad e → u.1 = -3) ∧ (¬ lbad e → u.1 = ctK (u.2.1 (16 + 12 * a + 3)) (u.2.1 (16 + 12 * a + 2)) 12 ∧ A12 (u.2.1 (16 + 12 * a + 3)) (lgV e) ∧ u.2.1 (16 + 12 * a) = upd (M.1 (16 + 12 * a)) 4 1 ∧ ∀ j, 16 ≤ j → j ≠ 16 + 12 * a → j ≠ 16 + 12 * a + 3 → u.2.1 j = M.1 j)
theorem le_no {M X : Mem} {a : Nat} {e : Nat → Int32} (h : lbad e) : LEq M a e (-3, X) := ⟨fun _ => rfl, fun q => absurd h q⟩
theorem cLearn {M : Mem} {a : Nat} {e : Nat → Int32} (he : tr 12 (M.1 (16 + 12 * a + 2)) = e) : LEq M a e (sX4_learnErrors M a) := by
  unfold sX4_learnErrors
  refine tk_ind (P := LEq M a e) _ _ (fun x1 h1 => ?_)
  have k1 := kfX4_learnLoad M (16 + 12 * a + 2)
  have p1 := cLoad (M := M) (by omega) he
  rw [← h1] at k1 p1
  refine ite_ind (P := LEq M a e) (fun c => le_no (Or.inl (p1.1.mp c))) (fun c => ?_)
  have n1 : ¬ TB e sd0 := fun h => c (p1.1.mpr h)
  obtain ⟨g0, g3, g6, g9⟩ := p1.2 n1
  refine tk_ind (P := LEq M a e) _ _ (fun x2 h2 => ?_)
  have k2 := kfX4_learnEnds_0 x1.2 (16 + 12 * a + 2)
  have p2 := cEnds_0 (M := x1.2) (q := 16 + 12 * a + 2) (e := e) (by omega) (by rw [k1.1 _ (by omega)]; exact he) g0
  rw [← h2] at k2 p2
  refine ite_ind (P := LEq M a e) (fun c2 => le_no (Or.inr ((p2.1.mp c2).elim Or.inl (fun h => Or.inr (h.elim Or.inl (fun h => Or.inr (Or.inl h))))))) (fun c2 => ?_)
  have n2 : ¬ (TB e sd1 ∨ TB e sd2 ∨ fX1_minus (la1 e) (lc1 e) = 0) := fun h => c2 (p2.1.mpr h)
  obtain ⟨g1, g2, gk⟩ := p2.2 n2
  refine tk_ind (P := LEq M a e) _ _ (fun x3 h3 => ?_)
  have k3 := kfX4_learnEnds_1 x2.2 (16 + 12 * a + 2)
  have p3 := cEnds_1 (M := x2.2) (q := 16 + 12 * a + 2) (e := e) (by omega) (by rw [k2.1 _ (by omega), k1.1 _ (by omega)]; exact he) (by rw [gk 6 (by decide) (by decide)]; exact g6)
  rw [← h3] at k3 p3
  refine ite_ind (P := LEq M a e) (fun c3 => le_no (Or.inr (Or.inr (Or.inr (Or.inr ((p3.1.mp c3).elim Or.inl (fun h => Or.inr (h.elim Or.inl (fun h => Or.inr (Or.inl h)))))))))) (fun c3 => ?_)
  have n3 : ¬ (TB e sd3 ∨ TB e sd4 ∨ fX1_minus (la7 e) (lc7 e) = 0) := fun h => c3 (p3.1.mpr h)
  obtain ⟨g7, g8, gl⟩ := p3.2 n3
  refine tk_ind (P := LEq M a e) _ _ (fun x4 h4 => ?_)
  have k4 := kfX4_learnThrough x3.2 (16 + 12 * a + 2)
  have p4 := cThr (M := x3.2) (q := 16 + 12 * a + 2) (e := e) (by omega) (by rw [k3.1 _ (by omega), k2.1 _ (by omega), k1.1 _ (by omega)]; exact he) (by rw [gl 0 (by decide) (by decide), gk 0 (by decide) (by decide)]; exact g0) (by rw [gl 1 (by decide) (by decide)]; exact g1) (by rw [gl 2 (by decide) (by decide)]; exact g2) (by rw [gl 3 (by decide) (by decide), gk 3 (by decide) (by decide)]; exact g3) (by rw [gl 6 (by decide) (by decide), gk 6 (by decide) (by decide)]; exact g6) g7 g8 (by rw [gl 9 (by decide) (by decide), gk 9 (by decide) (by decide)]; exact g9)
  rw [← h4] at k4 p4
  refine ite_ind (P := LEq M a e) (fun c4 => le_no (Or.inr (Or.inr (Or.inr (Or.inr (Or.inr (Or.inr (Or.inr (p4.1.mp c4))))))))) (fun c4 => ?_)
  have n4 : ¬ (TB e sd5 ∨ ld4 e = 0 ∨ ld10 e = 0) := fun h => c4 (p4.1.mpr h)
  obtain ⟨g4, g5, g10, g11, gm⟩ := p4.2 n4
  have f9 : A12 (x4.2.1 9) (lgV e) := by
    refine row12 ?_ ?_ ?_ ?_ ?_ ?_ ?_ ?_ ?_ ?_ ?_ ?_
    · rw [lgV_0, gm 0 (by decide) (by decide) (by decide) (by decide), gl 0 (by decide) (by decide), gk 0 (by decide) (by decide)]; exact g0
    · rw [lgV_1, gm 1 (by decide) (by decide) (by decide) (by decide), gl 1 (by decide) (by decide)]; exact g1
    · rw [lgV_2, gm 2 (by decide) (by decide) (by decide) (by decide), gl 2 (by decide) (by decide)]; exact g2
    · rw [lgV_3, gm 3 (by decide) (by decide) (by decide) (by decide), gl 3 (by decide) (by decide), gk 3 (by decide) (by decide)]; exact g3
    · rw [lgV_4]; exact g4
    · rw [lgV_5]; exact g5
    · rw [lgV_6, gm 6 (by decide) (by decide) (by decide) (by decide), gl 6 (by decide) (by decide), gk 6 (by decide) (by decide)]; exact g6
    · rw [lgV_7, gm 7 (by decide) (by decide) (by decide) (by decide)]; exact g7
    · rw [lgV_8, gm 8 (by decide) (by decide) (by decide) (by decide)]; exact g8
    · rw [lgV_9, gm 9 (by decide) (by decide) (by decide) (by decide), gl 9 (by decide) (by decide), gk 9 (by decide) (by decide)]; exact g9
    · rw [lgV_10]; exact g10
    · rw [lgV_11]; exact g11
  have kk : ∀ j, 16 ≤ j → x4.2.1 j = M.1 j := fun j hj => by rw [k4.1 j (by omega), k3.1 j (by omega), k2.1 j (by omega), k1.1 j (by omega)]
  refine tk_ind (P := LEq M a e) _ _ (fun M5 h5 => ?_)
  refine tk_ind (P := LEq M a e) _ _ (fun M6 h6 => ?_)
  refine ⟨fun h => ?_, fun _ => ⟨rfl, ?_, ?_, fun j hj n1 n2 => ?_⟩⟩
  · rcases h with h | h | h | h | h | h | h | h | h | h
    · exact absurd h n1
    · exact absurd (Or.inl h) n2
    · exact absurd (Or.inr (Or.inl h)) n2
    · exact absurd (Or.inr (Or.inr h)) n2
    · exact absurd (Or.inl h) n3
    · exact absurd (Or.inr (Or.inl h)) n3
    · exact absurd (Or.inr (Or.inr h)) n3
    · exact absurd (Or.inl h) n4
    · exact absurd (Or.inr (Or.inl h)) n4
    · exact absurd (Or.inr (Or.inr h)) n4
  · intro k hk
    show M6.1 (16 + 12 * a + 3) k = _
    rw [h6, st_ne _ _ _ (by omega), h5, sr_row]
    unfold va_cpy
    rw [if_pos (by omega), show 0 + (k - 0) = k by omega]
    exact f9 k hk
  · show M6.1 (16 + 12 * a) = _
    rw [h6, st_row, h5, sr_ne _ _ (by omega), kk _ (by omega)]
  · show M6.1 j = _
    rw [h6, st_ne _ _ _ n1, h5, sr_ne _ _ n2, kk j hj]
