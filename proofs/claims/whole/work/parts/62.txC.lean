/-! ===== orders are obeyed alike ===== -/
theorem nofG {M M' : Mem} {i k : Int32} (h1 : M'.1 13 = M.1 13) (h2 : M'.1 14 = M.1 14) : fX3_numberOf M' i k = fX3_numberOf M i k := by
  unfold fX3_numberOf
  rw [h1, h2]
def gBad (n : Row) : Prop := ¬ (PT0 (n 0) ∧ PT0 (n 1)) ∨ ¬ (PT0 (n 2) ∧ PT0 (n 3)) ∨ ¬ (PT0 (n 4) ∧ PT0 (n 5)) ∨ ¬ (PT0 (n 6) ∧ PT0 (n 7))
def gV (n : Row) : Row := s4 (fX6_number (n 0) (n 1)) (fX6_number (n 2) (n 3)) (fX6_number (n 4) (n 5)) (fX6_number (n 6) (n 7))
theorem cGiven {M : Mem} {a : Nat} {f n : Row} {i : Int32} (h : RS M a f) (w : RW f) (e0 : fX3_numberOf M i 0 = n 0) (e1 : fX3_numberOf M i 1 = n 1) (e2 : fX3_numberOf M i 2 = n 2) (e3 : fX3_numberOf M i 3 = n 3) (e4' : fX3_numberOf M i 4 = n 4) (e5' : fX3_numberOf M i 5 = n 5) (e6 : fX3_numberOf M i 6 = n 6) (e7 : fX3_numberOf M i 7 = n 7) : COp a (gBad n) False (f 0 = 8) (f 0) (addF f (gV n)) (sX4_addGiven M a i) := by
  unfold sX4_addGiven
  rw [e0, e1]
  refine ite_ind (P := COp a (gBad n) False (f 0 = 8) (f 0) (addF f (gV n))) (fun q => co_bad (Or.inl ((given_iff _ _).mp q))) (fun q => ?_)
  have g0 : PT0 (n 0) ∧ PT0 (n 1) := nn (fun z => q ((given_iff _ _).mpr z))
  rw [madeE, putV (by decide)]
  refine tk_ind (P := COp a (gBad n) False (f 0 = 8) (f 0) (addF f (gV n))) _ _ (fun M1 h1 => ?_)
  have k1 : ∀ j, j ≠ 8 → M1.1 j = M.1 j := fun j hj => by rw [h1, st_ne _ _ _ hj]
  rw [nofG (M := M) (k1 13 (by decide)) (k1 14 (by decide)), nofG (M := M) (k1 13 (by decide)) (k1 14 (by decide)), e2, e3]
  refine ite_ind (P := COp a (gBad n) False (f 0 = 8) (f 0) (addF f (gV n))) (fun q => co_bad (Or.inr (Or.inl ((given_iff _ _).mp q)))) (fun q => ?_)
  have g1 : PT0 (n 2) ∧ PT0 (n 3) := nn (fun z => q ((given_iff _ _).mpr z))
  rw [madeE, putV (by decide)]
  refine tk_ind (P := COp a (gBad n) False (f 0 = 8) (f 0) (addF f (gV n))) _ _ (fun M2 h2 => ?_)
  have k2 : ∀ j, j ≠ 8 → M2.1 j = M.1 j := fun j hj => by rw [h2, st_ne _ _ _ hj, k1 j hj]
  rw [nofG (M := M) (k2 13 (by decide)) (k2 14 (by decide)), nofG (M := M) (k2 13 (by decide)) (k2 14 (by decide)), e4', e5']
  refine ite_ind (P := COp a (gBad n) False (f 0 = 8) (f 0) (addF f (gV n))) (fun q => co_bad (Or.inr (Or.inr (Or.inl ((given_iff _ _).mp q))))) (fun q => ?_)
  have g2 : PT0 (n 4) ∧ PT0 (n 5) := nn (fun z => q ((given_iff _ _).mpr z))
  rw [madeE, putV (by decide)]
  refine tk_ind (P := COp a (gBad n) False (f 0 = 8) (f 0) (addF f (gV n))) _ _ (fun M3 h3 => ?_)
  have k3 : ∀ j, j ≠ 8 → M3.1 j = M.1 j := fun j hj => by rw [h3, st_ne _ _ _ hj, k2 j hj]
  rw [nofG (M := M) (k3 13 (by decide)) (k3 14 (by decide)), nofG (M := M) (k3 13 (by decide)) (k3 14 (by decide)), e6, e7]
  refine ite_ind (P := COp a (gBad n) False (f 0 = 8) (f 0) (addF f (gV n))) (fun q => co_bad (Or.inr (Or.inr (Or.inr ((given_iff _ _).mp q))))) (fun q => ?_)
  have g3 : PT0 (n 6) ∧ PT0 (n 7) := nn (fun z => q ((given_iff _ _).mpr z))
  rw [madeE, putV (by decide)]
  refine tk_ind (P := COp a (gBad n) False (f 0 = 8) (f 0) (addF f (gV n))) _ _ (fun M4 h4 => ?_)
  have k4 : ∀ j, j ≠ 8 → M4.1 j = M.1 j := fun j hj => by rw [h4, st_ne _ _ _ hj, k3 j hj]
  rw [tk_eta]
  refine co_of (fun z => ?_) id (cAdd (h.hi (fun j hj => k4 j (by omega)) w) w ?_)
  · rcases z with z | z | z | z
    · exact z g0
    · exact z g1
    · exact z g2
    · exact z g3
  · refine r4 ?_ ?_ ?_ ?_
    · rw [h4, st_at_ne _ _ _ _ (by decide), h3, st_at_ne _ _ _ _ (by decide), h2, st_at_ne _ _ _ _ (by decide), h1]; exact st_at _ _ _ _
    · rw [h4, st_at_ne _ _ _ _ (by decide), h3, st_at_ne _ _ _ _ (by decide), h2]; exact st_at _ _ _ _
    · rw [h4, st_at_ne _ _ _ _ (by decide), h3]; exact st_at _ _ _ _
    · rw [h4]; exact st_at _ _ _ _
def MOb (bad no full : Prop) (f' : Row) (y : Int32 × Mem) : Prop := ((bad ∨ no ∨ full) → y.1 = 0) ∧ (¬ bad → ¬ no → ¬ full → ¬ y.1 = 0 ∧ y.2.1 101 = f')
def ObR (a : Nat) (x y : Int32 × Mem) : Prop := (¬ y.1 = 0 → 0 ≤ x.1.toInt ∧ RS x.2 a (y.2.1 101) ∧ RW (y.2.1 101)) ∧ (y.1 = 0 → x.1.toInt < 0)
theorem ob_of {a : Nat} {bad no full : Prop} {r : Int32} {f' : Row} {x y : Int32 × Mem} (co : COp a bad no full r f' x) (mo : MOb bad no full f' y) (hr : ¬ bad → ¬ no → ¬ full → 0 ≤ r.toInt ∧ RW f') : ObR a x y := by
  by_cases cb : bad
  · have e := mo.1 (Or.inl cb)
    exact ⟨fun n => absurd e n, fun _ => by rw [co.1 cb]; decide⟩
  · by_cases cn : no
    · have e := mo.1 (Or.inr (Or.inl cn))
      exact ⟨fun n => absurd e n, fun _ => by rw [co.2.1 cb cn]; decide⟩
    · by_cases cf : full
      · have e := mo.1 (Or.inr (Or.inr cf))
        exact ⟨fun n => absurd e n, fun _ => by rw [co.2.2.1 cb cn cf]; decide⟩
      · obtain ⟨a1, a2⟩ := co.2.2.2 cb cn cf
        obtain ⟨b1, b2⟩ := mo.2 cb cn cf
        obtain ⟨r0, wf⟩ := hr cb cn cf
        exact ⟨fun _ => ⟨by rw [a1]; exact r0, by rw [b2]; exact a2, by rw [b2]; exact wf⟩, fun n => absurd n b1⟩
theorem ob_no {bad no full : Prop} {f' : Row} {M : Mem} (h : bad ∨ no ∨ full) : MOb bad no full f' (0, M) := ⟨fun _ => rfl, fun a b c => h.elim (fun q => absurd q a) (fun q => q.elim (fun q => absurd q b) (fun q => absurd q c))⟩
theorem ob_ok {bad no full : Prop} {f' : Row} {M : Mem} (a : ¬ bad) (b : ¬ no) (c : ¬ full) (e : M.1 101 = f') : MOb bad no full f' (1, M) := ⟨fun h => h.elim (fun q => absurd q a) (fun q => q.elim (fun q => absurd q b) (fun q => absurd q c)), fun _ _ _ => ⟨show ¬ (1 : Int32) = 0 by decide, e⟩⟩
theorem ob_if {bad no full : Prop} {f' : Row} {y : Int32 × Mem} (h : MOb bad no full f' y) : MOb bad no full f' (if y.1 = 0 then (0, y.2) else (1, y.2)) := by
  by_cases z : y.1 = 0
  · rw [if_pos z]
    exact ⟨fun _ => rfl, fun a b c => absurd z (h.2 a b c).1⟩
  · rw [if_neg z]
    exact ⟨fun q => absurd (h.1 q) z, fun a b c => ⟨show ¬ (1 : Int32) = 0 by decide, (h.2 a b c).2⟩⟩
theorem ob_to {bad bad' no full : Prop} {f' : Row} {y : Int32 × Mem} (h : MOb bad no full f' y) (e : bad ↔ bad') : MOb bad' no full f' y := ⟨fun q => h.1 (q.elim (fun q => Or.inl (e.mpr q)) Or.inr), fun a b c => h.2 (fun q => a (e.mp q)) b c⟩
theorem le8 {x : Int32} (h : 0 ≤ x.toInt ∧ x.toInt ≤ 8) : 8 ≤ x ↔ x = 8 := by
  have e8 : (8 : Int32).toInt = 8 := rfl
  rw [fa_le, fa_eq, e8]
  omega
theorem lt0 {x : Int32} (h : 0 ≤ x.toInt) : ¬ x < 0 := by rw [fa_lt]; show ¬ _ < (0 : Int); omega
theorem comesOb {B B1 : Mem} {a b c d : Int32} {bad no : Prop} {v : Row} (s : B1.1 101 = B.1 101) (w : RW (B.1 101)) (hb : ¬ bad) (hn : ¬ no) (h8 : ¬ B.1 101 0 = 8) (hv : A4 (s4 a b c d) v) : MOb bad no (B.1 101 0 = 8) (addF (B.1 101) v) (tk (sX6_comes B1 a b c d) fun x1 => if x1.1 < 0 then (0, x1.2) else (1, x1.2)) := by
  have e := comesV (M := B1) (a := a) (b := b) (c := c) (d := d) (by rw [s]; exact ⟨w.1.1, ne8 w.1 h8⟩)
  rw [tk_eq e.symm, if_neg (lt0 (x := B1.1 101 0) (by rw [s]; exact w.1.1))]
  refine ob_ok hb hn h8 ?_
  show (sr B1 101 (addF (B1.1 101) (s4 a b c d))).1 101 = _
  rw [sr_row, s, addF_g hv]
theorem mBy {B B1 : Mem} {x : Int32} {bad no : Prop} {v : Row} (s : B1.1 101 = B.1 101) (nb : ¬ bad) (hx : x = 0 ↔ no) (hv : ¬ no → A4 (B1.1 108) v) (w : RW (B.1 101)) : MOb bad no (B.1 101 0 = 8) (addF (B.1 101) v) (sX6_comesBy B1 x) := by
  unfold sX6_comesBy
  rw [s]
  refine ite_ind (P := MOb bad no (B.1 101 0 = 8) (addF (B.1 101) v)) (fun c => ob_no (Or.inr (Or.inl (hx.mp c)))) (fun c => ?_)
  have n0 : ¬ no := fun n => c (hx.mpr n)
  refine ite_ind (P := MOb bad no (B.1 101 0 = 8) (addF (B.1 101) v)) (fun c => ob_no (Or.inr (Or.inr ((le8 w.1).mp c)))) (fun c => ?_)
  have vv := hv n0
  exact comesOb s w nb n0 (fun q => c ((le8 w.1).mpr q)) (r4 (vv 0 (by decide)) (vv 1 (by decide)) (vv 2 (by decide)) (vv 3 (by decide)))
theorem nat2 (M : Mem) (i : Int32) : fX6_numberAt M i 0 = fX6_number (M.1 114 (i + 0).toNatClampNeg) (M.1 114 (i + 1).toNatClampNeg) ∧ fX6_numberAt M i 1 = fX6_number (M.1 114 (i + 2).toNatClampNeg) (M.1 114 (i + 3).toNatClampNeg) ∧ fX6_numberAt M i 2 = fX6_number (M.1 114 (i + 4).toNatClampNeg) (M.1 114 (i + 5).toNatClampNeg) ∧ fX6_numberAt M i 3 = fX6_number (M.1 114 (i + 6).toNatClampNeg) (M.1 114 (i + 7).toNatClampNeg) := by
  unfold fX6_numberAt
  refine ⟨?_, ?_, ?_, ?_⟩
  · rw [show (2 * (0 : Int32)) = 0 from rfl, Int32.add_assoc, show ((0 : Int32) + 1) = 1 from rfl]
  · rw [show (2 * (1 : Int32)) = 2 from rfl, Int32.add_assoc, show ((2 : Int32) + 1) = 3 from rfl]
  · rw [show (2 * (2 : Int32)) = 4 from rfl, Int32.add_assoc, show ((4 : Int32) + 1) = 5 from rfl]
  · rw [show (2 * (3 : Int32)) = 6 from rfl, Int32.add_assoc, show ((6 : Int32) + 1) = 7 from rfl]
theorem mTold {B : Mem} {i : Int32} {n : Row} (w : RW (B.1 101)) (e0 : B.1 114 (i + 0).toNatClampNeg = n 0) (e1 : B.1 114 (i + 1).toNatClampNeg = n 1) (e2 : B.1 114 (i + 2).toNatClampNeg = n 2) (e3 : B.1 114 (i + 3).toNatClampNeg = n 3) (e4 : B.1 114 (i + 4).toNatClampNeg = n 4) (e5 : B.1 114 (i + 5).toNatClampNeg = n 5) (e6 : B.1 114 (i + 6).toNatClampNeg = n 6) (e7 : B.1 114 (i + 7).toNatClampNeg = n 7) : MOb (gBad n) False (B.1 101 0 = 8) (addF (B.1 101) (gV n)) (sX6_comesTold B i) := by
  unfold sX6_comesTold
  refine ite_ind (P := MOb (gBad n) False (B.1 101 0 = 8) (addF (B.1 101) (gV n))) (fun c => ob_no (Or.inr (Or.inr ((le8 w.1).mp c)))) (fun c => ?_)
  refine ite_ind (P := MOb (gBad n) False (B.1 101 0 = 8) (addF (B.1 101) (gV n))) (fun q => ob_no (Or.inl ?_)) (fun q0 => ?_)
  · have z := (part_iff _).mp q
    rw [e0] at z
    exact Or.inl (fun g => z g.1)
  have g0 : PT0 (n 0) := nn (fun z => q0 ((part_iff _).mpr (by rw [e0]; exact z)))
  refine ite_ind (P := MOb (gBad n) False (B.1 101 0 = 8) (addF (B.1 101) (gV n))) (fun q => ob_no (Or.inl ?_)) (fun q1 => ?_)
  · have z := (part_iff _).mp q
    rw [e1] at z
    exact Or.inl (fun g => z g.2)
  have g1 : PT0 (n 1) := nn (fun z => q1 ((part_iff _).mpr (by rw [e1]; exact z)))
  refine ite_ind (P := MOb (gBad n) False (B.1 101 0 = 8) (addF (B.1 101) (gV n))) (fun q => ob_no (Or.inl ?_)) (fun q2 => ?_)
  · have z := (part_iff _).mp q
    rw [e2] at z
    exact Or.inr (Or.inl (fun g => z g.1))
  have g2 : PT0 (n 2) := nn (fun z => q2 ((part_iff _).mpr (by rw [e2]; exact z)))
  refine ite_ind (P := MOb (gBad n) False (B.1 101 0 = 8) (addF (B.1 101) (gV n))) (fun q => ob_no (Or.inl ?_)) (fun q3 => ?_)
  · have z := (part_iff _).mp q
    rw [e3] at z
    exact Or.inr (Or.inl (fun g => z g.2))
  have g3 : PT0 (n 3) := nn (fun z => q3 ((part_iff _).mpr (by rw [e3]; exact z)))
  refine ite_ind (P := MOb (gBad n) False (B.1 101 0 = 8) (addF (B.1 101) (gV n))) (fun q => ob_no (Or.inl ?_)) (fun q4 => ?_)
  · have z := (part_iff _).mp q
    rw [e4] at z
    exact Or.inr (Or.inr (Or.inl (fun g => z g.1)))
  have g4 : PT0 (n 4) := nn (fun z => q4 ((part_iff _).mpr (by rw [e4]; exact z)))
  refine ite_ind (P := MOb (gBad n) False (B.1 101 0 = 8) (addF (B.1 101) (gV n))) (fun q => ob_no (Or.inl ?_)) (fun q5 => ?_)
  · have z := (part_iff _).mp q
    rw [e5] at z
    exact Or.inr (Or.inr (Or.inl (fun g => z g.2)))
  have g5 : PT0 (n 5) := nn (fun z => q5 ((part_iff _).mpr (by rw [e5]; exact z)))
  refine ite_ind (P := MOb (gBad n) False (B.1 101 0 = 8) (addF (B.1 101) (gV n))) (fun q => ob_no (Or.inl ?_)) (fun q6 => ?_)
  · have z := (part_iff _).mp q
    rw [e6] at z
    exact Or.inr (Or.inr (Or.inr (fun g => z g.1)))
  have g6 : PT0 (n 6) := nn (fun z => q6 ((part_iff _).mpr (by rw [e6]; exact z)))
  refine ite_ind (P := MOb (gBad n) False (B.1 101 0 = 8) (addF (B.1 101) (gV n))) (fun q => ob_no (Or.inl ?_)) (fun q7 => ?_)
  · have z := (part_iff _).mp q
    rw [e7] at z
    exact Or.inr (Or.inr (Or.inr (fun g => z g.2)))
  have g7 : PT0 (n 7) := nn (fun z => q7 ((part_iff _).mpr (by rw [e7]; exact z)))
  obtain ⟨t0, t1, t2, t3⟩ := nat2 B i
  rw [t0, t1, t2, t3, e0, e1, e2, e3, e4, e5, e6, e7]
  refine comesOb rfl w (fun z => ?_) id (fun q => c ((le8 w.1).mpr q)) (r4 rfl rfl rfl rfl)
  rcases z with z | z | z | z
  · exact z ⟨g0, g1⟩
  · exact z ⟨g2, g3⟩
  · exact z ⟨g4, g5⟩
  · exact z ⟨g6, g7⟩
theorem mErrT {B : Mem} {k x y : Int32} : MOb (eBad k x y) False False (upd (B.1 101) (33 + k.toNatClampNeg) (fX6_number x y)) (sX6_errsTold B k x y) := by
  unfold sX6_errsTold
  refine ite_ind (P := MOb (eBad k x y) False False (upd (B.1 101) (33 + k.toNatClampNeg) (fX6_number x y))) (fun q => ob_no (Or.inl (Or.inl ((err_iff k).mp q)))) (fun q => ?_)
  have hk : 0 ≤ k.toInt ∧ k.toInt < 12 := nn (fun n => q ((err_iff k).mpr n))
  refine ite_ind (P := MOb (eBad k x y) False False (upd (B.1 101) (33 + k.toNatClampNeg) (fX6_number x y))) (fun q => ob_no (Or.inl (Or.inr (fun n => ((part_iff x).mp q) n.1)))) (fun q => ?_)
  have hx : PT0 x := nn (fun n => q ((part_iff x).mpr n))
  refine ite_ind (P := MOb (eBad k x y) False False (upd (B.1 101) (33 + k.toNatClampNeg) (fX6_number x y))) (fun q => ob_no (Or.inl (Or.inr (fun n => ((part_iff y).mp q) n.2)))) (fun q => ?_)
  have hy : PT0 y := nn (fun n => q ((part_iff y).mpr n))
  rw [e33 hk]
  refine tk_ind (P := MOb (eBad k x y) False False (upd (B.1 101) (33 + k.toNatClampNeg) (fX6_number x y))) _ _ (fun M1 h1 => ?_)
  exact ob_ok (fun n => n.elim (fun n => n hk) (fun n => n ⟨hx, hy⟩)) id id (by rw [h1, st_row])
/-- what stands read, on both sides -/
def DX (A B : Mem) : Prop := A.1 10 5 = B.1 100 17 ∧ (∀ i : Nat, (i : Int) < (B.1 100 17).toInt → A.1 12 i = B.1 112 i ∧ A.1 13 i = B.1 113 i) ∧ (∀ i : Nat, (i : Int) < (frO B).toInt → A.1 14 i = B.1 114 i) ∧ PRS B ∧ OQ B 0 ∧ TM B
theorem DX.ord {A B : Mem} {i : Int32} (d : DX A B) (hi : 0 ≤ i.toInt ∧ i.toInt < (B.1 100 17).toInt) : i.toInt < 60 ∧ fX3_letterOf A i = B.1 112 i.toNatClampNeg ∧ 0 ≤ (fX6_manyOf (B.1 112 i.toNatClampNeg)).toInt ∧ (∀ k : Int32, 0 ≤ k.toInt → k.toInt < (fX6_manyOf (B.1 112 i.toNatClampNeg)).toInt → fX3_numberOf A i k = B.1 114 ((B.1 113 i.toNatClampNeg) + k).toNatClampNeg) := by
  obtain ⟨d1, d2, d3, d4, d5, d6⟩ := d
  unfold OQ at d5
  unfold TM at d6
  have cl := cl_T hi.1
  have ci := cl_T d5.1
  have o60 : (B.1 100 17).toInt ≤ 60 := by omega
  have e60 : (60 : Int32).toInt = 60 := rfl
  have b : ¬ fX5_isBelow i 60 = 0 := by rw [below_iff, e60]; omega
  have l := d2 i.toNatClampNeg (by omega)
  have p := d4 i.toNatClampNeg (by omega)
  have le := prs_le d4 ((B.1 100 17).toNatClampNeg - (i.toNatClampNeg + 1)) (i.toNatClampNeg + 1) (by omega)
  rw [show i.toNatClampNeg + 1 + ((B.1 100 17).toNatClampNeg - (i.toNatClampNeg + 1)) = (B.1 100 17).toNatClampNeg by omega] at le
  have fe : B.1 113 (B.1 100 17).toNatClampNeg = frO B := rfl
  rw [fe] at le
  refine ⟨by omega, ?_, p.2.1, fun k k0 k1 => ?_⟩
  · unfold fX3_letterOf
    rw [if_neg b]
    exact l.1
  · have sT : ((B.1 113 i.toNatClampNeg) + k).toInt = (B.1 113 i.toNatClampNeg).toInt + k.toInt := by rw [fb_addI (by omega) (by omega)]
    have b2 : ¬ fX5_isBelow k 120 = 0 := by rw [below_iff, e120]; omega
    have b3 : ¬ fX5_isBelow ((A.1 13 i.toNatClampNeg) + k) 120 = 0 := by rw [l.2, below_iff, e120]; omega
    unfold fX3_numberOf
    rw [if_neg b, if_neg b2, if_neg b3, l.2]
    have cs := cl_T (x := (B.1 113 i.toNatClampNeg) + k) (by omega)
    exact d3 _ (by omega)
theorem letters {c : Int32} (h : 0 ≤ (fX6_manyOf c).toInt) : (c = 98 ∧ fX6_manyOf c = 8) ∨ (c = 101 ∧ fX6_manyOf c = 3) ∨ (c = 108 ∧ fX6_manyOf c = 0) ∨ (c = 114 ∧ fX6_manyOf c = 1) ∨ (c = 99 ∧ fX6_manyOf c = 2) := by
  by_cases a : c = 98
  · exact Or.inl ⟨a, by rw [a]; rfl⟩
  · by_cases b : c = 101
    · exact Or.inr (Or.inl ⟨b, by rw [b]; rfl⟩)
    · by_cases d : c = 108
      · exact Or.inr (Or.inr (Or.inl ⟨d, by rw [d]; rfl⟩))
      · by_cases e : c = 114
        · exact Or.inr (Or.inr (Or.inr (Or.inl ⟨e, by rw [e]; rfl⟩)))
        · by_cases g : c = 99
          · exact Or.inr (Or.inr (Or.inr (Or.inr ⟨g, by rw [g]; rfl⟩)))
          · unfold fX6_manyOf at h
            rw [if_neg a, if_neg b, if_neg d, if_neg e, if_neg g] at h
            exact absurd h (by decide)
theorem obX {A B : Mem} {a : Nat} {i : Int32} (d : DX A B) (hi : 0 ≤ i.toInt ∧ i.toInt < (B.1 100 17).toInt) (s : RS A a (B.1 101)) (w : RW (B.1 101)) : ObR a (sX5_obeyed A a i) (sX6_obeys B i) := by
  obtain ⟨_, hl, hm, hn⟩ := d.ord hi
  rcases letters hm with ⟨c, m⟩ | ⟨c, m⟩ | ⟨c, m⟩ | ⟨c, m⟩ | ⟨c, m⟩
  · rw [m] at hn
    have ex : sX5_obeyed A a i = sX4_addGiven A a i := by unfold sX5_obeyed; rw [hl, c, if_pos rfl, tk_eta]
    have ey : sX6_obeys B i = sX6_comesTold B (B.1 113 i.toNatClampNeg) := by unfold sX6_obeys; rw [c, if_pos rfl, tk_eta]
    rw [ex, ey]
    have h8 : ∀ k : Int32, 0 ≤ k.toInt ∧ k.toInt < 8 → fX3_numberOf A i k = B.1 114 ((B.1 113 i.toNatClampNeg) + k).toNatClampNeg := fun k hk => hn k hk.1 hk.2
    exact ob_of (cGiven (n := fun j => B.1 114 ((B.1 113 i.toNatClampNeg) + nI j).toNatClampNeg) s w (h8 0 (by decide)) (h8 1 (by decide)) (h8 2 (by decide)) (h8 3 (by decide)) (h8 4 (by decide)) (h8 5 (by decide)) (h8 6 (by decide)) (h8 7 (by decide))) (mTold w rfl rfl rfl rfl rfl rfl rfl rfl) (fun _ _ n => ⟨w.1.1, rw_add w (c4_s4 (cn_num _ _) (cn_num _ _) (cn_num _ _) (cn_num _ _)) n⟩)
  · rw [m] at hn
    have ex : sX5_obeyed A a i = sX2_putError A a (fX3_numberOf A i 0) (fX3_numberOf A i 1) (fX3_numberOf A i 2) := by unfold sX5_obeyed; rw [hl, c, if_neg (by decide), if_neg (by decide), if_pos rfl, tk_eta]
    have ey : sX6_obeys B i = sX6_errsTold B (B.1 114 (B.1 113 i.toNatClampNeg).toNatClampNeg) (B.1 114 ((B.1 113 i.toNatClampNeg) + 1).toNatClampNeg) (B.1 114 ((B.1 113 i.toNatClampNeg) + 2).toNatClampNeg) := by unfold sX6_obeys; rw [c, if_neg (by decide), if_pos rfl, tk_eta]
    rw [ex, ey, hn 0 (by decide) (by decide), hn 1 (by decide) (by decide), hn 2 (by decide) (by decide), Int32.add_zero]
    refine ob_of (cErrs s w) mErrT (fun n _ _ => ?_)
    have hk := nn (fun q => n (Or.inl q))
    have ck := cl_T hk.1
    exact ⟨(w.2.2.2.1 _ (by omega)).1, rw_err w (by omega) (cn_num _ _)⟩
  · have ex : sX5_obeyed A a i = sX4_learnErrors A a := by unfold sX5_obeyed; rw [hl, c, if_neg (by decide), if_neg (by decide), if_neg (by decide), if_pos rfl, tk_eta]
    rw [ex]
    refine ob_of (cLearns s w) ?_ (fun _ _ _ => ⟨(ctK_r _ _ 12 (by decide)).1, rw_learn w (c12_lg _)⟩)
    unfold sX6_obeys
    rw [c, if_neg (by decide), if_neg (by decide), if_pos rfl]
    have p := mcl (M := B) w.ce
    have k := kpX6_canLearn B
    obtain ⟨x3, e3⟩ : ∃ x3, x3 = sX6_canLearn B := ⟨_, rfl⟩
    rw [← e3] at p k
    rw [tk_eq e3]
    rw [rwE_M] at p
    refine ite_ind (P := MOb False (lbad (tr 12 (rwE (B.1 101)))) False (learnF (B.1 101) (lgV (tr 12 (rwE (B.1 101)))))) (fun q => ob_no (Or.inr (Or.inl (p.1.mp q)))) (fun q => ?_)
    have n := fun n => q (p.1.mpr n)
    have nv := nowV (M := x3.2) (f := B.1 101) (g := lgV (tr 12 (rwE (B.1 101)))) (k.1 101 (by decide)) (p.2 n)
    rw [tk_eq nv.symm, if_neg (lt0 (ctK_r (lgV (tr 12 (rwE (B.1 101)))) (rwE (B.1 101)) 12 (by decide)).1)]
    exact ob_ok id n id (sr_row _ _ _)
  · rw [m] at hn
    have ex : sX5_obeyed A a i = sX4_addReading A a (fX3_numberOf A i 0) := by unfold sX5_obeyed; rw [hl, c, if_neg (by decide), if_neg (by decide), if_neg (by decide), if_neg (by decide), if_pos rfl, tk_eta]
    rw [ex, hn 0 (by decide) (by decide), Int32.add_zero]
    generalize hb : B.1 114 (B.1 113 i.toNatClampNeg).toNatClampNeg = b
    refine ob_of (cRead s w) ?_ (fun _ _ n => ⟨w.1.1, rw_add w (c4_rd _ _) n⟩)
    unfold sX6_obeys
    rw [c, if_neg (by decide), if_neg (by decide), if_neg (by decide), if_pos rfl, hb]
    by_cases q : HB (B.1 101) b
    · rw [if_neg (fun n => ((hbM w).mp n) q)]
      have p := mcr (M := B) (b := b) (q.r8 w) (w.c4 q) w.ce (fun _ => w.cl) rfl rfl rfl
      have k := kpX6_canRead B b
      obtain ⟨x5, e5'⟩ : ∃ x5, x5 = sX6_canRead B b := ⟨_, rfl⟩
      rw [← e5'] at p k
      rw [tk_eq e5']
      have mb := mBy (bad := ¬ HB (B.1 101) b) (k.1 101 (by decide)) (fun n => n q) p.1 p.2 w
      obtain ⟨x6, e6'⟩ : ∃ x6, x6 = sX6_comesBy x5.2 x5.1 := ⟨_, rfl⟩
      rw [← e6'] at mb
      rw [tk_eq e6']
      exact ob_if mb
    · rw [if_pos ((hbM w).mpr q)]
      exact ob_no (Or.inl q)
  · rw [m] at hn
    have ex : sX5_obeyed A a i = sX4_addChain A a (fX3_numberOf A i 0) (fX3_numberOf A i 1) := by unfold sX5_obeyed; rw [hl, c, if_neg (by decide), if_pos rfl, tk_eta]
    rw [ex, hn 0 (by decide) (by decide), hn 1 (by decide) (by decide), Int32.add_zero]
    unfold sX6_obeys
    rw [c, if_neg (by decide), if_neg (by decide), if_neg (by decide), if_neg (by decide)]
    generalize hb : B.1 114 (B.1 113 i.toNatClampNeg).toNatClampNeg = b
    generalize hb2 : B.1 114 ((B.1 113 i.toNatClampNeg) + 1).toNatClampNeg = b2
    refine ob_of (cChain s w) ?_ (fun _ _ n => ⟨w.1.1, rw_add w (c4_bx _) n⟩)
    by_cases q : HB (B.1 101) b
    · rw [if_neg (fun n => ((hbM w).mp n) q)]
      by_cases q2 : HB (B.1 101) b2
      · rw [if_neg (fun n => ((hbM w).mp n) q2)]
        have p := mch (M := B) (a := b) (b := b2) (q.r8 w) (q2.r8 w) (w.c4 q) (w.c4 q2) rfl rfl
        have k := kpX6_canChain B b b2
        obtain ⟨x5, e5'⟩ : ∃ x5, x5 = sX6_canChain B b b2 := ⟨_, rfl⟩
        rw [← e5'] at p k
        rw [tk_eq e5']
        have mb := mBy (bad := ¬ HB (B.1 101) b ∨ ¬ HB (B.1 101) b2) (k.1 101 (by decide)) (fun n => n.elim (fun n => n q) (fun n => n q2)) p.1 p.2 w
        obtain ⟨x6, e6'⟩ : ∃ x6, x6 = sX6_comesBy x5.2 x5.1 := ⟨_, rfl⟩
        rw [← e6'] at mb
        rw [tk_eq e6']
        exact ob_if mb
      · rw [if_pos ((hbM w).mpr q2)]
        exact ob_no (Or.inl (Or.inr q2))
    · rw [if_pos ((hbM w).mpr q)]
      exact ob_no (Or.inl (Or.inl q))
