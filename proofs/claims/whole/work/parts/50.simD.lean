def rn0 (t g : Nat → Int32) : Int32 := fX1_over (fX1_minus (t 0) (g 0)) (g 2)
def rn2 (t g : Nat → Int32) : Int32 := fX1_over (fX1_minus (t 2) (g 3)) (g 5)
def rn3 (t g : Nat → Int32) : Int32 := fX1_over (fX1_minus (t 3) (g 6)) (g 8)
def rn1 (t g : Nat → Int32) : Int32 := fX1_over (fX1_minus (t 1) (g 9)) (g 11)
def ro1 (t g : Nat → Int32) : Int32 := fX1_plus 10007 (fX1_times (rn0 t g) (g 1))
def ro2 (t g : Nat → Int32) : Int32 := fX1_plus 10007 (fX1_times (rn3 t g) (g 7))
def rtt (t g : Nat → Int32) : Int32 := fX1_times (rn2 t g) (rn1 t g)
def rqq (t g : Nat → Int32) : Int32 := fX1_minus (fX1_times (ro1 t g) (ro2 t g)) (fX1_times (rtt t g) (fX1_times (g 4) (g 10)))
def rv0 (t g : Nat → Int32) : Int32 := fX1_minus (fX1_times (rn0 t g) (ro2 t g)) (fX1_times (g 4) (rtt t g))
def rv1 (t g : Nat → Int32) : Int32 := fX1_times (fX1_plus 10007 (fX1_times (rn0 t g) (fX1_minus (g 1) (g 10)))) (rn1 t g)
def rv2 (t g : Nat → Int32) : Int32 := fX1_times (fX1_plus 10007 (fX1_times (rn3 t g) (fX1_minus (g 7) (g 4)))) (rn2 t g)
def rv3 (t g : Nat → Int32) : Int32 := fX1_minus (fX1_times (rn3 t g) (ro1 t g)) (fX1_times (g 10) (rtt t g))
def rdV (t g : Nat → Int32) (k : Nat) : Int32 := fX1_over (s4 (rv0 t g) (rv1 t g) (rv2 t g) (rv3 t g) k) (rqq t g)
theorem rdV_0 (t g : Nat → Int32) : rdV t g 0 = fX1_over (rv0 t g) (rqq t g) := by unfold rdV; rw [s4_0]
theorem rdV_1 (t g : Nat → Int32) : rdV t g 1 = fX1_over (rv1 t g) (rqq t g) := by unfold rdV; rw [s4_1]
theorem rdV_2 (t g : Nat → Int32) : rdV t g 2 = fX1_over (rv2 t g) (rqq t g) := by unfold rdV; rw [s4_2]
theorem rdV_3 (t g : Nat → Int32) : rdV t g 3 = fX1_over (rv3 t g) (rqq t g) := by unfold rdV; rw [s4_3]
theorem c4_rd (t g : Nat → Int32) : C4 (rdV t g) := fun k _ => cn_over _ _
/-- what keeps a box from being read -/
def rbad (e s g : Nat → Int32) : Prop := TB e s ∨ g 2 = 0 ∨ g 5 = 0 ∨ g 8 = 0 ∨ g 11 = 0 ∨ rqq (tlV e s) g = 0
def RQ (M : Mem) (e s g : Nat → Int32) (u : Mem) : Prop := (rbad e s g → u.1 100 7 = 1) ∧ (¬ rbad e s g → A4 (u.1 108) (rdV (tlV e s) g) ∧ u.1 100 = M.1 100)
theorem mrb {M : Mem} {b : Int32} {e s g : Nat → Int32} (hb : 0 ≤ b.toInt ∧ b.toInt < 8) (hs : C4 (bxR M b)) (he : C12 (eR M)) (hg : C12 (lR M)) (xe : tr 12 (eR M) = e) (xs : tr 4 (bxR M b) = s) (xg : tr 12 (lR M) = g) : RQ M e s g (sX6_readsBox M b) := by
  unfold sX6_readsBox
  have cg : ∀ k, k < 12 → CN (g k) := fun k hk => by rw [← xg, tr_at _ hk]; exact hg k hk
  have l0 : ∀ X : Mem, X.1 101 = M.1 101 → fX6_lrn X 0 = g 0 := fun X h => by rw [lr_0, lRg h, ← xg, tr_at _ (by decide)]
  have l1 : ∀ X : Mem, X.1 101 = M.1 101 → fX6_lrn X 1 = g 1 := fun X h => by rw [lr_1, lRg h, ← xg, tr_at _ (by decide)]
  have l2 : ∀ X : Mem, X.1 101 = M.1 101 → fX6_lrn X 2 = g 2 := fun X h => by rw [lr_2, lRg h, ← xg, tr_at _ (by decide)]
  have l3 : ∀ X : Mem, X.1 101 = M.1 101 → fX6_lrn X 3 = g 3 := fun X h => by rw [lr_3, lRg h, ← xg, tr_at _ (by decide)]
  have l4 : ∀ X : Mem, X.1 101 = M.1 101 → fX6_lrn X 4 = g 4 := fun X h => by rw [lr_4, lRg h, ← xg, tr_at _ (by decide)]
  have l5 : ∀ X : Mem, X.1 101 = M.1 101 → fX6_lrn X 5 = g 5 := fun X h => by rw [lr_5, lRg h, ← xg, tr_at _ (by decide)]
  have l6 : ∀ X : Mem, X.1 101 = M.1 101 → fX6_lrn X 6 = g 6 := fun X h => by rw [lr_6, lRg h, ← xg, tr_at _ (by decide)]
  have l7 : ∀ X : Mem, X.1 101 = M.1 101 → fX6_lrn X 7 = g 7 := fun X h => by rw [lr_7, lRg h, ← xg, tr_at _ (by decide)]
  have l8 : ∀ X : Mem, X.1 101 = M.1 101 → fX6_lrn X 8 = g 8 := fun X h => by rw [lr_8, lRg h, ← xg, tr_at _ (by decide)]
  have l9 : ∀ X : Mem, X.1 101 = M.1 101 → fX6_lrn X 9 = g 9 := fun X h => by rw [lr_9, lRg h, ← xg, tr_at _ (by decide)]
  have l10 : ∀ X : Mem, X.1 101 = M.1 101 → fX6_lrn X 10 = g 10 := fun X h => by rw [lr_10, lRg h, ← xg, tr_at _ (by decide)]
  have l11 : ∀ X : Mem, X.1 101 = M.1 101 → fX6_lrn X 11 = g 11 := fun X h => by rw [lr_11, lRg h, ← xg, tr_at _ (by decide)]
  refine tk_ind (P := RQ M e s g) _ _ (fun M1 hM1 => ?_)
  have p1 := mtlB hb hs he
  rw [← hM1, xe, xs] at p1
  by_cases z0 : TB e s
  · have fM1 : M1.1 100 7 = 1 := p1.1 z0
    refine ⟨fun _ => ?_, fun h => absurd (show rbad e s g from Or.inl z0) h⟩
    refine tk_ind (P := fun u : Mem => u.1 100 7 = 1) _ _ (fun x2 hx2 => ?_)
    have fx2 : x2.2.1 100 7 = 1 := by rw [hx2]; exact kbX6_over _ _ _ fM1
    refine tk_ind (P := fun u : Mem => u.1 100 7 = 1) _ _ (fun x3 hx3 => ?_)
    have fx3 : x3.2.1 100 7 = 1 := by rw [hx3]; exact kbX6_over _ _ _ fx2
    refine tk_ind (P := fun u : Mem => u.1 100 7 = 1) _ _ (fun x4 hx4 => ?_)
    have fx4 : x4.2.1 100 7 = 1 := by rw [hx4]; exact kbX6_over _ _ _ fx3
    refine tk_ind (P := fun u : Mem => u.1 100 7 = 1) _ _ (fun x5 hx5 => ?_)
    have fx5 : x5.2.1 100 7 = 1 := by rw [hx5]; exact kbX6_over _ _ _ fx4
    refine tk_ind (P := fun u : Mem => u.1 100 7 = 1) _ _ (fun x6 hx6 => ?_)
    refine tk_ind (P := fun u : Mem => u.1 100 7 = 1) _ _ (fun x7 hx7 => ?_)
    have fx7 : x7.2.1 100 7 = 1 := by rw [hx7]; exact kbX6_over _ _ _ fx5
    refine tk_ind (P := fun u : Mem => u.1 100 7 = 1) _ _ (fun M8 hM8 => ?_)
    have fM8 : M8.1 100 7 = 1 := by rw [hM8, st_ne _ _ _ (by decide)]; exact fx7
    refine tk_ind (P := fun u : Mem => u.1 100 7 = 1) _ _ (fun x9 hx9 => ?_)
    refine tk_ind (P := fun u : Mem => u.1 100 7 = 1) _ _ (fun x10 hx10 => ?_)
    have fx10 : x10.2.1 100 7 = 1 := by rw [hx10]; exact kbX6_over _ _ _ fM8
    refine tk_ind (P := fun u : Mem => u.1 100 7 = 1) _ _ (fun M11 hM11 => ?_)
    have fM11 : M11.1 100 7 = 1 := by rw [hM11, st_ne _ _ _ (by decide)]; exact fx10
    refine tk_ind (P := fun u : Mem => u.1 100 7 = 1) _ _ (fun x12 hx12 => ?_)
    refine tk_ind (P := fun u : Mem => u.1 100 7 = 1) _ _ (fun x13 hx13 => ?_)
    have fx13 : x13.2.1 100 7 = 1 := by rw [hx13]; exact kbX6_over _ _ _ fM11
    refine tk_ind (P := fun u : Mem => u.1 100 7 = 1) _ _ (fun M14 hM14 => ?_)
    have fM14 : M14.1 100 7 = 1 := by rw [hM14, st_ne _ _ _ (by decide)]; exact fx13
    refine tk_ind (P := fun u : Mem => u.1 100 7 = 1) _ _ (fun x15 hx15 => ?_)
    have fx15 : x15.2.1 100 7 = 1 := by rw [hx15]; exact kbX6_over _ _ _ fM14
    refine tk_ind (P := fun u : Mem => u.1 100 7 = 1) _ _ (fun M16 hM16 => ?_)
    have fM16 : M16.1 100 7 = 1 := by rw [hM16, st_ne _ _ _ (by decide)]; exact fx15
    exact fM16
  have o1 := p1.2 z0
  have E1 : M1.1 101 = M.1 101 := o1.1 101 (by decide)
  have F1 : M1.1 100 = M.1 100 := o1.1 100 (by decide)
  have T0 : M1.1 106 0 = tlV e s 0 := o1.2 0 (by decide)
  have T1 : M1.1 106 1 = tlV e s 1 := o1.2 1 (by decide)
  have T2 : M1.1 106 2 = tlV e s 2 := o1.2 2 (by decide)
  have T3 : M1.1 106 3 = tlV e s 3 := o1.2 3 (by decide)
  refine tk_ind (P := RQ M e s g) _ _ (fun x2 hx2 => ?_)
  have yx2 : x2 = sX6_over M1 (fX1_minus (tlV e s 0) (g 0)) (g 2) := by rw [hx2, lessE, T0, l0 M1 E1, l2 M1 E1]
  by_cases z1 : g 2 = 0
  · have fx2 : x2.2.1 100 7 = 1 := by rw [yx2, z1, ov0]; exact st_at _ _ _ _
    refine ⟨fun _ => ?_, fun h => absurd (show rbad e s g from Or.inr (Or.inl z1)) h⟩
    refine tk_ind (P := fun u : Mem => u.1 100 7 = 1) _ _ (fun x3 hx3 => ?_)
    have fx3 : x3.2.1 100 7 = 1 := by rw [hx3]; exact kbX6_over _ _ _ fx2
    refine tk_ind (P := fun u : Mem => u.1 100 7 = 1) _ _ (fun x4 hx4 => ?_)
    have fx4 : x4.2.1 100 7 = 1 := by rw [hx4]; exact kbX6_over _ _ _ fx3
    refine tk_ind (P := fun u : Mem => u.1 100 7 = 1) _ _ (fun x5 hx5 => ?_)
    have fx5 : x5.2.1 100 7 = 1 := by rw [hx5]; exact kbX6_over _ _ _ fx4
    refine tk_ind (P := fun u : Mem => u.1 100 7 = 1) _ _ (fun x6 hx6 => ?_)
    refine tk_ind (P := fun u : Mem => u.1 100 7 = 1) _ _ (fun x7 hx7 => ?_)
    have fx7 : x7.2.1 100 7 = 1 := by rw [hx7]; exact kbX6_over _ _ _ fx5
    refine tk_ind (P := fun u : Mem => u.1 100 7 = 1) _ _ (fun M8 hM8 => ?_)
    have fM8 : M8.1 100 7 = 1 := by rw [hM8, st_ne _ _ _ (by decide)]; exact fx7
    refine tk_ind (P := fun u : Mem => u.1 100 7 = 1) _ _ (fun x9 hx9 => ?_)
    refine tk_ind (P := fun u : Mem => u.1 100 7 = 1) _ _ (fun x10 hx10 => ?_)
    have fx10 : x10.2.1 100 7 = 1 := by rw [hx10]; exact kbX6_over _ _ _ fM8
    refine tk_ind (P := fun u : Mem => u.1 100 7 = 1) _ _ (fun M11 hM11 => ?_)
    have fM11 : M11.1 100 7 = 1 := by rw [hM11, st_ne _ _ _ (by decide)]; exact fx10
    refine tk_ind (P := fun u : Mem => u.1 100 7 = 1) _ _ (fun x12 hx12 => ?_)
    refine tk_ind (P := fun u : Mem => u.1 100 7 = 1) _ _ (fun x13 hx13 => ?_)
    have fx13 : x13.2.1 100 7 = 1 := by rw [hx13]; exact kbX6_over _ _ _ fM11
    refine tk_ind (P := fun u : Mem => u.1 100 7 = 1) _ _ (fun M14 hM14 => ?_)
    have fM14 : M14.1 100 7 = 1 := by rw [hM14, st_ne _ _ _ (by decide)]; exact fx13
    refine tk_ind (P := fun u : Mem => u.1 100 7 = 1) _ _ (fun x15 hx15 => ?_)
    have fx15 : x15.2.1 100 7 = 1 := by rw [hx15]; exact kbX6_over _ _ _ fM14
    refine tk_ind (P := fun u : Mem => u.1 100 7 = 1) _ _ (fun M16 hM16 => ?_)
    have fM16 : M16.1 100 7 = 1 := by rw [hM16, st_ne _ _ _ (by decide)]; exact fx15
    exact fM16
  have ex2 : x2 = (rn0 (tlV e s) g, M1) := by rw [yx2, ovE (cn_minus _ _) (cg 2 (by decide)) z1, rn0]
  have ax2 : x2.1 = rn0 (tlV e s) g := by rw [ex2]
  have bx2 : x2.2 = M1 := by rw [ex2]
  rw [bx2, ax2]
  refine tk_ind (P := RQ M e s g) _ _ (fun x3 hx3 => ?_)
  have yx3 : x3 = sX6_over M1 (fX1_minus (tlV e s 2) (g 3)) (g 5) := by rw [hx3, lessE, T2, l3 M1 E1, l5 M1 E1]
  by_cases z2 : g 5 = 0
  · have fx3 : x3.2.1 100 7 = 1 := by rw [yx3, z2, ov0]; exact st_at _ _ _ _
    refine ⟨fun _ => ?_, fun h => absurd (show rbad e s g from Or.inr (Or.inr (Or.inl z2))) h⟩
    refine tk_ind (P := fun u : Mem => u.1 100 7 = 1) _ _ (fun x4 hx4 => ?_)
    have fx4 : x4.2.1 100 7 = 1 := by rw [hx4]; exact kbX6_over _ _ _ fx3
    refine tk_ind (P := fun u : Mem => u.1 100 7 = 1) _ _ (fun x5 hx5 => ?_)
    have fx5 : x5.2.1 100 7 = 1 := by rw [hx5]; exact kbX6_over _ _ _ fx4
    refine tk_ind (P := fun u : Mem => u.1 100 7 = 1) _ _ (fun x6 hx6 => ?_)
    refine tk_ind (P := fun u : Mem => u.1 100 7 = 1) _ _ (fun x7 hx7 => ?_)
    have fx7 : x7.2.1 100 7 = 1 := by rw [hx7]; exact kbX6_over _ _ _ fx5
    refine tk_ind (P := fun u : Mem => u.1 100 7 = 1) _ _ (fun M8 hM8 => ?_)
    have fM8 : M8.1 100 7 = 1 := by rw [hM8, st_ne _ _ _ (by decide)]; exact fx7
    refine tk_ind (P := fun u : Mem => u.1 100 7 = 1) _ _ (fun x9 hx9 => ?_)
    refine tk_ind (P := fun u : Mem => u.1 100 7 = 1) _ _ (fun x10 hx10 => ?_)
    have fx10 : x10.2.1 100 7 = 1 := by rw [hx10]; exact kbX6_over _ _ _ fM8
    refine tk_ind (P := fun u : Mem => u.1 100 7 = 1) _ _ (fun M11 hM11 => ?_)
    have fM11 : M11.1 100 7 = 1 := by rw [hM11, st_ne _ _ _ (by decide)]; exact fx10
    refine tk_ind (P := fun u : Mem => u.1 100 7 = 1) _ _ (fun x12 hx12 => ?_)
    refine tk_ind (P := fun u : Mem => u.1 100 7 = 1) _ _ (fun x13 hx13 => ?_)
    have fx13 : x13.2.1 100 7 = 1 := by rw [hx13]; exact kbX6_over _ _ _ fM11
    refine tk_ind (P := fun u : Mem => u.1 100 7 = 1) _ _ (fun M14 hM14 => ?_)
    have fM14 : M14.1 100 7 = 1 := by rw [hM14, st_ne _ _ _ (by decide)]; exact fx13
    refine tk_ind (P := fun u : Mem => u.1 100 7 = 1) _ _ (fun x15 hx15 => ?_)
    have fx15 : x15.2.1 100 7 = 1 := by rw [hx15]; exact kbX6_over _ _ _ fM14
    refine tk_ind (P := fun u : Mem => u.1 100 7 = 1) _ _ (fun M16 hM16 => ?_)
    have fM16 : M16.1 100 7 = 1 := by rw [hM16, st_ne _ _ _ (by decide)]; exact fx15
    exact fM16
  have ex3 : x3 = (rn2 (tlV e s) g, M1) := by rw [yx3, ovE (cn_minus _ _) (cg 5 (by decide)) z2, rn2]
  have ax3 : x3.1 = rn2 (tlV e s) g := by rw [ex3]
  have bx3 : x3.2 = M1 := by rw [ex3]
  rw [bx3, ax3]
  refine tk_ind (P := RQ M e s g) _ _ (fun x4 hx4 => ?_)
  have yx4 : x4 = sX6_over M1 (fX1_minus (tlV e s 3) (g 6)) (g 8) := by rw [hx4, lessE, T3, l6 M1 E1, l8 M1 E1]
  by_cases z3 : g 8 = 0
  · have fx4 : x4.2.1 100 7 = 1 := by rw [yx4, z3, ov0]; exact st_at _ _ _ _
    refine ⟨fun _ => ?_, fun h => absurd (show rbad e s g from Or.inr (Or.inr (Or.inr (Or.inl z3)))) h⟩
    refine tk_ind (P := fun u : Mem => u.1 100 7 = 1) _ _ (fun x5 hx5 => ?_)
    have fx5 : x5.2.1 100 7 = 1 := by rw [hx5]; exact kbX6_over _ _ _ fx4
    refine tk_ind (P := fun u : Mem => u.1 100 7 = 1) _ _ (fun x6 hx6 => ?_)
    refine tk_ind (P := fun u : Mem => u.1 100 7 = 1) _ _ (fun x7 hx7 => ?_)
    have fx7 : x7.2.1 100 7 = 1 := by rw [hx7]; exact kbX6_over _ _ _ fx5
    refine tk_ind (P := fun u : Mem => u.1 100 7 = 1) _ _ (fun M8 hM8 => ?_)
    have fM8 : M8.1 100 7 = 1 := by rw [hM8, st_ne _ _ _ (by decide)]; exact fx7
    refine tk_ind (P := fun u : Mem => u.1 100 7 = 1) _ _ (fun x9 hx9 => ?_)
    refine tk_ind (P := fun u : Mem => u.1 100 7 = 1) _ _ (fun x10 hx10 => ?_)
    have fx10 : x10.2.1 100 7 = 1 := by rw [hx10]; exact kbX6_over _ _ _ fM8
    refine tk_ind (P := fun u : Mem => u.1 100 7 = 1) _ _ (fun M11 hM11 => ?_)
    have fM11 : M11.1 100 7 = 1 := by rw [hM11, st_ne _ _ _ (by decide)]; exact fx10
    refine tk_ind (P := fun u : Mem => u.1 100 7 = 1) _ _ (fun x12 hx12 => ?_)
    refine tk_ind (P := fun u : Mem => u.1 100 7 = 1) _ _ (fun x13 hx13 => ?_)
    have fx13 : x13.2.1 100 7 = 1 := by rw [hx13]; exact kbX6_over _ _ _ fM11
    refine tk_ind (P := fun u : Mem => u.1 100 7 = 1) _ _ (fun M14 hM14 => ?_)
    have fM14 : M14.1 100 7 = 1 := by rw [hM14, st_ne _ _ _ (by decide)]; exact fx13
    refine tk_ind (P := fun u : Mem => u.1 100 7 = 1) _ _ (fun x15 hx15 => ?_)
    have fx15 : x15.2.1 100 7 = 1 := by rw [hx15]; exact kbX6_over _ _ _ fM14
    refine tk_ind (P := fun u : Mem => u.1 100 7 = 1) _ _ (fun M16 hM16 => ?_)
    have fM16 : M16.1 100 7 = 1 := by rw [hM16, st_ne _ _ _ (by decide)]; exact fx15
    exact fM16
  have ex4 : x4 = (rn3 (tlV e s) g, M1) := by rw [yx4, ovE (cn_minus _ _) (cg 8 (by decide)) z3, rn3]
  have ax4 : x4.1 = rn3 (tlV e s) g := by rw [ex4]
  have bx4 : x4.2 = M1 := by rw [ex4]
  rw [bx4, ax4]
  refine tk_ind (P := RQ M e s g) _ _ (fun x5 hx5 => ?_)
  have yx5 : x5 = sX6_over M1 (fX1_minus (tlV e s 1) (g 9)) (g 11) := by rw [hx5, lessE, T1, l9 M1 E1, l11 M1 E1]
  by_cases z4 : g 11 = 0
  · have fx5 : x5.2.1 100 7 = 1 := by rw [yx5, z4, ov0]; exact st_at _ _ _ _
    refine ⟨fun _ => ?_, fun h => absurd (show rbad e s g from Or.inr (Or.inr (Or.inr (Or.inr (Or.inl z4))))) h⟩
    refine tk_ind (P := fun u : Mem => u.1 100 7 = 1) _ _ (fun x6 hx6 => ?_)
    refine tk_ind (P := fun u : Mem => u.1 100 7 = 1) _ _ (fun x7 hx7 => ?_)
    have fx7 : x7.2.1 100 7 = 1 := by rw [hx7]; exact kbX6_over _ _ _ fx5
    refine tk_ind (P := fun u : Mem => u.1 100 7 = 1) _ _ (fun M8 hM8 => ?_)
    have fM8 : M8.1 100 7 = 1 := by rw [hM8, st_ne _ _ _ (by decide)]; exact fx7
    refine tk_ind (P := fun u : Mem => u.1 100 7 = 1) _ _ (fun x9 hx9 => ?_)
    refine tk_ind (P := fun u : Mem => u.1 100 7 = 1) _ _ (fun x10 hx10 => ?_)
    have fx10 : x10.2.1 100 7 = 1 := by rw [hx10]; exact kbX6_over _ _ _ fM8
    refine tk_ind (P := fun u : Mem => u.1 100 7 = 1) _ _ (fun M11 hM11 => ?_)
    have fM11 : M11.1 100 7 = 1 := by rw [hM11, st_ne _ _ _ (by decide)]; exact fx10
    refine tk_ind (P := fun u : Mem => u.1 100 7 = 1) _ _ (fun x12 hx12 => ?_)
    refine tk_ind (P := fun u : Mem => u.1 100 7 = 1) _ _ (fun x13 hx13 => ?_)
    have fx13 : x13.2.1 100 7 = 1 := by rw [hx13]; exact kbX6_over _ _ _ fM11
    refine tk_ind (P := fun u : Mem => u.1 100 7 = 1) _ _ (fun M14 hM14 => ?_)
    have fM14 : M14.1 100 7 = 1 := by rw [hM14, st_ne _ _ _ (by decide)]; exact fx13
    refine tk_ind (P := fun u : Mem => u.1 100 7 = 1) _ _ (fun x15 hx15 => ?_)
    have fx15 : x15.2.1 100 7 = 1 := by rw [hx15]; exact kbX6_over _ _ _ fM14
    refine tk_ind (P := fun u : Mem => u.1 100 7 = 1) _ _ (fun M16 hM16 => ?_)
    have fM16 : M16.1 100 7 = 1 := by rw [hM16, st_ne _ _ _ (by decide)]; exact fx15
    exact fM16
  have ex5 : x5 = (rn1 (tlV e s) g, M1) := by rw [yx5, ovE (cn_minus _ _) (cg 11 (by decide)) z4, rn1]
  have ax5 : x5.1 = rn1 (tlV e s) g := by rw [ex5]
  have bx5 : x5.2 = M1 := by rw [ex5]
  rw [bx5, ax5]
  have k0 : CN (rn0 (tlV e s) g) := by rw [rn0]; exact cn_over _ _
  have k1 : CN (rn1 (tlV e s) g) := by rw [rn1]; exact cn_over _ _
  have k2 : CN (rn2 (tlV e s) g) := by rw [rn2]; exact cn_over _ _
  have k3 : CN (rn3 (tlV e s) g) := by rw [rn3]; exact cn_over _ _
  have kq : CN (rqq (tlV e s) g) := by rw [rqq]; exact cn_minus _ _
  have kt : CN (rtt (tlV e s) g) := by rw [rtt]; exact cn_times _ _
  have u1 : fX6_plus 10007 (fX6_by (rn0 (tlV e s) g) (fX6_lrn M1 1)) = ro1 (tlV e s) g := by rw [plusE, l1 M1 E1, byE k0 (cg 1 (by decide)), ro1]
  have u2 : fX6_plus 10007 (fX6_by (rn3 (tlV e s) g) (fX6_lrn M1 7)) = ro2 (tlV e s) g := by rw [plusE, l7 M1 E1, byE k3 (cg 7 (by decide)), ro2]
  have u3 : fX6_by (rn2 (tlV e s) g) (rn1 (tlV e s) g) = rtt (tlV e s) g := by rw [byE k2 k1, rtt]
  have ko1 : CN (ro1 (tlV e s) g) := by rw [ro1]; exact cn_plus _ _
  have ko2 : CN (ro2 (tlV e s) g) := by rw [ro2]; exact cn_plus _ _
  rw [u1, u2, u3]
  refine tk_ind (P := RQ M e s g) _ _ (fun x6 hx6 => ?_)
  have ex6 : x6 = rqq (tlV e s) g := by rw [hx6, lessE, byE ko1 ko2, l4 M1 E1, l10 M1 E1, byE (cg 4 (by decide)) (cg 10 (by decide)), byE kt (cn_times _ _), rqq]
  by_cases z5 : rqq (tlV e s) g = 0
  · refine ⟨fun _ => ?_, fun h => absurd (show rbad e s g from Or.inr (Or.inr (Or.inr (Or.inr (Or.inr (z5)))))) h⟩
    refine tk_ind (P := fun u : Mem => u.1 100 7 = 1) _ _ (fun x7 hx7 => ?_)
    have fx7 : x7.2.1 100 7 = 1 := by rw [hx7, ex6, z5, ov0]; exact st_at _ _ _ _
    refine tk_ind (P := fun u : Mem => u.1 100 7 = 1) _ _ (fun M8 hM8 => ?_)
    have fM8 : M8.1 100 7 = 1 := by rw [hM8, st_ne _ _ _ (by decide)]; exact fx7
    refine tk_ind (P := fun u : Mem => u.1 100 7 = 1) _ _ (fun x9 hx9 => ?_)
    refine tk_ind (P := fun u : Mem => u.1 100 7 = 1) _ _ (fun x10 hx10 => ?_)
    have fx10 : x10.2.1 100 7 = 1 := by rw [hx10]; exact kbX6_over _ _ _ fM8
    refine tk_ind (P := fun u : Mem => u.1 100 7 = 1) _ _ (fun M11 hM11 => ?_)
    have fM11 : M11.1 100 7 = 1 := by rw [hM11, st_ne _ _ _ (by decide)]; exact fx10
    refine tk_ind (P := fun u : Mem => u.1 100 7 = 1) _ _ (fun x12 hx12 => ?_)
    refine tk_ind (P := fun u : Mem => u.1 100 7 = 1) _ _ (fun x13 hx13 => ?_)
    have fx13 : x13.2.1 100 7 = 1 := by rw [hx13]; exact kbX6_over _ _ _ fM11
    refine tk_ind (P := fun u : Mem => u.1 100 7 = 1) _ _ (fun M14 hM14 => ?_)
    have fM14 : M14.1 100 7 = 1 := by rw [hM14, st_ne _ _ _ (by decide)]; exact fx13
    refine tk_ind (P := fun u : Mem => u.1 100 7 = 1) _ _ (fun x15 hx15 => ?_)
    have fx15 : x15.2.1 100 7 = 1 := by rw [hx15]; exact kbX6_over _ _ _ fM14
    refine tk_ind (P := fun u : Mem => u.1 100 7 = 1) _ _ (fun M16 hM16 => ?_)
    have fM16 : M16.1 100 7 = 1 := by rw [hM16, st_ne _ _ _ (by decide)]; exact fx15
    exact fM16
  refine tk_ind (P := RQ M e s g) _ _ (fun x7 hx7 => ?_)
  have ex7 : x7 = (rdV (tlV e s) g 0, M1) := by rw [hx7, ex6, lessE, byE k0 ko2, l4 M1 E1, byE (cg 4 (by decide)) kt, show fX1_minus (fX1_times (rn0 (tlV e s) g) (ro2 (tlV e s) g)) (fX1_times (g 4) (rtt (tlV e s) g)) = rv0 (tlV e s) g from by rw [rv0], ovE (by rw [rv0]; exact cn_minus _ _) kq z5, rdV_0]
  have ax7 : x7.1 = rdV (tlV e s) g 0 := by rw [ex7]
  have bx7 : x7.2 = M1 := by rw [ex7]
  rw [bx7, ax7]
  refine tk_ind (P := RQ M e s g) _ _ (fun M8 hM8 => ?_)
  have E8 : M8.1 101 = M.1 101 := by rw [hM8, st_ne _ _ _ (by decide)]; exact E1
  have F8 : M8.1 100 = M.1 100 := by rw [hM8, st_ne _ _ _ (by decide)]; exact F1
  have w8_0 : M8.1 108 0 = rdV (tlV e s) g 0 := by rw [hM8, st_at]
  refine tk_ind (P := RQ M e s g) _ _ (fun x9 hx9 => ?_)
  have ex9 : x9 = fX1_plus 10007 (fX1_times (rn3 (tlV e s) g) (fX1_minus (g 7) (g 4))) := by rw [hx9, plusE, lessE, l7 M8 E8, l4 M8 E8, byE k3 (cn_minus _ _)]
  refine tk_ind (P := RQ M e s g) _ _ (fun x10 hx10 => ?_)
  have ex10 : x10 = (rdV (tlV e s) g 2, M8) := by rw [hx10, ex6, ex9, byE (cn_plus _ _) k2, show fX1_times (fX1_plus 10007 (fX1_times (rn3 (tlV e s) g) (fX1_minus (g 7) (g 4)))) (rn2 (tlV e s) g) = rv2 (tlV e s) g from by rw [rv2], ovE (by rw [rv2]; exact cn_times _ _) kq z5, rdV_2]
  have ax10 : x10.1 = rdV (tlV e s) g 2 := by rw [ex10]
  have bx10 : x10.2 = M8 := by rw [ex10]
  rw [bx10, ax10]
  refine tk_ind (P := RQ M e s g) _ _ (fun M11 hM11 => ?_)
  have E11 : M11.1 101 = M.1 101 := by rw [hM11, st_ne _ _ _ (by decide)]; exact E8
  have F11 : M11.1 100 = M.1 100 := by rw [hM11, st_ne _ _ _ (by decide)]; exact F8
  have w11_2 : M11.1 108 2 = rdV (tlV e s) g 2 := by rw [hM11, st_at]
  have w11_0 : M11.1 108 0 = rdV (tlV e s) g 0 := by rw [hM11, st_at_ne _ _ _ _ (by decide)]; exact w8_0
  refine tk_ind (P := RQ M e s g) _ _ (fun x12 hx12 => ?_)
  have ex12 : x12 = fX1_plus 10007 (fX1_times (rn0 (tlV e s) g) (fX1_minus (g 1) (g 10))) := by rw [hx12, plusE, lessE, l1 M11 E11, l10 M11 E11, byE k0 (cn_minus _ _)]
  refine tk_ind (P := RQ M e s g) _ _ (fun x13 hx13 => ?_)
  have ex13 : x13 = (rdV (tlV e s) g 1, M11) := by rw [hx13, ex6, ex12, byE (cn_plus _ _) k1, show fX1_times (fX1_plus 10007 (fX1_times (rn0 (tlV e s) g) (fX1_minus (g 1) (g 10)))) (rn1 (tlV e s) g) = rv1 (tlV e s) g from by rw [rv1], ovE (by rw [rv1]; exact cn_times _ _) kq z5, rdV_1]
  have ax13 : x13.1 = rdV (tlV e s) g 1 := by rw [ex13]
  have bx13 : x13.2 = M11 := by rw [ex13]
  rw [bx13, ax13]
  refine tk_ind (P := RQ M e s g) _ _ (fun M14 hM14 => ?_)
  have E14 : M14.1 101 = M.1 101 := by rw [hM14, st_ne _ _ _ (by decide)]; exact E11
  have F14 : M14.1 100 = M.1 100 := by rw [hM14, st_ne _ _ _ (by decide)]; exact F11
  have w14_1 : M14.1 108 1 = rdV (tlV e s) g 1 := by rw [hM14, st_at]
  have w14_0 : M14.1 108 0 = rdV (tlV e s) g 0 := by rw [hM14, st_at_ne _ _ _ _ (by decide)]; exact w11_0
  have w14_2 : M14.1 108 2 = rdV (tlV e s) g 2 := by rw [hM14, st_at_ne _ _ _ _ (by decide)]; exact w11_2
  refine tk_ind (P := RQ M e s g) _ _ (fun x15 hx15 => ?_)
  have ex15 : x15 = (rdV (tlV e s) g 3, M14) := by rw [hx15, ex6, lessE, byE k3 ko1, l10 M14 E14, byE (cg 10 (by decide)) kt, show fX1_minus (fX1_times (rn3 (tlV e s) g) (ro1 (tlV e s) g)) (fX1_times (g 10) (rtt (tlV e s) g)) = rv3 (tlV e s) g from by rw [rv3], ovE (by rw [rv3]; exact cn_minus _ _) kq z5, rdV_3]
  have ax15 : x15.1 = rdV (tlV e s) g 3 := by rw [ex15]
  have bx15 : x15.2 = M14 := by rw [ex15]
  rw [bx15, ax15]
  refine tk_ind (P := RQ M e s g) _ _ (fun M16 hM16 => ?_)
  have E16 : M16.1 101 = M.1 101 := by rw [hM16, st_ne _ _ _ (by decide)]; exact E14
  have F16 : M16.1 100 = M.1 100 := by rw [hM16, st_ne _ _ _ (by decide)]; exact F14
  have w16_3 : M16.1 108 3 = rdV (tlV e s) g 3 := by rw [hM16, st_at]
  have w16_0 : M16.1 108 0 = rdV (tlV e s) g 0 := by rw [hM16, st_at_ne _ _ _ _ (by decide)]; exact w14_0
  have w16_1 : M16.1 108 1 = rdV (tlV e s) g 1 := by rw [hM16, st_at_ne _ _ _ _ (by decide)]; exact w14_1
  have w16_2 : M16.1 108 2 = rdV (tlV e s) g 2 := by rw [hM16, st_at_ne _ _ _ _ (by decide)]; exact w14_2
  refine ⟨fun h => ?_, fun _ => ⟨r4 w16_0 w16_1 w16_2 w16_3, F16⟩⟩
  rcases h with h | h | h | h | h | h
  · exact absurd h z0
  · exact absurd h z1
  · exact absurd h z2
  · exact absurd h z3
  · exact absurd h z4
  · exact absurd h z5
theorem mcr {M : Mem} {b : Int32} {e s g : Nat → Int32} (hb : 0 ≤ b.toInt ∧ b.toInt < 8) (hs : C4 (bxR M b)) (he : C12 (eR M)) (hg : ¬ M.1 101 45 = 0 → C12 (lR M)) (xe : tr 12 (eR M) = e) (xs : tr 4 (bxR M b) = s) (xg : tr 12 (lR M) = g) : CP 108 4 (M.1 101 45 = 0 ∨ rbad e s g) (rdV (tlV e s) g) (sX6_canRead M b) := by
  unfold sX6_canRead
  refine ite_ind (P := CP 108 4 (M.1 101 45 = 0 ∨ rbad e s g) (rdV (tlV e s) g)) (fun c => ?_) (fun c => ?_)
  · refine tk_ind (P := CP 108 4 (M.1 101 45 = 0 ∨ rbad e s g) (rdV (tlV e s) g)) _ _ (fun M3 h3 => ?_)
    have f : M3.1 100 7 = 1 := by rw [h3, st_at]
    rw [if_neg (by rw [f]; decide), if_neg (by rw [f]; decide)]
    exact cp_no (Or.inl c)
  · refine tk_ind (P := CP 108 4 (M.1 101 45 = 0 ∨ rbad e s g) (rdV (tlV e s) g)) _ _ (fun M1 h1 => ?_)
    have f : M1.1 100 7 = 0 := by rw [h1, st_at]
    have e1 : M1.1 101 = M.1 101 := by rw [h1, st_ne _ _ _ (by decide)]
    rw [if_pos f]
    refine tk_ind (P := CP 108 4 (M.1 101 45 = 0 ∨ rbad e s g) (rdV (tlV e s) g)) _ _ (fun M2 h2 => ?_)
    have q := mrb (M := M1) (e := e) (s := s) (g := g) hb (by rw [bRg b e1]; exact hs) (by rw [eRg e1]; exact he) (by rw [lRg e1]; exact hg c) (by rw [eRg e1]; exact xe) (by rw [bRg b e1]; exact xs) (by rw [lRg e1]; exact xg)
    rw [← h2] at q
    by_cases z : rbad e s g
    · have f2 := q.1 z
      rw [if_neg (by rw [f2]; decide)]
      exact cp_no (Or.inr z)
    · have f2 := q.2 z
      have f7 : M2.1 100 7 = 0 := by rw [f2.2]; exact f
      rw [if_pos f7]
      exact cp_yes (fun h => h.elim c z) f2.1
/-! ===== chains and peels ===== -/
def cbad (s t : Nat → Int32) : Prop := s 2 = 0 ∨ t 2 = 0 ∨ prV (tfV s) (tfV t) 3 = 0
def chV (s t : Nat → Int32) : Nat → Int32 := gbV (prV (tfV s) (tfV t))
theorem mft {M : Mem} {b : Int32} {s : Nat → Int32} (J : Nat) (u : Mem) (h : FP J M (M.1 101 (1 + 4 * b.toNatClampNeg + 2) = 0) (tfV (bxR M b)) u) (xs : tr 4 (bxR M b) = s) : FP J M (s 2 = 0) (tfV s) u := by
  subst xs
  refine h.to ?_ (tf_g (a4_tr _))
  rw [tr_at _ (by decide)]
  rfl
theorem mch {M : Mem} {a b : Int32} {s t : Nat → Int32} (ha : 0 ≤ a.toInt ∧ a.toInt < 8) (hb : 0 ≤ b.toInt ∧ b.toInt < 8) (hs : C4 (bxR M a)) (ht : C4 (bxR M b)) (xs : tr 4 (bxR M a) = s) (xt : tr 4 (bxR M b) = t) : CP 108 4 (cbad s t) (chV s t) (sX6_canChain M a b) := by
  unfold sX6_canChain
  refine tk_ind (P := CP 108 4 (cbad s t) (chV s t)) _ _ (fun M1 h1 => ?_)
  have e1 : M1.1 101 = M.1 101 := by rw [h1, st_ne _ _ _ (by decide)]
  have g1 : M1.1 100 7 = 0 := by rw [h1, st_at]
  refine tk_ind (P := CP 108 4 (cbad s t) (chV s t)) _ _ (fun M2 h2 => ?_)
  have p2 := mft (s := s) 109 M2 (h2 ▸ mtf_1 (M := M1) ha (by rw [bRg a e1]; exact hs)) (by rw [bRg a e1]; exact xs)
  refine tk_ind (P := CP 108 4 (cbad s t) (chV s t)) _ _ (fun M3 h3 => ?_)
  refine tk_ind (P := CP 108 4 (cbad s t) (chV s t)) _ _ (fun M4 h4 => ?_)
  refine tk_ind (P := CP 108 4 (cbad s t) (chV s t)) _ _ (fun M5 h5 => ?_)
  by_cases z0 : s 2 = 0
  · have f2 := p2.1 z0
    have f3 : M3.1 100 7 = 1 := by rw [h3]; exact kbX6_formsTo_2 _ _ f2
    have f4 : M4.1 100 7 = 1 := by rw [h4]; exact kbX6_multiplies _ f3
    have f5 : M5.1 100 7 = 1 := by rw [h5]; exact kbX6_goesBack _ f4
    rw [if_neg (by rw [f5]; decide)]
    exact cp_no (Or.inl z0)
  have o2 := p2.2 z0
  have e2 : M2.1 101 = M.1 101 := (o2.1 101 (by decide)).trans e1
  have p3 := mft (s := t) 110 M3 (h3 ▸ mtf_2 (M := M2) hb (by rw [bRg b e2]; exact ht)) (by rw [bRg b e2]; exact xt)
  by_cases z1 : t 2 = 0
  · have f3 := p3.1 z1
    have f4 : M4.1 100 7 = 1 := by rw [h4]; exact kbX6_multiplies _ f3
    have f5 : M5.1 100 7 = 1 := by rw [h5]; exact kbX6_goesBack _ f4
    rw [if_neg (by rw [f5]; decide)]
    exact cp_no (Or.inr (Or.inl z1))
  have o3 := p3.2 z1
  have a9 : A4 (M3.1 109) (tfV s) := by rw [o3.1 109 (by decide)]; exact o2.2
  have p4 := mmu (M := M3) ((c4_tf s).of a9) ((c4_tf t).of o3.2)
  rw [← h4] at p4
  have a11 : A4 (M4.1 111) (prV (tfV s) (tfV t)) := p4.2.trans (pr_g a9 o3.2)
  have p5 := mgb (M := M4) ((c4_pr _ _).of a11)
  rw [← h5] at p5
  by_cases z2 : prV (tfV s) (tfV t) 3 = 0
  · have f5 := p5.1 (by rw [a11 3 (by decide)]; exact z2)
    rw [if_neg (by rw [f5]; decide)]
    exact cp_no (Or.inr (Or.inr z2))
  have o5 := p5.2 (by rw [a11 3 (by decide)]; exact z2)
  have f7 : M5.1 100 7 = 0 := by rw [o5.1 100 (by decide), p4.1 100 (by decide), o3.1 100 (by decide), o2.1 100 (by decide)]; exact g1
  rw [if_pos f7]
  exact cp_yes (fun h => h.elim z0 (fun h => h.elim z1 z2)) (o5.2.trans (bx_g a11))
theorem mcp {M : Mem} (h : C4 (M.1 111)) : (∀ i, i ≠ 109 → (sX6_copies M).1 i = M.1 i) ∧ A4 ((sX6_copies M).1 109) (M.1 111) := by
  unfold sX6_copies
  refine tk_ind (P := fun u : Mem => (∀ i, i ≠ 109 → u.1 i = M.1 i) ∧ A4 (u.1 109) (M.1 111)) _ _ (fun M1 e1 => ?_)
  refine tk_ind (P := fun u : Mem => (∀ i, i ≠ 109 → u.1 i = M.1 i) ∧ A4 (u.1 109) (M.1 111)) _ _ (fun M2 e2 => ?_)
  refine tk_ind (P := fun u : Mem => (∀ i, i ≠ 109 → u.1 i = M.1 i) ∧ A4 (u.1 109) (M.1 111)) _ _ (fun M3 e3 => ?_)
  refine tk_ind (P := fun u : Mem => (∀ i, i ≠ 109 → u.1 i = M.1 i) ∧ A4 (u.1 109) (M.1 111)) _ _ (fun M4 e4 => ?_)
  have r1 : ∀ i, i ≠ 109 → M1.1 i = M.1 i := fun i hi => by rw [e1, st_ne _ _ _ hi]
  have r2 : ∀ i, i ≠ 109 → M2.1 i = M.1 i := fun i hi => by rw [e2, st_ne _ _ _ hi, r1 i hi]
  have r3 : ∀ i, i ≠ 109 → M3.1 i = M.1 i := fun i hi => by rw [e3, st_ne _ _ _ hi, r2 i hi]
  have r4' : ∀ i, i ≠ 109 → M4.1 i = M.1 i := fun i hi => by rw [e4, st_ne _ _ _ hi, r3 i hi]
  refine ⟨r4', r4 ?_ ?_ ?_ ?_⟩
  · rw [e4, st_at_ne _ _ _ _ (by decide), e3, st_at_ne _ _ _ _ (by decide), e2, st_at_ne _ _ _ _ (by decide), e1, st_at]
  · rw [e4, st_at_ne _ _ _ _ (by decide), e3, st_at_ne _ _ _ _ (by decide), e2, st_at, r1 111 (by decide)]
  · rw [e4, st_at_ne _ _ _ _ (by decide), e3, st_at, r2 111 (by decide)]
  · rw [e4, st_at, r3 111 (by decide)]
def pP (m a b : Nat → Int32) : Nat → Int32 := prV (prV (ivV (tfV a)) (tfV m)) (ivV (tfV b))
def pbad (m a b : Nat → Int32) : Prop := a 2 = 0 ∨ dtV (tfV a) = 0 ∨ m 2 = 0 ∨ b 2 = 0 ∨ dtV (tfV b) = 0 ∨ pP m a b 3 = 0
theorem mpe {M : Mem} {i j k : Int32} {m a b : Nat → Int32} (hi : 0 ≤ i.toInt ∧ i.toInt < 8) (hj : 0 ≤ j.toInt ∧ j.toInt < 8) (hk : 0 ≤ k.toInt ∧ k.toInt < 8) (hm : C4 (bxR M i)) (ha : C4 (bxR M j)) (hb : C4 (bxR M k)) (xm : tr 4 (bxR M i) = m) (xa : tr 4 (bxR M j) = a) (xb : tr 4 (bxR M k) = b) : CP 108 4 (pbad m a b) (gbV (pP m a b)) (sX6_canPeel M i j k) := by
  unfold sX6_canPeel
  refine tk_ind (P := CP 108 4 (pbad m a b) (gbV (pP m a b))) _ _ (fun M1 h1 => ?_)
  have e1 : M1.1 101 = M.1 101 := by rw [h1, st_ne _ _ _ (by decide)]
  have g1 : M1.1 100 7 = 0 := by rw [h1, st_at]
  refine tk_ind (P := CP 108 4 (pbad m a b) (gbV (pP m a b))) _ _ (fun M2 h2 => ?_)
  refine tk_ind (P := CP 108 4 (pbad m a b) (gbV (pP m a b))) _ _ (fun M3 h3 => ?_)
  refine tk_ind (P := CP 108 4 (pbad m a b) (gbV (pP m a b))) _ _ (fun M4 h4 => ?_)
  refine tk_ind (P := CP 108 4 (pbad m a b) (gbV (pP m a b))) _ _ (fun M5 h5 => ?_)
  refine tk_ind (P := CP 108 4 (pbad m a b) (gbV (pP m a b))) _ _ (fun M6 h6 => ?_)
  refine tk_ind (P := CP 108 4 (pbad m a b) (gbV (pP m a b))) _ _ (fun M7 h7 => ?_)
  refine tk_ind (P := CP 108 4 (pbad m a b) (gbV (pP m a b))) _ _ (fun M8 h8 => ?_)
  refine tk_ind (P := CP 108 4 (pbad m a b) (gbV (pP m a b))) _ _ (fun M9 h9 => ?_)
  refine tk_ind (P := CP 108 4 (pbad m a b) (gbV (pP m a b))) _ _ (fun M10 h10 => ?_)
  have s3 : M2.1 100 7 = 1 → M3.1 100 7 = 1 := fun f => by rw [h3]; exact kbX6_inverts_1 _ f
  have s4' : M3.1 100 7 = 1 → M4.1 100 7 = 1 := fun f => by rw [h4]; exact kbX6_formsTo_2 _ _ f
  have s5 : M4.1 100 7 = 1 → M5.1 100 7 = 1 := fun f => by rw [h5]; exact kbX6_multiplies _ f
  have s6 : M5.1 100 7 = 1 → M6.1 100 7 = 1 := fun f => by rw [h6]; exact kbX6_copies _ f
  have s7 : M6.1 100 7 = 1 → M7.1 100 7 = 1 := fun f => by rw [h7]; exact kbX6_formsTo_2 _ _ f
  have s8 : M7.1 100 7 = 1 → M8.1 100 7 = 1 := fun f => by rw [h8]; exact kbX6_inverts_2 _ f
  have s9 : M8.1 100 7 = 1 → M9.1 100 7 = 1 := fun f => by rw [h9]; exact kbX6_multiplies _ f
  have s10 : M9.1 100 7 = 1 → M10.1 100 7 = 1 := fun f => by rw [h10]; exact kbX6_goesBack _ f
  have no : M10.1 100 7 = 1 → pbad m a b → CP 108 4 (pbad m a b) (gbV (pP m a b)) (if M10.1 100 7 = 0 then (1, M10) else (0, M10)) := fun f q => by
    rw [if_neg (by rw [f]; decide)]
    exact cp_no q
  have p2 := mft (s := a) 109 M2 (h2 ▸ mtf_1 (M := M1) hj (by rw [bRg j e1]; exact ha)) (by rw [bRg j e1]; exact xa)
  by_cases z0 : a 2 = 0
  · exact no (s10 (s9 (s8 (s7 (s6 (s5 (s4' (s3 (p2.1 z0))))))))) (Or.inl z0)
  have o2 := p2.2 z0
  have e2 : M2.1 101 = M.1 101 := (o2.1 101 (by decide)).trans e1
  have p3 := miv_1 (M := M2) ((c4_tf a).of o2.2)
  rw [← h3] at p3
  have p3 : FP 109 M2 (dtV (tfV a) = 0) (ivV (tfV a)) M3 := p3.to (by rw [dt_g o2.2]) (iv_g o2.2)
  by_cases z1 : dtV (tfV a) = 0
  · exact no (s10 (s9 (s8 (s7 (s6 (s5 (s4' (p3.1 z1)))))))) (Or.inr (Or.inl z1))
  have o3 := p3.2 z1
  have e3 : M3.1 101 = M.1 101 := (o3.1 101 (by decide)).trans e2
  have p4 := mft (s := m) 110 M4 (h4 ▸ mtf_2 (M := M3) hi (by rw [bRg i e3]; exact hm)) (by rw [bRg i e3]; exact xm)
  by_cases z2 : m 2 = 0
  · exact no (s10 (s9 (s8 (s7 (s6 (s5 (p4.1 z2))))))) (Or.inr (Or.inr (Or.inl z2)))
  have o4 := p4.2 z2
  have e4 : M4.1 101 = M.1 101 := (o4.1 101 (by decide)).trans e3
  have a4 : A4 (M4.1 109) (ivV (tfV a)) := by rw [o4.1 109 (by decide)]; exact o3.2
  have p5 := mmu (M := M4) ((c4_iv _).of a4) ((c4_tf m).of o4.2)
  rw [← h5] at p5
  have a5 : A4 (M5.1 111) (prV (ivV (tfV a)) (tfV m)) := p5.2.trans (pr_g a4 o4.2)
  have p6 := mcp (M := M5) ((c4_pr _ _).of a5)
  rw [← h6] at p6
  have a6 : A4 (M6.1 109) (prV (ivV (tfV a)) (tfV m)) := p6.2.trans a5
  have e6 : M6.1 101 = M.1 101 := by rw [p6.1 101 (by decide), p5.1 101 (by decide)]; exact e4
  have p7 := mft (s := b) 110 M7 (h7 ▸ mtf_2 (M := M6) hk (by rw [bRg k e6]; exact hb)) (by rw [bRg k e6]; exact xb)
  by_cases z3 : b 2 = 0
  · exact no (s10 (s9 (s8 (p7.1 z3)))) (Or.inr (Or.inr (Or.inr (Or.inl z3))))
  have o7 := p7.2 z3
  have p8 := miv_2 (M := M7) ((c4_tf b).of o7.2)
  rw [← h8] at p8
  have p8 : FP 110 M7 (dtV (tfV b) = 0) (ivV (tfV b)) M8 := p8.to (by rw [dt_g o7.2]) (iv_g o7.2)
  by_cases z4 : dtV (tfV b) = 0
  · exact no (s10 (s9 (p8.1 z4))) (Or.inr (Or.inr (Or.inr (Or.inr (Or.inl z4)))))
  have o8 := p8.2 z4
  have a8 : A4 (M8.1 109) (prV (ivV (tfV a)) (tfV m)) := by rw [o8.1 109 (by decide), o7.1 109 (by decide)]; exact a6
  have p9 := mmu (M := M8) ((c4_pr _ _).of a8) ((c4_iv _).of o8.2)
  rw [← h9] at p9
  have a9 : A4 (M9.1 111) (pP m a b) := p9.2.trans (pr_g a8 o8.2)
  have p10 := mgb (M := M9) ((c4_pr _ _).of a9)
  rw [← h10] at p10
  by_cases z5 : pP m a b 3 = 0
  · exact no (p10.1 (by rw [a9 3 (by decide)]; exact z5)) (Or.inr (Or.inr (Or.inr (Or.inr (Or.inr z5)))))
  have o10 := p10.2 (by rw [a9 3 (by decide)]; exact z5)
  have f7 : M10.1 100 7 = 0 := by rw [o10.1 100 (by decide), p9.1 100 (by decide), o8.1 100 (by decide), o7.1 100 (by decide), p6.1 100 (by decide), p5.1 100 (by decide), o4.1 100 (by decide), o3.1 100 (by decide), o2.1 100 (by decide)]; exact g1
  rw [if_pos f7]
  refine cp_yes (fun h => ?_) (o10.2.trans (bx_g a9))
  rcases h with h | h | h | h | h | h
  · exact z0 h
  · exact z1 h
  · exact z2 h
  · exact z3 h
  · exact z4 h
  · exact z5 h
