def sd0 : Nat → Int32 := s4 0 0 0 0
def sd1 : Nat → Int32 := s4 10007 0 0 0
def sd2 : Nat → Int32 := s4 100130042 0 0 0
def sd3 : Nat → Int32 := s4 0 0 0 10007
def sd4 : Nat → Int32 := s4 0 0 0 100130042
def sd5 : Nat → Int32 := s4 0 10007 10007 0
def lq0 (e : Nat → Int32) : Int32 := tlV e sd0 0
def lq3 (e : Nat → Int32) : Int32 := tlV e sd0 2
def lq6 (e : Nat → Int32) : Int32 := tlV e sd0 3
def lq9 (e : Nat → Int32) : Int32 := tlV e sd0 1
def la1 (e : Nat → Int32) : Int32 := fX1_minus (tlV e sd1 0) (lq0 e)
def lc1 (e : Nat → Int32) : Int32 := fX1_minus (tlV e sd2 0) (lq0 e)
def lq1 (e : Nat → Int32) : Int32 := fX1_over (fX1_plus (la1 e) (lc1 e)) (fX1_minus (la1 e) (lc1 e))
def lq2 (e : Nat → Int32) : Int32 := fX1_times (la1 e) (fX1_minus 10007 (lq1 e))
def la7 (e : Nat → Int32) : Int32 := fX1_minus (tlV e sd3 3) (lq6 e)
def lc7 (e : Nat → Int32) : Int32 := fX1_minus (tlV e sd4 3) (lq6 e)
def lq7 (e : Nat → Int32) : Int32 := fX1_over (fX1_plus (la7 e) (lc7 e)) (fX1_minus (la7 e) (lc7 e))
def lq8 (e : Nat → Int32) : Int32 := fX1_times (la7 e) (fX1_minus 10007 (lq7 e))
def lc4 (e : Nat → Int32) : Int32 := fX1_minus (tlV e sd5 0) (lq0 e)
def ld4 (e : Nat → Int32) : Int32 := fX1_plus (lq2 e) (fX1_times (lc4 e) (lq1 e))
def lq4 (e : Nat → Int32) : Int32 := fX1_over (lc4 e) (ld4 e)
def lq5 (e : Nat → Int32) : Int32 := fX1_times (fX1_minus (tlV e sd5 2) (lq3 e)) (fX1_minus 10007 (fX1_times (lq1 e) (lq4 e)))
def lc10 (e : Nat → Int32) : Int32 := fX1_minus (tlV e sd5 3) (lq6 e)
def ld10 (e : Nat → Int32) : Int32 := fX1_plus (lq8 e) (fX1_times (lc10 e) (lq7 e))
def lq10 (e : Nat → Int32) : Int32 := fX1_over (lc10 e) (ld10 e)
def lq11 (e : Nat → Int32) : Int32 := fX1_times (fX1_minus (tlV e sd5 1) (lq9 e)) (fX1_minus 10007 (fX1_times (lq7 e) (lq10 e)))
/-- what keeps the bench from learning -/
def lbad (e : Nat → Int32) : Prop := TB e sd0 ∨ TB e sd1 ∨ TB e sd2 ∨ fX1_minus (la1 e) (lc1 e) = 0 ∨ TB e sd3 ∨ TB e sd4 ∨ fX1_minus (la7 e) (lc7 e) = 0 ∨ TB e sd5 ∨ ld4 e = 0 ∨ ld10 e = 0
def lgV (e : Nat → Int32) (k : Nat) : Int32 := if k = 0 then lq0 e else if k = 1 then lq1 e else if k = 2 then lq2 e else if k = 3 then lq3 e else if k = 4 then lq4 e else if k = 5 then lq5 e else if k = 6 then lq6 e else if k = 7 then lq7 e else if k = 8 then lq8 e else if k = 9 then lq9 e else if k = 10 then lq10 e else lq11 e
theorem lgV_0 (e : Nat → Int32) : lgV e 0 = lq0 e := by unfold lgV; rw [if_pos rfl]
theorem lgV_1 (e : Nat → Int32) : lgV e 1 = lq1 e := by unfold lgV; rw [if_neg (by decide), if_pos rfl]
theorem lgV_2 (e : Nat → Int32) : lgV e 2 = lq2 e := by unfold lgV; rw [if_neg (by decide), if_neg (by decide), if_pos rfl]
theorem lgV_3 (e : Nat → Int32) : lgV e 3 = lq3 e := by unfold lgV; rw [if_neg (by decide), if_neg (by decide), if_neg (by decide), if_pos rfl]
theorem lgV_4 (e : Nat → Int32) : lgV e 4 = lq4 e := by unfold lgV; rw [if_neg (by decide), if_neg (by decide), if_neg (by decide), if_neg (by decide), if_pos rfl]
theorem lgV_5 (e : Nat → Int32) : lgV e 5 = lq5 e := by unfold lgV; rw [if_neg (by decide), if_neg (by decide), if_neg (by decide), if_neg (by decide), if_neg (by decide), if_pos rfl]
theorem lgV_6 (e : Nat → Int32) : lgV e 6 = lq6 e := by unfold lgV; rw [if_neg (by decide), if_neg (by decide), if_neg (by decide), if_neg (by decide), if_neg (by decide), if_neg (by decide), if_pos rfl]
theorem lgV_7 (e : Nat → Int32) : lgV e 7 = lq7 e := by unfold lgV; rw [if_neg (by decide), if_neg (by decide), if_neg (by decide), if_neg (by decide), if_neg (by decide), if_neg (by decide), if_neg (by decide), if_pos rfl]
theorem lgV_8 (e : Nat → Int32) : lgV e 8 = lq8 e := by unfold lgV; rw [if_neg (by decide), if_neg (by decide), if_neg (by decide), if_neg (by decide), if_neg (by decide), if_neg (by decide), if_neg (by decide), if_neg (by decide), if_pos rfl]
theorem lgV_9 (e : Nat → Int32) : lgV e 9 = lq9 e := by unfold lgV; rw [if_neg (by decide), if_neg (by decide), if_neg (by decide), if_neg (by decide), if_neg (by decide), if_neg (by decide), if_neg (by decide), if_neg (by decide), if_neg (by decide), if_pos rfl]
theorem lgV_10 (e : Nat → Int32) : lgV e 10 = lq10 e := by unfold lgV; rw [if_neg (by decide), if_neg (by decide), if_neg (by decide), if_neg (by decide), if_neg (by decide), if_neg (by decide), if_neg (by decide), if_neg (by decide), if_neg (by decide), if_neg (by decide), if_pos rfl]
theorem lgV_11 (e : Nat → Int32) : lgV e 11 = lq11 e := by unfold lgV; rw [if_neg (by decide), if_neg (by decide), if_neg (by decide), if_neg (by decide), if_neg (by decide), if_neg (by decide), if_neg (by decide), if_neg (by decide), if_neg (by decide), if_neg (by decide), if_neg (by decide)]
theorem row12 {P : Nat → Prop} (h0 : P 0) (h1 : P 1) (h2 : P 2) (h3 : P 3) (h4 : P 4) (h5 : P 5) (h6 : P 6) (h7 : P 7) (h8 : P 8) (h9 : P 9) (h10 : P 10) (h11 : P 11) : ∀ k, k < 12 → P k := fun k hk => by
  rcases (show k = 0 ∨ k = 1 ∨ k = 2 ∨ k = 3 ∨ k = 4 ∨ k = 5 ∨ k = 6 ∨ k = 7 ∨ k = 8 ∨ k = 9 ∨ k = 10 ∨ k = 11 by omega) with e | e | e | e | e | e | e | e | e | e | e | e <;> subst e <;> assumption
theorem c12_lg (e : Nat → Int32) : C12 (lgV e) := by
  have t := fun b => c4_tl e b
  refine row12 ?_ ?_ ?_ ?_ ?_ ?_ ?_ ?_ ?_ ?_ ?_ ?_
  · rw [lgV_0, lq0]; exact t _ 0 (by decide)
  · rw [lgV_1, lq1]; exact cn_over _ _
  · rw [lgV_2, lq2]; exact cn_times _ _
  · rw [lgV_3, lq3]; exact t _ 2 (by decide)
  · rw [lgV_4, lq4]; exact cn_over _ _
  · rw [lgV_5, lq5]; exact cn_times _ _
  · rw [lgV_6, lq6]; exact t _ 3 (by decide)
  · rw [lgV_7, lq7]; exact cn_over _ _
  · rw [lgV_8, lq8]; exact cn_times _ _
  · rw [lgV_9, lq9]; exact t _ 1 (by decide)
  · rw [lgV_10, lq10]; exact cn_over _ _
  · rw [lgV_11, lq11]; exact cn_times _ _
def LQ (M : Mem) (u : Mem) : Prop := (lbad (tr 12 (eR M)) → u.1 100 7 = 1) ∧ (¬ lbad (tr 12 (eR M)) → A12 (u.1 107) (lgV (tr 12 (eR M))) ∧ u.1 100 = M.1 100)
theorem mla {M : Mem} (he : C12 (eR M)) : LQ M (sX6_learnsAll M) := by
  unfold sX6_learnsAll
  generalize hE : tr 12 (eR M) = e
  have E_M : M.1 101 = M.1 101 := rfl
  have F_M : M.1 100 = M.1 100 := rfl
  refine tk_ind (P := LQ M) _ _ (fun M1 hM1 => ?_)
  have pM1 := mtl4 (M := M) cn_0 cn_0 cn_0 cn_0 (by rw [eRg E_M]; exact he)
  rw [← hM1, eRg E_M, hE] at pM1
  have pM1 : FP 106 M (TB e sd0) (tlV e sd0) M1 := pM1
  by_cases z0 : TB e sd0
  · have fM1 : M1.1 100 7 = 1 := pM1.1 z0
    refine ⟨fun _ => ?_, fun h => absurd (show lbad (tr 12 (eR M)) from by rw [hE]; exact Or.inl z0) h⟩
    refine tk_ind (P := fun u : Mem => u.1 100 7 = 1) _ _ (fun M2 hM2 => ?_)
    have fM2 : M2.1 100 7 = 1 := by rw [hM2, st_ne _ _ _ (by decide)]; exact fM1
    refine tk_ind (P := fun u : Mem => u.1 100 7 = 1) _ _ (fun M3 hM3 => ?_)
    have fM3 : M3.1 100 7 = 1 := by rw [hM3, st_ne _ _ _ (by decide)]; exact fM2
    refine tk_ind (P := fun u : Mem => u.1 100 7 = 1) _ _ (fun M4 hM4 => ?_)
    have fM4 : M4.1 100 7 = 1 := by rw [hM4, st_ne _ _ _ (by decide)]; exact fM3
    refine tk_ind (P := fun u : Mem => u.1 100 7 = 1) _ _ (fun M5 hM5 => ?_)
    have fM5 : M5.1 100 7 = 1 := by rw [hM5, st_ne _ _ _ (by decide)]; exact fM4
    refine tk_ind (P := fun u : Mem => u.1 100 7 = 1) _ _ (fun M6 hM6 => ?_)
    have fM6 : M6.1 100 7 = 1 := by rw [hM6]; exact kbX6_tellsOf _ _ _ _ _ fM5
    refine tk_ind (P := fun u : Mem => u.1 100 7 = 1) _ _ (fun M7 hM7 => ?_)
    have fM7 : M7.1 100 7 = 1 := by rw [hM7]; exact kbX6_tellsOf _ _ _ _ _ fM6
    refine tk_ind (P := fun u : Mem => u.1 100 7 = 1) _ _ (fun M8 hM8 => ?_)
    have fM8 : M8.1 100 7 = 1 := by rw [hM8]; exact kbX6_learnsSide_1 _ _ _ fM7
    refine tk_ind (P := fun u : Mem => u.1 100 7 = 1) _ _ (fun M9 hM9 => ?_)
    have fM9 : M9.1 100 7 = 1 := by rw [hM9]; exact kbX6_tellsOf _ _ _ _ _ fM8
    refine tk_ind (P := fun u : Mem => u.1 100 7 = 1) _ _ (fun M10 hM10 => ?_)
    have fM10 : M10.1 100 7 = 1 := by rw [hM10]; exact kbX6_tellsOf _ _ _ _ _ fM9
    refine tk_ind (P := fun u : Mem => u.1 100 7 = 1) _ _ (fun M11 hM11 => ?_)
    have fM11 : M11.1 100 7 = 1 := by rw [hM11]; exact kbX6_learnsSide_7 _ _ _ fM10
    refine tk_ind (P := fun u : Mem => u.1 100 7 = 1) _ _ (fun M12 hM12 => ?_)
    have fM12 : M12.1 100 7 = 1 := by rw [hM12]; exact kbX6_tellsOf _ _ _ _ _ fM11
    refine tk_ind (P := fun u : Mem => u.1 100 7 = 1) _ _ (fun M13 hM13 => ?_)
    have fM13 : M13.1 100 7 = 1 := by rw [hM13]; exact kbX6_learnsThrough_1 _ _ _ _ fM12
    refine tk_ind (P := fun u : Mem => u.1 100 7 = 1) _ _ (fun M14 hM14 => ?_)
    have fM14 : M14.1 100 7 = 1 := by rw [hM14]; exact kbX6_learnsThrough_7 _ _ _ _ fM13
    exact fM14
  have oM1 := pM1.2 z0
  have E_M1 : M1.1 101 = M.1 101 := (oM1.1 101 (by decide)).trans E_M
  have F_M1 : M1.1 100 = M.1 100 := (oM1.1 100 (by decide)).trans F_M
  have T_M1_0 : M1.1 106 0 = tlV e sd0 0 := oM1.2 0 (by decide)
  have T_M1_1 : M1.1 106 1 = tlV e sd0 1 := oM1.2 1 (by decide)
  have T_M1_2 : M1.1 106 2 = tlV e sd0 2 := oM1.2 2 (by decide)
  have T_M1_3 : M1.1 106 3 = tlV e sd0 3 := oM1.2 3 (by decide)
  refine tk_ind (P := LQ M) _ _ (fun M2 hM2 => ?_)
  have E_M2 : M2.1 101 = M.1 101 := by rw [hM2, st_ne _ _ _ (by decide)]; exact E_M1
  have F_M2 : M2.1 100 = M.1 100 := by rw [hM2, st_ne _ _ _ (by decide)]; exact F_M1
  have G_M2_0 : M2.1 107 0 = lq0 e := by rw [hM2, st_at, lq0]; exact T_M1_0
  have T_M2_0 : M2.1 106 0 = tlV e sd0 0 := by rw [hM2, st_ne _ _ _ (by decide)]; exact T_M1_0
  have T_M2_1 : M2.1 106 1 = tlV e sd0 1 := by rw [hM2, st_ne _ _ _ (by decide)]; exact T_M1_1
  have T_M2_2 : M2.1 106 2 = tlV e sd0 2 := by rw [hM2, st_ne _ _ _ (by decide)]; exact T_M1_2
  have T_M2_3 : M2.1 106 3 = tlV e sd0 3 := by rw [hM2, st_ne _ _ _ (by decide)]; exact T_M1_3
  refine tk_ind (P := LQ M) _ _ (fun M3 hM3 => ?_)
  have E_M3 : M3.1 101 = M.1 101 := by rw [hM3, st_ne _ _ _ (by decide)]; exact E_M2
  have F_M3 : M3.1 100 = M.1 100 := by rw [hM3, st_ne _ _ _ (by decide)]; exact F_M2
  have G_M3_3 : M3.1 107 3 = lq3 e := by rw [hM3, st_at, lq3]; exact T_M2_2
  have G_M3_0 : M3.1 107 0 = lq0 e := by rw [hM3, st_at_ne _ _ _ _ (by decide)]; exact G_M2_0
  have T_M3_0 : M3.1 106 0 = tlV e sd0 0 := by rw [hM3, st_ne _ _ _ (by decide)]; exact T_M2_0
  have T_M3_1 : M3.1 106 1 = tlV e sd0 1 := by rw [hM3, st_ne _ _ _ (by decide)]; exact T_M2_1
  have T_M3_2 : M3.1 106 2 = tlV e sd0 2 := by rw [hM3, st_ne _ _ _ (by decide)]; exact T_M2_2
  have T_M3_3 : M3.1 106 3 = tlV e sd0 3 := by rw [hM3, st_ne _ _ _ (by decide)]; exact T_M2_3
  refine tk_ind (P := LQ M) _ _ (fun M4 hM4 => ?_)
  have E_M4 : M4.1 101 = M.1 101 := by rw [hM4, st_ne _ _ _ (by decide)]; exact E_M3
  have F_M4 : M4.1 100 = M.1 100 := by rw [hM4, st_ne _ _ _ (by decide)]; exact F_M3
  have G_M4_6 : M4.1 107 6 = lq6 e := by rw [hM4, st_at, lq6]; exact T_M3_3
  have G_M4_0 : M4.1 107 0 = lq0 e := by rw [hM4, st_at_ne _ _ _ _ (by decide)]; exact G_M3_0
  have G_M4_3 : M4.1 107 3 = lq3 e := by rw [hM4, st_at_ne _ _ _ _ (by decide)]; exact G_M3_3
  have T_M4_0 : M4.1 106 0 = tlV e sd0 0 := by rw [hM4, st_ne _ _ _ (by decide)]; exact T_M3_0
  have T_M4_1 : M4.1 106 1 = tlV e sd0 1 := by rw [hM4, st_ne _ _ _ (by decide)]; exact T_M3_1
  have T_M4_2 : M4.1 106 2 = tlV e sd0 2 := by rw [hM4, st_ne _ _ _ (by decide)]; exact T_M3_2
  have T_M4_3 : M4.1 106 3 = tlV e sd0 3 := by rw [hM4, st_ne _ _ _ (by decide)]; exact T_M3_3
  refine tk_ind (P := LQ M) _ _ (fun M5 hM5 => ?_)
  have E_M5 : M5.1 101 = M.1 101 := by rw [hM5, st_ne _ _ _ (by decide)]; exact E_M4
  have F_M5 : M5.1 100 = M.1 100 := by rw [hM5, st_ne _ _ _ (by decide)]; exact F_M4
  have G_M5_9 : M5.1 107 9 = lq9 e := by rw [hM5, st_at, lq9]; exact T_M4_1
  have G_M5_0 : M5.1 107 0 = lq0 e := by rw [hM5, st_at_ne _ _ _ _ (by decide)]; exact G_M4_0
  have G_M5_3 : M5.1 107 3 = lq3 e := by rw [hM5, st_at_ne _ _ _ _ (by decide)]; exact G_M4_3
  have G_M5_6 : M5.1 107 6 = lq6 e := by rw [hM5, st_at_ne _ _ _ _ (by decide)]; exact G_M4_6
  have T_M5_0 : M5.1 106 0 = tlV e sd0 0 := by rw [hM5, st_ne _ _ _ (by decide)]; exact T_M4_0
  have T_M5_1 : M5.1 106 1 = tlV e sd0 1 := by rw [hM5, st_ne _ _ _ (by decide)]; exact T_M4_1
  have T_M5_2 : M5.1 106 2 = tlV e sd0 2 := by rw [hM5, st_ne _ _ _ (by decide)]; exact T_M4_2
  have T_M5_3 : M5.1 106 3 = tlV e sd0 3 := by rw [hM5, st_ne _ _ _ (by decide)]; exact T_M4_3
  refine tk_ind (P := LQ M) _ _ (fun M6 hM6 => ?_)
  have pM6 := mtl4 (M := M5) cn_1 cn_0 cn_0 cn_0 (by rw [eRg E_M5]; exact he)
  rw [← hM6, eRg E_M5, hE] at pM6
  have pM6 : FP 106 M5 (TB e sd1) (tlV e sd1) M6 := pM6
  by_cases z1 : TB e sd1
  · have fM6 : M6.1 100 7 = 1 := pM6.1 z1
    refine ⟨fun _ => ?_, fun h => absurd (show lbad (tr 12 (eR M)) from by rw [hE]; exact Or.inr (Or.inl z1)) h⟩
    refine tk_ind (P := fun u : Mem => u.1 100 7 = 1) _ _ (fun M7 hM7 => ?_)
    have fM7 : M7.1 100 7 = 1 := by rw [hM7]; exact kbX6_tellsOf _ _ _ _ _ fM6
    refine tk_ind (P := fun u : Mem => u.1 100 7 = 1) _ _ (fun M8 hM8 => ?_)
    have fM8 : M8.1 100 7 = 1 := by rw [hM8]; exact kbX6_learnsSide_1 _ _ _ fM7
    refine tk_ind (P := fun u : Mem => u.1 100 7 = 1) _ _ (fun M9 hM9 => ?_)
    have fM9 : M9.1 100 7 = 1 := by rw [hM9]; exact kbX6_tellsOf _ _ _ _ _ fM8
    refine tk_ind (P := fun u : Mem => u.1 100 7 = 1) _ _ (fun M10 hM10 => ?_)
    have fM10 : M10.1 100 7 = 1 := by rw [hM10]; exact kbX6_tellsOf _ _ _ _ _ fM9
    refine tk_ind (P := fun u : Mem => u.1 100 7 = 1) _ _ (fun M11 hM11 => ?_)
    have fM11 : M11.1 100 7 = 1 := by rw [hM11]; exact kbX6_learnsSide_7 _ _ _ fM10
    refine tk_ind (P := fun u : Mem => u.1 100 7 = 1) _ _ (fun M12 hM12 => ?_)
    have fM12 : M12.1 100 7 = 1 := by rw [hM12]; exact kbX6_tellsOf _ _ _ _ _ fM11
    refine tk_ind (P := fun u : Mem => u.1 100 7 = 1) _ _ (fun M13 hM13 => ?_)
    have fM13 : M13.1 100 7 = 1 := by rw [hM13]; exact kbX6_learnsThrough_1 _ _ _ _ fM12
    refine tk_ind (P := fun u : Mem => u.1 100 7 = 1) _ _ (fun M14 hM14 => ?_)
    have fM14 : M14.1 100 7 = 1 := by rw [hM14]; exact kbX6_learnsThrough_7 _ _ _ _ fM13
    exact fM14
  have oM6 := pM6.2 z1
  have E_M6 : M6.1 101 = M.1 101 := (oM6.1 101 (by decide)).trans E_M5
  have F_M6 : M6.1 100 = M.1 100 := (oM6.1 100 (by decide)).trans F_M5
  have G_M6_0 : M6.1 107 0 = lq0 e := by rw [oM6.1 107 (by decide)]; exact G_M5_0
  have G_M6_3 : M6.1 107 3 = lq3 e := by rw [oM6.1 107 (by decide)]; exact G_M5_3
  have G_M6_6 : M6.1 107 6 = lq6 e := by rw [oM6.1 107 (by decide)]; exact G_M5_6
  have G_M6_9 : M6.1 107 9 = lq9 e := by rw [oM6.1 107 (by decide)]; exact G_M5_9
  have T_M6_0 : M6.1 106 0 = tlV e sd1 0 := oM6.2 0 (by decide)
  have T_M6_1 : M6.1 106 1 = tlV e sd1 1 := oM6.2 1 (by decide)
  have T_M6_2 : M6.1 106 2 = tlV e sd1 2 := oM6.2 2 (by decide)
  have T_M6_3 : M6.1 106 3 = tlV e sd1 3 := oM6.2 3 (by decide)
  refine tk_ind (P := LQ M) _ _ (fun M7 hM7 => ?_)
  have pM7 := mtl4 (M := M6) cn_m1 cn_0 cn_0 cn_0 (by rw [eRg E_M6]; exact he)
  rw [← hM7, eRg E_M6, hE] at pM7
  have pM7 : FP 106 M6 (TB e sd2) (tlV e sd2) M7 := pM7
  by_cases z2 : TB e sd2
  · have fM7 : M7.1 100 7 = 1 := pM7.1 z2
    refine ⟨fun _ => ?_, fun h => absurd (show lbad (tr 12 (eR M)) from by rw [hE]; exact Or.inr (Or.inr (Or.inl z2))) h⟩
    refine tk_ind (P := fun u : Mem => u.1 100 7 = 1) _ _ (fun M8 hM8 => ?_)
    have fM8 : M8.1 100 7 = 1 := by rw [hM8]; exact kbX6_learnsSide_1 _ _ _ fM7
    refine tk_ind (P := fun u : Mem => u.1 100 7 = 1) _ _ (fun M9 hM9 => ?_)
    have fM9 : M9.1 100 7 = 1 := by rw [hM9]; exact kbX6_tellsOf _ _ _ _ _ fM8
    refine tk_ind (P := fun u : Mem => u.1 100 7 = 1) _ _ (fun M10 hM10 => ?_)
    have fM10 : M10.1 100 7 = 1 := by rw [hM10]; exact kbX6_tellsOf _ _ _ _ _ fM9
    refine tk_ind (P := fun u : Mem => u.1 100 7 = 1) _ _ (fun M11 hM11 => ?_)
    have fM11 : M11.1 100 7 = 1 := by rw [hM11]; exact kbX6_learnsSide_7 _ _ _ fM10
    refine tk_ind (P := fun u : Mem => u.1 100 7 = 1) _ _ (fun M12 hM12 => ?_)
    have fM12 : M12.1 100 7 = 1 := by rw [hM12]; exact kbX6_tellsOf _ _ _ _ _ fM11
    refine tk_ind (P := fun u : Mem => u.1 100 7 = 1) _ _ (fun M13 hM13 => ?_)
    have fM13 : M13.1 100 7 = 1 := by rw [hM13]; exact kbX6_learnsThrough_1 _ _ _ _ fM12
    refine tk_ind (P := fun u : Mem => u.1 100 7 = 1) _ _ (fun M14 hM14 => ?_)
    have fM14 : M14.1 100 7 = 1 := by rw [hM14]; exact kbX6_learnsThrough_7 _ _ _ _ fM13
    exact fM14
  have oM7 := pM7.2 z2
  have E_M7 : M7.1 101 = M.1 101 := (oM7.1 101 (by decide)).trans E_M6
  have F_M7 : M7.1 100 = M.1 100 := (oM7.1 100 (by decide)).trans F_M6
  have G_M7_0 : M7.1 107 0 = lq0 e := by rw [oM7.1 107 (by decide)]; exact G_M6_0
  have G_M7_3 : M7.1 107 3 = lq3 e := by rw [oM7.1 107 (by decide)]; exact G_M6_3
  have G_M7_6 : M7.1 107 6 = lq6 e := by rw [oM7.1 107 (by decide)]; exact G_M6_6
  have G_M7_9 : M7.1 107 9 = lq9 e := by rw [oM7.1 107 (by decide)]; exact G_M6_9
  have T_M7_0 : M7.1 106 0 = tlV e sd2 0 := oM7.2 0 (by decide)
  have T_M7_1 : M7.1 106 1 = tlV e sd2 1 := oM7.2 1 (by decide)
  have T_M7_2 : M7.1 106 2 = tlV e sd2 2 := oM7.2 2 (by decide)
  have T_M7_3 : M7.1 106 3 = tlV e sd2 3 := oM7.2 3 (by decide)
  refine tk_ind (P := LQ M) _ _ (fun M8 hM8 => ?_)
  have qM8 : M8 = sX6_learnsSide_1 M7 (la1 e) (lc1 e) := by rw [hM8, la1, lc1, lessE, lessE, T_M6_0, G_M6_0, T_M7_0, G_M7_0]
  by_cases z3 : fX1_minus (la1 e) (lc1 e) = 0
  · have fM8 : M8.1 100 7 = 1 := by rw [qM8]; exact mls_1_0 z3
    refine ⟨fun _ => ?_, fun h => absurd (show lbad (tr 12 (eR M)) from by rw [hE]; exact Or.inr (Or.inr (Or.inr (Or.inl z3)))) h⟩
    refine tk_ind (P := fun u : Mem => u.1 100 7 = 1) _ _ (fun M9 hM9 => ?_)
    have fM9 : M9.1 100 7 = 1 := by rw [hM9]; exact kbX6_tellsOf _ _ _ _ _ fM8
    refine tk_ind (P := fun u : Mem => u.1 100 7 = 1) _ _ (fun M10 hM10 => ?_)
    have fM10 : M10.1 100 7 = 1 := by rw [hM10]; exact kbX6_tellsOf _ _ _ _ _ fM9
    refine tk_ind (P := fun u : Mem => u.1 100 7 = 1) _ _ (fun M11 hM11 => ?_)
    have fM11 : M11.1 100 7 = 1 := by rw [hM11]; exact kbX6_learnsSide_7 _ _ _ fM10
    refine tk_ind (P := fun u : Mem => u.1 100 7 = 1) _ _ (fun M12 hM12 => ?_)
    have fM12 : M12.1 100 7 = 1 := by rw [hM12]; exact kbX6_tellsOf _ _ _ _ _ fM11
    refine tk_ind (P := fun u : Mem => u.1 100 7 = 1) _ _ (fun M13 hM13 => ?_)
    have fM13 : M13.1 100 7 = 1 := by rw [hM13]; exact kbX6_learnsThrough_1 _ _ _ _ fM12
    refine tk_ind (P := fun u : Mem => u.1 100 7 = 1) _ _ (fun M14 hM14 => ?_)
    have fM14 : M14.1 100 7 = 1 := by rw [hM14]; exact kbX6_learnsThrough_7 _ _ _ _ fM13
    exact fM14
  rw [mls_1 (show CN (la1 e) from by rw [la1]; exact cn_minus _ _) z3] at qM8
  have E_M8 : M8.1 101 = M.1 101 := by rw [qM8, st_ne _ _ _ (by decide), st_ne _ _ _ (by decide)]; exact E_M7
  have F_M8 : M8.1 100 = M.1 100 := by rw [qM8, st_ne _ _ _ (by decide), st_ne _ _ _ (by decide)]; exact F_M7
  have G_M8_0 : M8.1 107 0 = lq0 e := by rw [qM8, st_at_ne _ _ _ _ (by decide), st_at_ne _ _ _ _ (by decide)]; exact G_M7_0
  have G_M8_3 : M8.1 107 3 = lq3 e := by rw [qM8, st_at_ne _ _ _ _ (by decide), st_at_ne _ _ _ _ (by decide)]; exact G_M7_3
  have G_M8_6 : M8.1 107 6 = lq6 e := by rw [qM8, st_at_ne _ _ _ _ (by decide), st_at_ne _ _ _ _ (by decide)]; exact G_M7_6
  have G_M8_9 : M8.1 107 9 = lq9 e := by rw [qM8, st_at_ne _ _ _ _ (by decide), st_at_ne _ _ _ _ (by decide)]; exact G_M7_9
  have G_M8_1 : M8.1 107 1 = lq1 e := by rw [qM8, st_at_ne _ _ _ _ (by decide), st_at, lq1]
  have G_M8_2 : M8.1 107 2 = lq2 e := by rw [qM8, st_at, lq2, lq1]
  refine tk_ind (P := LQ M) _ _ (fun M9 hM9 => ?_)
  have pM9 := mtl4 (M := M8) cn_0 cn_0 cn_0 cn_1 (by rw [eRg E_M8]; exact he)
  rw [← hM9, eRg E_M8, hE] at pM9
  have pM9 : FP 106 M8 (TB e sd3) (tlV e sd3) M9 := pM9
  by_cases z4 : TB e sd3
  · have fM9 : M9.1 100 7 = 1 := pM9.1 z4
    refine ⟨fun _ => ?_, fun h => absurd (show lbad (tr 12 (eR M)) from by rw [hE]; exact Or.inr (Or.inr (Or.inr (Or.inr (Or.inl z4))))) h⟩
    refine tk_ind (P := fun u : Mem => u.1 100 7 = 1) _ _ (fun M10 hM10 => ?_)
    have fM10 : M10.1 100 7 = 1 := by rw [hM10]; exact kbX6_tellsOf _ _ _ _ _ fM9
    refine tk_ind (P := fun u : Mem => u.1 100 7 = 1) _ _ (fun M11 hM11 => ?_)
    have fM11 : M11.1 100 7 = 1 := by rw [hM11]; exact kbX6_learnsSide_7 _ _ _ fM10
    refine tk_ind (P := fun u : Mem => u.1 100 7 = 1) _ _ (fun M12 hM12 => ?_)
    have fM12 : M12.1 100 7 = 1 := by rw [hM12]; exact kbX6_tellsOf _ _ _ _ _ fM11
    refine tk_ind (P := fun u : Mem => u.1 100 7 = 1) _ _ (fun M13 hM13 => ?_)
    have fM13 : M13.1 100 7 = 1 := by rw [hM13]; exact kbX6_learnsThrough_1 _ _ _ _ fM12
    refine tk_ind (P := fun u : Mem => u.1 100 7 = 1) _ _ (fun M14 hM14 => ?_)
    have fM14 : M14.1 100 7 = 1 := by rw [hM14]; exact kbX6_learnsThrough_7 _ _ _ _ fM13
    exact fM14
  have oM9 := pM9.2 z4
  have E_M9 : M9.1 101 = M.1 101 := (oM9.1 101 (by decide)).trans E_M8
  have F_M9 : M9.1 100 = M.1 100 := (oM9.1 100 (by decide)).trans F_M8
  have G_M9_0 : M9.1 107 0 = lq0 e := by rw [oM9.1 107 (by decide)]; exact G_M8_0
  have G_M9_1 : M9.1 107 1 = lq1 e := by rw [oM9.1 107 (by decide)]; exact G_M8_1
  have G_M9_2 : M9.1 107 2 = lq2 e := by rw [oM9.1 107 (by decide)]; exact G_M8_2
  have G_M9_3 : M9.1 107 3 = lq3 e := by rw [oM9.1 107 (by decide)]; exact G_M8_3
  have G_M9_6 : M9.1 107 6 = lq6 e := by rw [oM9.1 107 (by decide)]; exact G_M8_6
  have G_M9_9 : M9.1 107 9 = lq9 e := by rw [oM9.1 107 (by decide)]; exact G_M8_9
  have T_M9_0 : M9.1 106 0 = tlV e sd3 0 := oM9.2 0 (by decide)
  have T_M9_1 : M9.1 106 1 = tlV e sd3 1 := oM9.2 1 (by decide)
  have T_M9_2 : M9.1 106 2 = tlV e sd3 2 := oM9.2 2 (by decide)
  have T_M9_3 : M9.1 106 3 = tlV e sd3 3 := oM9.2 3 (by decide)
  refine tk_ind (P := LQ M) _ _ (fun M10 hM10 => ?_)
  have pM10 := mtl4 (M := M9) cn_0 cn_0 cn_0 cn_m1 (by rw [eRg E_M9]; exact he)
  rw [← hM10, eRg E_M9, hE] at pM10
  have pM10 : FP 106 M9 (TB e sd4) (tlV e sd4) M10 := pM10
  by_cases z5 : TB e sd4
  · have fM10 : M10.1 100 7 = 1 := pM10.1 z5
    refine ⟨fun _ => ?_, fun h => absurd (show lbad (tr 12 (eR M)) from by rw [hE]; exact Or.inr (Or.inr (Or.inr (Or.inr (Or.inr (Or.inl z5)))))) h⟩
    refine tk_ind (P := fun u : Mem => u.1 100 7 = 1) _ _ (fun M11 hM11 => ?_)
    have fM11 : M11.1 100 7 = 1 := by rw [hM11]; exact kbX6_learnsSide_7 _ _ _ fM10
    refine tk_ind (P := fun u : Mem => u.1 100 7 = 1) _ _ (fun M12 hM12 => ?_)
    have fM12 : M12.1 100 7 = 1 := by rw [hM12]; exact kbX6_tellsOf _ _ _ _ _ fM11
    refine tk_ind (P := fun u : Mem => u.1 100 7 = 1) _ _ (fun M13 hM13 => ?_)
    have fM13 : M13.1 100 7 = 1 := by rw [hM13]; exact kbX6_learnsThrough_1 _ _ _ _ fM12
    refine tk_ind (P := fun u : Mem => u.1 100 7 = 1) _ _ (fun M14 hM14 => ?_)
    have fM14 : M14.1 100 7 = 1 := by rw [hM14]; exact kbX6_learnsThrough_7 _ _ _ _ fM13
    exact fM14
  have oM10 := pM10.2 z5
  have E_M10 : M10.1 101 = M.1 101 := (oM10.1 101 (by decide)).trans E_M9
  have F_M10 : M10.1 100 = M.1 100 := (oM10.1 100 (by decide)).trans F_M9
  have G_M10_0 : M10.1 107 0 = lq0 e := by rw [oM10.1 107 (by decide)]; exact G_M9_0
  have G_M10_1 : M10.1 107 1 = lq1 e := by rw [oM10.1 107 (by decide)]; exact G_M9_1
  have G_M10_2 : M10.1 107 2 = lq2 e := by rw [oM10.1 107 (by decide)]; exact G_M9_2
  have G_M10_3 : M10.1 107 3 = lq3 e := by rw [oM10.1 107 (by decide)]; exact G_M9_3
  have G_M10_6 : M10.1 107 6 = lq6 e := by rw [oM10.1 107 (by decide)]; exact G_M9_6
  have G_M10_9 : M10.1 107 9 = lq9 e := by rw [oM10.1 107 (by decide)]; exact G_M9_9
  have T_M10_0 : M10.1 106 0 = tlV e sd4 0 := oM10.2 0 (by decide)
  have T_M10_1 : M10.1 106 1 = tlV e sd4 1 := oM10.2 1 (by decide)
  have T_M10_2 : M10.1 106 2 = tlV e sd4 2 := oM10.2 2 (by decide)
  have T_M10_3 : M10.1 106 3 = tlV e sd4 3 := oM10.2 3 (by decide)
  refine tk_ind (P := LQ M) _ _ (fun M11 hM11 => ?_)
  have qM11 : M11 = sX6_learnsSide_7 M10 (la7 e) (lc7 e) := by rw [hM11, la7, lc7, lessE, lessE, T_M9_3, G_M9_6, T_M10_3, G_M10_6]
  by_cases z6 : fX1_minus (la7 e) (lc7 e) = 0
  · have fM11 : M11.1 100 7 = 1 := by rw [qM11]; exact mls_7_0 z6
    refine ⟨fun _ => ?_, fun h => absurd (show lbad (tr 12 (eR M)) from by rw [hE]; exact Or.inr (Or.inr (Or.inr (Or.inr (Or.inr (Or.inr (Or.inl z6))))))) h⟩
    refine tk_ind (P := fun u : Mem => u.1 100 7 = 1) _ _ (fun M12 hM12 => ?_)
    have fM12 : M12.1 100 7 = 1 := by rw [hM12]; exact kbX6_tellsOf _ _ _ _ _ fM11
    refine tk_ind (P := fun u : Mem => u.1 100 7 = 1) _ _ (fun M13 hM13 => ?_)
    have fM13 : M13.1 100 7 = 1 := by rw [hM13]; exact kbX6_learnsThrough_1 _ _ _ _ fM12
    refine tk_ind (P := fun u : Mem => u.1 100 7 = 1) _ _ (fun M14 hM14 => ?_)
    have fM14 : M14.1 100 7 = 1 := by rw [hM14]; exact kbX6_learnsThrough_7 _ _ _ _ fM13
    exact fM14
  rw [mls_7 (show CN (la7 e) from by rw [la7]; exact cn_minus _ _) z6] at qM11
  have E_M11 : M11.1 101 = M.1 101 := by rw [qM11, st_ne _ _ _ (by decide), st_ne _ _ _ (by decide)]; exact E_M10
  have F_M11 : M11.1 100 = M.1 100 := by rw [qM11, st_ne _ _ _ (by decide), st_ne _ _ _ (by decide)]; exact F_M10
  have G_M11_0 : M11.1 107 0 = lq0 e := by rw [qM11, st_at_ne _ _ _ _ (by decide), st_at_ne _ _ _ _ (by decide)]; exact G_M10_0
  have G_M11_1 : M11.1 107 1 = lq1 e := by rw [qM11, st_at_ne _ _ _ _ (by decide), st_at_ne _ _ _ _ (by decide)]; exact G_M10_1
  have G_M11_2 : M11.1 107 2 = lq2 e := by rw [qM11, st_at_ne _ _ _ _ (by decide), st_at_ne _ _ _ _ (by decide)]; exact G_M10_2
  have G_M11_3 : M11.1 107 3 = lq3 e := by rw [qM11, st_at_ne _ _ _ _ (by decide), st_at_ne _ _ _ _ (by decide)]; exact G_M10_3
  have G_M11_6 : M11.1 107 6 = lq6 e := by rw [qM11, st_at_ne _ _ _ _ (by decide), st_at_ne _ _ _ _ (by decide)]; exact G_M10_6
  have G_M11_9 : M11.1 107 9 = lq9 e := by rw [qM11, st_at_ne _ _ _ _ (by decide), st_at_ne _ _ _ _ (by decide)]; exact G_M10_9
  have G_M11_7 : M11.1 107 7 = lq7 e := by rw [qM11, st_at_ne _ _ _ _ (by decide), st_at, lq7]
  have G_M11_8 : M11.1 107 8 = lq8 e := by rw [qM11, st_at, lq8, lq7]
  refine tk_ind (P := LQ M) _ _ (fun M12 hM12 => ?_)
  have pM12 := mtl4 (M := M11) cn_0 cn_1 cn_1 cn_0 (by rw [eRg E_M11]; exact he)
  rw [← hM12, eRg E_M11, hE] at pM12
  have pM12 : FP 106 M11 (TB e sd5) (tlV e sd5) M12 := pM12
  by_cases z7 : TB e sd5
  · have fM12 : M12.1 100 7 = 1 := pM12.1 z7
    refine ⟨fun _ => ?_, fun h => absurd (show lbad (tr 12 (eR M)) from by rw [hE]; exact Or.inr (Or.inr (Or.inr (Or.inr (Or.inr (Or.inr (Or.inr (Or.inl z7)))))))) h⟩
    refine tk_ind (P := fun u : Mem => u.1 100 7 = 1) _ _ (fun M13 hM13 => ?_)
    have fM13 : M13.1 100 7 = 1 := by rw [hM13]; exact kbX6_learnsThrough_1 _ _ _ _ fM12
    refine tk_ind (P := fun u : Mem => u.1 100 7 = 1) _ _ (fun M14 hM14 => ?_)
    have fM14 : M14.1 100 7 = 1 := by rw [hM14]; exact kbX6_learnsThrough_7 _ _ _ _ fM13
    exact fM14
  have oM12 := pM12.2 z7
  have E_M12 : M12.1 101 = M.1 101 := (oM12.1 101 (by decide)).trans E_M11
  have F_M12 : M12.1 100 = M.1 100 := (oM12.1 100 (by decide)).trans F_M11
  have G_M12_0 : M12.1 107 0 = lq0 e := by rw [oM12.1 107 (by decide)]; exact G_M11_0
  have G_M12_1 : M12.1 107 1 = lq1 e := by rw [oM12.1 107 (by decide)]; exact G_M11_1
  have G_M12_2 : M12.1 107 2 = lq2 e := by rw [oM12.1 107 (by decide)]; exact G_M11_2
  have G_M12_3 : M12.1 107 3 = lq3 e := by rw [oM12.1 107 (by decide)]; exact G_M11_3
  have G_M12_6 : M12.1 107 6 = lq6 e := by rw [oM12.1 107 (by decide)]; exact G_M11_6
  have G_M12_7 : M12.1 107 7 = lq7 e := by rw [oM12.1 107 (by decide)]; exact G_M11_7
  have G_M12_8 : M12.1 107 8 = lq8 e := by rw [oM12.1 107 (by decide)]; exact G_M11_8
  have G_M12_9 : M12.1 107 9 = lq9 e := by rw [oM12.1 107 (by decide)]; exact G_M11_9
  have T_M12_0 : M12.1 106 0 = tlV e sd5 0 := oM12.2 0 (by decide)
  have T_M12_1 : M12.1 106 1 = tlV e sd5 1 := oM12.2 1 (by decide)
  have T_M12_2 : M12.1 106 2 = tlV e sd5 2 := oM12.2 2 (by decide)
  have T_M12_3 : M12.1 106 3 = tlV e sd5 3 := oM12.2 3 (by decide)
  refine tk_ind (P := LQ M) _ _ (fun M13 hM13 => ?_)
  have qM13 : M13 = sX6_learnsThrough_1 M12 (tlV e sd5 0) (tlV e sd5 2) (lq3 e) := by rw [hM13, T_M12_0, T_M12_2, G_M12_3]
  have yM13 : fX1_plus (M12.1 107 2) (fX1_times (fX1_minus (tlV e sd5 0) (M12.1 107 0)) (M12.1 107 1)) = ld4 e := by rw [G_M12_2, G_M12_0, G_M12_1, ld4, lc4]
  have uM13 : CN (M12.1 107 1) := by rw [G_M12_1, lq1]; exact cn_over _ _
  by_cases z8 : ld4 e = 0
  · have fM13 : M13.1 100 7 = 1 := by rw [qM13]; exact mlt_1_0 uM13 (yM13.trans z8)
    refine ⟨fun _ => ?_, fun h => absurd (show lbad (tr 12 (eR M)) from by rw [hE]; exact Or.inr (Or.inr (Or.inr (Or.inr (Or.inr (Or.inr (Or.inr (Or.inr (Or.inl z8))))))))) h⟩
    refine tk_ind (P := fun u : Mem => u.1 100 7 = 1) _ _ (fun M14 hM14 => ?_)
    have fM14 : M14.1 100 7 = 1 := by rw [hM14]; exact kbX6_learnsThrough_7 _ _ _ _ fM13
    exact fM14
  rw [mlt_1 uM13 (by rw [yM13]; exact z8), yM13, G_M12_0, G_M12_1] at qM13
  have E_M13 : M13.1 101 = M.1 101 := by rw [qM13, st_ne _ _ _ (by decide), st_ne _ _ _ (by decide)]; exact E_M12
  have F_M13 : M13.1 100 = M.1 100 := by rw [qM13, st_ne _ _ _ (by decide), st_ne _ _ _ (by decide)]; exact F_M12
  have G_M13_0 : M13.1 107 0 = lq0 e := by rw [qM13, st_at_ne _ _ _ _ (by decide), st_at_ne _ _ _ _ (by decide)]; exact G_M12_0
  have G_M13_1 : M13.1 107 1 = lq1 e := by rw [qM13, st_at_ne _ _ _ _ (by decide), st_at_ne _ _ _ _ (by decide)]; exact G_M12_1
  have G_M13_2 : M13.1 107 2 = lq2 e := by rw [qM13, st_at_ne _ _ _ _ (by decide), st_at_ne _ _ _ _ (by decide)]; exact G_M12_2
  have G_M13_3 : M13.1 107 3 = lq3 e := by rw [qM13, st_at_ne _ _ _ _ (by decide), st_at_ne _ _ _ _ (by decide)]; exact G_M12_3
  have G_M13_6 : M13.1 107 6 = lq6 e := by rw [qM13, st_at_ne _ _ _ _ (by decide), st_at_ne _ _ _ _ (by decide)]; exact G_M12_6
  have G_M13_7 : M13.1 107 7 = lq7 e := by rw [qM13, st_at_ne _ _ _ _ (by decide), st_at_ne _ _ _ _ (by decide)]; exact G_M12_7
  have G_M13_8 : M13.1 107 8 = lq8 e := by rw [qM13, st_at_ne _ _ _ _ (by decide), st_at_ne _ _ _ _ (by decide)]; exact G_M12_8
  have G_M13_9 : M13.1 107 9 = lq9 e := by rw [qM13, st_at_ne _ _ _ _ (by decide), st_at_ne _ _ _ _ (by decide)]; exact G_M12_9
  have G_M13_4 : M13.1 107 4 = lq4 e := by rw [qM13, st_at_ne _ _ _ _ (by decide), st_at, lq4, lc4]
  have G_M13_5 : M13.1 107 5 = lq5 e := by rw [qM13, st_at, lq5, lq4, lc4]
  have T_M13_0 : M13.1 106 0 = tlV e sd5 0 := by rw [qM13, st_ne _ _ _ (by decide), st_ne _ _ _ (by decide)]; exact T_M12_0
  have T_M13_1 : M13.1 106 1 = tlV e sd5 1 := by rw [qM13, st_ne _ _ _ (by decide), st_ne _ _ _ (by decide)]; exact T_M12_1
  have T_M13_2 : M13.1 106 2 = tlV e sd5 2 := by rw [qM13, st_ne _ _ _ (by decide), st_ne _ _ _ (by decide)]; exact T_M12_2
  have T_M13_3 : M13.1 106 3 = tlV e sd5 3 := by rw [qM13, st_ne _ _ _ (by decide), st_ne _ _ _ (by decide)]; exact T_M12_3
  refine tk_ind (P := LQ M) _ _ (fun M14 hM14 => ?_)
  have qM14 : M14 = sX6_learnsThrough_7 M13 (tlV e sd5 3) (tlV e sd5 1) (lq9 e) := by rw [hM14, T_M13_3, T_M13_1, G_M13_9]
  have yM14 : fX1_plus (M13.1 107 8) (fX1_times (fX1_minus (tlV e sd5 3) (M13.1 107 6)) (M13.1 107 7)) = ld10 e := by rw [G_M13_8, G_M13_6, G_M13_7, ld10, lc10]
  have uM14 : CN (M13.1 107 7) := by rw [G_M13_7, lq7]; exact cn_over _ _
  by_cases z9 : ld10 e = 0
  · have fM14 : M14.1 100 7 = 1 := by rw [qM14]; exact mlt_7_0 uM14 (yM14.trans z9)
    refine ⟨fun _ => ?_, fun h => absurd (show lbad (tr 12 (eR M)) from by rw [hE]; exact Or.inr (Or.inr (Or.inr (Or.inr (Or.inr (Or.inr (Or.inr (Or.inr (Or.inr (z9)))))))))) h⟩
    exact fM14
  rw [mlt_7 uM14 (by rw [yM14]; exact z9), yM14, G_M13_6, G_M13_7] at qM14
  have E_M14 : M14.1 101 = M.1 101 := by rw [qM14, st_ne _ _ _ (by decide), st_ne _ _ _ (by decide)]; exact E_M13
  have F_M14 : M14.1 100 = M.1 100 := by rw [qM14, st_ne _ _ _ (by decide), st_ne _ _ _ (by decide)]; exact F_M13
  have G_M14_0 : M14.1 107 0 = lq0 e := by rw [qM14, st_at_ne _ _ _ _ (by decide), st_at_ne _ _ _ _ (by decide)]; exact G_M13_0
  have G_M14_1 : M14.1 107 1 = lq1 e := by rw [qM14, st_at_ne _ _ _ _ (by decide), st_at_ne _ _ _ _ (by decide)]; exact G_M13_1
  have G_M14_2 : M14.1 107 2 = lq2 e := by rw [qM14, st_at_ne _ _ _ _ (by decide), st_at_ne _ _ _ _ (by decide)]; exact G_M13_2
  have G_M14_3 : M14.1 107 3 = lq3 e := by rw [qM14, st_at_ne _ _ _ _ (by decide), st_at_ne _ _ _ _ (by decide)]; exact G_M13_3
  have G_M14_4 : M14.1 107 4 = lq4 e := by rw [qM14, st_at_ne _ _ _ _ (by decide), st_at_ne _ _ _ _ (by decide)]; exact G_M13_4
  have G_M14_5 : M14.1 107 5 = lq5 e := by rw [qM14, st_at_ne _ _ _ _ (by decide), st_at_ne _ _ _ _ (by decide)]; exact G_M13_5
  have G_M14_6 : M14.1 107 6 = lq6 e := by rw [qM14, st_at_ne _ _ _ _ (by decide), st_at_ne _ _ _ _ (by decide)]; exact G_M13_6
  have G_M14_7 : M14.1 107 7 = lq7 e := by rw [qM14, st_at_ne _ _ _ _ (by decide), st_at_ne _ _ _ _ (by decide)]; exact G_M13_7
  have G_M14_8 : M14.1 107 8 = lq8 e := by rw [qM14, st_at_ne _ _ _ _ (by decide), st_at_ne _ _ _ _ (by decide)]; exact G_M13_8
  have G_M14_9 : M14.1 107 9 = lq9 e := by rw [qM14, st_at_ne _ _ _ _ (by decide), st_at_ne _ _ _ _ (by decide)]; exact G_M13_9
  have G_M14_10 : M14.1 107 10 = lq10 e := by rw [qM14, st_at_ne _ _ _ _ (by decide), st_at, lq10, lc10]
  have G_M14_11 : M14.1 107 11 = lq11 e := by rw [qM14, st_at, lq11, lq10, lc10]
  have T_M14_0 : M14.1 106 0 = tlV e sd5 0 := by rw [qM14, st_ne _ _ _ (by decide), st_ne _ _ _ (by decide)]; exact T_M13_0
  have T_M14_1 : M14.1 106 1 = tlV e sd5 1 := by rw [qM14, st_ne _ _ _ (by decide), st_ne _ _ _ (by decide)]; exact T_M13_1
  have T_M14_2 : M14.1 106 2 = tlV e sd5 2 := by rw [qM14, st_ne _ _ _ (by decide), st_ne _ _ _ (by decide)]; exact T_M13_2
  have T_M14_3 : M14.1 106 3 = tlV e sd5 3 := by rw [qM14, st_ne _ _ _ (by decide), st_ne _ _ _ (by decide)]; exact T_M13_3
  refine ⟨fun h => ?_, fun _ => ⟨?_, F_M14⟩⟩
  · rw [hE] at h
    rcases h with h | h | h | h | h | h | h | h | h | h
    · exact absurd h z0
    · exact absurd h z1
    · exact absurd h z2
    · exact absurd h z3
    · exact absurd h z4
    · exact absurd h z5
    · exact absurd h z6
    · exact absurd h z7
    · exact absurd h z8
    · exact absurd h z9
  · rw [hE]
    exact row12 (by rw [lgV_0]; exact G_M14_0) (by rw [lgV_1]; exact G_M14_1) (by rw [lgV_2]; exact G_M14_2) (by rw [lgV_3]; exact G_M14_3) (by rw [lgV_4]; exact G_M14_4) (by rw [lgV_5]; exact G_M14_5) (by rw [lgV_6]; exact G_M14_6) (by rw [lgV_7]; exact G_M14_7) (by rw [lgV_8]; exact G_M14_8) (by rw [lgV_9]; exact G_M14_9) (by rw [lgV_10]; exact G_M14_10) (by rw [lgV_11]; exact G_M14_11)
/-- what can be made: b tells whether not; if it can, row j holds the values -/
def CP (j n : Nat) (b : Prop) (v : Nat → Int32) (u : Int32 × Mem) : Prop := (u.1 = 0 ↔ b) ∧ (¬ b → ∀ k, k < n → u.2.1 j k = v k)
theorem cp_no {j n : Nat} {b : Prop} {v : Nat → Int32} {M : Mem} (h : b) : CP j n b v (0, M) := ⟨⟨fun _ => h, fun _ => rfl⟩, fun q => absurd h q⟩
theorem cp_yes {j n : Nat} {b : Prop} {v : Nat → Int32} {M : Mem} (h : ¬ b) (q : ∀ k, k < n → M.1 j k = v k) : CP j n b v (1, M) := ⟨⟨fun c => absurd c (show ¬ (1 : Int32) = 0 by decide), fun c => absurd c h⟩, fun _ => q⟩
theorem mcl {M : Mem} (he : C12 (eR M)) : CP 107 12 (lbad (tr 12 (eR M))) (lgV (tr 12 (eR M))) (sX6_canLearn M) := by
  unfold sX6_canLearn
  refine tk_ind (P := CP 107 12 (lbad (tr 12 (eR M))) (lgV (tr 12 (eR M)))) _ _ (fun M1 h1 => ?_)
  have e1 : M1.1 101 = M.1 101 := by rw [h1, st_ne _ _ _ (by decide)]
  have q := mla (M := M1) (by rw [eRg e1]; exact he)
  unfold LQ at q
  rw [eRg e1] at q
  refine tk_ind (P := CP 107 12 (lbad (tr 12 (eR M))) (lgV (tr 12 (eR M)))) _ _ (fun M2 h2 => ?_)
  rw [← h2] at q
  by_cases z : lbad (tr 12 (eR M))
  · have f := q.1 z
    rw [if_neg (by rw [f]; decide)]
    exact cp_no z
  · have f := q.2 z
    have f7 : M2.1 100 7 = 0 := by rw [f.2, h1, st_at]
    rw [if_pos f7]
    exact cp_yes z f.1
