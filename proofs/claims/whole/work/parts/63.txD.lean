theorem swapV (M : Mem) : (∀ k, k < 58 → (sX6_swapsAside M).1 101 k = M.1 102 k) ∧ (∀ k, k < 58 → (sX6_swapsAside M).1 102 k = M.1 101 k) ∧ (∀ j, j ≠ 101 → j ≠ 102 → (sX6_swapsAside M).1 j = M.1 j) := by
  have e : sX6_swapsAside M = sr (sr M 101 (fb_put (M.1 101) (M.1 102) 0 58)) 102 (fb_put (M.1 102) (M.1 101) 0 58) := by
    unfold sX6_swapsAside
    rw [tk_id]
  rw [e]
  refine ⟨fun k hk => ?_, fun k hk => ?_, fun j h1 h2 => ?_⟩
  · rw [sr_ne _ _ (by decide), sr_row, fb_put_in (by omega) (by omega)]; rfl
  · rw [sr_row, fb_put_in (by omega) (by omega)]; rfl
  · rw [sr_ne _ _ h2, sr_ne _ _ h1]
theorem RelC.c1 {C N N' : Mem} (h : RelC C N) (k1 : ∀ k, k < 58 → N'.1 101 k = N.1 101 k) (k2 : N'.1 103 = N.1 103) (k3 : N'.1 105 = N.1 105) (k4 : N'.1 104 = N.1 104) (k5 : N'.1 100 3 = N.1 100 3) (k6 : N'.1 100 6 = N.1 100 6) : RelC C N' := by
  have e : ∀ i, ps N' i = ps N i := fun i => by unfold ps; rw [k2]
  unfold RelC
  rw [k3, k4, k5, k6]
  exact ⟨h.1, ⟨h.2.1.1.cg h.2.1.2 k1, h.2.1.2.cg k1⟩, h.2.2.1, fun i hi => by rw [e]; exact h.2.2.2.1 i hi, h.2.2.2.2.1, h.2.2.2.2.2.1, h.2.2.2.2.2.2⟩
/-- while orders are done -/
def DI (C N A B : Mem) : Prop := KD C A ∧ DX A B ∧ RS A (C.2.1 1) (B.1 101) ∧ RW (B.1 101) ∧ (∀ k, k < 58 → B.1 102 k = N.1 101 k) ∧ B.1 103 = N.1 103 ∧ B.1 104 = N.1 104 ∧ B.1 105 = N.1 105 ∧ B.1 100 3 = N.1 100 3 ∧ B.1 100 6 = N.1 100 6
theorem doEnd {C N A B : Mem} (h : RelC C N) (d : DI C N A B) : Sim ((sX5_keepDraft A).1 10 5, sX5_keepDraft A) ((sX6_swapsAside (sX6_remembers (sX6_swapsAside B))).1 100 17, sX6_swapsAside (sX6_remembers (sX6_swapsAside B))) := by
  obtain ⟨d1, d2, d3, d4, d5, d6, d7, d8, d9, d10⟩ := d
  have rel := h.kd d1
  have e1 : A.2.1 1 = C.2.1 1 := by rw [d1.1]
  obtain ⟨a1, a2, a3⟩ := swapV B
  generalize sX6_swapsAside B = X at *
  have x3 : X.1 100 3 = N.1 100 3 := by rw [a3 _ (by decide) (by decide)]; exact d9
  obtain ⟨r1, r2, r3⟩ := remV (N := X) (by rw [x3]; exact h.2.2.1.2)
  generalize sX6_remembers X = Y at *
  obtain ⟨b1, b2, b3⟩ := swapV Y
  generalize sX6_swapsAside Y = Z at *
  have cp : 0 ≤ (A.1 0 5).toInt ∧ (A.1 0 5).toInt ≤ 5 := by rw [rel.2.2.1.1]; exact rel.2.2.1.2
  have kv := (keepV rel.1 cp).2.2.1 10 (by decide)
  have n101 : ∀ k, k < 58 → X.1 101 k = N.1 101 k := fun k hk => (a1 k hk).trans (d5 k hk)
  have x103 : X.1 103 = N.1 103 := by rw [a3 _ (by decide) (by decide)]; exact d6
  have acc : MAcc N Z (B.1 101) := by
    refine ⟨fun k hk => ?_, ?_, ?_, ?_, ?_⟩
    · rw [b1 k hk, r2 102 (by decide) (by decide), a2 k hk]
    · rw [b3 _ (by decide) (by decide), r2 _ (by decide) (by decide), a3 _ (by decide) (by decide)]; exact d7
    · rw [b3 _ (by decide) (by decide), r2 _ (by decide) (by decide), a3 _ (by decide) (by decide)]; exact d8
    · rw [b3 _ (by decide) (by decide), r3 _ (by decide), a3 _ (by decide) (by decide)]; exact d10
    · unfold MRem at r1 ⊢
      rw [x3, x103] at r1
      rw [b3 100 (by decide) (by decide), b3 103 (by decide) (by decide)]
      refine ⟨fun c => ?_, fun c => ?_⟩
      · obtain ⟨q1, q2, q3⟩ := r1.1 c
        exact ⟨q1, q2, fun k hk => (q3 k hk).trans (n101 k hk)⟩
      · obtain ⟨q1, q2, q3⟩ := r1.2 c
        exact ⟨q1, q2, fun k hk => (q3 k hk).trans (n101 k hk)⟩
  refine ⟨?_, rel.acc (by rw [e1]; exact d3) d4 acc⟩
  show (sX5_keepDraft A).1 10 5 = Z.1 100 17
  rw [kv, b3 _ (by decide) (by decide), r3 _ (by decide), a3 _ (by decide) (by decide)]
  exact d2.1
theorem doF {C N : Mem} (h : RelC C N) : ∀ (f : Nat) (i : Int32) (A B : Mem), DI C N A B → 0 ≤ i.toInt → ((B.1 100 17).toInt - i.toInt).toNat < f → Sim (wX5_does_25 (C.2.1 1) f i A) (wX6_does_43 f i B)
  | 0, i, A, B, _, _, hf => by omega
  | f + 1, i, A, B, d, hi, hf => by
    obtain ⟨d1, d2, d3, d4, d5, d6, d7, d8, d9, d10⟩ := d
    rw [wX5_does_25, wX6_does_43, d2.1]
    by_cases c : B.1 100 17 ≤ i
    · rw [if_pos c, if_pos c]
      exact doEnd h ⟨d1, d2, d3, d4, d5, d6, d7, d8, d9, d10⟩
    · have lt := le_nT c
      rw [if_neg c, if_neg c]
      have ob := obX d2 ⟨hi, lt⟩ d3 d4
      have ko := ko_obeys (M := B) (k := i) d4.1
      have kf := kfX5_obeyed A (C.2.1 1) i
      obtain ⟨x4, e4'⟩ : ∃ x4, x4 = sX5_obeyed A (C.2.1 1) i := ⟨_, rfl⟩
      obtain ⟨x6, e6'⟩ : ∃ x6, x6 = sX6_obeys B i := ⟨_, rfl⟩
      rw [← e4'] at ob kf
      rw [← e6'] at ob ko
      rw [tk_eq e4', tk_eq e6']
      have kd := kd_op d1 kf
      by_cases z : x6.1 = 0
      · have neg := ob.2 z
        rw [if_pos z, if_neg (show ¬ 0 ≤ x4.1 by rw [fa_le]; show ¬ (0 : Int) ≤ _; omega)]
        obtain ⟨s1, s2, s3⟩ := swapV x6.2
        refine ⟨rfl, (h.kd kd).c1 (fun k hk => ?_) ?_ ?_ ?_ ?_ ?_⟩
        · show (sX6_swapsAside x6.2).1 101 k = _
          rw [s1 k hk, ko.1.1 102 (by decide)]
          exact d5 k hk
        · show (sX6_swapsAside x6.2).1 103 = _
          rw [s3 _ (by decide) (by decide), ko.1.1 103 (by decide)]; exact d6
        · show (sX6_swapsAside x6.2).1 105 = _
          rw [s3 _ (by decide) (by decide), ko.1.1 105 (by decide)]; exact d8
        · show (sX6_swapsAside x6.2).1 104 = _
          rw [s3 _ (by decide) (by decide), ko.1.1 104 (by decide)]; exact d7
        · show (sX6_swapsAside x6.2).1 100 3 = _
          rw [s3 _ (by decide) (by decide), ko.1.2.1 3 (by decide)]; exact d9
        · show (sX6_swapsAside x6.2).1 100 6 = _
          rw [s3 _ (by decide) (by decide), ko.1.2.1 6 (by decide)]; exact d10
      · obtain ⟨p1, p2, p3⟩ := ob.1 z
        rw [if_neg z, if_pos (show 0 ≤ x4.1 by rw [fa_le]; exact p1)]
        have i60 := (d2.ord ⟨hi, lt⟩).1
        have inc := incT_ (x := i) (by omega)
        have b17 : x6.2.1 100 17 = B.1 100 17 := ko.1.2.1 17 (by decide)
        have kc : ∀ j, 10 ≤ j → j < 16 → x4.2.1 j = A.1 j := fun j j1 j2 => kf.1 j (by omega)
        have dx : DX x4.2 x6.2 := by
          obtain ⟨q1, q2, q3, q4, q5, q6⟩ := d2
          have fr : frO x6.2 = frO B := by unfold frO; rw [b17, ko.1.1 113 (by decide)]
          unfold DX PRS OQ TM
          rw [kc 10 (by omega) (by omega), kc 12 (by omega) (by omega), kc 13 (by omega) (by omega), kc 14 (by omega) (by omega), b17, fr, ko.1.1 112 (by decide), ko.1.1 113 (by decide), ko.1.1 114 (by decide), ko.1.2.1 18 (by decide), ko.1.2.1 6 (by decide)]
          exact ⟨q1, q2, q3, q4, q5, q6⟩
        refine doF h f (i + 1) x4.2 x6.2 ⟨kd, dx, p2, p3, fun k hk => ?_, ?_, ?_, ?_, ?_, ?_⟩ (by omega) (by rw [b17]; omega)
        · rw [ko.1.1 102 (by decide)]; exact d5 k hk
        · rw [ko.1.1 103 (by decide)]; exact d6
        · rw [ko.1.1 104 (by decide)]; exact d7
        · rw [ko.1.1 105 (by decide)]; exact d8
        · rw [ko.1.2.1 3 (by decide)]; exact d9
        · rw [ko.1.2.1 6 (by decide)]; exact d10
theorem sim_does {C N : Mem} (h : RelC C N) : Sim (sX5_does C) (sX6_does N) := by
  have h6 := h.2.2.2.2.2.1
  have rd := rdX h6 h.2.2.2.2.2.2
  have kk := k4_ros (M := C) (by rw [h6.1]; exact h6.2)
  have ir := ir_post (M := N) h6.2
  unfold sX5_does sX6_does
  obtain ⟨x1, e1⟩ : ∃ x1, x1 = sX3_readOrders C := ⟨_, rfl⟩
  obtain ⟨y1, f1⟩ : ∃ y1, y1 = sX6_isRead N := ⟨_, rfl⟩
  rw [← e1] at rd kk
  rw [← f1] at rd ir
  rw [tk_eq e1, tk_eq f1]
  have kd : KD C x1.2 := ⟨kk.2.2, fun j hj => kk.1 j (by omega) (by omega) (by omega) (by omega), kk.2.1⟩
  have ms : MSame N y1.2 := ⟨ir.1.1 101 (by decide) (by decide), ir.1.1 103 (by decide) (by decide), ir.1.1 105 (by decide) (by decide), ir.1.1 104 (by decide) (by decide), ir.1.2.1 3 (by decide) (by decide) (by decide), ir.1.2.1 6 (by decide) (by decide) (by decide)⟩
  have rel := (h.kd kd).ms ms
  by_cases z : y1.1 = 0
  · obtain ⟨a, b⟩ := rd.1 z
    rw [if_pos z, if_neg (show ¬ x1.1 = -1 by rw [a, fa_eq]; have : (-1 : Int32).toInt = -1 := rfl; omega), a]
    exact ⟨rfl, rel⟩
  · obtain ⟨a, pz⟩ := rd.2 z
    obtain ⟨tm, oq, prs⟩ := ir.2 z
    rw [if_neg z, if_pos a]
    obtain ⟨rs, kd2⟩ := draftV rel
    have kf2 := kfX5_drafted x1.2
    obtain ⟨M2, e2⟩ : ∃ M2, M2 = sX5_drafted x1.2 := ⟨_, rfl⟩
    obtain ⟨B2, g2⟩ : ∃ B2, B2 = sr y1.2 102 (fb_put (y1.2.1 102) (y1.2.1 101) 0 58) := ⟨_, rfl⟩
    rw [← e2] at rs kd2 kf2
    rw [tk_eq e2, tk_eq g2]
    have bk : ∀ j, j ≠ 102 → B2.1 j = y1.2.1 j := fun j hj => by rw [g2, sr_ne _ _ hj]
    have mk : ∀ j, j < 16 → M2.1 j = x1.2.1 j := fun j hj => kf2.1 j (by omega)
    have c5 : M2.1 10 5 = B2.1 100 17 := by rw [mk 10 (by decide), bk 100 (by decide)]; exact pz.2.1
    rw [c5]
    have fr : frO B2 = frO y1.2 := by unfold frO; rw [bk 100 (by decide), bk 113 (by decide)]
    have dx : DX M2 B2 := by
      unfold DX PRS OQ TM
      rw [mk 10 (by decide), mk 12 (by decide), mk 13 (by decide), mk 14 (by decide), fr, bk 100 (by decide), bk 112 (by decide), bk 113 (by decide), bk 114 (by decide)]
      exact ⟨pz.2.1, pz.2.2.2.1, pz.2.2.2.2.1, prs, oq, tm⟩
    refine doF rel _ 0 M2 B2 ⟨kd2, dx, by rw [bk 101 (by decide)]; exact rs, by rw [bk 101 (by decide)]; exact rel.2.1.2, fun k hk => ?_, bk _ (by decide), bk _ (by decide), bk _ (by decide), by rw [bk 100 (by decide)], by rw [bk 100 (by decide)]⟩ (by decide) ?_
    · rw [g2, sr_row, fb_put_in (by omega) (by omega)]; rfl
    · have : (0 : Int32).toInt = 0 := rfl
      omega
