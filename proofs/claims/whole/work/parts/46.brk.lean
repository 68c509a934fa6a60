/-- a break stays -/
def KB (M M' : Mem) : Prop := M.1 100 7 = 1 → M'.1 100 7 = 1
def KB2 (M : Mem) (u : Int32 × Mem) : Prop := KB M u.2
theorem KB.rf {M : Mem} : KB M M := fun h => h
theorem KB.trans {A B C : Mem} (h : KB A B) (g : KB B C) : KB A C := fun q => g (h q)
theorem kb_st {M : Mem} {j k : Nat} {v : Int32} (h : ¬ (j = 100 ∧ k = 7)) : KB M (st M j k v) := by
  intro q
  by_cases e : j = 100
  · subst e
    rw [st_at_ne _ _ _ _ (fun c => h ⟨rfl, c.symm⟩)]
    exact q
  · rw [st_ne _ _ _ (fun c => e c.symm)]
    exact q
theorem kbX6_over (M : Mem) (a b : Int32) : KB2 M (sX6_over M a b) := by
  unfold sX6_over
  refine ite_ind (P := KB2 M) (fun _ => ?_) (fun _ => ?_)
  · refine tk_ind (P := KB2 M) _ _ (fun x h => ?_)
    intro q
    show x.1 100 7 = 1
    rw [h, st_at]
  · refine tk_ind (P := KB2 M) _ _ (fun x h => ?_)
    exact KB.rf
set_option maxRecDepth 10000 in
theorem kbX6_told4 (M : Mem) (i1 : Int32) (i2 : Int32) (i3 : Int32) (i4 : Int32) : KB2 M (sX6_told4 M i1 i2 i3 i4) := by
  unfold sX6_told4
  refine tk_ind (P := KB2 M) _ _ (fun x1 hx1 => ?_)
  have k1 : KB2 M x1 := by rw [hx1]; apply kbX6_over
  exact (show KB M x1.2 from k1)
set_option maxRecDepth 10000 in
theorem kbX6_tellsOf (M : Mem) (i1 : Int32) (i2 : Int32) (i3 : Int32) (i4 : Int32) : KB M (sX6_tellsOf M i1 i2 i3 i4) := by
  unfold sX6_tellsOf
  refine tk_ind (P := KB M) _ _ (fun x1 hx1 => ?_)
  refine tk_ind (P := KB M) _ _ (fun x2 hx2 => ?_)
  refine tk_ind (P := KB M) _ _ (fun x3 hx3 => ?_)
  have k1 : KB2 M x3 := by rw [hx3]; apply kbX6_told4
  refine tk_ind (P := KB M) _ _ (fun M4 hM4 => ?_)
  have k2 : KB x3.2 M4 := by rw [hM4]; exact kb_st (by decide)
  refine tk_ind (P := KB M) _ _ (fun x5 hx5 => ?_)
  have k3 : KB2 M4 x5 := by rw [hx5]; apply kbX6_told4
  refine tk_ind (P := KB M) _ _ (fun M6 hM6 => ?_)
  have k4 : KB x5.2 M6 := by rw [hM6]; exact kb_st (by decide)
  refine tk_ind (P := KB M) _ _ (fun x7 hx7 => ?_)
  have k5 : KB2 M6 x7 := by rw [hx7]; apply kbX6_told4
  refine tk_ind (P := KB M) _ _ (fun M8 hM8 => ?_)
  have k6 : KB x7.2 M8 := by rw [hM8]; exact kb_st (by decide)
  refine tk_ind (P := KB M) _ _ (fun x9 hx9 => ?_)
  have k7 : KB2 M8 x9 := by rw [hx9]; apply kbX6_told4
  refine tk_ind (P := KB M) _ _ (fun M10 hM10 => ?_)
  have k8 : KB x9.2 M10 := by rw [hM10]; exact kb_st (by decide)
  exact (show KB M M10 from KB.trans k1 (KB.trans k2 (KB.trans k3 (KB.trans k4 (KB.trans k5 (KB.trans k6 (KB.trans k7 (k8))))))))
set_option maxRecDepth 10000 in
theorem kbX6_tellsBox (M : Mem) (i1 : Int32) : KB M (sX6_tellsBox M i1) := by
  unfold sX6_tellsBox
  refine tk_ind (P := KB M) _ _ (fun M1 hM1 => ?_)
  have k1 : KB M M1 := by rw [hM1]; apply kbX6_tellsOf
  exact (show KB M M1 from k1)
set_option maxRecDepth 10000 in
theorem kbX6_learnsSide_1 (M : Mem) (i2 : Int32) (i3 : Int32) : KB M (sX6_learnsSide_1 M i2 i3) := by
  unfold sX6_learnsSide_1
  refine tk_ind (P := KB M) _ _ (fun x1 hx1 => ?_)
  have k1 : KB2 M x1 := by rw [hx1]; apply kbX6_over
  refine tk_ind (P := KB M) _ _ (fun M2 hM2 => ?_)
  have k2 : KB x1.2 M2 := by rw [hM2]; exact kb_st (by decide)
  refine tk_ind (P := KB M) _ _ (fun M3 hM3 => ?_)
  have k3 : KB M2 M3 := by rw [hM3]; exact kb_st (by decide)
  exact (show KB M M3 from KB.trans k1 (KB.trans k2 (k3)))
set_option maxRecDepth 10000 in
theorem kbX6_learnsThrough_1 (M : Mem) (i1 : Int32) (i3 : Int32) (i4 : Int32) : KB M (sX6_learnsThrough_1 M i1 i3 i4) := by
  unfold sX6_learnsThrough_1
  refine tk_ind (P := KB M) _ _ (fun x1 hx1 => ?_)
  have k1 : KB2 M x1 := by rw [hx1]; apply kbX6_over
  refine tk_ind (P := KB M) _ _ (fun M2 hM2 => ?_)
  have k2 : KB x1.2 M2 := by rw [hM2]; exact kb_st (by decide)
  refine tk_ind (P := KB M) _ _ (fun M3 hM3 => ?_)
  have k3 : KB M2 M3 := by rw [hM3]; exact kb_st (by decide)
  exact (show KB M M3 from KB.trans k1 (KB.trans k2 (k3)))
set_option maxRecDepth 10000 in
theorem kbX6_learnsSide_7 (M : Mem) (i2 : Int32) (i3 : Int32) : KB M (sX6_learnsSide_7 M i2 i3) := by
  unfold sX6_learnsSide_7
  refine tk_ind (P := KB M) _ _ (fun x1 hx1 => ?_)
  have k1 : KB2 M x1 := by rw [hx1]; apply kbX6_over
  refine tk_ind (P := KB M) _ _ (fun M2 hM2 => ?_)
  have k2 : KB x1.2 M2 := by rw [hM2]; exact kb_st (by decide)
  refine tk_ind (P := KB M) _ _ (fun M3 hM3 => ?_)
  have k3 : KB M2 M3 := by rw [hM3]; exact kb_st (by decide)
  exact (show KB M M3 from KB.trans k1 (KB.trans k2 (k3)))
set_option maxRecDepth 10000 in
theorem kbX6_learnsThrough_7 (M : Mem) (i1 : Int32) (i3 : Int32) (i4 : Int32) : KB M (sX6_learnsThrough_7 M i1 i3 i4) := by
  unfold sX6_learnsThrough_7
  refine tk_ind (P := KB M) _ _ (fun x1 hx1 => ?_)
  have k1 : KB2 M x1 := by rw [hx1]; apply kbX6_over
  refine tk_ind (P := KB M) _ _ (fun M2 hM2 => ?_)
  have k2 : KB x1.2 M2 := by rw [hM2]; exact kb_st (by decide)
  refine tk_ind (P := KB M) _ _ (fun M3 hM3 => ?_)
  have k3 : KB M2 M3 := by rw [hM3]; exact kb_st (by decide)
  exact (show KB M M3 from KB.trans k1 (KB.trans k2 (k3)))
set_option maxRecDepth 10000 in
theorem kbX6_learnsAll (M : Mem)  : KB M (sX6_learnsAll M) := by
  unfold sX6_learnsAll
  refine tk_ind (P := KB M) _ _ (fun M1 hM1 => ?_)
  have k1 : KB M M1 := by rw [hM1]; apply kbX6_tellsOf
  refine tk_ind (P := KB M) _ _ (fun M2 hM2 => ?_)
  have k2 : KB M1 M2 := by rw [hM2]; exact kb_st (by decide)
  refine tk_ind (P := KB M) _ _ (fun M3 hM3 => ?_)
  have k3 : KB M2 M3 := by rw [hM3]; exact kb_st (by decide)
  refine tk_ind (P := KB M) _ _ (fun M4 hM4 => ?_)
  have k4 : KB M3 M4 := by rw [hM4]; exact kb_st (by decide)
  refine tk_ind (P := KB M) _ _ (fun M5 hM5 => ?_)
  have k5 : KB M4 M5 := by rw [hM5]; exact kb_st (by decide)
  refine tk_ind (P := KB M) _ _ (fun M6 hM6 => ?_)
  have k6 : KB M5 M6 := by rw [hM6]; apply kbX6_tellsOf
  refine tk_ind (P := KB M) _ _ (fun M7 hM7 => ?_)
  have k7 : KB M6 M7 := by rw [hM7]; apply kbX6_tellsOf
  refine tk_ind (P := KB M) _ _ (fun M8 hM8 => ?_)
  have k8 : KB M7 M8 := by rw [hM8]; apply kbX6_learnsSide_1
  refine tk_ind (P := KB M) _ _ (fun M9 hM9 => ?_)
  have k9 : KB M8 M9 := by rw [hM9]; apply kbX6_tellsOf
  refine tk_ind (P := KB M) _ _ (fun M10 hM10 => ?_)
  have k10 : KB M9 M10 := by rw [hM10]; apply kbX6_tellsOf
  refine tk_ind (P := KB M) _ _ (fun M11 hM11 => ?_)
  have k11 : KB M10 M11 := by rw [hM11]; apply kbX6_learnsSide_7
  refine tk_ind (P := KB M) _ _ (fun M12 hM12 => ?_)
  have k12 : KB M11 M12 := by rw [hM12]; apply kbX6_tellsOf
  refine tk_ind (P := KB M) _ _ (fun M13 hM13 => ?_)
  have k13 : KB M12 M13 := by rw [hM13]; apply kbX6_learnsThrough_1
  refine tk_ind (P := KB M) _ _ (fun M14 hM14 => ?_)
  have k14 : KB M13 M14 := by rw [hM14]; apply kbX6_learnsThrough_7
  exact (show KB M M14 from KB.trans k1 (KB.trans k2 (KB.trans k3 (KB.trans k4 (KB.trans k5 (KB.trans k6 (KB.trans k7 (KB.trans k8 (KB.trans k9 (KB.trans k10 (KB.trans k11 (KB.trans k12 (KB.trans k13 (k14))))))))))))))
set_option maxRecDepth 10000 in
theorem kbX6_readsBox (M : Mem) (i1 : Int32) : KB M (sX6_readsBox M i1) := by
  unfold sX6_readsBox
  refine tk_ind (P := KB M) _ _ (fun M1 hM1 => ?_)
  have k1 : KB M M1 := by rw [hM1]; apply kbX6_tellsBox
  refine tk_ind (P := KB M) _ _ (fun x2 hx2 => ?_)
  have k2 : KB2 M1 x2 := by rw [hx2]; apply kbX6_over
  refine tk_ind (P := KB M) _ _ (fun x3 hx3 => ?_)
  have k3 : KB2 x2.2 x3 := by rw [hx3]; apply kbX6_over
  refine tk_ind (P := KB M) _ _ (fun x4 hx4 => ?_)
  have k4 : KB2 x3.2 x4 := by rw [hx4]; apply kbX6_over
  refine tk_ind (P := KB M) _ _ (fun x5 hx5 => ?_)
  have k5 : KB2 x4.2 x5 := by rw [hx5]; apply kbX6_over
  refine tk_ind (P := KB M) _ _ (fun x6 hx6 => ?_)
  refine tk_ind (P := KB M) _ _ (fun x7 hx7 => ?_)
  have k6 : KB2 x5.2 x7 := by rw [hx7]; apply kbX6_over
  refine tk_ind (P := KB M) _ _ (fun M8 hM8 => ?_)
  have k7 : KB x7.2 M8 := by rw [hM8]; exact kb_st (by decide)
  refine tk_ind (P := KB M) _ _ (fun x9 hx9 => ?_)
  refine tk_ind (P := KB M) _ _ (fun x10 hx10 => ?_)
  have k8 : KB2 M8 x10 := by rw [hx10]; apply kbX6_over
  refine tk_ind (P := KB M) _ _ (fun M11 hM11 => ?_)
  have k9 : KB x10.2 M11 := by rw [hM11]; exact kb_st (by decide)
  refine tk_ind (P := KB M) _ _ (fun x12 hx12 => ?_)
  refine tk_ind (P := KB M) _ _ (fun x13 hx13 => ?_)
  have k10 : KB2 M11 x13 := by rw [hx13]; apply kbX6_over
  refine tk_ind (P := KB M) _ _ (fun M14 hM14 => ?_)
  have k11 : KB x13.2 M14 := by rw [hM14]; exact kb_st (by decide)
  refine tk_ind (P := KB M) _ _ (fun x15 hx15 => ?_)
  have k12 : KB2 M14 x15 := by rw [hx15]; apply kbX6_over
  refine tk_ind (P := KB M) _ _ (fun M16 hM16 => ?_)
  have k13 : KB x15.2 M16 := by rw [hM16]; exact kb_st (by decide)
  exact (show KB M M16 from KB.trans k1 (KB.trans k2 (KB.trans k3 (KB.trans k4 (KB.trans k5 (KB.trans k6 (KB.trans k7 (KB.trans k8 (KB.trans k9 (KB.trans k10 (KB.trans k11 (KB.trans k12 (k13)))))))))))))
set_option maxRecDepth 10000 in
theorem kbX6_copies (M : Mem)  : KB M (sX6_copies M) := by
  unfold sX6_copies
  refine tk_ind (P := KB M) _ _ (fun M1 hM1 => ?_)
  have k1 : KB M M1 := by rw [hM1]; exact kb_st (by decide)
  refine tk_ind (P := KB M) _ _ (fun M2 hM2 => ?_)
  have k2 : KB M1 M2 := by rw [hM2]; exact kb_st (by decide)
  refine tk_ind (P := KB M) _ _ (fun M3 hM3 => ?_)
  have k3 : KB M2 M3 := by rw [hM3]; exact kb_st (by decide)
  refine tk_ind (P := KB M) _ _ (fun M4 hM4 => ?_)
  have k4 : KB M3 M4 := by rw [hM4]; exact kb_st (by decide)
  exact (show KB M M4 from KB.trans k1 (KB.trans k2 (KB.trans k3 (k4))))
set_option maxRecDepth 10000 in
theorem kbX6_formsTo_1 (M : Mem) (i1 : Int32) : KB M (sX6_formsTo_1 M i1) := by
  unfold sX6_formsTo_1
  refine tk_ind (P := KB M) _ _ (fun x1 hx1 => ?_)
  have k1 : KB2 M x1 := by rw [hx1]; apply kbX6_over
  refine tk_ind (P := KB M) _ _ (fun M2 hM2 => ?_)
  have k2 : KB x1.2 M2 := by rw [hM2]; exact kb_st (by decide)
  refine tk_ind (P := KB M) _ _ (fun x3 hx3 => ?_)
  have k3 : KB2 M2 x3 := by rw [hx3]; apply kbX6_over
  refine tk_ind (P := KB M) _ _ (fun M4 hM4 => ?_)
  have k4 : KB x3.2 M4 := by rw [hM4]; exact kb_st (by decide)
  refine tk_ind (P := KB M) _ _ (fun x5 hx5 => ?_)
  have k5 : KB2 M4 x5 := by rw [hx5]; apply kbX6_over
  refine tk_ind (P := KB M) _ _ (fun M6 hM6 => ?_)
  have k6 : KB x5.2 M6 := by rw [hM6]; exact kb_st (by decide)
  refine tk_ind (P := KB M) _ _ (fun x7 hx7 => ?_)
  have k7 : KB2 M6 x7 := by rw [hx7]; apply kbX6_over
  refine tk_ind (P := KB M) _ _ (fun M8 hM8 => ?_)
  have k8 : KB x7.2 M8 := by rw [hM8]; exact kb_st (by decide)
  exact (show KB M M8 from KB.trans k1 (KB.trans k2 (KB.trans k3 (KB.trans k4 (KB.trans k5 (KB.trans k6 (KB.trans k7 (k8))))))))
set_option maxRecDepth 10000 in
theorem kbX6_inverts_1 (M : Mem)  : KB M (sX6_inverts_1 M) := by
  unfold sX6_inverts_1
  refine tk_ind (P := KB M) _ _ (fun x1 hx1 => ?_)
  refine tk_ind (P := KB M) _ _ (fun x2 hx2 => ?_)
  have k1 : KB2 M x2 := by rw [hx2]; apply kbX6_over
  refine tk_ind (P := KB M) _ _ (fun x3 hx3 => ?_)
  have k2 : KB2 x2.2 x3 := by rw [hx3]; apply kbX6_over
  refine tk_ind (P := KB M) _ _ (fun M4 hM4 => ?_)
  have k3 : KB x3.2 M4 := by rw [hM4]; exact kb_st (by decide)
  refine tk_ind (P := KB M) _ _ (fun x5 hx5 => ?_)
  have k4 : KB2 M4 x5 := by rw [hx5]; apply kbX6_over
  refine tk_ind (P := KB M) _ _ (fun M6 hM6 => ?_)
  have k5 : KB x5.2 M6 := by rw [hM6]; exact kb_st (by decide)
  refine tk_ind (P := KB M) _ _ (fun x7 hx7 => ?_)
  have k6 : KB2 M6 x7 := by rw [hx7]; apply kbX6_over
  refine tk_ind (P := KB M) _ _ (fun M8 hM8 => ?_)
  have k7 : KB x7.2 M8 := by rw [hM8]; exact kb_st (by decide)
  refine tk_ind (P := KB M) _ _ (fun M9 hM9 => ?_)
  have k8 : KB M8 M9 := by rw [hM9]; exact kb_st (by decide)
  exact (show KB M M9 from KB.trans k1 (KB.trans k2 (KB.trans k3 (KB.trans k4 (KB.trans k5 (KB.trans k6 (KB.trans k7 (k8))))))))
set_option maxRecDepth 10000 in
theorem kbX6_formsTo_2 (M : Mem) (i1 : Int32) : KB M (sX6_formsTo_2 M i1) := by
  unfold sX6_formsTo_2
  refine tk_ind (P := KB M) _ _ (fun x1 hx1 => ?_)
  have k1 : KB2 M x1 := by rw [hx1]; apply kbX6_over
  refine tk_ind (P := KB M) _ _ (fun M2 hM2 => ?_)
  have k2 : KB x1.2 M2 := by rw [hM2]; exact kb_st (by decide)
  refine tk_ind (P := KB M) _ _ (fun x3 hx3 => ?_)
  have k3 : KB2 M2 x3 := by rw [hx3]; apply kbX6_over
  refine tk_ind (P := KB M) _ _ (fun M4 hM4 => ?_)
  have k4 : KB x3.2 M4 := by rw [hM4]; exact kb_st (by decide)
  refine tk_ind (P := KB M) _ _ (fun x5 hx5 => ?_)
  have k5 : KB2 M4 x5 := by rw [hx5]; apply kbX6_over
  refine tk_ind (P := KB M) _ _ (fun M6 hM6 => ?_)
  have k6 : KB x5.2 M6 := by rw [hM6]; exact kb_st (by decide)
  refine tk_ind (P := KB M) _ _ (fun x7 hx7 => ?_)
  have k7 : KB2 M6 x7 := by rw [hx7]; apply kbX6_over
  refine tk_ind (P := KB M) _ _ (fun M8 hM8 => ?_)
  have k8 : KB x7.2 M8 := by rw [hM8]; exact kb_st (by decide)
  exact (show KB M M8 from KB.trans k1 (KB.trans k2 (KB.trans k3 (KB.trans k4 (KB.trans k5 (KB.trans k6 (KB.trans k7 (k8))))))))
set_option maxRecDepth 10000 in
theorem kbX6_inverts_2 (M : Mem)  : KB M (sX6_inverts_2 M) := by
  unfold sX6_inverts_2
  refine tk_ind (P := KB M) _ _ (fun x1 hx1 => ?_)
  refine tk_ind (P := KB M) _ _ (fun x2 hx2 => ?_)
  have k1 : KB2 M x2 := by rw [hx2]; apply kbX6_over
  refine tk_ind (P := KB M) _ _ (fun x3 hx3 => ?_)
  have k2 : KB2 x2.2 x3 := by rw [hx3]; apply kbX6_over
  refine tk_ind (P := KB M) _ _ (fun M4 hM4 => ?_)
  have k3 : KB x3.2 M4 := by rw [hM4]; exact kb_st (by decide)
  refine tk_ind (P := KB M) _ _ (fun x5 hx5 => ?_)
  have k4 : KB2 M4 x5 := by rw [hx5]; apply kbX6_over
  refine tk_ind (P := KB M) _ _ (fun M6 hM6 => ?_)
  have k5 : KB x5.2 M6 := by rw [hM6]; exact kb_st (by decide)
  refine tk_ind (P := KB M) _ _ (fun x7 hx7 => ?_)
  have k6 : KB2 M6 x7 := by rw [hx7]; apply kbX6_over
  refine tk_ind (P := KB M) _ _ (fun M8 hM8 => ?_)
  have k7 : KB x7.2 M8 := by rw [hM8]; exact kb_st (by decide)
  refine tk_ind (P := KB M) _ _ (fun M9 hM9 => ?_)
  have k8 : KB M8 M9 := by rw [hM9]; exact kb_st (by decide)
  exact (show KB M M9 from KB.trans k1 (KB.trans k2 (KB.trans k3 (KB.trans k4 (KB.trans k5 (KB.trans k6 (KB.trans k7 (k8))))))))
set_option maxRecDepth 10000 in
theorem kbX6_multiplies (M : Mem)  : KB M (sX6_multiplies M) := by
  unfold sX6_multiplies
  refine tk_ind (P := KB M) _ _ (fun M1 hM1 => ?_)
  have k1 : KB M M1 := by rw [hM1]; exact kb_st (by decide)
  refine tk_ind (P := KB M) _ _ (fun M2 hM2 => ?_)
  have k2 : KB M1 M2 := by rw [hM2]; exact kb_st (by decide)
  refine tk_ind (P := KB M) _ _ (fun M3 hM3 => ?_)
  have k3 : KB M2 M3 := by rw [hM3]; exact kb_st (by decide)
  refine tk_ind (P := KB M) _ _ (fun M4 hM4 => ?_)
  have k4 : KB M3 M4 := by rw [hM4]; exact kb_st (by decide)
  exact (show KB M M4 from KB.trans k1 (KB.trans k2 (KB.trans k3 (k4))))
set_option maxRecDepth 10000 in
theorem kbX6_goesBack (M : Mem)  : KB M (sX6_goesBack M) := by
  unfold sX6_goesBack
  refine tk_ind (P := KB M) _ _ (fun x1 hx1 => ?_)
  refine tk_ind (P := KB M) _ _ (fun x2 hx2 => ?_)
  have k1 : KB2 M x2 := by rw [hx2]; apply kbX6_over
  refine tk_ind (P := KB M) _ _ (fun M3 hM3 => ?_)
  have k2 : KB x2.2 M3 := by rw [hM3]; exact kb_st (by decide)
  refine tk_ind (P := KB M) _ _ (fun x4 hx4 => ?_)
  have k3 : KB2 M3 x4 := by rw [hx4]; apply kbX6_over
  refine tk_ind (P := KB M) _ _ (fun M5 hM5 => ?_)
  have k4 : KB x4.2 M5 := by rw [hM5]; exact kb_st (by decide)
  refine tk_ind (P := KB M) _ _ (fun x6 hx6 => ?_)
  have k5 : KB2 M5 x6 := by rw [hx6]; apply kbX6_over
  refine tk_ind (P := KB M) _ _ (fun M7 hM7 => ?_)
  have k6 : KB x6.2 M7 := by rw [hM7]; exact kb_st (by decide)
  refine tk_ind (P := KB M) _ _ (fun x8 hx8 => ?_)
  have k7 : KB2 M7 x8 := by rw [hx8]; apply kbX6_over
  refine tk_ind (P := KB M) _ _ (fun M9 hM9 => ?_)
  have k8 : KB x8.2 M9 := by rw [hM9]; exact kb_st (by decide)
  exact (show KB M M9 from KB.trans k1 (KB.trans k2 (KB.trans k3 (KB.trans k4 (KB.trans k5 (KB.trans k6 (KB.trans k7 (k8))))))))
set_option maxRecDepth 10000 in
theorem kbX6_formsSecond (M : Mem) (i1 : Int32) : KB M (sX6_formsSecond M i1) := by
  unfold sX6_formsSecond
  refine tk_ind (P := KB M) _ _ (fun x1 hx1 => ?_)
  refine tk_ind (P := KB M) _ _ (fun x2 hx2 => ?_)
  refine tk_ind (P := KB M) _ _ (fun x3 hx3 => ?_)
  have k1 : KB2 M x3 := by rw [hx3]; apply kbX6_over
  refine tk_ind (P := KB M) _ _ (fun M4 hM4 => ?_)
  have k2 : KB x3.2 M4 := by rw [hM4]; exact kb_st (by decide)
  refine tk_ind (P := KB M) _ _ (fun x5 hx5 => ?_)
  have k3 : KB2 M4 x5 := by rw [hx5]; apply kbX6_over
  refine tk_ind (P := KB M) _ _ (fun M6 hM6 => ?_)
  have k4 : KB x5.2 M6 := by rw [hM6]; exact kb_st (by decide)
  refine tk_ind (P := KB M) _ _ (fun x7 hx7 => ?_)
  have k5 : KB2 M6 x7 := by rw [hx7]; apply kbX6_over
  refine tk_ind (P := KB M) _ _ (fun M8 hM8 => ?_)
  have k6 : KB x7.2 M8 := by rw [hM8]; exact kb_st (by decide)
  refine tk_ind (P := KB M) _ _ (fun x9 hx9 => ?_)
  have k7 : KB2 M8 x9 := by rw [hx9]; apply kbX6_over
  refine tk_ind (P := KB M) _ _ (fun M10 hM10 => ?_)
  have k8 : KB x9.2 M10 := by rw [hM10]; exact kb_st (by decide)
  exact (show KB M M10 from KB.trans k1 (KB.trans k2 (KB.trans k3 (KB.trans k4 (KB.trans k5 (KB.trans k6 (KB.trans k7 (k8))))))))
