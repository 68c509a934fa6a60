/-- a break stays -/
def KB (M M' : Mem) : Prop := M.1 100 7 = 1 → M'.1 100 7 = 1
def KB2 (M : Mem) (u : Int32 × Mem) : Prop := KB M u.2
theorem KB.rf {M : Mem} : KB M M := fun h => h
theorem KB.trans {A B C : Mem} (h : KB A B) (g : KB B C) : KB A C := fun q => g (h q)
theorem kb_st {M : Mem} {j k : Nat} {v : Int32} (h : ¬ (j = 100 ∧ k = 7)) : KB M (st M j k v) := by
  intro q
  by_cases e : j = 100
  · subst e
    rw [st_at_ne _ _ _ _ (fun c => h ⟨rfl, c.symm⟩)]
    exact q
  · rw [st_ne _ _ _ (fun c => e c.symm)]
    exact q
theorem kbX6_over (M : Mem) (a b : Int32) : KB2 M (sX6_over M a b) := by
  unfold sX6_over
  refine ite_ind (P := KB2 M) (fun _ => ?_) (fun _ => ?_)
  · refine tk_ind (P := KB2 M) _ _ (fun x h => ?_)
    intro q
    show x.1 100 7 = 1
    rw [h, st_at]
  · refine tk_ind (P := KB2 M) _ _ (fun x h => ?_)
    exact KB.rf
set_option maxRecDepth 10000 in
theorem kbX6_told4 (M : Mem) (i1 : Int32) (i2 : Int32) (i3 : Int32) (i4 : Int32) : KB2 M (sX6_told4 M i1 i2 i3 i4) := by
  unfold sX6_told4
  refine tk_ind (P := KB2 M) _ _ (fun x1 hx1 => ?_)
  have k1 : KB2 M x1 := by rw [hx1]; apply kbX6_over
  exact (show KB M x1.2 from k1)
set_option maxRecDepth 10000 in
theorem kbX6_tellsOf (M : Mem) (i1 : Int32) (i2 : Int32) (i3 : Int32) (i4 : Int32) : KB M (sX6_tellsOf M i1 i2 i3 i4) := by
  unfold sX6_tellsOf
  refine tk_ind (P := KB M) _ _ (fun x1 hx1 => ?_)
  refine tk_ind (P := KB M) _ _ (fun x2 hx2 => ?_)
  refine tk_ind (P := KB M) _ _ (fun x3 hx3 => ?_)
  have k1 : KB2 M x3 := by rw [hx3]; apply kbX6_told4
  refine tk_ind (P := KB M) _ _ (fun M4 hM4 => ?_)
  have k2 : KB x3.2 M4 := by rw [hM4]; exact kb_st (by decide)
  refine tk_ind (P := KB M) _ _ (fun x5 hx5 => ?_)
  have k3 : KB2 M4 x5 := by rw [hx5]; apply kbX6_told4
  refine tk_ind (P := KB M) _ _ (fun M6 hM6 => ?_)
  have k4 : KB x5.2 M6 := by rw [hM6]; exact kb_st (by decide)
  refine tk_ind (P := KB M) _ _ (fun x7 hx7 => ?_)
  have k5 : KB2 M6 x7 := by rw [hx7]; apply kbX6_told4
  refine tk_ind (P := KB M) _ _ (fun M8 hM8 => ?_)
  have k6 : KB x7.2 M8 := by rw [hM8]; exact kb_st (by decide)
  refine tk_ind (P := KB M) _ _ (fun x9 hx9 => ?_)
  have k7 : KB2 M8 x9 := by rw [hx9]; apply kbX6_told4
  refine tk_ind (P := KB M) _ _ (fun M10 hM10 => ?_)
  have k8 : KB x9.2 M10 := by rw [hM10]; exact kb_st (by decide)
  exact (show KB M M10 from KB.trans k1 (KB.trans k2 (KB.trans k3 (KB.trans k4 (KB.trans k5 (KB.trans k6 (KB.trans k7 (k8))))))))
set_option maxRecDepth 10000 in
theorem kbX6_tellsBox (M : Mem) (i1 : Int32) : KB M (sX6_tellsBox M i1) := by
  unfold sX6_tellsBox
  refine tk_ind (P := KB M) _ _ (fun M1 hM1 => ?_)
  have k1 : KB M M1 := by rw [hM1]; apply kbX6_tellsOf
  exact (show KB M M1 from k1)
set_option maxRecDepth 10000 in
theorem kbX6_learnsSide_1 (M : Mem) (i2 : Int32) (i3 : Int32) : KB M (sX6_learnsSide_1 M i2 i3) := by
  unfold sX6_learnsSide_1
  refine tk_ind (P := KB M) _ _ (fun x1 hx1 => ?_)
  have k1 : KB2 M x1 := by rw [hx1]; apply kbX6_over
  refine tk_ind (P := KB M) _ _ (fun M2 hM2 => ?_)
  have k2 : KB x1.2 M2 := by rw [hM2]; exact kb_st (by decide)
  refine tk_ind (P := KB M) _ _ (fun M3 hM3 => ?_)
  have k3 : KB M2 M3 := by rw [hM3]; exact kb_st (by decide)
  exact (show KB M M3 from KB.trans k1 (KB.trans k2 (k3)))
set_option maxRecDepth 10000 in
theorem kbX6_learnsThrough_1 (M : Mem) (i1 : Int32) (i3 : Int32) (i4 : Int32) : KB M (sX6_learnsThrough_1 M i1 i3 i4) := by
  unfold sX6_learnsThrough_1
  refine tk_ind (P := KB M) _ _ (fun x1 hx1 => ?_)
  have k1 : KB2 M x1 := by rw [hx1]; apply kbX6_over
  refine tk_ind (P := KB M) _ _ (fun M2 hM2 => ?_)
  have k2 : KB x1.2 M2 := by rw [hM2]; exact kb_st (by decide)
  refine tk_ind (P := KB M) _ _ (fun M3 hM3 => ?_)
  have k3 : KB M2 M3 := by rw [hM3]; exact kb_st (by decide)
  exact (show KB M M3 from KB.trans k1 (KB.trans k2 (k3)))
set_option maxRecDepth 10000 in
theorem kbX6_learnsSide_7 (M : Mem) (i2 : Int32) (i3 : Int32) : KB M (sX6_learnsSide_7 M i2 i3) := by
  unfold sX6_learnsSide_7
  refine tk_ind (P := KB M) _ _ (fun x1 hx1 => ?_)
  have k1 : KB2 M x1 := by rw [hx1]; apply kbX6_over
  refine tk_ind (P := KB M) _ _ (fun M2 hM2 => ?_)
  have k2 : KB x1.2 M2 := by rw [hM2]; exact kb_st (by decide)
  refine tk_ind (P := KB M) _ _ (fun M3 hM3 => ?_)
  have k3 : KB M2 M3 := by rw [hM3]; exact kb_st (by decide)
  exact (show KB M M3 from KB.trans k1 (KB.trans k2 (k3)))
set_option maxRecDepth 10000 in
theorem kbX6_learnsThrough_7 (M : Mem) (i1 : Int32) (i3 : Int32) (i4 : Int32) : KB M (sX6_learnsThrough_7 M i1 i3 i4) := by
  unfold sX6_learnsThrough_7
  refine tk_ind (P := KB M) _ _ (fun x1 hx1 => ?_)
  have k1 : KB2 M x1 := by rw [hx1]; apply kbX6_over
  refine tk_ind (P := KB M) _ _ (fun M2 hM2 => ?_)
  have k2 : KB x1.2 M2 := by rw [hM2]; exact kb_st (by decide)
  refine tk_ind (P := KB M) _ _ (fun M3 hM3 => ?_)
  have k3 : KB M2 M3 := by rw [hM3]; exact kb_st (by decide)
  exact (show KB M M3 from KB.trans k1 (KB.trans k2 (k3)))
set_option maxRecDepth 10000 in
theorem kbX6_learnsAll (M : Mem)  : KB M (sX6_learnsAll M) := by
  unfold sX6_learnsAll
  refine tk_ind (P := KB M) _ _ (fun M1 hM1 => ?_)
  have k1 : KB M M1 := by rw [hM1]; apply kbX6_tellsOf
  refine tk_ind (P := KB M) _ _ (fun M2 hM2 => ?_)
  have k2 : KB M1 M2 := by rw [hM2]; exact kb_st (by decide)
  refine tk_ind (P := KB M) _ _ (fun M3 hM3 => ?_)
  have k3 : KB M2 M3 := by rw [hM3]; exact kb_st (by decide)
  refine tk_ind (P := KB M) _ _ (fun M4 hM4 => ?_)
  have k4 : KB M3 M4 := by rw [hM4]; exact kb_st (by decide)
  refine tk_ind (P := KB M) _ _ (fun M5 hM5 => ?_)
  have k5 : KB M4 M5 := by rw [hM5]; exact kb_st (by decide)
  refine tk_ind (P := KB M) _ _ (fun M6 hM6 => ?_)
  have k6 : KB M5 M6 := by rw [hM6]; apply kbX6_tellsOf
  refine tk_ind (P := KB M) _ _ (fun M7 hM7 => ?_)
  have k7 : KB M6 M7 := by rw [hM7]; apply kbX6_tellsOf
  refine tk_ind (P := KB M) _ _ (fun M8 hM8 => ?_)
  have k8 : KB M7 M8 := by rw [hM8]; apply kbX6_learnsSide_1
  refine tk_ind (P := KB M) _ _ (fun M9 hM9 => ?_)
  have k9 : KB M8 M9 := by rw [hM9]; apply kbX6_tellsOf
  refine tk_ind (P := KB M) _ _ (fun M10 hM10 => ?_)
  have k10 : KB M9 M10 := by rw [hM10]; apply kbX6_tellsOf
  refine tk_ind (P := KB M) _ _ (fun M11 hM11 => ?_)
  have k11 : KB M10 M11 := by rw [hM11]; apply kbX6_learnsSide_7
  refine tk_ind (P := KB M) _ _ (fun M12 hM12 => ?_)
  have k12 : KB M11 M12 := by rw [hM12]; apply kbX6_tellsOf
  refine tk_ind (P := KB M) _ _ (fun M13 hM13 => ?_)
  have k13 : KB M12 M13 := by rw [hM13]; apply kbX6_learnsThrough_1
  refine tk_ind (P := KB M) _ _ (fun M14 hM14 => ?_)
  have k14 : KB M13 M14 := by rw [hM14]; apply kbX6_learnsThrough_7
  exact (show KB M M14 from KB.trans k1 (KB.trans k2 (KB.trans k3 (KB.trans k4 (KB.trans k5 (KB.trans k6 (KB.trans k7 (KB.trans k8 (KB.trans k9 (KB.trans k10 (KB.trans k11 (KB.trans k12 (KB.trans k13 (k14))))))))))))))
set_option maxRecDepth 10000 in
theorem kbX6_readsBox (M : Mem) (i1 : Int32) : KB M (sX6_readsBox M i1) := by
  unfold sX6_readsBox
  refine tk_ind (P := KB M) _ _ (fun M1 hM1 => ?_)
  have k1 : KB M M1 := by rw [hM1]; apply kbX6_tellsBox
  refine tk_ind (P := KB M) _ _ (fun x2 hx2 => ?_)
  have k2 : KB2 M1 x2 := by rw [hx2]; apply kbX6_over
  refine tk_ind (P := KB M) _ _ (fun x3 hx3 => ?_)
  have k3 : KB2 x2.2 x3 := by rw [hx3]; apply kbX6_over
  refine tk_ind (P := KB M) _ _ (fun x4 hx4 => ?_)
  have k4 : KB2 x3.2 x4 := by rw [hx4]; apply kbX6_over
  refine tk_ind (P := KB M) _ _ (fun x5 hx5 => ?_)
  have k5 : KB2 x4.2 x5 := by rw [hx5]; apply kbX6_over
  refine tk_ind (P := KB M) _ _ (fun x6 hx6 => ?_)
  refine tk_ind (P := KB M) _ _ (fun x7 hx7 => ?_)
  have k6 : KB2 x5.2 x7 := by rw [hx7]; apply kbX6_over
  refine tk_ind (P := KB M) _ _ (fun M8 hM8 => ?_)
  have k7 : KB x7.2 M8 := by rw [hM8]; exact kb_st (by decide)
  refine tk_ind (P := KB M) _ _ (fun x9 hx9 => ?_)
  refine tk_ind (P := KB M) _ _ (fun x10 hx10 => ?_)
  have k8 : KB2 M8 x10 := by rw [hx10]; apply kbX6_over
  refine tk_ind (P := KB M) _ _ (fun M11 hM11 => ?_)
  have k9 : KB x10.2 M11 := by rw [hM11]; exact kb_st (by decide)
  refine tk_ind (P := KB M) _ _ (fun x12 hx12 => ?_)
  refine tk_ind (P := KB M) _ _ (fun x13 hx13 => ?_)
  have k10 : KB2 M11 x13 := by rw [hx13]; apply kbX6_over
  refine tk_ind (P := KB M) _ _ (fun M14 hM14 => ?_)
  have k11 : KB x13.2 M14 := by rw [hM14]; exact kb_st (by decide)
  refine tk_ind (P := KB M) _ _ (fun x15 hx15 => ?_)
  have k12 : KB2 M14 x15 := by rw [hx15]; apply kbX6_over
  refine tk_ind (P := KB M) _ _ (fun M16 hM16 => ?_)
  have k13 : KB x15.2 M16 := by rw [hM16]; exact kb_st (by decide)
  exact (show KB M M16 from KB.trans k1 (KB.trans k2 (KB.trans k3 (KB.trans k4 (KB.trans k5 (KB.trans k6 (KB.trans k7 (KB.trans k8 (KB.trans k9 (KB.trans k10 (KB.trans k11 (KB.trans k12 (k13)))))))))))))
set_option maxRecDepth 10000 in
theorem kbX6_copies (M : Mem)  : KB M (sX6_copies M) := by
  unfold sX6_copies
  refine tk_ind (P := KB M) _ _ (fun M1 hM1 => ?_)
  have k1 : KB M M1 := by rw [hM1]; exact kb_st (by decide)
  refine tk_ind (P := KB M) _ _ (fun M2 hM2 => ?_)
  have k2 : KB M1 M2 := by rw [hM2]; exact kb_st (by decide)
  refine tk_ind (P := KB M) _ _ (fun M3 hM3 => ?_)
  have k3 : KB M2 M3 := by rw [hM3]; exact kb_st (by decide)
  refine tk_ind (P := KB M) _ _ (fun M4 hM4 => ?_)
  have k4 : KB M3 M4 := by rw [hM4]; exact kb_st (by decide)
  exact (show KB M M4 from KB.trans k1 (KB.trans k2 (KB.trans k3 (k4))))
set_option maxRecDepth 10000 in
theorem kbX6_formsTo_1 (M : Mem) (i1 : Int32) : KB M (sX6_formsTo_1 M i1) := by
  unfold sX6_formsTo_1
  refine tk_ind (P := KB M) _ _ (fun x1 hx1 => ?_)
  have k1 : KB2 M x1 := by rw [hx1]; apply kbX6_over
  refine tk_ind (P := KB M) _ _ (fun M2 hM2 => ?_)
  have k2 : KB x1.2 M2 := by rw [hM2]; exact kb_st (by decide)
  refine tk_ind (P := KB M) _ _ (fun x3 hx3 => ?_)
  have k3 : KB2 M2 x3 := by rw [hx3]; apply kbX6_over
  refine tk_ind (P := KB M) _ _ (fun M4 hM4 => ?_)
  have k4 : KB x3.2 M4 := by rw [hM4]; exact kb_st (by decide)
  refine tk_ind (P := KB M) _ _ (fun x5 hx5 => ?_)
  have k5 : KB2 M4 x5 := by rw [hx5]; apply kbX6_over
  refine tk_ind (P := KB M) _ _ (fun M6 hM6 => ?_)
  have k6 : KB x5.2 M6 := by rw [hM6]; exact kb_st (by decide)
  refine tk_ind (P := KB M) _ _ (fun x7 hx7 => ?_)
  have k7 : KB2 M6 x7 := by rw [hx7]; apply kbX6_over
  refine tk_ind (P := KB M) _ _ (fun M8 hM8 => ?_)
  have k8 : KB x7.2 M8 := by rw [hM8]; exact kb_st (by decide)
  exact (show KB M M8 from KB.trans k1 (KB.trans k2 (KB.trans k3 (KB.trans k4 (KB.trans k5 (KB.trans k6 (KB.trans k7 (k8))))))))
set_option maxRecDepth 10000 in
theorem kbX6_inverts_1 (M : Mem)  : KB M (sX6_inverts_1 M) := by
  unfold sX6_inverts_1
  refine tk_ind (P := KB M) _ _ (fun x1 hx1 => ?_)
  refine tk_ind (P := KB M) _ _ (fun x2 hx2 => ?_)
  have k1 : KB2 M x2 := by rw [hx2]; apply kbX6_over
  refine tk_ind (P := KB M) _ _ (fun x3 hx3 => ?_)
  have k2 : KB2 x2.2 x3 := by rw [hx3]; apply kbX6_over
  refine tk_ind (P := KB M) _ _ (fun M4 hM4 => ?_)
  have k3 : KB x3.2 M4 := by rw [hM4]; exact kb_st (by decide)
  refine tk_ind (P := KB M) _ _ (fun x5 hx5 => ?_)
  have k4 : KB2 M4 x5 := by rw [hx5]; apply kbX6_over
  refine tk_ind (P := KB M) _ _ (fun M6 hM6 => ?_)
  have k5 : KB x5.2 M6 := by rw [hM6]; exact kb_st (by decide)
  refine tk_ind (P := KB M) _ _ (fun x7 hx7 => ?_)
  have k6 : KB2 M6 x7 := by rw [hx7]; apply kbX6_over
  refine tk_ind (P := KB M) _ _ (fun M8 hM8 => ?_)
  have k7 : KB x7.2 M8 := by rw [hM8]; exact kb_st (by decide)
  refine tk_ind (P := KB M) _ _ (fun M9 hM9 => ?_)
  have k8 : KB M8 M9 := by rw [hM9]; exact kb_st (by decide)
  exact (show KB M M9 from KB.trans k1 (KB.trans k2 (KB.trans k3 (KB.trans k4 (KB.trans k5 (KB.trans k6 (KB.trans k7 (k8))))))))
set_option maxRecDepth 10000 in
theorem kbX6_formsTo_2 (M : Mem) (i1 : Int32) : KB M (sX6_formsTo_2 M i1) := by
  unfold sX6_formsTo_2
  refine tk_ind (P := KB M) _ _ (fun x1 hx1 => ?_)
  have k1 : KB2 M x1 := by rw [hx1]; apply kbX6_over
  refine tk_ind (P := KB M) _ _ (fun M2 hM2 => ?_)
  have k2 : KB x1.2 M2 := by rw [hM2]; exact kb_st (by decide)
  refine tk_ind (P := KB M) _ _ (fun x3 hx3 => ?_)
  have k3 : KB2 M2 x3 := by rw [hx3]; apply kbX6_over
  refine tk_ind (P := KB M) _ _ (fun M4 hM4 => ?_)
  have k4 : KB x3.2 M4 := by rw [hM4]; exact kb_st (by decide)
  refine tk_ind (P := KB M) _ _ (fun x5 hx5 => ?_)
  have k5 : KB2 M4 x5 := by rw [hx5]; apply kbX6_over
  refine tk_ind (P := KB M) _ _ (fun M6 hM6 => ?_)
  have k6 : KB x5.2 M6 := by rw [hM6]; exact kb_st (by decide)
  refine tk_ind (P := KB M) _ _ (fun x7 hx7 => ?_)
  have k7 : KB2 M6 x7 := by rw [hx7]; apply kbX6_over
  refine tk_ind (P := KB M) _ _ (fun M8 hM8 => ?_)
  have k8 : KB x7.2 M8 := by rw [hM8]; exact kb_st (by decide)
  exact (show KB M M8 from KB.trans k1 (KB.trans k2 (KB.trans k3 (KB.trans k4 (KB.trans k5 (KB.trans k6 (KB.trans k7 (k8))))))))
set_option maxRecDepth 10000 in
theorem kbX6_inverts_2 (M : Mem)  : KB M (sX6_inverts_2 M) := by
  unfold sX6_inverts_2
  refine tk_ind (P := KB M) _ _ (fun x1 hx1 => ?_)
  refine tk_ind (P := KB M) _ _ (fun x2 hx2 => ?_)
  have k1 : KB2 M x2 := by rw [hx2]; apply kbX6_over
  refine tk_ind (P := KB M) _ _ (fun x3 hx3 => ?_)
  have k2 : KB2 x2.2 x3 := by rw [hx3]; apply kbX6_over
  refine tk_ind (P := KB M) _ _ (fun M4 hM4 => ?_)
  have k3 : KB x3.2 M4 := by rw [hM4]; exact kb_st (by decide)
  refine tk_ind (P := KB M) _ _ (fun x5 hx5 => ?_)
  have k4 : KB2 M4 x5 := by rw [hx5]; apply kbX6_over
  refine tk_ind (P := KB M) _ _ (fun M6 hM6 => ?_)
  have k5 : KB x5.2 M6 := by rw [hM6]; exact kb_st (by decide)
  refine tk_ind (P := KB M) _ _ (fun x7 hx7 => ?_)
  have k6 : KB2 M6 x7 := by rw [hx7]; apply kbX6_over
  refine tk_ind (P := KB M) _ _ (fun M8 hM8 => ?_)
  have k7 : KB x7.2 M8 := by rw [hM8]; exact kb_st (by decide)
  refine tk_ind (P := KB M) _ _ (fun M9 hM9 => ?_)
  have k8 : KB M8 M9 := by rw [hM9]; exact kb_st (by decide)
  exact (show KB M M9 from KB.trans k1 (KB.trans k2 (KB.trans k3 (KB.trans k4 (KB.trans k5 (KB.trans k6 (KB.trans k7 (k8))))))))
set_option maxRecDepth 10000 in
theorem kbX6_multiplies (M : Mem)  : KB M (sX6_multiplies M) := by
  unfold sX6_multiplies
  refine tk_ind (P := KB M) _ _ (fun M1 hM1 => ?_)
  have k1 : KB M M1 := by rw [hM1]; exact kb_st (by decide)
  refine tk_ind (P := KB M) _ _ (fun M2 hM2 => ?_)
  have k2 : KB M1 M2 := by rw [hM2]; exact kb_st (by decide)
  refine tk_ind (P := KB M) _ _ (fun M3 hM3 => ?_)
  have k3 : KB M2 M3 := by rw [hM3]; exact kb_st (by decide)
  refine tk_ind (P := KB M) _ _ (fun M4 hM4 => ?_)
  have k4 : KB M3 M4 := by rw [hM4]; exact kb_st (by decide)
  exact (show KB M M4 from KB.trans k1 (KB.trans k2 (KB.trans k3 (k4))))
set_option maxRecDepth 10000 in
theorem kbX6_goesBack (M : Mem)  : KB M (sX6_goesBack M) := by
  unfold sX6_goesBack
  refine tk_ind (P := KB M) _ _ (fun x1 hx1 => ?_)
  refine tk_ind (P := KB M) _ _ (fun x2 hx2 => ?_)
  have k1 : KB2 M x2 := by rw [hx2]; apply kbX6_over
  refine tk_ind (P := KB M) _ _ (fun M3 hM3 => ?_)
  have k2 : KB x2.2 M3 := by rw [hM3]; exact kb_st (by decide)
  refine tk_ind (P := KB M) _ _ (fun x4 hx4 => ?_)
  have k3 : KB2 M3 x4 := by rw [hx4]; apply kbX6_over
  refine tk_ind (P := KB M) _ _ (fun M5 hM5 => ?_)
  have k4 : KB x4.2 M5 := by rw [hM5]; exact kb_st (by decide)
  refine tk_ind (P := KB M) _ _ (fun x6 hx6 => ?_)
  have k5 : KB2 M5 x6 := by rw [hx6]; apply kbX6_over
  refine tk_ind (P := KB M) _ _ (fun M7 hM7 => ?_)
  have k6 : KB x6.2 M7 := by rw [hM7]; exact kb_st (by decide)
  refine tk_ind (P := KB M) _ _ (fun x8 hx8 => ?_)
  have k7 : KB2 M7 x8 := by rw [hx8]; apply kbX6_over
  refine tk_ind (P := KB M) _ _ (fun M9 hM9 => ?_)
  have k8 : KB x8.2 M9 := by rw [hM9]; exact kb_st (by decide)
  exact (show KB M M9 from KB.trans k1 (KB.trans k2 (KB.trans k3 (KB.trans k4 (KB.trans k5 (KB.trans k6 (KB.trans k7 (k8))))))))
set_option maxRecDepth 10000 in
theorem kbX6_formsSecond (M : Mem) (i1 : Int32) : KB M (sX6_formsSecond M i1) := by
  unfold sX6_formsSecond
  refine tk_ind (P := KB M) _ _ (fun x1 hx1 => ?_)
  refine tk_ind (P := KB M) _ _ (fun x2 hx2 => ?_)
  refine tk_ind (P := KB M) _ _ (fun x3 hx3 => ?_)
  have k1 : KB2 M x3 := by rw [hx3]; apply kbX6_over
  refine tk_ind (P := KB M) _ _ (fun M4 hM4 => ?_)
  have k2 : KB x3.2 M4 := by rw [hM4]; exact kb_st (by decide)
  refine tk_ind (P := KB M) _ _ (fun x5 hx5 => ?_)
  have k3 : KB2 M4 x5 := by rw [hx5]; apply kbX6_over
  refine tk_ind (P := KB M) _ _ (fun M6 hM6 => ?_)
  have k4 : KB x5.2 M6 := by rw [hM6]; exact kb_st (by decide)
  refine tk_ind (P := KB M) _ _ (fun x7 hx7 => ?_)
  have k5 : KB2 M6 x7 := by rw [hx7]; apply kbX6_over
  refine tk_ind (P := KB M) _ _ (fun M8 hM8 => ?_)
  have k6 : KB x7.2 M8 := by rw [hM8]; exact kb_st (by decide)
  refine tk_ind (P := KB M) _ _ (fun x9 hx9 => ?_)
  have k7 : KB2 M8 x9 := by rw [hx9]; apply kbX6_over
  refine tk_ind (P := KB M) _ _ (fun M10 hM10 => ?_)
  have k8 : KB x9.2 M10 := by rw [hM10]; exact kb_st (by decide)
  exact (show KB M M10 from KB.trans k1 (KB.trans k2 (KB.trans k3 (KB.trans k4 (KB.trans k5 (KB.trans k6 (KB.trans k7 (k8))))))))
/-! ===== values ===== -/
def dtV (s : Nat → Int32) : Int32 := fX1_minus (fX1_times (s 0) (s 3)) (fX1_times (s 1) (s 2))
def tfN (s : Nat → Int32) : Nat → Int32
  | 0 => fX1_minus 0 (dtV s)
  | 1 => s 0
  | 2 => fX1_minus 0 (s 3)
  | _ => 10007
def tfV (s : Nat → Int32) (k : Nat) : Int32 := fX1_over (tfN s k) (s 2)
def ivN (t : Nat → Int32) : Nat → Int32
  | 0 => t 3
  | 1 => fX1_minus 0 (t 1)
  | 2 => fX1_minus 0 (t 2)
  | _ => t 0
def ivV (t : Nat → Int32) (k : Nat) : Int32 := fX1_over (ivN t k) (dtV t)
def prV (t u : Nat → Int32) : Nat → Int32
  | 0 => fX1_pairs (t 0) (u 0) (t 1) (u 2)
  | 1 => fX1_pairs (t 0) (u 1) (t 1) (u 3)
  | 2 => fX1_pairs (t 2) (u 0) (t 3) (u 2)
  | _ => fX1_pairs (t 2) (u 1) (t 3) (u 3)
def bxN (t : Nat → Int32) : Nat → Int32
  | 0 => t 1
  | 1 => dtV t
  | 2 => 10007
  | _ => fX1_minus 0 (t 2)
def bxV (t : Nat → Int32) (k : Nat) : Int32 := fX1_over (bxN t k) (t 3)
def s2D (s : Nat → Int32) : Int32 := fX1_minus (fX1_times (fX1_minus 10007 (s 0)) (fX1_minus 10007 (s 3))) (fX1_times (s 1) (s 2))
def s2N (s : Nat → Int32) : Nat → Int32
  | 0 => fX1_plus (fX1_times (fX1_plus 10007 (s 0)) (fX1_minus 10007 (s 3))) (fX1_times (s 1) (s 2))
  | 1 => fX1_plus (s 1) (s 1)
  | 2 => fX1_plus (s 2) (s 2)
  | _ => fX1_plus (fX1_times (fX1_minus 10007 (s 0)) (fX1_plus 10007 (s 3))) (fX1_times (s 1) (s 2))
def s2V (s : Nat → Int32) (k : Nat) : Int32 := fX1_over (s2N s k) (s2D s)
def tD (e s : Nat → Int32) : Int32 := fX1_plus (fX1_minus (fX1_minus 10007 (fX1_times (e 1) (s 0))) (fX1_times (e 4) (s 3))) (fX1_times (fX1_times (e 1) (e 4)) (dtV s))
def tF (e s : Nat → Int32) : Int32 := fX1_plus (fX1_minus (fX1_minus 10007 (fX1_times (e 10) (s 0))) (fX1_times (e 7) (s 3))) (fX1_times (fX1_times (e 10) (e 7)) (dtV s))
def tlV (e s : Nat → Int32) : Nat → Int32
  | 0 => fX1_plus (e 0) (fX1_over (fX1_times (e 2) (fX1_minus (s 0) (fX1_times (e 4) (dtV s)))) (tD e s))
  | 1 => fX1_plus (e 9) (fX1_over (fX1_times (e 11) (s 1)) (tF e s))
  | 2 => fX1_plus (e 3) (fX1_over (fX1_times (e 5) (s 2)) (tD e s))
  | _ => fX1_plus (e 6) (fX1_over (fX1_times (e 8) (fX1_minus (s 3) (fX1_times (e 10) (dtV s)))) (tF e s))
def C4 (s : Nat → Int32) : Prop := ∀ k, k < 4 → CN (s k)
def C12 (s : Nat → Int32) : Prop := ∀ k, k < 12 → CN (s k)
def A4 (s t : Nat → Int32) : Prop := ∀ k, k < 4 → s k = t k
theorem r4 {P : Nat → Prop} (h0 : P 0) (h1 : P 1) (h2 : P 2) (h3 : P 3) : ∀ k, k < 4 → P k := fun k hk => by
  rcases (show k = 0 ∨ k = 1 ∨ k = 2 ∨ k = 3 by omega) with e | e | e | e <;> subst e <;> assumption
theorem C4.of {s t : Nat → Int32} (h : C4 s) (a : A4 t s) : C4 t := fun k hk => by rw [a k hk]; exact h k hk
theorem c4_tf (s : Nat → Int32) : C4 (tfV s) := fun k _ => cn_over _ _
theorem c4_iv (s : Nat → Int32) : C4 (ivV s) := fun k _ => cn_over _ _
theorem c4_bx (s : Nat → Int32) : C4 (bxV s) := fun k _ => cn_over _ _
theorem c4_s2 (s : Nat → Int32) : C4 (s2V s) := fun k _ => cn_over _ _
theorem c4_pr (s t : Nat → Int32) : C4 (prV s t) := r4 (cn_pairs _ _ _ _) (cn_pairs _ _ _ _) (cn_pairs _ _ _ _) (cn_pairs _ _ _ _)
theorem c4_tl (e s : Nat → Int32) : C4 (tlV e s) := r4 (cn_plus _ _) (cn_plus _ _) (cn_plus _ _) (cn_plus _ _)
theorem cn_dt (s : Nat → Int32) : CN (dtV s) := cn_minus _ _
theorem cn_tD (e s : Nat → Int32) : CN (tD e s) := cn_plus _ _
theorem cn_tF (e s : Nat → Int32) : CN (tF e s) := cn_plus _ _
theorem cn_s2D (s : Nat → Int32) : CN (s2D s) := cn_minus _ _
theorem dt_g {s t : Nat → Int32} (h : A4 s t) : dtV s = dtV t := by unfold dtV; rw [h 0 (by decide), h 1 (by decide), h 2 (by decide), h 3 (by decide)]
theorem tf_g {s t : Nat → Int32} (h : A4 s t) : A4 (tfV s) (tfV t) := by
  have d := dt_g h
  refine r4 ?_ ?_ ?_ ?_ <;> (unfold tfV tfN; simp only [d, h 0 (by decide), h 2 (by decide), h 3 (by decide)])
theorem iv_g {s t : Nat → Int32} (h : A4 s t) : A4 (ivV s) (ivV t) := by
  have d := dt_g h
  refine r4 ?_ ?_ ?_ ?_ <;> (unfold ivV ivN; simp only [d, h 0 (by decide), h 1 (by decide), h 2 (by decide), h 3 (by decide)])
theorem pr_g {s t u v : Nat → Int32} (h : A4 s t) (g : A4 u v) : A4 (prV s u) (prV t v) := by
  refine r4 ?_ ?_ ?_ ?_ <;> (unfold prV; simp only [h 0 (by decide), h 1 (by decide), h 2 (by decide), h 3 (by decide), g 0 (by decide), g 1 (by decide), g 2 (by decide), g 3 (by decide)])
theorem bx_g {s t : Nat → Int32} (h : A4 s t) : A4 (bxV s) (bxV t) := by
  have d := dt_g h
  refine r4 ?_ ?_ ?_ ?_ <;> (unfold bxV bxN; simp only [d, h 1 (by decide), h 2 (by decide), h 3 (by decide)])
theorem s2D_g {s t : Nat → Int32} (h : A4 s t) : s2D s = s2D t := by unfold s2D; rw [h 0 (by decide), h 1 (by decide), h 2 (by decide), h 3 (by decide)]
theorem s2_g {s t : Nat → Int32} (h : A4 s t) : A4 (s2V s) (s2V t) := by
  have d := s2D_g h
  refine r4 ?_ ?_ ?_ ?_ <;> (unfold s2V s2N; simp only [d, h 0 (by decide), h 1 (by decide), h 2 (by decide), h 3 (by decide)])
def A12 (s t : Nat → Int32) : Prop := ∀ k, k < 12 → s k = t k
theorem tD_g {e f s t : Nat → Int32} (g : A12 e f) (h : A4 s t) : tD e s = tD f t := by unfold tD; rw [dt_g h, h 0 (by decide), h 3 (by decide), g 1 (by decide), g 4 (by decide)]
theorem tF_g {e f s t : Nat → Int32} (g : A12 e f) (h : A4 s t) : tF e s = tF f t := by unfold tF; rw [dt_g h, h 0 (by decide), h 3 (by decide), g 7 (by decide), g 10 (by decide)]
theorem tl_g {e f s t : Nat → Int32} (g : A12 e f) (h : A4 s t) : A4 (tlV e s) (tlV f t) := by
  have d := dt_g h
  have d1 := tD_g g h
  have d2 := tF_g g h
  refine r4 ?_ ?_ ?_ ?_ <;> (unfold tlV; simp only [d, d1, d2, h 0 (by decide), h 1 (by decide), h 2 (by decide), h 3 (by decide), g 0 (by decide), g 2 (by decide), g 3 (by decide), g 4 (by decide), g 5 (by decide), g 6 (by decide), g 8 (by decide), g 9 (by decide), g 10 (by decide), g 11 (by decide)])
/-! ===== the reference's steps ===== -/
theorem ovE {M : Mem} {a b : Int32} (ha : CN a) (hb : CN b) (h : ¬ b = 0) : sX6_over M a b = (fX1_over a b, M) := by
  unfold sX6_over
  rw [if_neg h]
  show (mov a b, M) = _
  rw [movE ha hb]
theorem ov0 (M : Mem) (a : Int32) : sX6_over M a 0 = (0, st M 100 7 1) := by
  unfold sX6_over
  rw [if_pos rfl]
  rfl
def bxR (M : Mem) (b : Int32) : Nat → Int32 := fun k => M.1 101 (1 + 4 * b.toNatClampNeg + k)
def eR (M : Mem) : Nat → Int32 := fun k => M.1 101 (33 + k)
def lR (M : Mem) : Nat → Int32 := fun k => M.1 101 (46 + k)
theorem bi0 {M : Mem} {b : Int32} (h : 0 ≤ b.toInt ∧ b.toInt < 8) : (fX6_boxAt M b).toNatClampNeg = 1 + 4 * b.toNatClampNeg + 0 := bx_cl h
theorem bi1 {M : Mem} {b : Int32} (h : 0 ≤ b.toInt ∧ b.toInt < 8) : (fX6_boxAt M b + 1).toNatClampNeg = 1 + 4 * b.toNatClampNeg + 1 := bxk_cl h (by decide)
theorem bi2 {M : Mem} {b : Int32} (h : 0 ≤ b.toInt ∧ b.toInt < 8) : (fX6_boxAt M b + 2).toNatClampNeg = 1 + 4 * b.toNatClampNeg + 2 := bxk_cl h (by decide)
theorem bi3 {M : Mem} {b : Int32} (h : 0 ≤ b.toInt ∧ b.toInt < 8) : (fX6_boxAt M b + 3).toNatClampNeg = 1 + 4 * b.toNatClampNeg + 3 := bxk_cl h (by decide)
theorem detE {a b c d : Int32} (ha : CN a) (hb : CN b) (hc : CN c) (hd : CN d) : fX6_detOf a b c d = fX1_minus (fX1_times a d) (fX1_times b c) := by
  unfold fX6_detOf
  rw [lessE, byE ha hd, byE hb hc]
theorem detBoxE {M : Mem} {b : Int32} (h : 0 ≤ b.toInt ∧ b.toInt < 8) (hs : C4 (bxR M b)) : fX6_detBox M b = dtV (bxR M b) := by
  unfold fX6_detBox
  rw [bi0 h, bi1 h, bi2 h, bi3 h]
  exact detE (hs 0 (by decide)) (hs 1 (by decide)) (hs 2 (by decide)) (hs 3 (by decide))
/-- behind a row of steps: broken, or four values in row J, and nothing else changed -/
def FP (J : Nat) (M : Mem) (bad : Prop) (v : Nat → Int32) (u : Mem) : Prop := (bad → u.1 100 7 = 1) ∧ (¬ bad → (∀ i, i ≠ J → u.1 i = M.1 i) ∧ A4 (u.1 J) v)
theorem mtf_1 {M : Mem} {b : Int32} (hb : 0 ≤ b.toInt ∧ b.toInt < 8) (hs : C4 (bxR M b)) : FP 109 M (M.1 101 (1 + 4 * b.toNatClampNeg + 2) = 0) (tfV (bxR M b)) (sX6_formsTo_1 M b) := by
  unfold sX6_formsTo_1
  rw [bi0 hb, bi2 hb, bi3 hb, detBoxE hb hs, lessE]
  by_cases z : M.1 101 (1 + 4 * b.toNatClampNeg + 2) = 0
  · refine ⟨fun _ => ?_, fun h => absurd z h⟩
    refine tk_ind (P := fun u => u.1 100 7 = 1) _ _ (fun x1 hx1 => ?_)
    rw [z, ov0] at hx1
    have f0 : x1.2.1 100 7 = 1 := by rw [hx1, st_at]
    refine tk_ind (P := fun u => u.1 100 7 = 1) _ _ (fun M2 hM2 => ?_)
    have fM2 : M2.1 100 7 = 1 := by rw [hM2, st_ne _ _ _ (by decide)]; exact f0
    refine tk_ind (P := fun u => u.1 100 7 = 1) _ _ (fun x3 hx3 => ?_)
    have fx3 : x3.2.1 100 7 = 1 := by rw [hx3]; exact kbX6_over _ _ _ fM2
    refine tk_ind (P := fun u => u.1 100 7 = 1) _ _ (fun M4 hM4 => ?_)
    have fM4 : M4.1 100 7 = 1 := by rw [hM4, st_ne _ _ _ (by decide)]; exact fx3
    refine tk_ind (P := fun u => u.1 100 7 = 1) _ _ (fun x5 hx5 => ?_)
    have fx5 : x5.2.1 100 7 = 1 := by rw [hx5]; exact kbX6_over _ _ _ fM4
    refine tk_ind (P := fun u => u.1 100 7 = 1) _ _ (fun M6 hM6 => ?_)
    have fM6 : M6.1 100 7 = 1 := by rw [hM6, st_ne _ _ _ (by decide)]; exact fx5
    refine tk_ind (P := fun u => u.1 100 7 = 1) _ _ (fun x7 hx7 => ?_)
    have fx7 : x7.2.1 100 7 = 1 := by rw [hx7]; exact kbX6_over _ _ _ fM6
    refine tk_ind (P := fun u => u.1 100 7 = 1) _ _ (fun M8 hM8 => ?_)
    have fM8 : M8.1 100 7 = 1 := by rw [hM8, st_ne _ _ _ (by decide)]; exact fx7
    exact fM8
  · refine ⟨fun h => absurd h z, fun _ => ?_⟩
    refine tk_ind (P := fun u => (∀ i, i ≠ 109 → u.1 i = M.1 i) ∧ A4 (u.1 109) (tfV (bxR M b))) _ _ (fun x1 hx1 => ?_)
    have ex1 : x1 = (tfV (bxR M b) 0, M) := hx1.trans (by exact ovE (cn_minus _ _) (hs 2 (by decide)) z)
    have ax1 : x1.1 = tfV (bxR M b) 0 := by rw [ex1]
    have bx1 : x1.2 = M := by rw [ex1]
    rw [ax1, bx1]
    refine tk_ind (P := fun u => (∀ i, i ≠ 109 → u.1 i = M.1 i) ∧ A4 (u.1 109) (tfV (bxR M b))) _ _ (fun M2 hM2 => ?_)
    have rM2 : ∀ i, i ≠ 109 → M2.1 i = M.1 i := fun i hi => by rw [hM2, st_ne _ _ _ hi]
    have wM2_0 : M2.1 109 0 = tfV (bxR M b) 0 := by rw [hM2, st_at]
    refine tk_ind (P := fun u => (∀ i, i ≠ 109 → u.1 i = M.1 i) ∧ A4 (u.1 109) (tfV (bxR M b))) _ _ (fun x3 hx3 => ?_)
    have ex3 : x3 = (tfV (bxR M b) 1, M2) := hx3.trans (by rw [rM2 101 (by decide)]; exact ovE (hs 0 (by decide)) (hs 2 (by decide)) z)
    have ax3 : x3.1 = tfV (bxR M b) 1 := by rw [ex3]
    have bx3 : x3.2 = M2 := by rw [ex3]
    rw [ax3, bx3]
    refine tk_ind (P := fun u => (∀ i, i ≠ 109 → u.1 i = M.1 i) ∧ A4 (u.1 109) (tfV (bxR M b))) _ _ (fun M4 hM4 => ?_)
    have rM4 : ∀ i, i ≠ 109 → M4.1 i = M.1 i := fun i hi => by rw [hM4, st_ne _ _ _ hi]; exact rM2 i hi
    have wM4_1 : M4.1 109 1 = tfV (bxR M b) 1 := by rw [hM4, st_at]
    have wM4_0 : M4.1 109 0 = tfV (bxR M b) 0 := by rw [hM4, st_at_ne _ _ _ _ (by decide)]; exact wM2_0
    refine tk_ind (P := fun u => (∀ i, i ≠ 109 → u.1 i = M.1 i) ∧ A4 (u.1 109) (tfV (bxR M b))) _ _ (fun x5 hx5 => ?_)
    have ex5 : x5 = (tfV (bxR M b) 2, M4) := hx5.trans (by rw [lessE, rM4 101 (by decide)]; exact ovE (cn_minus _ _) (hs 2 (by decide)) z)
    have ax5 : x5.1 = tfV (bxR M b) 2 := by rw [ex5]
    have bx5 : x5.2 = M4 := by rw [ex5]
    rw [ax5, bx5]
    refine tk_ind (P := fun u => (∀ i, i ≠ 109 → u.1 i = M.1 i) ∧ A4 (u.1 109) (tfV (bxR M b))) _ _ (fun M6 hM6 => ?_)
    have rM6 : ∀ i, i ≠ 109 → M6.1 i = M.1 i := fun i hi => by rw [hM6, st_ne _ _ _ hi]; exact rM4 i hi
    have wM6_2 : M6.1 109 2 = tfV (bxR M b) 2 := by rw [hM6, st_at]
    have wM6_0 : M6.1 109 0 = tfV (bxR M b) 0 := by rw [hM6, st_at_ne _ _ _ _ (by decide)]; exact wM4_0
    have wM6_1 : M6.1 109 1 = tfV (bxR M b) 1 := by rw [hM6, st_at_ne _ _ _ _ (by decide)]; exact wM4_1
    refine tk_ind (P := fun u => (∀ i, i ≠ 109 → u.1 i = M.1 i) ∧ A4 (u.1 109) (tfV (bxR M b))) _ _ (fun x7 hx7 => ?_)
    have ex7 : x7 = (tfV (bxR M b) 3, M6) := hx7.trans (by exact ovE cn_1 (hs 2 (by decide)) z)
    have ax7 : x7.1 = tfV (bxR M b) 3 := by rw [ex7]
    have bx7 : x7.2 = M6 := by rw [ex7]
    rw [ax7, bx7]
    refine tk_ind (P := fun u => (∀ i, i ≠ 109 → u.1 i = M.1 i) ∧ A4 (u.1 109) (tfV (bxR M b))) _ _ (fun M8 hM8 => ?_)
    have rM8 : ∀ i, i ≠ 109 → M8.1 i = M.1 i := fun i hi => by rw [hM8, st_ne _ _ _ hi]; exact rM6 i hi
    have wM8_3 : M8.1 109 3 = tfV (bxR M b) 3 := by rw [hM8, st_at]
    have wM8_0 : M8.1 109 0 = tfV (bxR M b) 0 := by rw [hM8, st_at_ne _ _ _ _ (by decide)]; exact wM6_0
    have wM8_1 : M8.1 109 1 = tfV (bxR M b) 1 := by rw [hM8, st_at_ne _ _ _ _ (by decide)]; exact wM6_1
    have wM8_2 : M8.1 109 2 = tfV (bxR M b) 2 := by rw [hM8, st_at_ne _ _ _ _ (by decide)]; exact wM6_2
    exact ⟨rM8, r4 wM8_0 wM8_1 wM8_2 wM8_3⟩
theorem mtf_2 {M : Mem} {b : Int32} (hb : 0 ≤ b.toInt ∧ b.toInt < 8) (hs : C4 (bxR M b)) : FP 110 M (M.1 101 (1 + 4 * b.toNatClampNeg + 2) = 0) (tfV (bxR M b)) (sX6_formsTo_2 M b) := by
  unfold sX6_formsTo_2
  rw [bi0 hb, bi2 hb, bi3 hb, detBoxE hb hs, lessE]
  by_cases z : M.1 101 (1 + 4 * b.toNatClampNeg + 2) = 0
  · refine ⟨fun _ => ?_, fun h => absurd z h⟩
    refine tk_ind (P := fun u => u.1 100 7 = 1) _ _ (fun x1 hx1 => ?_)
    rw [z, ov0] at hx1
    have f0 : x1.2.1 100 7 = 1 := by rw [hx1, st_at]
    refine tk_ind (P := fun u => u.1 100 7 = 1) _ _ (fun M2 hM2 => ?_)
    have fM2 : M2.1 100 7 = 1 := by rw [hM2, st_ne _ _ _ (by decide)]; exact f0
    refine tk_ind (P := fun u => u.1 100 7 = 1) _ _ (fun x3 hx3 => ?_)
    have fx3 : x3.2.1 100 7 = 1 := by rw [hx3]; exact kbX6_over _ _ _ fM2
    refine tk_ind (P := fun u => u.1 100 7 = 1) _ _ (fun M4 hM4 => ?_)
    have fM4 : M4.1 100 7 = 1 := by rw [hM4, st_ne _ _ _ (by decide)]; exact fx3
    refine tk_ind (P := fun u => u.1 100 7 = 1) _ _ (fun x5 hx5 => ?_)
    have fx5 : x5.2.1 100 7 = 1 := by rw [hx5]; exact kbX6_over _ _ _ fM4
    refine tk_ind (P := fun u => u.1 100 7 = 1) _ _ (fun M6 hM6 => ?_)
    have fM6 : M6.1 100 7 = 1 := by rw [hM6, st_ne _ _ _ (by decide)]; exact fx5
    refine tk_ind (P := fun u => u.1 100 7 = 1) _ _ (fun x7 hx7 => ?_)
    have fx7 : x7.2.1 100 7 = 1 := by rw [hx7]; exact kbX6_over _ _ _ fM6
    refine tk_ind (P := fun u => u.1 100 7 = 1) _ _ (fun M8 hM8 => ?_)
    have fM8 : M8.1 100 7 = 1 := by rw [hM8, st_ne _ _ _ (by decide)]; exact fx7
    exact fM8
  · refine ⟨fun h => absurd h z, fun _ => ?_⟩
    refine tk_ind (P := fun u => (∀ i, i ≠ 110 → u.1 i = M.1 i) ∧ A4 (u.1 110) (tfV (bxR M b))) _ _ (fun x1 hx1 => ?_)
    have ex1 : x1 = (tfV (bxR M b) 0, M) := hx1.trans (by exact ovE (cn_minus _ _) (hs 2 (by decide)) z)
    have ax1 : x1.1 = tfV (bxR M b) 0 := by rw [ex1]
    have bx1 : x1.2 = M := by rw [ex1]
    rw [ax1, bx1]
    refine tk_ind (P := fun u => (∀ i, i ≠ 110 → u.1 i = M.1 i) ∧ A4 (u.1 110) (tfV (bxR M b))) _ _ (fun M2 hM2 => ?_)
    have rM2 : ∀ i, i ≠ 110 → M2.1 i = M.1 i := fun i hi => by rw [hM2, st_ne _ _ _ hi]
    have wM2_0 : M2.1 110 0 = tfV (bxR M b) 0 := by rw [hM2, st_at]
    refine tk_ind (P := fun u => (∀ i, i ≠ 110 → u.1 i = M.1 i) ∧ A4 (u.1 110) (tfV (bxR M b))) _ _ (fun x3 hx3 => ?_)
    have ex3 : x3 = (tfV (bxR M b) 1, M2) := hx3.trans (by rw [rM2 101 (by decide)]; exact ovE (hs 0 (by decide)) (hs 2 (by decide)) z)
    have ax3 : x3.1 = tfV (bxR M b) 1 := by rw [ex3]
    have bx3 : x3.2 = M2 := by rw [ex3]
    rw [ax3, bx3]
    refine tk_ind (P := fun u => (∀ i, i ≠ 110 → u.1 i = M.1 i) ∧ A4 (u.1 110) (tfV (bxR M b))) _ _ (fun M4 hM4 => ?_)
    have rM4 : ∀ i, i ≠ 110 → M4.1 i = M.1 i := fun i hi => by rw [hM4, st_ne _ _ _ hi]; exact rM2 i hi
    have wM4_1 : M4.1 110 1 = tfV (bxR M b) 1 := by rw [hM4, st_at]
    have wM4_0 : M4.1 110 0 = tfV (bxR M b) 0 := by rw [hM4, st_at_ne _ _ _ _ (by decide)]; exact wM2_0
    refine tk_ind (P := fun u => (∀ i, i ≠ 110 → u.1 i = M.1 i) ∧ A4 (u.1 110) (tfV (bxR M b))) _ _ (fun x5 hx5 => ?_)
    have ex5 : x5 = (tfV (bxR M b) 2, M4) := hx5.trans (by rw [lessE, rM4 101 (by decide)]; exact ovE (cn_minus _ _) (hs 2 (by decide)) z)
    have ax5 : x5.1 = tfV (bxR M b) 2 := by rw [ex5]
    have bx5 : x5.2 = M4 := by rw [ex5]
    rw [ax5, bx5]
    refine tk_ind (P := fun u => (∀ i, i ≠ 110 → u.1 i = M.1 i) ∧ A4 (u.1 110) (tfV (bxR M b))) _ _ (fun M6 hM6 => ?_)
    have rM6 : ∀ i, i ≠ 110 → M6.1 i = M.1 i := fun i hi => by rw [hM6, st_ne _ _ _ hi]; exact rM4 i hi
    have wM6_2 : M6.1 110 2 = tfV (bxR M b) 2 := by rw [hM6, st_at]
    have wM6_0 : M6.1 110 0 = tfV (bxR M b) 0 := by rw [hM6, st_at_ne _ _ _ _ (by decide)]; exact wM4_0
    have wM6_1 : M6.1 110 1 = tfV (bxR M b) 1 := by rw [hM6, st_at_ne _ _ _ _ (by decide)]; exact wM4_1
    refine tk_ind (P := fun u => (∀ i, i ≠ 110 → u.1 i = M.1 i) ∧ A4 (u.1 110) (tfV (bxR M b))) _ _ (fun x7 hx7 => ?_)
    have ex7 : x7 = (tfV (bxR M b) 3, M6) := hx7.trans (by exact ovE cn_1 (hs 2 (by decide)) z)
    have ax7 : x7.1 = tfV (bxR M b) 3 := by rw [ex7]
    have bx7 : x7.2 = M6 := by rw [ex7]
    rw [ax7, bx7]
    refine tk_ind (P := fun u => (∀ i, i ≠ 110 → u.1 i = M.1 i) ∧ A4 (u.1 110) (tfV (bxR M b))) _ _ (fun M8 hM8 => ?_)
    have rM8 : ∀ i, i ≠ 110 → M8.1 i = M.1 i := fun i hi => by rw [hM8, st_ne _ _ _ hi]; exact rM6 i hi
    have wM8_3 : M8.1 110 3 = tfV (bxR M b) 3 := by rw [hM8, st_at]
    have wM8_0 : M8.1 110 0 = tfV (bxR M b) 0 := by rw [hM8, st_at_ne _ _ _ _ (by decide)]; exact wM6_0
    have wM8_1 : M8.1 110 1 = tfV (bxR M b) 1 := by rw [hM8, st_at_ne _ _ _ _ (by decide)]; exact wM6_1
    have wM8_2 : M8.1 110 2 = tfV (bxR M b) 2 := by rw [hM8, st_at_ne _ _ _ _ (by decide)]; exact wM6_2
    exact ⟨rM8, r4 wM8_0 wM8_1 wM8_2 wM8_3⟩
