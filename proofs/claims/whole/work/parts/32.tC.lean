/-- what reading a number leaves as it was -/
def KT (A M' : Mem) : Prop := (∀ j, j ≠ 100 → j ≠ 114 → M'.1 j = A.1 j) ∧ (∀ k, k ≠ 18 → k ≠ 19 → M'.1 100 k = A.1 100 k) ∧ M'.2 = A.2
theorem KT.rf {M : Mem} : KT M M := ⟨fun _ _ _ => rfl, fun _ _ _ => rfl, rfl⟩
theorem KT.trans {A B C : Mem} (h : KT A B) (g : KT B C) : KT A C := ⟨fun j a b => (g.1 j a b).trans (h.1 j a b), fun k a b => (g.2.1 k a b).trans (h.2.1 k a b), g.2.2.trans h.2.2⟩
theorem kt_st {M : Mem} {j k : Nat} {v : Int32} (h : (j = 100 ∧ (k = 18 ∨ k = 19)) ∨ j = 114) : KT M (st M j k v) := by
  refine ⟨fun i h1 h2 => st_ne _ _ _ (by omega), fun q h1 h2 => ?_, rfl⟩
  by_cases e : j = 100
  · subst e
    rw [st_row]
    exact pk_un (by omega)
  · rw [st_ne _ _ _ (Ne.symm e)]
def PT (A : Mem) (s0 : Int32) (u : Int32 × Mem) : Prop := KT A u.2 ∧ TM u.2 ∧ (A.1 100 18).toInt ≤ (u.2.1 100 18).toInt ∧ (¬ u.1 = 0 → s0.toInt < (u.2.1 100 18).toInt)
theorem TM.other {A M' : Mem} (h : TM A) (k : KT A M') (e : M'.1 100 18 = A.1 100 18) : TM M' := by
  unfold TM at h ⊢
  rw [e, k.2.1 6 (by decide) (by decide)]
  exact h
theorem failsE (M : Mem) (a : Int32) : sX6_fails M a = (0, st M 100 19 a) := rfl
theorem PT.no {A M' : Mem} {s0 : Int32} (h : TM A) (k : KT A M') (e : M'.1 100 18 = A.1 100 18) : PT A s0 (0, M') := ⟨k, h.other k e, by show _ ≤ (M'.1 100 18).toInt; rw [e]; omega, fun q => absurd rfl q⟩
theorem tnF_post (i1 st0 : Int32) : ∀ (f : Nat) (v : Int32) (A : Mem), TM A → PT A st0 (wX6_takesNumber_11 i1 st0 f v A)
  | 0, v, A, h => PT.no h KT.rf rfl
  | f + 1, v, A, h => by
    rw [wX6_takesNumber_11]
    refine ite_ind (P := PT A st0) (fun c => ?_) (fun c => ?_)
    · refine tk_ind (P := PT A st0) _ _ (fun M2 h2 => ?_)
      have k2 : KT A M2 := by rw [h2]; exact kt_st (by omega)
      have e2 : M2.1 100 18 = A.1 100 18 := by rw [h2, st_ne _ _ _ (by decide)]
      refine ite_ind (P := PT A st0) (fun c2 => ?_) (fun c2 => ?_)
      · exact ⟨k2, h.other k2 e2, by show _ ≤ (M2.1 100 18).toInt; rw [e2]; omega, fun _ => (fa_lt _ _).mp c2⟩
      · refine tk_ind (P := PT A st0) _ _ (fun x3 h3 => ?_)
        rw [failsE] at h3
        subst h3
        refine ite_ind (P := PT A st0) (fun c3 => ?_) (fun c3 => ?_)
        · exact PT.no h (k2.trans (kt_st (by omega))) (by show (st M2 100 19 _).1 100 18 = _; rw [st_at_ne _ _ _ _ (by decide)]; exact e2)
        · exact absurd rfl c3
    · refine ite_ind (P := PT A st0) (fun c2 => ?_) (fun c2 => ?_)
      · refine tk_ind (P := PT A st0) _ _ (fun x3 h3 => ?_)
        rw [failsE] at h3
        subst h3
        exact PT.no h (kt_st (by omega)) (by show (st A 100 19 _).1 100 18 = _; rw [st_at_ne _ _ _ _ (by decide)])
      · refine tk_ind (P := PT A st0) _ _ (fun M4 h4 => ?_)
        have q := TM.inc h (isAt_lt c)
        rw [← h4] at q
        obtain ⟨a1, a2, a3, a4⟩ := tnF_post i1 st0 f _ M4 q.1
        have k4 : KT A M4 := by rw [h4]; exact kt_st (by omega)
        have e4 : (M4.1 100 18).toInt = (A.1 100 18).toInt + 1 := by rw [h4, st_at, inc_T (by unfold TM at h; omega)]
        exact ⟨k4.trans a1, a2, by omega, a4⟩
theorem tn_post {M : Mem} (h : TM M) (i1 : Int32) : PT M (M.1 100 18) (sX6_takesNumber M i1) := by
  unfold sX6_takesNumber
  refine tk_ind (P := PT M (M.1 100 18)) _ _ (fun M1 h1 => ?_)
  refine tk_ind (P := PT M (M.1 100 18)) _ _ (fun s0 hs0 => ?_)
  have hT := bl_TM h
  rw [← h1] at hT
  obtain ⟨v, e, l1, l2⟩ := bl_form h
  rw [← h1] at e
  have k1 : KT M M1 := by rw [e]; exact kt_st (by omega)
  have e1 : M1.1 100 18 = v := by rw [e, st_at]
  obtain ⟨a1, a2, a3, a4⟩ := tnF_post i1 s0 121 0 M1 hT
  rw [e1] at hs0 a3
  have t : s0.toInt = v.toInt := by rw [hs0]
  exact ⟨k1.trans a1, a2, by omega, fun q => by have := a4 q; omega⟩
/-- the class's side -/
def KTC (A M' : Mem) : Prop := (∀ j, j ≠ 10 → j ≠ 14 → M'.1 j = A.1 j) ∧ (∀ k, k ≠ 6 → k ≠ 7 → M'.1 10 k = A.1 10 k) ∧ M'.2 = A.2
theorem KTC.rf {M : Mem} : KTC M M := ⟨fun _ _ _ => rfl, fun _ _ _ => rfl, rfl⟩
theorem KTC.trans {A B C : Mem} (h : KTC A B) (g : KTC B C) : KTC A C := ⟨fun j a b => (g.1 j a b).trans (h.1 j a b), fun k a b => (g.2.1 k a b).trans (h.2.1 k a b), g.2.2.trans h.2.2⟩
theorem ktc_st {M : Mem} {j k : Nat} {v : Int32} (h : (j = 10 ∧ (k = 6 ∨ k = 7)) ∨ j = 14) : KTC M (st M j k v) := by
  refine ⟨fun i h1 h2 => st_ne _ _ _ (by omega), fun q h1 h2 => ?_, rfl⟩
  by_cases e : j = 10
  · subst e
    rw [st_row]
    exact pk_un (by omega)
  · rw [st_ne _ _ _ (Ne.symm e)]
def PTC (A : Mem) (u : Int32 × Mem) : Prop := KTC A u.2 ∧ TC u.2
theorem TC.other {A M' : Mem} (h : TC A) (k : KTC A M') (e : M'.1 10 7 = A.1 10 7) : TC M' := by
  unfold TC at h ⊢
  rw [e, k.2.1 4 (by decide) (by decide)]
  exact h
theorem rnF_end {A : Mem} (h : TC A) (v : Int32) : PTC A (tk (st A 14 (A.1 10 6).toNatClampNeg v) fun M1 => tk (st M1 10 6 ((M1.1 10 6) + 1)) fun M2 => if (fX3_isFigure (fX3_here M2)) = 0 then (1, M2) else (0, M2)) := by
  refine tk_ind (P := PTC A) _ _ (fun M1 h1 => ?_)
  refine tk_ind (P := PTC A) _ _ (fun M2 h2 => ?_)
  have k1 : KTC A M1 := by rw [h1]; exact ktc_st (by omega)
  have k2 : KTC M1 M2 := by rw [h2]; exact ktc_st (by omega)
  have e : M2.1 10 7 = A.1 10 7 := by rw [h2, st_at_ne _ _ _ _ (by decide), h1, st_ne _ _ _ (by decide)]
  have t := h.other (k1.trans k2) e
  refine ite_ind (P := PTC A) (fun _ => ?_) (fun _ => ?_)
  · exact ⟨k1.trans k2, t⟩
  · exact ⟨k1.trans k2, t⟩
theorem rnF_post : ∀ (f : Nat) (v n : Int32) (A : Mem), TC A → PTC A (wX3_readNumber_28 f v n A)
  | 0, _, _, A, h => ⟨KTC.rf, h⟩
  | f + 1, v, n, A, h => by
    rw [wX3_readNumber_28]
    refine ite_ind (P := PTC A) (fun c => rnF_end h v) (fun c => ?_)
    refine ite_ind (P := PTC A) (fun c2 => rnF_end h v) (fun c2 => ?_)
    refine tk_ind (P := PTC A) _ _ (fun M5 h5 => ?_)
    have q := TC.inc h (fig_lt c2)
    rw [← h5] at q
    obtain ⟨a1, a2⟩ := rnF_post f ((10 * v) + ((fX3_here A) - 48)) (n + 1) M5 q.1
    exact ⟨KTC.trans (by rw [h5]; exact ktc_st (by omega)) a1, a2⟩
theorem rn_post {M : Mem} (h : TC M) : PTC M (sX3_readNumber M) := by
  unfold sX3_readNumber
  refine ite_ind (P := PTC M) (fun _ => ⟨KTC.rf, h⟩) (fun _ => ?_)
  refine ite_ind (P := PTC M) (fun _ => ⟨KTC.rf, h⟩) (fun _ => rnF_post 121 0 0 M h)
theorem sk_K {M : Mem} (h : TC M) : KTC M (sX3_skipBlanks M) := by
  obtain ⟨v, e, -, -⟩ := sk_form h
  rw [e]
  exact ktc_st (by omega)
theorem bl_K {M : Mem} (h : TM M) : KT M (sX6_blanks M) := by
  obtain ⟨v, e, -, -⟩ := bl_form h
  rw [e]
  exact kt_st (by omega)
theorem wanted_rng (c : Int32) : fX3_numbersWanted c = -1 ∨ (0 ≤ (fX3_numbersWanted c).toInt ∧ (fX3_numbersWanted c).toInt ≤ 8) := by
  unfold fX3_numbersWanted
  repeat' split
  all_goals first | exact Or.inl rfl | exact Or.inr (by decide)
theorem many_rng (c : Int32) : fX6_manyOf c = -1 ∨ (0 ≤ (fX6_manyOf c).toInt ∧ (fX6_manyOf c).toInt ≤ 8) := by
  unfold fX6_manyOf
  repeat' split
  all_goals first | exact Or.inl rfl | exact Or.inr (by decide)
theorem wanted_here {A : Mem} (h : ¬ fX3_numbersWanted (fX3_here A) = -1) : ¬ A.1 10 4 ≤ A.1 10 7 := by
  refine here_lt (fun q => ?_)
  rw [q] at h
  exact h (by decide)
