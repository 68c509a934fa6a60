/-- what reading the text leaves as it was -/
def KY (A M' : Mem) : Prop := (∀ j, j < 112 → j ≠ 100 → M'.1 j = A.1 j) ∧ (∀ k, k ≠ 17 → k ≠ 18 → k ≠ 19 → M'.1 100 k = A.1 100 k) ∧ M'.2 = A.2
def KY2 (A : Mem) (u : Int32 × Mem) : Prop := KY A u.2
theorem KY.rf {M : Mem} : KY M M := ⟨fun _ _ _ => rfl, fun _ _ _ _ => rfl, rfl⟩
theorem KY.trans {A B C : Mem} (h : KY A B) (g : KY B C) : KY A C := ⟨fun j a b => (g.1 j a b).trans (h.1 j a b), fun k a b d => (g.2.1 k a b d).trans (h.2.1 k a b d), g.2.2.trans h.2.2⟩
theorem KT.y {A B : Mem} (h : KT A B) : KY A B := ⟨fun j a b => h.1 j b (by omega), fun k _ b d => h.2.1 k b d, h.2.2⟩
theorem ky_st {M : Mem} {j k : Nat} {v : Int32} (h : (j = 100 ∧ (k = 17 ∨ k = 18 ∨ k = 19)) ∨ 112 ≤ j) : KY M (st M j k v) := by
  refine ⟨fun i h1 h2 => st_ne _ _ _ (by omega), fun q h1 h2 h3 => ?_, rfl⟩
  by_cases e : j = 100
  · subst e
    rw [st_row]
    exact pk_un (by omega)
  · rw [st_ne _ _ _ (Ne.symm e)]
theorem kyF_to (mn : Int32) (hm : mn.toInt ≤ 8) : ∀ (f : Nat) (k : Int32) (A : Mem), TM A → 0 ≤ k.toInt → OQ A (1 + k.toInt) → KY2 A (wX6_takesOrder_50 mn f k A)
  | 0, k, A, _, _, _ => KY.rf
  | f + 1, k, A, hT, hk, hO => by
    rw [wX6_takesOrder_50]
    refine ite_ind (P := KY2 A) (fun c => ?_) (fun c => ?_)
    · refine tk_ind (P := KY2 A) _ _ (fun M3 h3 => ?_)
      have k3 := (bl_K hT).y
      rw [← h3] at k3
      refine ite_ind (P := KY2 A) (fun c3 => ?_) (fun c3 => ?_)
      · refine tk_ind (P := KY2 A) _ _ (fun x7 h7 => ?_)
        rw [h7]
        exact (show KY A _ from k3.trans (ky_st (by omega)))
      · refine tk_ind (P := KY2 A) _ _ (fun M4 h4 => ?_)
        refine tk_ind (P := KY2 A) _ _ (fun M5 h5 => ?_)
        refine tk_ind (P := KY2 A) _ _ (fun M6 h6 => ?_)
        have k4 : KY M3 M4 := by rw [h4]; exact ky_st (by omega)
        have k5 : KY M4 M5 := by rw [h5]; exact ky_st (by omega)
        have k6 : KY M5 M6 := by rw [h6]; exact ky_st (by omega)
        exact (show KY A M6 from k3.trans (k4.trans (k5.trans k6)))
    · refine tk_ind (P := KY2 A) _ _ (fun x h => ?_)
      have hp := tn_post hT ((A.1 113 (A.1 100 17).toNatClampNeg) + k)
      rw [← h] at hp
      refine ite_ind (P := KY2 A) (fun c2 => hp.1.y) (fun c2 => ?_)
      have hn := to_next (f := (mn.toInt - k.toInt).toNat) hT hk hO hm (Nat.lt_succ_self _) h c2 c
      exact (show KY A _ from hp.1.y.trans (kyF_to mn hm f (k + 1) x.2 hn.2.1 hn.2.2.1 hn.2.2.2))
def PR (A : Mem) (mn : Int32) (u : Int32 × Mem) : Prop := ¬ u.1 = 0 → u.2.1 112 = A.1 112 ∧ u.2.1 113 = upd (A.1 113) (A.1 100 17 + 1).toNatClampNeg ((A.1 113 (A.1 100 17 + 1 - 1).toNatClampNeg) + mn) ∧ u.2.1 100 17 = A.1 100 17 + 1
theorem prF_to (mn : Int32) (hm : mn.toInt ≤ 8) : ∀ (f : Nat) (k : Int32) (A : Mem), TM A → 0 ≤ k.toInt → OQ A (1 + k.toInt) → PR A mn (wX6_takesOrder_50 mn f k A)
  | 0, k, A, _, _, _ => fun h => absurd rfl h
  | f + 1, k, A, hT, hk, hO => by
    rw [wX6_takesOrder_50]
    refine ite_ind (P := PR A mn) (fun c => ?_) (fun c => ?_)
    · refine tk_ind (P := PR A mn) _ _ (fun M3 h3 => ?_)
      have k3 := bl_K hT
      rw [← h3] at k3
      refine ite_ind (P := PR A mn) (fun c3 => ?_) (fun c3 => ?_)
      · refine tk_ind (P := PR A mn) _ _ (fun x7 h7 => ?_)
        rw [h7]
        exact fun h => absurd rfl h
      · refine tk_ind (P := PR A mn) _ _ (fun M4 h4 => ?_)
        refine tk_ind (P := PR A mn) _ _ (fun M5 h5 => ?_)
        refine tk_ind (P := PR A mn) _ _ (fun M6 h6 => ?_)
        intro _
        show M6.1 112 = A.1 112 ∧ M6.1 113 = _ ∧ M6.1 100 17 = _
        have e17 : M5.1 100 17 = A.1 100 17 + 1 := by rw [h5, st_at, h4, st_at_ne _ _ _ _ (by decide), k3.2.1 17 (by decide) (by decide)]
        have r113 : M5.1 113 = A.1 113 := by rw [h5, st_ne _ _ _ (by decide), h4, st_ne _ _ _ (by decide), k3.1 113 (by decide) (by decide)]
        refine ⟨?_, ?_, ?_⟩
        · rw [h6, st_ne _ _ _ (by decide), h5, st_ne _ _ _ (by decide), h4, st_ne _ _ _ (by decide), k3.1 112 (by decide) (by decide)]
        · rw [h6, st_row, e17, r113]
        · rw [h6, st_ne _ _ _ (by decide), e17]
    · refine tk_ind (P := PR A mn) _ _ (fun x h => ?_)
      refine ite_ind (P := PR A mn) (fun c2 => fun h => absurd rfl h) (fun c2 => ?_)
      have hp := tn_post hT ((A.1 113 (A.1 100 17).toNatClampNeg) + k)
      rw [← h] at hp
      have hn := to_next (f := (mn.toInt - k.toInt).toNat) hT hk hO hm (Nat.lt_succ_self _) h c2 c
      intro q
      have := prF_to mn hm f (k + 1) x.2 hn.2.1 hn.2.2.1 hn.2.2.2 q
      rw [hp.1.1 112 (by decide) (by decide), hp.1.1 113 (by decide) (by decide), hp.1.2.1 17 (by decide) (by decide)] at this
      exact this
def PR2 (A : Mem) (u : Int32 × Mem) : Prop := ¬ u.1 = 0 → ∃ ch : Int32, 0 ≤ (fX6_manyOf ch).toInt ∧ u.2.1 112 = upd (A.1 112) (A.1 100 17).toNatClampNeg ch ∧ u.2.1 113 = upd (A.1 113) (A.1 100 17 + 1).toNatClampNeg ((A.1 113 (A.1 100 17 + 1 - 1).toNatClampNeg) + fX6_manyOf ch) ∧ u.2.1 100 17 = A.1 100 17 + 1
theorem pr_to {M : Mem} (hT : TM M) (hO : OQ M 0) (hlt : ¬ M.1 100 6 ≤ M.1 100 18) : PR2 M (sX6_takesOrder M) ∧ KY2 M (sX6_takesOrder M) := by
  have key : ∀ u, u = sX6_takesOrder M → PR2 M u ∧ KY2 M u := by
    unfold sX6_takesOrder
    refine tk_ind (P := fun v => ∀ u, u = v → PR2 M u ∧ KY2 M u) _ _ (fun ch hch => ?_)
    refine tk_ind (P := fun v => ∀ u, u = v → PR2 M u ∧ KY2 M u) _ _ (fun mn hmn => ?_)
    refine ite_ind (P := fun v => ∀ u, u = v → PR2 M u ∧ KY2 M u) (fun c => ?_) (fun c => ?_)
    · refine tk_ind (P := fun v => ∀ u, u = v → PR2 M u ∧ KY2 M u) _ _ (fun M1 h1 => ?_)
      refine tk_ind (P := fun v => ∀ u, u = v → PR2 M u ∧ KY2 M u) _ _ (fun M2 h2 => ?_)
      intro u hu
      have hmr : 0 ≤ mn.toInt ∧ mn.toInt ≤ 8 := by
        rcases many_rng ch with q | q
        · rw [← hmn] at q; rw [q] at c; exact absurd c (by decide)
        · rw [← hmn] at q; exact q
      have hq := to_start hT hO hlt h1 h2
      have e0 : (0 : Int32).toInt = 0 := rfl
      have a := prF_to mn hmr.2 9 0 M2 hq.1 (by rw [e0]; omega) (by rw [e0]; exact hq.2)
      have b := kyF_to mn hmr.2 9 0 M2 hq.1 (by rw [e0]; omega) (by rw [e0]; exact hq.2)
      rw [← hu] at a b
      have k1 : KY M M1 := by rw [h1]; exact ky_st (by omega)
      have k2 : KY M1 M2 := by rw [h2]; exact ky_st (by omega)
      refine ⟨fun g => ?_, (show KY M u.2 from k1.trans (k2.trans b))⟩
      obtain ⟨a1, a2, a3⟩ := a g
      have r1 : M1.1 100 = M.1 100 := by rw [h1, st_ne _ _ _ (by decide)]
      have e17 : M2.1 100 17 = M.1 100 17 := by rw [h2, st_at_ne _ _ _ _ (by decide), r1]
      have e113 : M2.1 113 = M.1 113 := by rw [h2, st_ne _ _ _ (by decide), h1, st_ne _ _ _ (by decide)]
      have e112 : M2.1 112 = upd (M.1 112) (M.1 100 17).toNatClampNeg ch := by rw [h2, st_ne _ _ _ (by decide), h1, st_row]
      rw [e17] at a2 a3
      rw [e113, hmn] at a2
      exact ⟨ch, by rw [← hmn]; exact hmr.1, a1.trans e112, a2, a3⟩
    · refine tk_ind (P := fun v => ∀ u, u = v → PR2 M u ∧ KY2 M u) _ _ (fun x9 h9 => ?_)
      intro u hu
      rw [hu, h9]
      exact ⟨fun h => absurd rfl h, (show KY M _ from ky_st (by omega))⟩
  exact key _ rfl
/-- each order's numbers lie behind those of the order before it -/
def PRS (A : Mem) : Prop := ∀ k : Nat, (k : Int) < (A.1 100 17).toInt → 0 ≤ (A.1 113 k).toInt ∧ 0 ≤ (fX6_manyOf (A.1 112 k)).toInt ∧ (A.1 113 (k + 1)).toInt = (A.1 113 k).toInt + (fX6_manyOf (A.1 112 k)).toInt
theorem prs_step {A : Mem} {x : Int32 × Mem} (hT : TM A) (hO : OQ A 0) (hlt : ¬ A.1 100 6 ≤ A.1 100 18) (h : PRS A) (hx : x = sX6_takesOrder A) (c : ¬ x.1 = 0) : PRS x.2 := by
  have hp := pr_to hT hO hlt
  rw [← hx] at hp
  obtain ⟨ch, m0, a1, a2, a3⟩ := hp.1 c
  have hO' := hO
  have hT' := hT
  unfold OQ frO at hO'
  unfold TM at hT'
  have lt := le_nT hlt
  have e1 : (1 : Int32).toInt = 1 := rfl
  have t17 : (A.1 100 17 + 1).toInt = (A.1 100 17).toInt + 1 := inc_T (by omega)
  have back : A.1 100 17 + 1 - 1 = A.1 100 17 := by
    apply Int32.toInt_inj.mp
    rw [fb_subI (by rw [t17, e1]; omega) (by rw [t17, e1]; omega), t17, e1]
    omega
  have co := cl_T (x := A.1 100 17) hO'.1
  have co1 : (A.1 100 17 + 1).toNatClampNeg = (A.1 100 17).toNatClampNeg + 1 := cl_of (by rw [t17]; omega)
  rw [back, co1] at a2
  have m8 : (fX6_manyOf ch).toInt ≤ 8 := by
    rcases many_rng ch with q | q
    · rw [q]; decide
    · exact q.2
  intro k hk
  rw [a3, t17] at hk
  rw [a1, a2]
  by_cases e : k = (A.1 100 17).toNatClampNeg
  · subst e
    rw [pk_us, pk_un (by omega), pk_us, fb_addI (by omega) (by omega)]
    exact ⟨hO'.2.1, m0, rfl⟩
  · have hk2 : (k : Int) < (A.1 100 17).toInt := by omega
    have q := h k hk2
    rw [pk_un e, pk_un (by omega), pk_un (by omega)]
    exact q
theorem prs_keep {A B : Mem} (h : PRS A) (k : KT A B) : PRS B := by
  unfold PRS at h ⊢
  rw [k.2.1 17 (by decide) (by decide), k.1 113 (by decide) (by decide), k.1 112 (by decide) (by decide)]
  exact h
theorem prs_le {A : Mem} (h : PRS A) : ∀ (d k : Nat), ((k + d : Nat) : Int) ≤ (A.1 100 17).toInt → (A.1 113 k).toInt ≤ (A.1 113 (k + d)).toInt
  | 0, k, _ => Int.le_refl _
  | d + 1, k, hk => by
    have q := prs_le h d k (by omega)
    have r := h (k + d) (by omega)
    rw [show k + (d + 1) = k + d + 1 by omega]
    omega
def PIR (M : Mem) (u : Int32 × Mem) : Prop := KY M u.2 ∧ (¬ u.1 = 0 → TM u.2 ∧ OQ u.2 0 ∧ PRS u.2)
theorem irF_post : ∀ (f : Nat) (A : Mem), TM A → OQ A 0 → PRS A → PIR A (wX6_isRead_21 f A)
  | 0, A, _, _, _ => ⟨KY.rf, fun h => absurd rfl h⟩
  | f + 1, A, hT, hO, hP => by
    rw [wX6_isRead_21]
    refine ite_ind (P := PIR A) (fun c => ?_) (fun c => ?_)
    · refine ite_ind (P := PIR A) (fun c2 => ⟨KY.rf, fun _ => ⟨hT, hO, hP⟩⟩) (fun c2 => ?_)
      refine tk_ind (P := PIR A) _ _ (fun x5 h5 => ?_)
      rw [failsE] at h5
      subst h5
      refine ite_ind (P := PIR A) (fun c3 => ?_) (fun c3 => absurd rfl c3)
      exact ⟨(show KY A _ from ky_st (by omega)), fun h => absurd rfl h⟩
    · refine tk_ind (P := PIR A) _ _ (fun x h => ?_)
      have hp := pr_to hT hO c
      rw [← h] at hp
      refine ite_ind (P := PIR A) (fun c2 => ⟨hp.2, fun h => absurd rfl h⟩) (fun c2 => ?_)
      refine tk_ind (P := PIR A) _ _ (fun M7 h7 => ?_)
      have hn := ir_next (f := muM A) (Nat.lt_succ_self _) hT hO c h c2 h7
      have hq := to_post hT hO c
      rw [← h] at hq
      have tx := (hq c2).1
      have k7 := bl_K tx
      rw [← h7] at k7
      have b := irF_post f M7 hn.2.1 hn.2.2 (prs_keep (prs_step hT hO c hP h c2) k7)
      exact ⟨(show KY A _ from KY.trans hp.2 (KY.trans k7.y b.1)), b.2⟩
theorem ir_post {M : Mem} (hy : 0 ≤ (M.1 100 6).toInt ∧ (M.1 100 6).toInt ≤ 120) : PIR M (sX6_isRead M) := by
  unfold sX6_isRead
  refine tk_ind (P := PIR M) _ _ (fun M1 h1 => ?_)
  refine tk_ind (P := PIR M) _ _ (fun M2 h2 => ?_)
  refine tk_ind (P := PIR M) _ _ (fun M3 h3 => ?_)
  refine tk_ind (P := PIR M) _ _ (fun M4 h4 => ?_)
  have q := ir_start (M4 := M) hy h1 h2 h3
  have k4 := bl_K q.1
  have t4 := bl_TM q.1
  obtain ⟨v, e, l1, l2⟩ := bl_form q.1
  rw [← h4] at k4 t4 e
  have o4 := q.2.keep (e := 0) k4 (by rw [e, st_at]; omega)
  have e17 : M4.1 100 17 = 0 := by rw [k4.2.1 17 (by decide) (by decide), h3, st_ne _ _ _ (by decide), h2, st_at]
  have p4 : PRS M4 := by
    intro k hk
    rw [e17] at hk
    have e0 : (0 : Int32).toInt = 0 := rfl
    omega
  have b := irF_post 121 M4 t4 o4 p4
  have k1 : KY M M1 := by rw [h1]; exact ky_st (by omega)
  have k2 : KY M1 M2 := by rw [h2]; exact ky_st (by omega)
  have k3 : KY M2 M3 := by rw [h3]; exact ky_st (by omega)
  exact ⟨(show KY M _ from KY.trans k1 (KY.trans k2 (KY.trans k3 (KY.trans k4.y b.1)))), b.2⟩
