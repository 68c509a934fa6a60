/-! ===== calls that ask ===== -/
def NR (r : Int32) : Prop := ¬ r = -2 ∧ ¬ r = -3 ∧ ¬ r = -4
theorem nr_nn {r : Int32} (h : 0 ≤ r.toInt) : NR r := by
  have n : ∀ d : Int32, d.toInt < 0 → ¬ r = d := fun d hd e => by rw [e] at h; omega
  exact ⟨n _ (by decide), n _ (by decide), n _ (by decide)⟩
theorem notedN {C : Mem} {c : Int32} (h : NR c) : sX5_noted C c = (c, C) := by
  unfold sX5_noted
  rw [if_neg h.1, if_neg h.2.1, if_neg h.2.2]
theorem KD.rf {C : Mem} : KD C C := ⟨rfl, fun _ _ => rfl, rfl⟩
def GC (C : Mem) (bad no : Prop) (r : Int32) (u : Int32 × Mem) : Prop := ∃ C1 c, KD C C1 ∧ u = sX5_noted C1 c ∧ (bad → c = -2) ∧ (¬ bad → no → c = -3) ∧ (¬ bad → ¬ no → c = r)
def GM (N : Mem) (bad no : Prop) (r : Int32) (v : Int32 × Mem) : Prop := (bad → v.1 = -2 ∧ MRef N v.2 0) ∧ (¬ bad → no → v.1 = -3 ∧ MRef N v.2 1) ∧ (¬ bad → ¬ no → v.1 = r ∧ MSame N v.2)
theorem gc_bad {C : Mem} {bad no : Prop} {r : Int32} (h : bad) : GC C bad no r (sX5_noted C (-2)) := ⟨C, -2, KD.rf, rfl, fun _ => rfl, fun n => absurd h n, fun n => absurd h n⟩
theorem gc_val {C : Mem} {bad no : Prop} {r : Int32} (hb : ¬ bad) (hn : ¬ no) (h : NR r) : GC C bad no r (r, C) := ⟨C, r, KD.rf, (notedN h).symm, fun n => absurd n hb, fun _ n => absurd n hn, fun _ _ => rfl⟩
theorem gm_bad {N : Mem} {bad no : Prop} {r : Int32} (h : bad) : GM N bad no r (sX6_bad N) := ⟨fun _ => ⟨rfl, mref MSame.rf⟩, fun n => absurd h n, fun n => absurd h n⟩
theorem gm_no {N N1 : Mem} {bad no : Prop} {r : Int32} (s : MSame N N1) (g : ¬ bad) (h : no) : GM N bad no r (sX6_no N1) := ⟨fun n => absurd n g, fun _ _ => ⟨rfl, mref s⟩, fun _ n => absurd h n⟩
theorem gm_val {N N1 : Mem} {bad no : Prop} {r : Int32} (s : MSame N N1) (g : ¬ bad) (h : ¬ no) : GM N bad no r (r, N1) := ⟨fun n => absurd n g, fun _ n => absurd n h, fun _ _ => ⟨rfl, s⟩⟩
theorem simG {C N : Mem} {bad no : Prop} {r : Int32} {u v : Int32 × Mem} (h : RelC C N) (gc : GC C bad no r u) (gm : GM N bad no r v) (hr : ¬ bad → ¬ no → NR r) : Sim u v := by
  obtain ⟨C1, c, k, e, c1, c2, c3⟩ := gc
  have rel := h.kd k
  unfold Sim
  rw [e, notedA]
  by_cases cb : bad
  · rw [c1 cb, (gm.1 cb).1]
    exact ⟨rfl, rel.ref (Or.inl ⟨rfl, rfl⟩) (gm.1 cb).2⟩
  · by_cases cn : no
    · rw [c2 cb cn, (gm.2.1 cb cn).1]
      exact ⟨rfl, rel.ref (Or.inr (Or.inl ⟨rfl, rfl⟩)) (gm.2.1 cb cn).2⟩
    · rw [c3 cb cn, (gm.2.2 cb cn).1, notedN (hr cb cn)]
      exact ⟨rfl, rel.ms (gm.2.2 cb cn).2⟩
def oBad (f : Row) (b k : Int32) : Prop := ¬ HB f b ∨ ¬ (0 ≤ k.toInt ∧ k.toInt < 4)
theorem bx_at {N : Mem} {b k : Int32} (w : RW (N.1 101)) (hb : HB (N.1 101) b) (hk : 0 ≤ k.toInt ∧ k.toInt < 4) : N.1 101 ((fX6_boxAt N b) + k).toNatClampNeg = rwB (N.1 101) b k.toNatClampNeg := by
  rw [bxk_cl (hb.r8 w) hk]
  rfl
theorem nr_cn {r : Int32} (h : CN r) : NR r := nr_nn h.1
theorem k4 {k : Int32} (h : 0 ≤ k.toInt ∧ k.toInt < 4) : k.toNatClampNeg < 4 := by have := cl_T h.1; omega
theorem k12 {k : Int32} (h : 0 ≤ k.toInt ∧ k.toInt < 12) : k.toNatClampNeg < 12 := by have := cl_T h.1; omega
theorem sim_of {C N : Mem} {b k : Int32} (h : RelC C N) : Sim (sX5_of C b k) (sX6_of N b k) := by
  have w := h.2.1.2
  have s := h.2.1.1
  have gc : GC C (oBad (N.1 101) b k) False (rwB (N.1 101) b k.toNatClampNeg) (sX5_of C b k) := by
    unfold sX5_of
    refine ite_ind (P := GC C (oBad (N.1 101) b k) False (rwB (N.1 101) b k.toNatClampNeg)) (fun q => by rw [tk_eta]; exact gc_bad (Or.inl ((hbC s w).mp q))) (fun q => ?_)
    have hb : HB (N.1 101) b := nn (fun n => q ((hbC s w).mpr n))
    refine ite_ind (P := GC C (oBad (N.1 101) b k) False (rwB (N.1 101) b k.toNatClampNeg)) (fun q => by rw [tk_eta]; exact gc_bad (Or.inr (by rw [below_iff, e4] at q; exact q))) (fun q => ?_)
    have hk := below_in q
    rw [e4] at hk
    rw [atV hk, s.bx hb _ (k4 hk)]
    exact gc_val (fun n => n.elim (fun n => n hb) (fun n => n hk)) id (nr_cn (w.c4 hb _ (k4 hk)))
  have gm : GM N (oBad (N.1 101) b k) False (rwB (N.1 101) b k.toNatClampNeg) (sX6_of N b k) := by
    unfold sX6_of
    refine ite_ind (P := GM N (oBad (N.1 101) b k) False (rwB (N.1 101) b k.toNatClampNeg)) (fun q => by rw [tk_eta]; exact gm_bad (Or.inl ((hbM w).mp q))) (fun q => ?_)
    have hb : HB (N.1 101) b := nn (fun n => q ((hbM w).mpr n))
    refine ite_ind (P := GM N (oBad (N.1 101) b k) False (rwB (N.1 101) b k.toNatClampNeg)) (fun q => by rw [tk_eta]; exact gm_bad (Or.inr ((in03_iff k).mp q))) (fun q => ?_)
    have hk : 0 ≤ k.toInt ∧ k.toInt < 4 := nn (fun n => q ((in03_iff k).mpr n))
    rw [bx_at w hb hk]
    exact gm_val MSame.rf (fun n => n.elim (fun n => n hb) (fun n => n hk)) id
  exact simG h gc gm (fun n _ => nr_cn (w.c4 (nn (fun q => n (Or.inl q))) _ (k4 (nn (fun q => n (Or.inr q))))))
theorem sim_error {C N : Mem} {k : Int32} (h : RelC C N) : Sim (sX5_error C k) (sX6_error N k) := by
  have w := h.2.1.2
  have s := h.2.1.1
  have gc : GC C (¬ (0 ≤ k.toInt ∧ k.toInt < 12)) False (N.1 101 (33 + k.toNatClampNeg)) (sX5_error C k) := by
    unfold sX5_error
    refine ite_ind (P := GC C (¬ (0 ≤ k.toInt ∧ k.toInt < 12)) False (N.1 101 (33 + k.toNatClampNeg))) (fun q => by rw [tk_eta]; exact gc_bad (by rw [below_iff, e12] at q; exact q)) (fun q => ?_)
    have hk := below_in q
    rw [e12] at hk
    rw [s.2.2.2.1 _ (k12 hk)]
    exact gc_val (fun n => n hk) id (nr_cn (w.2.2.2.1 _ (k12 hk)))
  have gm : GM N (¬ (0 ≤ k.toInt ∧ k.toInt < 12)) False (N.1 101 (33 + k.toNatClampNeg)) (sX6_error N k) := by
    unfold sX6_error
    refine ite_ind (P := GM N (¬ (0 ≤ k.toInt ∧ k.toInt < 12)) False (N.1 101 (33 + k.toNatClampNeg))) (fun q => by rw [tk_eta]; exact gm_bad ((err_iff k).mp q)) (fun q => ?_)
    have hk : 0 ≤ k.toInt ∧ k.toInt < 12 := nn (fun n => q ((err_iff k).mpr n))
    rw [e33 hk]
    exact gm_val MSame.rf (fun n => n hk) id
  exact simG h gc gm (fun n _ => nr_cn (w.2.2.2.1 _ (k12 (nn n))))
theorem nr_m1 : NR (-1) := ⟨by decide, by decide, by decide⟩
theorem l45 {f : Row} (w : RW f) : (¬ f 45 = 0) = (f 45 = 1) := by
  rcases w.2.1 with e | e <;> rw [e] <;> simp
theorem sim_learnt {C N : Mem} {k : Int32} (h : RelC C N) : Sim (sX5_learnt C k) (sX6_learnt N k) := by
  have w := h.2.1.2
  have s := h.2.1.1
  have hnr : 0 ≤ k.toInt ∧ k.toInt < 12 → NR (if N.1 101 45 = 0 then -1 else N.1 101 (46 + k.toNatClampNeg)) := fun hk => ite_ind (P := NR) (fun _ => nr_m1) (fun _ => nr_cn (w.2.2.2.2 _ (k12 hk)))
  have gc : GC C (¬ (0 ≤ k.toInt ∧ k.toInt < 12)) False (if N.1 101 45 = 0 then -1 else N.1 101 (46 + k.toNatClampNeg)) (sX5_learnt C k) := by
    unfold sX5_learnt
    refine ite_ind (P := GC C (¬ (0 ≤ k.toInt ∧ k.toInt < 12)) False (if N.1 101 45 = 0 then -1 else N.1 101 (46 + k.toNatClampNeg))) (fun q => by rw [tk_eta]; exact gc_bad (by rw [below_iff, e12] at q; exact q)) (fun q => ?_)
    have hk := below_in q
    rw [e12] at hk
    rw [s.2.1, s.2.2.2.2 _ (k12 hk)]
    have z := hnr hk
    by_cases c : N.1 101 45 = 0
    · rw [if_pos c]; rw [if_pos c] at z ⊢
      exact gc_val (fun n => n hk) id z
    · rw [if_neg c]; rw [if_neg c] at z ⊢
      exact gc_val (fun n => n hk) id z
  have gm : GM N (¬ (0 ≤ k.toInt ∧ k.toInt < 12)) False (if N.1 101 45 = 0 then -1 else N.1 101 (46 + k.toNatClampNeg)) (sX6_learnt N k) := by
    unfold sX6_learnt
    refine ite_ind (P := GM N (¬ (0 ≤ k.toInt ∧ k.toInt < 12)) False (if N.1 101 45 = 0 then -1 else N.1 101 (46 + k.toNatClampNeg))) (fun q => by rw [tk_eta]; exact gm_bad ((err_iff k).mp q)) (fun q => ?_)
    have hk : 0 ≤ k.toInt ∧ k.toInt < 12 := nn (fun n => q ((err_iff k).mpr n))
    rw [e46 hk]
    by_cases c : N.1 101 45 = 0
    · rw [if_pos c, if_neg (by rw [c]; decide)]
      exact gm_val MSame.rf (fun n => n hk) id
    · rw [if_neg c, if_pos (by rw [← l45 w]; exact c)]
      exact gm_val MSame.rf (fun n => n hk) id
  exact simG h gc gm (fun n _ => hnr (nn n))
theorem kd_w {C : Mem} {u : Int32 × Mem} (g : KF2 (fun x => 2 ≤ x ∧ x ≤ 9) C u) : KD C u.2 := kd_of g (fun j hj => by omega)
theorem gc_w {C : Mem} {bad no : Prop} {r : Int32} {u : Int32 × Mem} (k : KD C u.2) (h1 : bad → u.1 = -2) (h2 : ¬ bad → no → u.1 = -3) (h3 : ¬ bad → ¬ no → u.1 = r) : GC C bad no r (sX5_noted u.2 u.1) := ⟨u.2, u.1, k, rfl, h1, h2, h3⟩
def GN (bad no : Prop) (r : Int32) (u : Int32 × Mem) : Prop := (bad → u.1 = -2) ∧ (¬ bad → no → u.1 = -3) ∧ (¬ bad → ¬ no → u.1 = r)
theorem gn_bad {bad no : Prop} {r : Int32} {M : Mem} (h : bad) : GN bad no r (-2, M) := ⟨fun _ => rfl, fun n => absurd h n, fun n => absurd h n⟩
theorem gn_no {bad no : Prop} {r : Int32} {M : Mem} (g : ¬ bad) (h : no) : GN bad no r (-3, M) := ⟨fun n => absurd n g, fun _ _ => rfl, fun _ n => absurd h n⟩
theorem gn_val {bad no : Prop} {r c : Int32} {M : Mem} (g : ¬ bad) (h : ¬ no) (e : c = r) : GN bad no r (c, M) := ⟨fun n => absurd n g, fun _ n => absurd n h, fun _ _ => e⟩
theorem st7_same {N : Mem} {v : Int32} : MSame N (st N 100 7 v) := ⟨st_ne _ _ _ (by decide), st_ne _ _ _ (by decide), st_ne _ _ _ (by decide), st_ne _ _ _ (by decide), st_at_ne _ _ _ _ (by decide), st_at_ne _ _ _ _ (by decide)⟩
theorem FP.ok {J : Nat} {M u : Mem} {p : Prop} {v : Row} (h : FP J M p v u) (hJ : ¬ J = 100) (c : u.1 100 7 = 0) (n : ¬ p) : A4 (u.1 J) v := (h.2 n).2
theorem fp_b {J : Nat} {N M u : Mem} {p : Prop} {v : Row} (hM : M = st N 100 7 0) (hJ : ¬ 100 = J) (h : FP J M p v u) : (¬ u.1 100 7 = 0) ↔ p := by
  refine ⟨fun c => Classical.byContradiction fun n => c ?_, fun c => by rw [h.1 c]; decide⟩
  rw [(h.2 n).1 100 hJ, hM, st_at]
theorem sim_told {C N : Mem} {b k : Int32} (h : RelC C N) : Sim (sX5_told C b k) (sX6_told N b k) := by
  have w := h.2.1.2
  have s := h.2.1.1
  have gn : GN (oBad (N.1 101) b k) (TB (tr 12 (rwE (N.1 101))) (tr 4 (rwB (N.1 101) b))) (tlV (tr 12 (rwE (N.1 101))) (tr 4 (rwB (N.1 101) b)) k.toNatClampNeg) (sX4_toldNumber C (C.2.1 0) b k) := by
    unfold sX4_toldNumber
    refine ite_ind (P := GN (oBad (N.1 101) b k) (TB (tr 12 (rwE (N.1 101))) (tr 4 (rwB (N.1 101) b))) (tlV (tr 12 (rwE (N.1 101))) (tr 4 (rwB (N.1 101) b)) k.toNatClampNeg)) (fun q => gn_bad (Or.inl ((hbC s w).mp q))) (fun q => ?_)
    have hb : HB (N.1 101) b := nn (fun n => q ((hbC s w).mpr n))
    refine ite_ind (P := GN (oBad (N.1 101) b k) (TB (tr 12 (rwE (N.1 101))) (tr 4 (rwB (N.1 101) b))) (tlV (tr 12 (rwE (N.1 101))) (tr 4 (rwB (N.1 101) b)) k.toNatClampNeg)) (fun q => gn_bad (Or.inr (by rw [below_iff, e4] at q; exact q))) (fun q => ?_)
    have hk := below_in q
    rw [e4] at hk
    have nb : ¬ oBad (N.1 101) b k := fun n => n.elim (fun n => n hb) (fun n => n hk)
    refine tk_ind (P := GN (oBad (N.1 101) b k) (TB (tr 12 (rwE (N.1 101))) (tr 4 (rwB (N.1 101) b))) (tlV (tr 12 (rwE (N.1 101))) (tr 4 (rwB (N.1 101) b)) k.toNatClampNeg)) _ _ (fun x1 h1 => ?_)
    have p1 := cTl' (M := C) s.et (s.bt hb)
    rw [← h1] at p1
    refine ite_ind (P := GN (oBad (N.1 101) b k) (TB (tr 12 (rwE (N.1 101))) (tr 4 (rwB (N.1 101) b))) (tlV (tr 12 (rwE (N.1 101))) (tr 4 (rwB (N.1 101) b)) k.toNatClampNeg)) (fun q => gn_no nb (p1.1.mp q)) (fun q => ?_)
    have n1 := fun n => q (p1.1.mpr n)
    exact gn_val nb n1 (by rw [atV hk, p1.2 n1 _ (k4 hk)])
  have gm : GM N (oBad (N.1 101) b k) (TB (tr 12 (rwE (N.1 101))) (tr 4 (rwB (N.1 101) b))) (tlV (tr 12 (rwE (N.1 101))) (tr 4 (rwB (N.1 101) b)) k.toNatClampNeg) (sX6_told N b k) := by
    unfold sX6_told
    refine ite_ind (P := GM N (oBad (N.1 101) b k) (TB (tr 12 (rwE (N.1 101))) (tr 4 (rwB (N.1 101) b))) (tlV (tr 12 (rwE (N.1 101))) (tr 4 (rwB (N.1 101) b)) k.toNatClampNeg)) (fun q => by rw [tk_eta]; exact gm_bad (Or.inl ((hbM w).mp q))) (fun q => ?_)
    have hb : HB (N.1 101) b := nn (fun n => q ((hbM w).mpr n))
    refine ite_ind (P := GM N (oBad (N.1 101) b k) (TB (tr 12 (rwE (N.1 101))) (tr 4 (rwB (N.1 101) b))) (tlV (tr 12 (rwE (N.1 101))) (tr 4 (rwB (N.1 101) b)) k.toNatClampNeg)) (fun q => by rw [tk_eta]; exact gm_bad (Or.inr ((in03_iff k).mp q))) (fun q => ?_)
    have hk : 0 ≤ k.toInt ∧ k.toInt < 4 := nn (fun n => q ((in03_iff k).mpr n))
    have nb : ¬ oBad (N.1 101) b k := fun n => n.elim (fun n => n hb) (fun n => n hk)
    refine tk_ind (P := GM N (oBad (N.1 101) b k) (TB (tr 12 (rwE (N.1 101))) (tr 4 (rwB (N.1 101) b))) (tlV (tr 12 (rwE (N.1 101))) (tr 4 (rwB (N.1 101) b)) k.toNatClampNeg)) _ _ (fun M2 h2 => ?_)
    have e2 : M2.1 101 = N.1 101 := by rw [h2, st_ne _ _ _ (by decide)]
    refine tk_ind (P := GM N (oBad (N.1 101) b k) (TB (tr 12 (rwE (N.1 101))) (tr 4 (rwB (N.1 101) b))) (tlV (tr 12 (rwE (N.1 101))) (tr 4 (rwB (N.1 101) b)) k.toNatClampNeg)) _ _ (fun M3 h3 => ?_)
    have p := mtlB (M := M2) (b := b) (hb.r8 w) (by rw [rwB_M, e2]; exact w.c4 hb) (by rw [rwE_M, e2]; exact w.ce)
    rw [rwB_M, rwE_M, e2, ← h3] at p
    have kp := kpX6_tellsBox M2 b
    rw [← h3] at kp
    have ss : MSame N M3 := (by rw [h2]; exact st7_same : MSame N M2).trans (MSame.kp kp)
    have ff := fp_b h2 (by decide) p
    refine ite_ind (P := GM N (oBad (N.1 101) b k) (TB (tr 12 (rwE (N.1 101))) (tr 4 (rwB (N.1 101) b))) (tlV (tr 12 (rwE (N.1 101))) (tr 4 (rwB (N.1 101) b)) k.toNatClampNeg)) (fun q => ?_) (fun q => ?_)
    · have n1 := fun n => (ff.mpr n) q
      rw [(p.2 n1).2 _ (k4 hk)]
      exact gm_val ss nb n1
    · rw [tk_eta]
      exact gm_no ss nb (ff.mp q)
  have e : sX5_told C b k = sX5_noted (sX4_toldNumber C (C.2.1 0) b k).2 (sX4_toldNumber C (C.2.1 0) b k).1 := by
    unfold sX5_told
    exact tk_note _
  rw [e]
  exact simG h (gc_w (kd_w (kfX4_toldNumber _ _ _ _)) gn.1 gn.2.1 gn.2.2) gm (fun n _ => nr_cn (c4_tl _ _ _ (k4 (nn (fun q => n (Or.inr q))))))
def foNo (s : Row) (f : Int32) : Prop := (f = 1 ∧ s 2 = 0) ∨ (¬ f = 1 ∧ (s2D s = 0 ∨ (f = 3 ∧ dtV (s2V s) = 0)))
def foV (s : Row) (f k : Int32) : Int32 := if f = 1 then tfV s k.toNatClampNeg else if f = 2 then s2V s k.toNatClampNeg else ivV (s2V s) k.toNatClampNeg
theorem in13_iff (k : Int32) : fX6_in k 1 3 = 0 ↔ ¬ (1 ≤ k.toInt ∧ k.toInt ≤ 3) := by
  rw [in_iff]
  exact Iff.rfl
theorem f3 {f : Int32} (h : 1 ≤ f.toInt ∧ f.toInt ≤ 3) (n1 : ¬ f = 1) (n2 : ¬ f = 2) : f = 3 := by
  rw [fa_eq] at *
  have a1 : (1 : Int32).toInt = 1 := rfl
  have a2 : (2 : Int32).toInt = 2 := rfl
  have a3 : (3 : Int32).toInt = 3 := rfl
  omega
theorem sim_form {C N : Mem} {b f k : Int32} (h : RelC C N) : Sim (sX5_form C b f k) (sX6_form N b f k) := by
  have w := h.2.1.2
  have st0 := h.2.1.1
  have key : ∀ s, HB (N.1 101) b → tr 4 (rwB (N.1 101) b) = s → GN (¬ HB (N.1 101) b ∨ ¬ (0 ≤ k.toInt ∧ k.toInt < 4) ∨ ¬ (1 ≤ f.toInt ∧ f.toInt ≤ 3)) (foNo s f) (foV s f k) (sX4_formNumber C (C.2.1 0) b f k) ∧ GM N (¬ HB (N.1 101) b ∨ ¬ (0 ≤ k.toInt ∧ k.toInt < 4) ∨ ¬ (1 ≤ f.toInt ∧ f.toInt ≤ 3)) (foNo s f) (foV s f k) (sX6_form N b f k) := by
    intro s hb hs
    have cs : C4 s := by rw [← hs]; exact w.bt hb
    have vs : A4 (C.1 (16 + 12 * C.2.1 0 + 1 + 3 + b.toNatClampNeg)) s := by rw [← hs]; exact st0.bt hb
    constructor
    · unfold sX4_formNumber
      refine ite_ind (P := GN (¬ HB (N.1 101) b ∨ ¬ (0 ≤ k.toInt ∧ k.toInt < 4) ∨ ¬ (1 ≤ f.toInt ∧ f.toInt ≤ 3)) (foNo s f) (foV s f k)) (fun q => absurd hb ((hbC st0 w).mp q)) (fun q => ?_)
      refine ite_ind (P := GN (¬ HB (N.1 101) b ∨ ¬ (0 ≤ k.toInt ∧ k.toInt < 4) ∨ ¬ (1 ≤ f.toInt ∧ f.toInt ≤ 3)) (foNo s f) (foV s f k)) (fun q => gn_bad (Or.inr (Or.inl (by rw [below_iff, e4] at q; exact q)))) (fun q => ?_)
      have hk := below_in q
      rw [e4] at hk
      refine ite_ind (P := GN (¬ HB (N.1 101) b ∨ ¬ (0 ≤ k.toInt ∧ k.toInt < 4) ∨ ¬ (1 ≤ f.toInt ∧ f.toInt ≤ 3)) (foNo s f) (foV s f k)) (fun q => gn_bad (Or.inr (Or.inr (by rw [fa_lt] at q; have a1 : (1 : Int32).toInt = 1 := rfl; omega)))) (fun q1 => ?_)
      refine ite_ind (P := GN (¬ HB (N.1 101) b ∨ ¬ (0 ≤ k.toInt ∧ k.toInt < 4) ∨ ¬ (1 ≤ f.toInt ∧ f.toInt ≤ 3)) (foNo s f) (foV s f k)) (fun q3 => ?_) (fun q => gn_bad (Or.inr (Or.inr (by rw [fa_le] at q; have a1 : (3 : Int32).toInt = 3 := rfl; omega))))
      have hf : 1 ≤ f.toInt ∧ f.toInt ≤ 3 := by
        rw [fa_lt] at q1
        rw [fa_le] at q3
        have a1 : (1 : Int32).toInt = 1 := rfl
        have a3 : (3 : Int32).toInt = 3 := rfl
        omega
      have nb : ¬ (¬ HB (N.1 101) b ∨ ¬ (0 ≤ k.toInt ∧ k.toInt < 4) ∨ ¬ (1 ≤ f.toInt ∧ f.toInt ≤ 3)) := fun n => n.elim (fun n => n hb) (fun n => n.elim (fun n => n hk) (fun n => n hf))
      refine ite_ind (P := GN (¬ HB (N.1 101) b ∨ ¬ (0 ≤ k.toInt ∧ k.toInt < 4) ∨ ¬ (1 ≤ f.toInt ∧ f.toInt ≤ 3)) (foNo s f) (foV s f k)) (fun f1 => ?_) (fun f1 => ?_)
      · refine tk_ind (P := GN (¬ HB (N.1 101) b ∨ ¬ (0 ≤ k.toInt ∧ k.toInt < 4) ∨ ¬ (1 ≤ f.toInt ∧ f.toInt ≤ 3)) (foNo s f) (foV s f k)) _ _ (fun x h1 => ?_)
        have p := cTf' (M := C) (j := 5) vs cs
        rw [← h1] at p
        refine ite_ind (P := GN (¬ HB (N.1 101) b ∨ ¬ (0 ≤ k.toInt ∧ k.toInt < 4) ∨ ¬ (1 ≤ f.toInt ∧ f.toInt ≤ 3)) (foNo s f) (foV s f k)) (fun q => gn_no nb (Or.inl ⟨f1, p.1.mp q⟩)) (fun q => ?_)
        have n1 := fun n => q (p.1.mpr n)
        exact gn_val nb (fun n => n.elim (fun n => n1 n.2) (fun n => n.1 f1)) (by unfold foV; rw [if_pos f1, atV hk, p.2 n1 _ (k4 hk)])
      · refine tk_ind (P := GN (¬ HB (N.1 101) b ∨ ¬ (0 ≤ k.toInt ∧ k.toInt < 4) ∨ ¬ (1 ≤ f.toInt ∧ f.toInt ≤ 3)) (foNo s f) (foV s f k)) _ _ (fun x h1 => ?_)
        have p := cS2' (M := C) (j := 5) vs cs
        rw [← h1] at p
        refine ite_ind (P := GN (¬ HB (N.1 101) b ∨ ¬ (0 ≤ k.toInt ∧ k.toInt < 4) ∨ ¬ (1 ≤ f.toInt ∧ f.toInt ≤ 3)) (foNo s f) (foV s f k)) (fun q => gn_no nb (Or.inr ⟨f1, Or.inl (p.1.mp q)⟩)) (fun q => ?_)
        have n1 := fun n => q (p.1.mpr n)
        refine ite_ind (P := GN (¬ HB (N.1 101) b ∨ ¬ (0 ≤ k.toInt ∧ k.toInt < 4) ∨ ¬ (1 ≤ f.toInt ∧ f.toInt ≤ 3)) (foNo s f) (foV s f k)) (fun f2 => ?_) (fun f2 => ?_)
        · exact gn_val nb (fun n => n.elim (fun n => f1 n.1) (fun n => n.2.elim n1 (fun n => by rw [f2] at n; exact absurd n.1 (by decide)))) (by unfold foV; rw [if_neg f1, if_pos f2, atV hk, p.2 n1 _ (k4 hk)])
        · refine tk_ind (P := GN (¬ HB (N.1 101) b ∨ ¬ (0 ≤ k.toInt ∧ k.toInt < 4) ∨ ¬ (1 ≤ f.toInt ∧ f.toInt ≤ 3)) (foNo s f) (foV s f k)) _ _ (fun y h2 => ?_)
          have p2 := cIv' (M := x.2) (j := 5) (t := s2V s) (p.2 n1) (c4_s2 _)
          rw [← h2] at p2
          refine ite_ind (P := GN (¬ HB (N.1 101) b ∨ ¬ (0 ≤ k.toInt ∧ k.toInt < 4) ∨ ¬ (1 ≤ f.toInt ∧ f.toInt ≤ 3)) (foNo s f) (foV s f k)) (fun q => gn_no nb (Or.inr ⟨f1, Or.inr ⟨f3 hf f1 f2, p2.1.mp q⟩⟩)) (fun q => ?_)
          have n2 := fun n => q (p2.1.mpr n)
          exact gn_val nb (fun n => n.elim (fun n => f1 n.1) (fun n => n.2.elim n1 (fun n => n2 n.2))) (by unfold foV; rw [if_neg f1, if_neg f2, atV hk, p2.2 n2 _ (k4 hk)])
    · unfold sX6_form
      refine ite_ind (P := GM N (¬ HB (N.1 101) b ∨ ¬ (0 ≤ k.toInt ∧ k.toInt < 4) ∨ ¬ (1 ≤ f.toInt ∧ f.toInt ≤ 3)) (foNo s f) (foV s f k)) (fun q => absurd hb ((hbM w).mp q)) (fun q => ?_)
      refine ite_ind (P := GM N (¬ HB (N.1 101) b ∨ ¬ (0 ≤ k.toInt ∧ k.toInt < 4) ∨ ¬ (1 ≤ f.toInt ∧ f.toInt ≤ 3)) (foNo s f) (foV s f k)) (fun q => by rw [tk_eta]; exact gm_bad (Or.inr (Or.inr ((in13_iff f).mp q)))) (fun q => ?_)
      have hf : 1 ≤ f.toInt ∧ f.toInt ≤ 3 := nn (fun n => q ((in13_iff f).mpr n))
      refine ite_ind (P := GM N (¬ HB (N.1 101) b ∨ ¬ (0 ≤ k.toInt ∧ k.toInt < 4) ∨ ¬ (1 ≤ f.toInt ∧ f.toInt ≤ 3)) (foNo s f) (foV s f k)) (fun q => by rw [tk_eta]; exact gm_bad (Or.inr (Or.inl ((in03_iff k).mp q)))) (fun q => ?_)
      have hk : 0 ≤ k.toInt ∧ k.toInt < 4 := nn (fun n => q ((in03_iff k).mpr n))
      have nb : ¬ (¬ HB (N.1 101) b ∨ ¬ (0 ≤ k.toInt ∧ k.toInt < 4) ∨ ¬ (1 ≤ f.toInt ∧ f.toInt ≤ 3)) := fun n => n.elim (fun n => n hb) (fun n => n.elim (fun n => n hk) (fun n => n hf))
      refine tk_ind (P := GM N (¬ HB (N.1 101) b ∨ ¬ (0 ≤ k.toInt ∧ k.toInt < 4) ∨ ¬ (1 ≤ f.toInt ∧ f.toInt ≤ 3)) (foNo s f) (foV s f k)) _ _ (fun M3 h3 => ?_)
      have e2 : M3.1 101 = N.1 101 := by rw [h3, st_ne _ _ _ (by decide)]
      have s3 : MSame N M3 := by rw [h3]; exact st7_same
      refine ite_ind (P := GM N (¬ HB (N.1 101) b ∨ ¬ (0 ≤ k.toInt ∧ k.toInt < 4) ∨ ¬ (1 ≤ f.toInt ∧ f.toInt ≤ 3)) (foNo s f) (foV s f k)) (fun f1 => ?_) (fun f1 => ?_)
      · refine tk_ind (P := GM N (¬ HB (N.1 101) b ∨ ¬ (0 ≤ k.toInt ∧ k.toInt < 4) ∨ ¬ (1 ≤ f.toInt ∧ f.toInt ≤ 3)) (foNo s f) (foV s f k)) _ _ (fun M9 h9 => ?_)
        have p0 := mtf_1 (M := M3) (b := b) (hb.r8 w) (by rw [rwB_M, e2]; exact w.c4 hb)
        have p := mft 109 _ p0 (s := s) (by rw [rwB_M, e2]; exact hs)
        have kp := kpX6_formsTo_1 M3 b
        rw [← h9] at p kp
        have ss := s3.trans (MSame.kp kp)
        have ff := fp_b h3 (by decide) p
        rw [if_neg (show ¬ f = 3 by rw [f1]; decide)]
        refine ite_ind (P := GM N (¬ HB (N.1 101) b ∨ ¬ (0 ≤ k.toInt ∧ k.toInt < 4) ∨ ¬ (1 ≤ f.toInt ∧ f.toInt ≤ 3)) (foNo s f) (foV s f k)) (fun q => ?_) (fun q => ?_)
        · have n1 := fun n => (ff.mpr n) q
          have ev : M9.1 109 k.toNatClampNeg = foV s f k := by unfold foV; rw [if_pos f1, (p.2 n1).2 _ (k4 hk)]
          rw [ev]
          exact gm_val ss nb (fun n => n.elim (fun n => n1 n.2) (fun n => n.1 f1))
        · rw [tk_eta]
          exact gm_no ss nb (Or.inl ⟨f1, ff.mp q⟩)
      · refine tk_ind (P := GM N (¬ HB (N.1 101) b ∨ ¬ (0 ≤ k.toInt ∧ k.toInt < 4) ∨ ¬ (1 ≤ f.toInt ∧ f.toInt ≤ 3)) (foNo s f) (foV s f k)) _ _ (fun M4 h4 => ?_)
        have p0 := ms2 (M := M3) (b := b) (hb.r8 w) (by rw [rwB_M, e2]; exact w.c4 hb)
        have g4 : A4 (bxR M3 b) s := by rw [rwB_M, e2, ← hs]; exact a4_tr _
        have p := p0.to (q := s2D s = 0) (w := s2V s) (by rw [s2D_g g4]) (s2_g g4)
        have kp := kpX6_formsSecond M3 b
        rw [← h4] at p kp
        have ss := s3.trans (MSame.kp kp)
        have ff := fp_b h3 (by decide) p
        by_cases f2 : f = 2
        · rw [if_neg (show ¬ f = 3 by rw [f2]; decide)]
          refine ite_ind (P := GM N (¬ HB (N.1 101) b ∨ ¬ (0 ≤ k.toInt ∧ k.toInt < 4) ∨ ¬ (1 ≤ f.toInt ∧ f.toInt ≤ 3)) (foNo s f) (foV s f k)) (fun q => ?_) (fun q => ?_)
          · have n1 := fun n => (ff.mpr n) q
            have ev : M4.1 109 k.toNatClampNeg = foV s f k := by unfold foV; rw [if_neg f1, if_pos f2, (p.2 n1).2 _ (k4 hk)]
            rw [ev]
            exact gm_val ss nb (fun n => n.elim (fun n => f1 n.1) (fun n => n.2.elim n1 (fun n => by rw [f2] at n; exact absurd n.1 (by decide))))
          · rw [tk_eta]
            exact gm_no ss nb (Or.inr ⟨f1, Or.inl (ff.mp q)⟩)
        · have f3' := f3 hf f1 f2
          rw [if_pos f3']
          refine ite_ind (P := GM N (¬ HB (N.1 101) b ∨ ¬ (0 ≤ k.toInt ∧ k.toInt < 4) ∨ ¬ (1 ≤ f.toInt ∧ f.toInt ≤ 3)) (foNo s f) (foV s f k)) (fun q => ?_) (fun q => ?_)
          · have n1 := fun n => (ff.mpr n) q
            have v4 := (p.2 n1).2
            refine tk_ind (P := GM N (¬ HB (N.1 101) b ∨ ¬ (0 ≤ k.toInt ∧ k.toInt < 4) ∨ ¬ (1 ≤ f.toInt ∧ f.toInt ≤ 3)) (foNo s f) (foV s f k)) _ _ (fun M7 h7 => ?_)
            have p2 := (miv_1 (M := M4) ((c4_s2 s).of v4)).to (q := dtV (s2V s) = 0) (w := ivV (s2V s)) (by rw [dt_g v4]) (iv_g v4)
            have kp2 := kpX6_inverts_1 M4
            rw [← h7] at p2 kp2
            have ss2 := ss.trans (MSame.kp kp2)
            refine ite_ind (P := GM N (¬ HB (N.1 101) b ∨ ¬ (0 ≤ k.toInt ∧ k.toInt < 4) ∨ ¬ (1 ≤ f.toInt ∧ f.toInt ≤ 3)) (foNo s f) (foV s f k)) (fun q2 => ?_) (fun q2 => ?_)
            · have n2 : ¬ dtV (s2V s) = 0 := fun n => by rw [p2.1 n] at q2; exact absurd q2 (by decide)
              have ev : M7.1 109 k.toNatClampNeg = foV s f k := by unfold foV; rw [if_neg f1, if_neg f2, (p2.2 n2).2 _ (k4 hk)]
              rw [ev]
              exact gm_val ss2 nb (fun n => n.elim (fun n => f1 n.1) (fun n => n.2.elim n1 (fun n => n2 n.2)))
            · rw [tk_eta]
              refine gm_no ss2 nb (Or.inr ⟨f1, Or.inr ⟨f3', Classical.byContradiction fun n => q2 ?_⟩⟩)
              rw [(p2.2 n).1 100 (by decide)]
              exact q
          · rw [if_neg q, tk_eta]
            exact gm_no ss nb (Or.inr ⟨f1, Or.inl (ff.mp q)⟩)
  have e : sX5_form C b f k = sX5_noted (sX4_formNumber C (C.2.1 0) b f k).2 (sX4_formNumber C (C.2.1 0) b f k).1 := by
    unfold sX5_form
    exact tk_note _
  rw [e]
  by_cases hb : HB (N.1 101) b
  · obtain ⟨gn, gm⟩ := key _ hb rfl
    refine simG h (gc_w (kd_w (kfX4_formNumber _ _ _ _ _)) gn.1 gn.2.1 gn.2.2) gm (fun n _ => ?_)
    have hk : 0 ≤ k.toInt ∧ k.toInt < 4 := nn (fun q => n (Or.inr (Or.inl q)))
    unfold foV
    exact ite_ind (P := NR) (fun _ => nr_cn (c4_tf _ _ (k4 hk))) (fun _ => ite_ind (P := NR) (fun _ => nr_cn (c4_s2 _ _ (k4 hk))) (fun _ => nr_cn (c4_iv _ _ (k4 hk))))
  · have e1 : sX4_formNumber C (C.2.1 0) b f k = (-2, C) := by unfold sX4_formNumber; rw [if_pos ((hbC st0 w).mpr hb)]
    have e2 : sX6_form N b f k = sX6_bad N := by unfold sX6_form; rw [if_pos ((hbM w).mpr hb), tk_eta]
    rw [e1, e2]
    exact simG h (bad := True) (no := False) (r := 0) (gc_bad trivial) (gm_bad trivial) (fun n => absurd trivial n)
