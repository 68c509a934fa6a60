theorem sim_det {C N : Mem} {b : Int32} (h : RelC C N) : Sim (sX5_det C b) (sX6_det N b) := by
  have w := h.2.1.2
  have s := h.2.1.1
  have gc : GC C (¬ HB (N.1 101) b) False (dtV (rwB (N.1 101) b)) (sX5_det C b) := by
    unfold sX5_det
    refine ite_ind (P := GC C (¬ HB (N.1 101) b) False (dtV (rwB (N.1 101) b))) (fun q => by rw [tk_eta]; exact gc_bad ((hbC s w).mp q)) (fun q => ?_)
    have hb : HB (N.1 101) b := nn (fun n => q ((hbC s w).mpr n))
    rw [detC, dt_g (s.bx hb)]
    exact gc_val (fun n => n hb) id (nr_cn (cn_dt _))
  have gm : GM N (¬ HB (N.1 101) b) False (dtV (rwB (N.1 101) b)) (sX6_det N b) := by
    unfold sX6_det
    refine ite_ind (P := GM N (¬ HB (N.1 101) b) False (dtV (rwB (N.1 101) b))) (fun q => by rw [tk_eta]; exact gm_bad ((hbM w).mp q)) (fun q => ?_)
    have hb : HB (N.1 101) b := nn (fun n => q ((hbM w).mpr n))
    rw [detBoxE (hb.r8 w) (w.c4 hb), rwB_M]
    exact gm_val MSame.rf (fun n => n hb) id
  exact simG h gc gm (fun _ _ => nr_cn (cn_dt _))
def enD (s : Row) (side z : Int32) : Int32 := fX1_minus 10007 (fX1_times (if side = 0 then s 3 else s 0) z)
def enV (s : Row) (side z : Int32) : Int32 := fX1_plus (if side = 0 then s 0 else s 3) (fX1_over (fX1_times (fX1_times (s 1) (s 2)) z) (enD s side z))
theorem seenV {C : Mem} {q : Nat} {s : Row} {side z : Int32} (hs : A4 (C.1 q) s) : (enD s side z = 0 → fX5_seenInto C q side z = -3) ∧ (¬ enD s side z = 0 → fX5_seenInto C q side z = enV s side z) := by
  unfold fX5_seenInto enV enD
  rw [hs 0 (by decide), hs 1 (by decide), hs 2 (by decide), hs 3 (by decide)]
  by_cases c : side = 0
  · rw [if_pos c, if_pos c, if_pos c, if_pos c]
    exact ⟨fun h => by rw [if_pos h], fun h => by rw [if_neg h]⟩
  · rw [if_neg c, if_neg c, if_neg c, if_neg c]
    exact ⟨fun h => by rw [if_pos h], fun h => by rw [if_neg h]⟩
theorem in01_iff (k : Int32) : fX6_in k 0 1 = 0 ↔ ¬ (0 ≤ k.toInt ∧ k.toInt < 2) := by
  rw [in_iff]
  have e0 : (0 : Int32).toInt = 0 := rfl
  have e1 : (1 : Int32).toInt = 1 := rfl
  rw [e0, e1]
  constructor <;> (intro h g; exact h (by omega))
theorem two {k : Int32} (h : 0 ≤ k.toInt ∧ k.toInt < 2) : k = 0 ∨ k = 1 := by
  rw [fa_eq, fa_eq]
  show _ = (0 : Int) ∨ _ = (1 : Int)
  omega
theorem e2T : (2 : Int32).toInt = 2 := rfl
theorem near_cl {M : Mem} {b k : Int32} (h : 0 ≤ b.toInt ∧ b.toInt < 8) (hk : 0 ≤ k.toInt ∧ k.toInt < 2) : ((fX6_boxAt M b) + (3 * k)).toNatClampNeg = 1 + 4 * b.toNatClampNeg + (if k = 0 then 0 else 3) := by
  rcases two hk with e | e
  · subst e
    rw [if_pos rfl, show (3 * (0 : Int32)) = 0 from rfl, Int32.add_zero, bi0 h]
  · subst e
    rw [if_neg (by decide), show (3 * (1 : Int32)) = 3 from rfl, bi3 h]
theorem far_cl {M : Mem} {b k : Int32} (h : 0 ≤ b.toInt ∧ b.toInt < 8) (hk : 0 ≤ k.toInt ∧ k.toInt < 2) : (((fX6_boxAt M b) + 3) - (3 * k)).toNatClampNeg = 1 + 4 * b.toNatClampNeg + (if k = 0 then 3 else 0) := by
  rcases two hk with e | e
  · subst e
    rw [if_pos rfl, show (3 * (0 : Int32)) = 0 from rfl, bt_cl h 0 (by decide) rfl]
  · subst e
    rw [if_neg (by decide), show (3 * (1 : Int32)) = 3 from rfl, bt_cl h 3 (by decide) rfl]
theorem sim_ends {C N : Mem} {b k x y : Int32} (h : RelC C N) : Sim (sX5_ends C b k x y) (sX6_ends N b k x y) := by
  have w := h.2.1.2
  have s := h.2.1.1
  have gc : GC C (¬ HB (N.1 101) b ∨ ¬ (0 ≤ k.toInt ∧ k.toInt < 2) ∨ ¬ (PT0 x ∧ PT0 y)) (enD (rwB (N.1 101) b) k (fX6_number x y) = 0) (enV (rwB (N.1 101) b) k (fX6_number x y)) (sX5_ends C b k x y) := by
    unfold sX5_ends
    refine ite_ind (P := GC C (¬ HB (N.1 101) b ∨ ¬ (0 ≤ k.toInt ∧ k.toInt < 2) ∨ ¬ (PT0 x ∧ PT0 y)) (enD (rwB (N.1 101) b) k (fX6_number x y) = 0) (enV (rwB (N.1 101) b) k (fX6_number x y))) (fun q => by rw [tk_eta]; exact gc_bad (Or.inl ((hbC s w).mp q))) (fun q => ?_)
    have hb : HB (N.1 101) b := nn (fun n => q ((hbC s w).mpr n))
    refine ite_ind (P := GC C (¬ HB (N.1 101) b ∨ ¬ (0 ≤ k.toInt ∧ k.toInt < 2) ∨ ¬ (PT0 x ∧ PT0 y)) (enD (rwB (N.1 101) b) k (fX6_number x y) = 0) (enV (rwB (N.1 101) b) k (fX6_number x y))) (fun q => by rw [tk_eta]; exact gc_bad (Or.inr (Or.inl (by rw [below_iff, e2T] at q; exact q)))) (fun q => ?_)
    have hk := below_in q
    rw [e2T] at hk
    refine ite_ind (P := GC C (¬ HB (N.1 101) b ∨ ¬ (0 ≤ k.toInt ∧ k.toInt < 2) ∨ ¬ (PT0 x ∧ PT0 y)) (enD (rwB (N.1 101) b) k (fX6_number x y) = 0) (enV (rwB (N.1 101) b) k (fX6_number x y))) (fun q => by rw [tk_eta]; exact gc_bad (Or.inr (Or.inr ((given_iff x y).mp q)))) (fun q => ?_)
    have hp : PT0 x ∧ PT0 y := nn (fun n => q ((given_iff x y).mpr n))
    rw [tk_eta, madeE]
    have v := seenV (C := C) (side := k) (z := fX6_number x y) (s.bx hb)
    have nb : ¬ (¬ HB (N.1 101) b ∨ ¬ (0 ≤ k.toInt ∧ k.toInt < 2) ∨ ¬ (PT0 x ∧ PT0 y)) := fun n => n.elim (fun n => n hb) (fun n => n.elim (fun n => n hk) (fun n => n hp))
    exact ⟨C, _, KD.rf, rfl, fun n => absurd n nb, fun _ n => v.1 n, fun _ n => v.2 n⟩
  have gm : GM N (¬ HB (N.1 101) b ∨ ¬ (0 ≤ k.toInt ∧ k.toInt < 2) ∨ ¬ (PT0 x ∧ PT0 y)) (enD (rwB (N.1 101) b) k (fX6_number x y) = 0) (enV (rwB (N.1 101) b) k (fX6_number x y)) (sX6_ends N b k x y) := by
    unfold sX6_ends
    refine ite_ind (P := GM N (¬ HB (N.1 101) b ∨ ¬ (0 ≤ k.toInt ∧ k.toInt < 2) ∨ ¬ (PT0 x ∧ PT0 y)) (enD (rwB (N.1 101) b) k (fX6_number x y) = 0) (enV (rwB (N.1 101) b) k (fX6_number x y))) (fun q => by rw [tk_eta]; exact gm_bad (Or.inl ((hbM w).mp q))) (fun q => ?_)
    have hb : HB (N.1 101) b := nn (fun n => q ((hbM w).mpr n))
    refine ite_ind (P := GM N (¬ HB (N.1 101) b ∨ ¬ (0 ≤ k.toInt ∧ k.toInt < 2) ∨ ¬ (PT0 x ∧ PT0 y)) (enD (rwB (N.1 101) b) k (fX6_number x y) = 0) (enV (rwB (N.1 101) b) k (fX6_number x y))) (fun q => by rw [tk_eta]; exact gm_bad (Or.inr (Or.inl ((in01_iff k).mp q)))) (fun q => ?_)
    have hk : 0 ≤ k.toInt ∧ k.toInt < 2 := nn (fun n => q ((in01_iff k).mpr n))
    refine ite_ind (P := GM N (¬ HB (N.1 101) b ∨ ¬ (0 ≤ k.toInt ∧ k.toInt < 2) ∨ ¬ (PT0 x ∧ PT0 y)) (enD (rwB (N.1 101) b) k (fX6_number x y) = 0) (enV (rwB (N.1 101) b) k (fX6_number x y))) (fun q => by rw [tk_eta]; exact gm_bad (Or.inr (Or.inr (fun n => ((part_iff x).mp q) n.1)))) (fun q => ?_)
    have hx : PT0 x := nn (fun n => q ((part_iff x).mpr n))
    refine ite_ind (P := GM N (¬ HB (N.1 101) b ∨ ¬ (0 ≤ k.toInt ∧ k.toInt < 2) ∨ ¬ (PT0 x ∧ PT0 y)) (enD (rwB (N.1 101) b) k (fX6_number x y) = 0) (enV (rwB (N.1 101) b) k (fX6_number x y))) (fun q => by rw [tk_eta]; exact gm_bad (Or.inr (Or.inr (fun n => ((part_iff y).mp q) n.2)))) (fun q => ?_)
    have hy : PT0 y := nn (fun n => q ((part_iff y).mpr n))
    have nb : ¬ (¬ HB (N.1 101) b ∨ ¬ (0 ≤ k.toInt ∧ k.toInt < 2) ∨ ¬ (PT0 x ∧ PT0 y)) := fun n => n.elim (fun n => n hb) (fun n => n.elim (fun n => n hk) (fun n => n ⟨hx, hy⟩))
    have hb8 := hb.r8 w
    have c4 := w.c4 hb
    rw [near_cl hb8 hk, far_cl hb8 hk, bi1 hb8, bi2 hb8]
    refine tk_ind (P := GM N (¬ HB (N.1 101) b ∨ ¬ (0 ≤ k.toInt ∧ k.toInt < 2) ∨ ¬ (PT0 x ∧ PT0 y)) (enD (rwB (N.1 101) b) k (fX6_number x y) = 0) (enV (rwB (N.1 101) b) k (fX6_number x y))) _ _ (fun M4 h4 => ?_)
    have e4' : M4.1 101 = N.1 101 := by rw [h4, st_ne _ _ _ (by decide)]
    have s4' : MSame N M4 := by rw [h4]; exact st7_same
    have v1 : N.1 101 (1 + 4 * b.toNatClampNeg + 1) = rwB (N.1 101) b 1 := rfl
    have v2 : N.1 101 (1 + 4 * b.toNatClampNeg + 2) = rwB (N.1 101) b 2 := rfl
    have vf : N.1 101 (1 + 4 * b.toNatClampNeg + (if k = 0 then 3 else 0)) = (if k = 0 then rwB (N.1 101) b 3 else rwB (N.1 101) b 0) := by split <;> rfl
    have vn : N.1 101 (1 + 4 * b.toNatClampNeg + (if k = 0 then 0 else 3)) = (if k = 0 then rwB (N.1 101) b 0 else rwB (N.1 101) b 3) := by split <;> rfl
    have cf : CN (if k = 0 then rwB (N.1 101) b 3 else rwB (N.1 101) b 0) := ite_ind (P := CN) (fun _ => c4 3 (by decide)) (fun _ => c4 0 (by decide))
    rw [e4', v1, v2, vf, vn, byE (c4 1 (by decide)) (c4 2 (by decide)), byE (cn_times _ _) (cn_num _ _), byE cf (cn_num _ _), lessE]
    have ed : fX1_minus 10007 (fX1_times (if k = 0 then rwB (N.1 101) b 3 else rwB (N.1 101) b 0) (fX6_number x y)) = enD (rwB (N.1 101) b) k (fX6_number x y) := rfl
    rw [ed]
    refine tk_ind (P := GM N (¬ HB (N.1 101) b ∨ ¬ (0 ≤ k.toInt ∧ k.toInt < 2) ∨ ¬ (PT0 x ∧ PT0 y)) (enD (rwB (N.1 101) b) k (fX6_number x y) = 0) (enV (rwB (N.1 101) b) k (fX6_number x y))) _ _ (fun x5 h5 => ?_)
    by_cases z : enD (rwB (N.1 101) b) k (fX6_number x y) = 0
    · rw [z, ov0] at h5
      rw [h5, if_neg (by rw [st_at]; decide), tk_eta]
      exact gm_no (s4'.trans st7_same) nb z
    · rw [ovE (b := enD (rwB (N.1 101) b) k (fX6_number x y)) (cn_times _ _) (cn_minus _ _) z] at h5
      have ev : enV (rwB (N.1 101) b) k (fX6_number x y) = fX1_plus (if k = 0 then rwB (N.1 101) b 0 else rwB (N.1 101) b 3) (fX1_over (fX1_times (fX1_times (rwB (N.1 101) b 1) (rwB (N.1 101) b 2)) (fX6_number x y)) (enD (rwB (N.1 101) b) k (fX6_number x y))) := by rw [enV]
      rw [h5, if_pos (by rw [h4, st_at]), plusE]
      dsimp only
      rw [← ev]
      exact gm_val s4' nb z
  exact simG h gc gm (fun _ _ => nr_cn (cn_plus _ _))
theorem isAsV {C : Mem} {p q : Nat} : fX0_isAs C p q = 0 ↔ ¬ (C.1 p 0 = C.1 q 0 ∧ C.1 p 1 = C.1 q 1 ∧ C.1 p 2 = C.1 q 2 ∧ C.1 p 3 = C.1 q 3) := by
  unfold fX0_isAs
  by_cases c0 : C.1 p 0 = C.1 q 0
  · rw [if_pos c0]
    by_cases c1 : C.1 p 1 = C.1 q 1
    · rw [if_pos c1]
      by_cases c2 : C.1 p 2 = C.1 q 2
      · rw [if_pos c2]
        by_cases c3 : C.1 p 3 = C.1 q 3
        · rw [if_pos c3]
          exact ⟨fun h => absurd h (by decide), fun h => absurd ⟨c0, c1, c2, c3⟩ h⟩
        · rw [if_neg c3]
          exact ⟨fun _ h => c3 h.2.2.2, fun _ => rfl⟩
      · rw [if_neg c2]
        exact ⟨fun _ h => c2 h.2.2.1, fun _ => rfl⟩
    · rw [if_neg c1]
      exact ⟨fun _ h => c1 h.2.1, fun _ => rfl⟩
  · rw [if_neg c0]
    exact ⟨fun _ h => c0 h.1, fun _ => rfl⟩
def tsV (s : Row) (k : Int32) : Int32 := if k = 0 then (if s 1 = s 2 then 1 else 0) else if k = 1 then (if s 0 = s 3 then 1 else 0) else if k = 2 then (if s 0 = 0 then (if s 3 = 0 then 1 else 0) else 0) else (if fX1_pairs (fX1_other (s 0)) (s 0) (fX1_other (s 2)) (s 2) = 10007 then (if fX1_pairs (fX1_other (s 1)) (s 1) (fX1_other (s 3)) (s 3) = 10007 then (if fX1_pairs (fX1_other (s 0)) (s 1) (fX1_other (s 2)) (s 3) = 0 then 1 else 0) else 0) else 0)
theorem losesV {C : Mem} {q : Nat} {s : Row} (hs : A4 (C.1 q) s) : fX5_losesNothing C q = (if fX1_pairs (fX1_other (s 0)) (s 0) (fX1_other (s 2)) (s 2) = 10007 then (if fX1_pairs (fX1_other (s 1)) (s 1) (fX1_other (s 3)) (s 3) = 10007 then (if fX1_pairs (fX1_other (s 0)) (s 1) (fX1_other (s 2)) (s 3) = 0 then 1 else 0) else 0) else 0) := by
  unfold fX5_losesNothing
  rw [hs 0 (by decide), hs 1 (by decide), hs 2 (by decide), hs 3 (by decide)]
theorem b01 {x : Int32} (h : x = 0 ∨ x = 1) : (if x = 0 then (0 : Int32) else 1) = x := by
  rcases h with e | e <;> subst e <;> rfl
theorem passV {C : Mem} {q : Nat} {s : Row} {k : Int32} (hs : A4 (C.1 q) s) : fX5_passed C q k = tsV s k := by
  unfold fX5_passed
  rw [losesV hs, hs 0 (by decide), hs 1 (by decide), hs 2 (by decide), hs 3 (by decide)]
  unfold tsV
  rw [b01 (ite_ind (P := fun x : Int32 => x = 0 ∨ x = 1) (fun _ => ite_ind (P := fun x : Int32 => x = 0 ∨ x = 1) (fun _ => ite_ind (P := fun x : Int32 => x = 0 ∨ x = 1) (fun _ => Or.inr rfl) (fun _ => Or.inl rfl)) (fun _ => Or.inl rfl)) (fun _ => Or.inl rfl))]
theorem ts01 (s : Row) (k : Int32) : tsV s k = 0 ∨ tsV s k = 1 := by
  unfold tsV
  split
  · split
    · exact Or.inr rfl
    · exact Or.inl rfl
  · split
    · split
      · exact Or.inr rfl
      · exact Or.inl rfl
    · split
      · split
        · split
          · exact Or.inr rfl
          · exact Or.inl rfl
        · exact Or.inl rfl
      · split
        · split
          · split
            · exact Or.inr rfl
            · exact Or.inl rfl
          · exact Or.inl rfl
        · exact Or.inl rfl
theorem bi00 {M : Mem} {b : Int32} (h : 0 ≤ b.toInt ∧ b.toInt < 8) : (fX6_boxAt M b + 0).toNatClampNeg = 1 + 4 * b.toNatClampNeg + 0 := by rw [Int32.add_zero]; exact bi0 h
theorem bi02 {M : Mem} {b : Int32} (h : 0 ≤ b.toInt ∧ b.toInt < 8) : (fX6_boxAt M b + 0 + 2).toNatClampNeg = 1 + 4 * b.toNatClampNeg + 2 := by rw [Int32.add_zero]; exact bi2 h
theorem bi12 {M : Mem} {b : Int32} (h : 0 ≤ b.toInt ∧ b.toInt < 8) : (fX6_boxAt M b + 1 + 2).toNatClampNeg = 1 + 4 * b.toNatClampNeg + 3 := by
  rw [Int32.add_assoc, show ((1 : Int32) + 2) = 3 from rfl]; exact bi3 h
theorem acrossV {N : Mem} {b : Int32} (h : 0 ≤ b.toInt ∧ b.toInt < 8) (c : C4 (bxR N b)) : fX6_acrossOf N (fX6_boxAt N b) 0 0 = fX1_pairs (fX1_other (bxR N b 0)) (bxR N b 0) (fX1_other (bxR N b 2)) (bxR N b 2) ∧ fX6_acrossOf N (fX6_boxAt N b) 1 1 = fX1_pairs (fX1_other (bxR N b 1)) (bxR N b 1) (fX1_other (bxR N b 3)) (bxR N b 3) ∧ fX6_acrossOf N (fX6_boxAt N b) 0 1 = fX1_pairs (fX1_other (bxR N b 0)) (bxR N b 1) (fX1_other (bxR N b 2)) (bxR N b 3) := by
  have z0 : N.1 101 (1 + 4 * b.toNatClampNeg + 0) = bxR N b 0 := rfl
  have z1 : N.1 101 (1 + 4 * b.toNatClampNeg + 1) = bxR N b 1 := rfl
  have z2 : N.1 101 (1 + 4 * b.toNatClampNeg + 2) = bxR N b 2 := rfl
  have z3 : N.1 101 (1 + 4 * b.toNatClampNeg + 3) = bxR N b 3 := rfl
  have c0 := c 0 (by decide)
  have c1 := c 1 (by decide)
  have c2 := c 2 (by decide)
  have c3 := c 3 (by decide)
  refine ⟨?_, ?_, ?_⟩
  · unfold fX6_acrossOf fX1_pairs
    rw [bi00 h, bi02 h, z0, z2, otherE, otherE, byE (cn_other _) c0, byE (cn_other _) c2, plusE]
  · unfold fX6_acrossOf fX1_pairs
    rw [bi1 h, bi12 h, z1, z3, otherE, otherE, byE (cn_other _) c1, byE (cn_other _) c3, plusE]
  · unfold fX6_acrossOf fX1_pairs
    rw [bi00 h, bi02 h, bi1 h, bi12 h, z0, z1, z2, z3, otherE, otherE, byE (cn_other _) c1, byE (cn_other _) c3, plusE]
theorem testV {N : Mem} {b k : Int32} (h : 0 ≤ b.toInt ∧ b.toInt < 8) (c : C4 (bxR N b)) : fX6_testOf N b k = tsV (bxR N b) k := by
  have z0 : N.1 101 (1 + 4 * b.toNatClampNeg + 0) = bxR N b 0 := rfl
  have z1 : N.1 101 (1 + 4 * b.toNatClampNeg + 1) = bxR N b 1 := rfl
  have z2 : N.1 101 (1 + 4 * b.toNatClampNeg + 2) = bxR N b 2 := rfl
  have z3 : N.1 101 (1 + 4 * b.toNatClampNeg + 3) = bxR N b 3 := rfl
  have e : fX6_isSo N (fX6_boxAt N b) k = tsV (bxR N b) k := by
    unfold fX6_isSo tsV
    rw [bi0 h, bi1 h, bi2 h, bi3 h, z0, z1, z2, z3, (acrossV h c).1, (acrossV h c).2.1, (acrossV h c).2.2]
  unfold fX6_testOf
  rw [e, b01 (ts01 _ _)]
theorem nr_ts (s : Row) (k : Int32) : NR (tsV s k) := by
  rcases ts01 s k with e | e <;> rw [e]
  · exact ⟨by decide, by decide, by decide⟩
  · exact ⟨by decide, by decide, by decide⟩
theorem sim_test {C N : Mem} {b k : Int32} (h : RelC C N) : Sim (sX5_test C b k) (sX6_test N b k) := by
  have w := h.2.1.2
  have s := h.2.1.1
  have gc : GC C (oBad (N.1 101) b k) False (tsV (rwB (N.1 101) b) k) (sX5_test C b k) := by
    unfold sX5_test
    refine ite_ind (P := GC C (oBad (N.1 101) b k) False (tsV (rwB (N.1 101) b) k)) (fun q => by rw [tk_eta]; exact gc_bad (Or.inl ((hbC s w).mp q))) (fun q => ?_)
    have hb : HB (N.1 101) b := nn (fun n => q ((hbC s w).mpr n))
    refine ite_ind (P := GC C (oBad (N.1 101) b k) False (tsV (rwB (N.1 101) b) k)) (fun q => by rw [tk_eta]; exact gc_bad (Or.inr (by rw [below_iff, e4] at q; exact q))) (fun q => ?_)
    have hk := below_in q
    rw [e4] at hk
    rw [passV (s.bx hb)]
    exact gc_val (fun n => n.elim (fun n => n hb) (fun n => n hk)) id (nr_ts _ _)
  have gm : GM N (oBad (N.1 101) b k) False (tsV (rwB (N.1 101) b) k) (sX6_test N b k) := by
    unfold sX6_test
    refine ite_ind (P := GM N (oBad (N.1 101) b k) False (tsV (rwB (N.1 101) b) k)) (fun q => by rw [tk_eta]; exact gm_bad (Or.inl ((hbM w).mp q))) (fun q => ?_)
    have hb : HB (N.1 101) b := nn (fun n => q ((hbM w).mpr n))
    refine ite_ind (P := GM N (oBad (N.1 101) b k) False (tsV (rwB (N.1 101) b) k)) (fun q => by rw [tk_eta]; exact gm_bad (Or.inr ((in03_iff k).mp q))) (fun q => ?_)
    have hk : 0 ≤ k.toInt ∧ k.toInt < 4 := nn (fun n => q ((in03_iff k).mpr n))
    rw [testV (hb.r8 w) (w.c4 hb), rwB_M]
    exact gm_val MSame.rf (fun n => n.elim (fun n => n hb) (fun n => n hk)) id
  exact simG h gc gm (fun _ _ => nr_ts _ _)
theorem nI_sub {a b : Nat} (h : b ≤ a) (ha : a < 1000) : nI a - nI b = nI (a - b) := by
  apply nI_ofT _ (by omega)
  rw [fb_subI (by rw [nI_T (by omega), nI_T (by omega)]; omega) (by rw [nI_T (by omega), nI_T (by omega)]; omega), nI_T (by omega), nI_T (by omega)]
  omega
theorem eqB_iff {N : Mem} {i : Nat} {b : Int32} (hi : i < 8) (h : 0 ≤ b.toInt ∧ b.toInt < 8) : eqB N (nI i) b ↔ (N.1 101 (1 + 4 * i + 0) = bxR N b 0 ∧ N.1 101 (1 + 4 * i + 1) = bxR N b 1 ∧ N.1 101 (1 + 4 * i + 2) = bxR N b 2 ∧ N.1 101 (1 + 4 * i + 3) = bxR N b 3) := by
  have hI : 0 ≤ (nI i).toInt ∧ (nI i).toInt < 8 := r8 hi
  have ci : (nI i).toNatClampNeg = i := cl_of (nI_T (by omega))
  unfold eqB
  rw [bi00 hI, bi1 hI, bi2 hI, bi3 hI, bi00 h, bi1 h, bi2 h, bi3 h, ci]
  exact Iff.rfl
theorem likeV {C N : Mem} {b : Int32} (h : RelC C N) (hb : HB (N.1 101) b) : fX2_leastAlike C (C.2.1 0) b = fX6_likeOf N b := by
  have w := h.2.1.2
  have s := h.2.1.1
  have hb8 := hb.r8 w
  have cb := cl_T hb.1
  have hn := hb.n
  have n8 := w.1.2
  have eb : b = nI b.toNatClampNeg := nI_cl hb.1
  have row : ∀ i k : Nat, (i : Int) < (N.1 101 0).toInt → k < 4 → C.1 (16 + 12 * C.2.1 0 + 1 + 3 + i) k = N.1 101 (1 + 4 * i + k) := s.2.2.1
  have key : ∀ t, t ≤ b.toNatClampNeg → laS C (C.2.1 0) b.toNatClampNeg t (b.toNatClampNeg - t) = lkF N b (t + 1) := by
    intro t
    induction t with
    | zero =>
      intro _
      rw [lkF, nI_sub (by omega) (by omega), if_pos]
      · rw [laS]; rfl
      · exact (eqB_iff (by omega) hb8).mpr ⟨rfl, rfl, rfl, rfl⟩
    | succ t ih =>
      intro ht
      rw [lkF, nI_sub ht (by omega), laS, show b.toNatClampNeg - (t + 1) + 1 = b.toNatClampNeg - t by omega, ih (by omega)]
      have e := isAsV (C := C) (p := 16 + 12 * C.2.1 0 + 1 + 3 + (b.toNatClampNeg - (t + 1))) (q := 16 + 12 * C.2.1 0 + 1 + 3 + b.toNatClampNeg)
      rw [row _ 0 (by omega) (by decide), row _ 1 (by omega) (by decide), row _ 2 (by omega) (by decide), row _ 3 (by omega) (by decide), row _ 0 hn (by decide), row _ 1 hn (by decide), row _ 2 hn (by decide), row _ 3 hn (by decide)] at e
      have g := eqB_iff (N := N) (i := b.toNatClampNeg - (t + 1)) (by omega) hb8
      by_cases c : eqB N (nI (b.toNatClampNeg - (t + 1))) b
      · rw [if_pos c, if_neg (fun z => (e.mp z) (g.mp c))]
      · rw [if_neg c, if_pos (e.mpr (fun z => c (g.mpr z)))]
  have := key b.toNatClampNeg (Nat.le_refl _)
  rw [Nat.sub_self] at this
  exact this
theorem laS_r (M : Mem) (a b : Nat) (hb : b < 8) : ∀ f i, i + f ≤ b → 0 ≤ (laS M a b f i).toInt
  | 0, i, _ => by rw [laS, nI_T (by omega)]; omega
  | f + 1, i, h => by
    rw [laS]
    split
    · exact laS_r M a b hb f (i + 1) (by omega)
    · rw [nI_T (by omega)]; omega
theorem sim_like {C N : Mem} {b : Int32} (h : RelC C N) : Sim (sX5_like C b) (sX6_like N b) := by
  have w := h.2.1.2
  have s := h.2.1.1
  have hr : HB (N.1 101) b → NR (fX2_leastAlike C (C.2.1 0) b) := fun hb => by
    have hb8 := hb.r8 w
    have cb := cl_T hb.1
    exact nr_nn (laS_r _ _ _ (by omega) _ _ (by omega))
  have gc : GC C (¬ HB (N.1 101) b) False (fX2_leastAlike C (C.2.1 0) b) (sX5_like C b) := by
    unfold sX5_like
    refine ite_ind (P := GC C (¬ HB (N.1 101) b) False (fX2_leastAlike C (C.2.1 0) b)) (fun q => by rw [tk_eta]; exact gc_bad ((hbC s w).mp q)) (fun q => ?_)
    have hb : HB (N.1 101) b := nn (fun n => q ((hbC s w).mpr n))
    exact gc_val (fun n => n hb) id (hr hb)
  have gm : GM N (¬ HB (N.1 101) b) False (fX2_leastAlike C (C.2.1 0) b) (sX6_like N b) := by
    unfold sX6_like
    refine ite_ind (P := GM N (¬ HB (N.1 101) b) False (fX2_leastAlike C (C.2.1 0) b)) (fun q => by rw [tk_eta]; exact gm_bad ((hbM w).mp q)) (fun q => ?_)
    have hb : HB (N.1 101) b := nn (fun n => q ((hbM w).mpr n))
    rw [← likeV h hb]
    exact gm_val MSame.rf (fun n => n hb) id
  exact simG h gc gm (fun n _ => hr (nn n))
theorem in127_iff (k : Int32) : fX6_in k 0 127 = 0 ↔ ¬ (0 ≤ k.toInt ∧ k.toInt < 128) := by
  rw [in_iff]
  have e0 : (0 : Int32).toInt = 0 := rfl
  have e1 : (127 : Int32).toInt = 127 := rfl
  rw [e0, e1]
  constructor <;> (intro h g; exact h (by omega))
theorem e128 : (128 : Int32).toInt = 128 := rfl
theorem e120 : (120 : Int32).toInt = 120 := rfl
theorem nar_b {x : Int32} (h : 0 ≤ x.toInt ∧ x.toInt < 128) : vp_nar .byte x.toInt8.toInt32 = x := by
  have e := fb_byte (x := x) (by omega) (by omega)
  rw [e]
  exact e
theorem sim_type {C N : Mem} {c : Int32} (h : RelC C N) : Sim (sX5_type C c) (sX6_type N c) := by
  have h6 := h.2.2.2.2.2.1
  have h7 := h.2.2.2.2.2.2
  have e : sX5_type C c = sX5_noted (sX3_takeByte C c).2 (sX3_takeByte C c).1 := by
    unfold sX5_type
    exact tk_note _
  rw [e]
  by_cases b : 0 ≤ c.toInt ∧ c.toInt < 128
  · have b1 : ¬ fX5_isBelow c 128 = 0 := by rw [below_iff, e128]; exact fun n => n b
    have b2 : ¬ fX6_in c 0 127 = 0 := by rw [in127_iff]; exact fun n => n b
    by_cases f : N.1 100 6 = 120
    · have f1 : fX5_isBelow (C.1 10 4) 120 = 0 := by rw [below_iff, h6.1, f, e120]; omega
      have e1 : sX3_takeByte C c = (-4, C) := by unfold sX3_takeByte; rw [if_neg b1, if_pos f1]
      have e2 : sX6_type N c = sX6_full N := by unfold sX6_type; rw [if_neg b2, if_pos f, tk_eta]
      rw [e1, e2]
      exact ⟨notedA, h.ref (Or.inr (Or.inr ⟨rfl, rfl⟩)) (mref MSame.rf)⟩
    · have fl : (N.1 100 6).toInt < 120 := by rw [fa_eq, e120] at f; omega
      have f1 : ¬ fX5_isBelow (C.1 10 4) 120 = 0 := by rw [below_iff, h6.1, e120]; omega
      have t := incT_ (x := N.1 100 6) (by omega)
      have cl := cl_T h6.2.1
      have e1 : sX3_takeByte C c = (N.1 100 6 + 1, st (st C 11 (N.1 100 6).toNatClampNeg c) 10 4 (N.1 100 6 + 1)) := by
        unfold sX3_takeByte
        rw [if_neg b1, if_neg f1, nar_b b, h6.1]
        refine tk_ind (P := fun u : Int32 × Mem => u = (N.1 100 6 + 1, st (st C 11 (N.1 100 6).toNatClampNeg c) 10 4 (N.1 100 6 + 1))) _ _ (fun M1 h1 => ?_)
        have q : M1.1 10 4 = N.1 100 6 := by rw [h1, st_ne _ _ _ (by decide)]; exact h6.1
        rw [q]
        refine tk_ind (P := fun u : Int32 × Mem => u = (N.1 100 6 + 1, st (st C 11 (N.1 100 6).toNatClampNeg c) 10 4 (N.1 100 6 + 1))) _ _ (fun M2 h2 => ?_)
        rw [h2, st_at, h1]
      have e2 : sX6_type N c = (N.1 100 6 + 1, st (st N 105 (N.1 100 6).toNatClampNeg c) 100 6 (N.1 100 6 + 1)) := by
        unfold sX6_type
        rw [if_neg b2, if_neg f]
        refine tk_ind (P := fun u : Int32 × Mem => u = (N.1 100 6 + 1, st (st N 105 (N.1 100 6).toNatClampNeg c) 100 6 (N.1 100 6 + 1))) _ _ (fun M1 h1 => ?_)
        have q : M1.1 100 6 = N.1 100 6 := by rw [h1, st_ne _ _ _ (by decide)]
        rw [q]
        refine tk_ind (P := fun u : Int32 × Mem => u = (N.1 100 6 + 1, st (st N 105 (N.1 100 6).toNatClampNeg c) 100 6 (N.1 100 6 + 1))) _ _ (fun M2 h2 => ?_)
        rw [h2, st_at, h1]
      rw [e1, e2]
      show Sim (sX5_noted (st (st C 11 (N.1 100 6).toNatClampNeg c) 10 4 (N.1 100 6 + 1)) (N.1 100 6 + 1)) _
      rw [notedN (nr_nn (by omega))]
      refine ⟨rfl, ?_⟩
      show RelC (st (st C 11 (N.1 100 6).toNatClampNeg c) 10 4 (N.1 100 6 + 1)) (st (st N 105 (N.1 100 6).toNatClampNeg c) 100 6 (N.1 100 6 + 1))
      have kc : ∀ j, j ≠ 10 → j ≠ 11 → (st (st C 11 (N.1 100 6).toNatClampNeg c) 10 4 (N.1 100 6 + 1)).1 j = C.1 j := fun j j1 j2 => by rw [st_ne _ _ _ j1, st_ne _ _ _ j2]
      have c11 : (st (st C 11 (N.1 100 6).toNatClampNeg c) 10 4 (N.1 100 6 + 1)).1 11 = upd (C.1 11) (N.1 100 6).toNatClampNeg c := by rw [st_ne _ _ _ (by decide), st_row]
      have kn : ∀ j, j ≠ 100 → j ≠ 105 → (st (st N 105 (N.1 100 6).toNatClampNeg c) 100 6 (N.1 100 6 + 1)).1 j = N.1 j := fun j j1 j2 => by rw [st_ne _ _ _ j1, st_ne _ _ _ j2]
      have n105 : (st (st N 105 (N.1 100 6).toNatClampNeg c) 100 6 (N.1 100 6 + 1)).1 105 = upd (N.1 105) (N.1 100 6).toNatClampNeg c := by rw [st_ne _ _ _ (by decide), st_row]
      have n3 : (st (st N 105 (N.1 100 6).toNatClampNeg c) 100 6 (N.1 100 6 + 1)).1 100 3 = N.1 100 3 := by rw [st_at_ne _ _ _ _ (by decide), st_ne _ _ _ (by decide)]
      have n6 : (st (st N 105 (N.1 100 6).toNatClampNeg c) 100 6 (N.1 100 6 + 1)).1 100 6 = N.1 100 6 + 1 := st_at _ _ _ _
      have c4 : (st (st C 11 (N.1 100 6).toNatClampNeg c) 10 4 (N.1 100 6 + 1)).1 10 4 = N.1 100 6 + 1 := st_at _ _ _ _
      have cr : (st (st C 11 (N.1 100 6).toNatClampNeg c) 10 4 (N.1 100 6 + 1)).2 = C.2 := rfl
      generalize st (st C 11 (N.1 100 6).toNatClampNeg c) 10 4 (N.1 100 6 + 1) = C' at *
      generalize st (st N 105 (N.1 100 6).toNatClampNeg c) 100 6 (N.1 100 6 + 1) = N' at *
      have ep : ∀ i, ps N' i = ps N i := fun i => by unfold ps; rw [kn 103 (by decide) (by decide)]
      have kp : ∀ a f, RW f → RS C a f → RS C' a f := fun a f wf sf => sf.keep (fun j hj _ => kc j (by omega) (by omega)) wf
      unfold RelC RK RH
      rw [cr, kn 101 (by decide) (by decide), kn 104 (by decide) (by decide), kc 0 (by decide) (by decide), n3, n6, c4, t]
      refine ⟨h.1, ⟨kp _ _ h.2.1.2 h.2.1.1, h.2.1.2⟩, h.2.2.1, fun i hi => ?_, h.2.2.2.2.1, ⟨rfl, by omega, by omega⟩, fun k hk => ?_⟩
      · rw [ep]
        exact ⟨kp _ _ (h.2.2.2.1 i hi).2 (h.2.2.2.1 i hi).1, (h.2.2.2.1 i hi).2⟩
      · rw [c11, n105]
        by_cases z : k = (N.1 100 6).toNatClampNeg
        · rw [z, pk_us, pk_us]; exact ⟨rfl, b⟩
        · rw [pk_un z, pk_un z]; exact h7 k (by omega)
  · have b1 : fX5_isBelow c 128 = 0 := by rw [below_iff, e128]; exact b
    have b2 : fX6_in c 0 127 = 0 := by rw [in127_iff]; exact b
    have e1 : sX3_takeByte C c = (-2, C) := by unfold sX3_takeByte; rw [if_pos b1]
    have e2 : sX6_type N c = sX6_bad N := by unfold sX6_type; rw [if_pos b2, tk_eta]
    rw [e1, e2]
    exact ⟨notedA, h.ref (Or.inl ⟨rfl, rfl⟩) (mref MSame.rf)⟩
theorem sim_clear {C N : Mem} (h : RelC C N) : Sim (sX5_clear C) (sX6_clear N) := by
  have e1 : sX5_clear C = (C.1 10 4, st C 10 4 0) := by unfold sX5_clear; rw [tk_eta]; unfold sX3_empty; rfl
  have e2 : sX6_clear N = (N.1 100 6, st N 100 6 0) := by unfold sX6_clear; rfl
  have h6 := h.2.2.2.2.2.1
  rw [e1, e2]
  refine ⟨h6.1, ?_⟩
  show RelC (st C 10 4 0) (st N 100 6 0)
  have kc : ∀ j, j ≠ 10 → (st C 10 4 0).1 j = C.1 j := fun j j1 => by rw [st_ne _ _ _ j1]
  have kn : ∀ j, j ≠ 100 → (st N 100 6 0).1 j = N.1 j := fun j j1 => by rw [st_ne _ _ _ j1]
  have n3 : (st N 100 6 0).1 100 3 = N.1 100 3 := by rw [st_at_ne _ _ _ _ (by decide)]
  have n6 : (st N 100 6 0).1 100 6 = 0 := st_at _ _ _ _
  have c4 : (st C 10 4 0).1 10 4 = 0 := st_at _ _ _ _
  have cr : (st C 10 4 0).2 = C.2 := rfl
  generalize st C 10 4 0 = C' at *
  generalize st N 100 6 0 = N' at *
  have ep : ∀ i, ps N' i = ps N i := fun i => by unfold ps; rw [kn 103 (by decide)]
  have kp : ∀ a f, RW f → RS C a f → RS C' a f := fun a f wf sf => sf.keep (fun j hj _ => kc j (by omega)) wf
  unfold RelC RK RH
  rw [cr, kn 101 (by decide), kn 104 (by decide), kc 0 (by decide), n3, n6, c4]
  refine ⟨h.1, ⟨kp _ _ h.2.1.2 h.2.1.1, h.2.1.2⟩, h.2.2.1, fun i hi => ?_, h.2.2.2.2.1, ⟨rfl, by decide, by decide⟩, fun k hk => ?_⟩
  · rw [ep]
    exact ⟨kp _ _ (h.2.2.2.1 i hi).2 (h.2.2.2.1 i hi).1, (h.2.2.2.1 i hi).2⟩
  · have : (0 : Int32).toInt = 0 := rfl
    omega
theorem sim_back {C N : Mem} (h : RelC C N) : Sim (sX5_back C) (sX6_back N) := by
  have h3 := h.2.2.1
  by_cases z : N.1 100 3 = 0
  · have e1 : sX5_back C = sX5_noted C (-3) := by
      unfold sX5_back
      rw [if_neg (by rw [h3.1, z]; decide), tk_eta]
    have e2 : sX6_back N = sX6_no N := by unfold sX6_back; rw [if_pos z, tk_eta]
    rw [e1, e2]
    exact ⟨notedA, h.ref (Or.inr (Or.inl ⟨rfl, rfl⟩)) (mref MSame.rf)⟩
  · have zp : 0 < (N.1 100 3).toInt := by
      rw [fa_eq] at z
      have : (0 : Int32).toInt = 0 := rfl
      omega
    have t := decT_ (x := N.1 100 3) (by omega)
    have cl : ((N.1 100 3 - 1).toNatClampNeg : Int) = (N.1 100 3).toInt - 1 := by rw [cl_T (by omega), t]
    generalize hn : (N.1 100 3 - 1).toNatClampNeg = n at cl
    have e1 : sX5_back C = (N.1 100 3 - 1, su (su (st C 0 5 (N.1 100 3 - 1)) 0 (C.2.1 (2 + n))) (2 + n) (C.2.1 0)) := by
      unfold sX5_back
      rw [if_pos (by rw [h3.1, fa_lt]; exact zp), h3.1]
      refine tk_ind (P := fun u : Int32 × Mem => u = (N.1 100 3 - 1, su (su (st C 0 5 (N.1 100 3 - 1)) 0 (C.2.1 (2 + n))) (2 + n) (C.2.1 0))) _ _ (fun M1 h1 => ?_)
      have q1 : M1.1 0 5 = N.1 100 3 - 1 := by rw [h1, st_at]
      have r1 : M1.2 = C.2 := by rw [h1]; rfl
      rw [q1, hn, r1]
      refine tk_ind (P := fun u : Int32 × Mem => u = (N.1 100 3 - 1, su (su (st C 0 5 (N.1 100 3 - 1)) 0 (C.2.1 (2 + n))) (2 + n) (C.2.1 0))) _ _ (fun M2 h2 => ?_)
      have q2 : M2.1 0 5 = N.1 100 3 - 1 := by rw [h2]; exact q1
      rw [q2, hn]
      refine tk_ind (P := fun u : Int32 × Mem => u = (N.1 100 3 - 1, su (su (st C 0 5 (N.1 100 3 - 1)) 0 (C.2.1 (2 + n))) (2 + n) (C.2.1 0))) _ _ (fun M3 h3 => ?_)
      have q3 : M3.1 0 5 = N.1 100 3 - 1 := by rw [h3]; exact q2
      rw [q3, h3, h2, h1]
    have e2 : sX6_back N = (N.1 100 3 - 1, sr (st N 100 3 (N.1 100 3 - 1)) 101 (fb_put (N.1 101) (ps N n) 0 58)) := by
      unfold sX6_back
      rw [if_neg z]
      refine tk_ind (P := fun u : Int32 × Mem => u = (N.1 100 3 - 1, sr (st N 100 3 (N.1 100 3 - 1)) 101 (fb_put (N.1 101) (ps N n) 0 58))) _ _ (fun M1 h1 => ?_)
      have q1 : M1.1 100 3 = N.1 100 3 - 1 := by rw [h1, st_at]
      have q101 : M1.1 101 = N.1 101 := by rw [h1, st_ne _ _ _ (by decide)]
      have q103 : M1.1 103 = N.1 103 := by rw [h1, st_ne _ _ _ (by decide)]
      rw [q1, hn, q101, q103]
      refine tk_ind (P := fun u : Int32 × Mem => u = (N.1 100 3 - 1, sr (st N 100 3 (N.1 100 3 - 1)) 101 (fb_put (N.1 101) (ps N n) 0 58))) _ _ (fun M2 h2 => ?_)
      have q2 : M2.1 100 3 = N.1 100 3 - 1 := by rw [h2, sr_ne _ _ (by decide)]; exact q1
      rw [q2, h2, h1]
      rfl
    rw [e1, e2]
    refine ⟨rfl, ?_⟩
    show RelC (su (su (st C 0 5 (N.1 100 3 - 1)) 0 (C.2.1 (2 + n))) (2 + n) (C.2.1 0)) (sr (st N 100 3 (N.1 100 3 - 1)) 101 (fb_put (N.1 101) (ps N n) 0 58))
    have kc : ∀ j, j ≠ 0 → (su (su (st C 0 5 (N.1 100 3 - 1)) 0 (C.2.1 (2 + n))) (2 + n) (C.2.1 0)).1 j = C.1 j := fun j hj => (st_ne _ _ _ hj : (st C 0 5 (N.1 100 3 - 1)).1 j = C.1 j)
    have k0 : ∀ k, k ≠ 5 → (su (su (st C 0 5 (N.1 100 3 - 1)) 0 (C.2.1 (2 + n))) (2 + n) (C.2.1 0)).1 0 k = C.1 0 k := fun k hk => (st_at_ne _ _ _ _ hk : (st C 0 5 (N.1 100 3 - 1)).1 0 k = C.1 0 k)
    have k5 : (su (su (st C 0 5 (N.1 100 3 - 1)) 0 (C.2.1 (2 + n))) (2 + n) (C.2.1 0)).1 0 5 = N.1 100 3 - 1 := (st_at _ _ _ _ : (st C 0 5 (N.1 100 3 - 1)).1 0 5 = _)
    have u0 : (su (su (st C 0 5 (N.1 100 3 - 1)) 0 (C.2.1 (2 + n))) (2 + n) (C.2.1 0)).2.1 0 = C.2.1 (2 + n) := by rw [su_ne _ _ (by omega), su_at]
    have un : (su (su (st C 0 5 (N.1 100 3 - 1)) 0 (C.2.1 (2 + n))) (2 + n) (C.2.1 0)).2.1 (2 + n) = C.2.1 0 := su_at _ _ _
    have uo : ∀ i, i ≠ 0 → i ≠ 2 + n → (su (su (st C 0 5 (N.1 100 3 - 1)) 0 (C.2.1 (2 + n))) (2 + n) (C.2.1 0)).2.1 i = C.2.1 i := fun i i1 i2 => by rw [su_ne _ _ i2, su_ne _ _ i1]; rfl
    have kn : ∀ j, j ≠ 100 → j ≠ 101 → (sr (st N 100 3 (N.1 100 3 - 1)) 101 (fb_put (N.1 101) (ps N n) 0 58)).1 j = N.1 j := fun j j1 j2 => by rw [sr_ne _ _ j2, st_ne _ _ _ j1]
    have n101 : ∀ k, k < 58 → (sr (st N 100 3 (N.1 100 3 - 1)) 101 (fb_put (N.1 101) (ps N n) 0 58)).1 101 k = ps N n k := fun k hk => by rw [sr_row, fb_put_in (by omega) (by omega)]; rfl
    have n3 : (sr (st N 100 3 (N.1 100 3 - 1)) 101 (fb_put (N.1 101) (ps N n) 0 58)).1 100 3 = N.1 100 3 - 1 := by rw [sr_ne _ _ (by decide), st_at]
    have n6 : (sr (st N 100 3 (N.1 100 3 - 1)) 101 (fb_put (N.1 101) (ps N n) 0 58)).1 100 6 = N.1 100 6 := by rw [sr_ne _ _ (by decide), st_at_ne _ _ _ _ (by decide)]
    generalize su (su (st C 0 5 (N.1 100 3 - 1)) 0 (C.2.1 (2 + n))) (2 + n) (C.2.1 0) = C' at *
    generalize sr (st N 100 3 (N.1 100 3 - 1)) 101 (fb_put (N.1 101) (ps N n) 0 58) = N' at *
    have ep : ∀ i, ps N' i = ps N i := fun i => by unfold ps; rw [kn 103 (by decide) (by decide)]
    have kp : ∀ a f, RW f → RS C a f → RS C' a f := fun a f wf sf => sf.keep (fun j hj _ => kc j (by omega)) wf
    have hl := h.2.2.2.1 n (by omega)
    have g : ∀ i, i < 7 → C'.2.1 i = C.2.1 (if i = 0 then 2 + n else if i = 2 + n then 0 else i) := fun i hi => by
      by_cases i0 : i = 0
      · rw [if_pos i0, i0]; exact u0
      · rw [if_neg i0]
        by_cases i2 : i = 2 + n
        · rw [if_pos i2, i2]; exact un
        · rw [if_neg i2]; exact uo i i0 i2
    have gl : ∀ i, i < 7 → (if i = 0 then 2 + n else if i = 2 + n then 0 else i) < 7 := fun i hi => by
      split
      · omega
      · split <;> omega
    unfold RelC
    rw [kn 104 (by decide) (by decide), kn 105 (by decide) (by decide), kc 10 (by decide), kc 11 (by decide), k0 6 (by decide), k0 7 (by decide), k0 8 (by decide), k5, n3, n6, u0, t]
    refine ⟨⟨fun i hi => by rw [g i hi]; exact h.1.1 _ (gl i hi), fun i j hi hj q => ?_⟩, ⟨(kp _ _ hl.2 hl.1).cg hl.2 n101, hl.2.cg n101⟩, ⟨rfl, by omega, by omega⟩, fun i hi => ?_, h.2.2.2.2.1, h.2.2.2.2.2.1, h.2.2.2.2.2.2⟩
    · rw [g i hi, g j hj] at q
      have := h.1.2 _ _ (gl i hi) (gl j hj) q
      split at this <;> split at this <;> (try split at this) <;> (try split at this) <;> omega
    · have hz := h.2.2.2.1 i (by omega)
      rw [ep, uo _ (by omega) (by omega)]
      exact ⟨kp _ _ hz.2 hz.1, hz.2⟩
theorem seven {i : Int32} (h : 0 ≤ i.toInt ∧ i.toInt ≤ 6) : i = 0 ∨ i = 1 ∨ i = 2 ∨ i = 3 ∨ i = 4 ∨ i = 5 ∨ i = 6 := by
  rw [fa_eq, fa_eq, fa_eq, fa_eq, fa_eq, fa_eq, fa_eq]
  show _ = (0 : Int) ∨ _ = (1 : Int) ∨ _ = (2 : Int) ∨ _ = (3 : Int) ∨ _ = (4 : Int) ∨ _ = (5 : Int) ∨ _ = (6 : Int)
  omega
theorem knowsV {f : Row} (w : RW f) : (if f 45 = 0 then (0 : Int32) else 1) = f 45 := b01 w.2.1
theorem sim_count {C N : Mem} {k : Int32} (h : RelC C N) : Sim (sX5_count C k) (sX6_count N k) := by
  have w := h.2.1.2
  have s := h.2.1.1
  have i6 : fX6_in k 0 6 = 0 ↔ ¬ (0 ≤ k.toInt ∧ k.toInt ≤ 6) := in_iff k 0 6
  by_cases b : 0 ≤ k.toInt ∧ k.toInt ≤ 6
  · have e2 : sX6_count N k = (fX6_countOf N k, N) := by unfold sX6_count; rw [if_neg (fun n => (i6.mp n) b)]
    rw [e2]
    rcases seven b with e | e | e | e | e | e | e <;> subst e
    · exact ⟨s.1, h⟩
    · have : sX5_count C 1 = (N.1 101 45, C) := by
        show (if C.1 (16 + 12 * (C.2.1 0)) 4 = 0 then ((0 : Int32), C) else (1, C)) = _
        rw [s.2.1]
        rcases w.2.1 with q | q <;> rw [q] <;> rfl
      rw [this]
      exact ⟨rfl, h⟩
    · exact ⟨h.2.2.2.2.1.1, h⟩
    · exact ⟨h.2.2.2.2.1.2.1, h⟩
    · exact ⟨h.2.2.2.2.1.2.2, h⟩
    · exact ⟨h.2.2.2.2.2.1.1, h⟩
    · exact ⟨h.2.2.1.1, h⟩
  · have n : ∀ d : Int32, 0 ≤ d.toInt ∧ d.toInt ≤ 6 → ¬ k = d := fun d hd e => by rw [e] at b; exact b hd
    have e1 : sX5_count C k = sX5_noted C (-2) := by
      unfold sX5_count
      rw [if_neg (n _ (by decide)), if_neg (n _ (by decide)), if_neg (n _ (by decide)), if_neg (n _ (by decide)), if_neg (n _ (by decide)), if_neg (n _ (by decide)), if_neg (n _ (by decide)), tk_eta]
    have e2 : sX6_count N k = sX6_bad N := by unfold sX6_count; rw [if_pos (i6.mpr b), tk_eta]
    rw [e1, e2]
    exact ⟨notedA, h.ref (Or.inl ⟨rfl, rfl⟩) (mref MSame.rf)⟩
