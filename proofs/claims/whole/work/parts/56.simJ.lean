/-! ===== the reference's calls that are told S, and both sides of each ===== -/
theorem tk_eta (v : Int32 × Mem) : tk v (fun x => (x.1, x.2)) = v := rfl
theorem tk_set (M : Mem) (g : Mem → Int32 × Mem) : tk M (fun M1 => tk (g M1) (fun x2 => tk (sX5_settled x2.2 x2.1) (fun x3 => (x3.1, x3.2)))) = sX5_settled (g M).2 (g M).1 := rfl
theorem tk_note (u : Int32 × Mem) : tk u (fun x1 => tk (sX5_noted x1.2 x1.1) (fun x2 => (x2.1, x2.2))) = sX5_noted u.2 u.1 := rfl
theorem addF_g {f v u : Row} (h : A4 v u) : addF f v = addF f u := by
  funext k
  unfold addF
  by_cases c : k = 0
  · rw [if_pos c, if_pos c]
  · rw [if_neg c, if_neg c]
    by_cases d : 1 + 4 * (f 0).toNatClampNeg ≤ k ∧ k < 5 + 4 * (f 0).toNatClampNeg
    · rw [if_pos d, if_pos d]; exact h _ (by omega)
    · rw [if_neg d, if_neg d]
theorem comesRow (f : Row) (a b c d : Int32) : upd (upd (upd (upd (upd f (1 + 4 * (f 0).toNatClampNeg + 0) a) (1 + 4 * (f 0).toNatClampNeg + 1) b) (1 + 4 * (f 0).toNatClampNeg + 2) c) (1 + 4 * (f 0).toNatClampNeg + 3) d) 0 (f 0 + 1) = addF f (s4 a b c d) := by
  funext k
  by_cases h0 : k = 0
  · rw [h0, pk_us, addF_0]
  · rw [pk_un h0]
    by_cases h4 : k = 1 + 4 * (f 0).toNatClampNeg + 3
    · rw [h4, pk_us, addF_in _ _ (by decide), s4_3]
    · rw [pk_un h4]
      by_cases h3 : k = 1 + 4 * (f 0).toNatClampNeg + 2
      · rw [h3, pk_us, addF_in _ _ (by decide), s4_2]
      · rw [pk_un h3]
        by_cases h2 : k = 1 + 4 * (f 0).toNatClampNeg + 1
        · rw [h2, pk_us, addF_in _ _ (by decide), s4_1]
        · rw [pk_un h2]
          by_cases h1 : k = 1 + 4 * (f 0).toNatClampNeg + 0
          · rw [h1, pk_us, addF_in _ _ (by decide), s4_0]
          · rw [pk_un h1, addF_out _ _ h0 (by omega)]
theorem comesV {M : Mem} {a b c d : Int32} (h : 0 ≤ (M.1 101 0).toInt ∧ (M.1 101 0).toInt < 8) : sX6_comes M a b c d = (M.1 101 0, sr M 101 (addF (M.1 101) (s4 a b c d))) := by
  unfold sX6_comes
  rw [bi1 h, bi2 h, bi3 h, bi0 h]
  refine tk_ind (P := fun u : Int32 × Mem => u = (M.1 101 0, sr M 101 (addF (M.1 101) (s4 a b c d)))) _ _ (fun M1 h1 => ?_)
  refine tk_ind (P := fun u : Int32 × Mem => u = (M.1 101 0, sr M 101 (addF (M.1 101) (s4 a b c d)))) _ _ (fun M2 h2 => ?_)
  refine tk_ind (P := fun u : Int32 × Mem => u = (M.1 101 0, sr M 101 (addF (M.1 101) (s4 a b c d)))) _ _ (fun M3 h3 => ?_)
  refine tk_ind (P := fun u : Int32 × Mem => u = (M.1 101 0, sr M 101 (addF (M.1 101) (s4 a b c d)))) _ _ (fun M4 h4 => ?_)
  refine tk_ind (P := fun u : Int32 × Mem => u = (M.1 101 0, sr M 101 (addF (M.1 101) (s4 a b c d)))) _ _ (fun M5 h5 => ?_)
  have q1 : M1 = sr M 101 (upd (M.1 101) (1 + 4 * (M.1 101 0).toNatClampNeg + 0) a) := h1
  rw [q1, st_sr] at h2
  rw [h2, st_sr] at h3
  rw [h3, st_sr] at h4
  rw [h4, st_sr, sr_row] at h5
  rw [pk_un (by omega), pk_un (by omega), pk_un (by omega), pk_un (by omega), comesRow] at h5
  rw [h5, sr_row, addF_0, inc_dec]
theorem mrem_to {N N1 R R' : Mem} (s : MSame N N1) (h : MRem N1 R) (e1 : R'.1 103 = R.1 103) (e2 : R'.1 100 3 = R.1 100 3) : MRem N R' := by
  obtain ⟨k1, k2, k3, k4, k5, k6⟩ := s
  unfold MRem at *
  rw [k1, k2, k5] at h
  rw [e1, e2]
  exact h
theorem macc {N N1 R' : Mem} {f' g : Row} (s : MSame N N1) (hs : 0 ≤ (N.1 100 3).toInt ∧ (N.1 100 3).toInt ≤ 5) (e : R' = sr (sX6_remembers N1) 101 g) (hg : ∀ k, k < 58 → g k = f' k) : MAcc N R' f' := by
  have s5 := s.2.2.2.2.1
  obtain ⟨r1, r2, r3⟩ := remV (N := N1) (by rw [s5]; exact hs)
  refine ⟨fun k hk => ?_, ?_, ?_, ?_, ?_⟩
  · rw [e, sr_row]; exact hg k hk
  · rw [e, sr_ne _ _ (by decide), r2 _ (by decide) (by decide)]; exact s.2.2.2.1
  · rw [e, sr_ne _ _ (by decide), r2 _ (by decide) (by decide)]; exact s.2.2.1
  · rw [e, sr_ne _ _ (by decide), r3 _ (by decide)]; exact s.2.2.2.2.2
  · exact mrem_to s r1 (by rw [e, sr_ne _ _ (by decide)]) (by rw [e, sr_ne _ _ (by decide)])
theorem rem101 {N1 : Mem} (hs : 0 ≤ (N1.1 100 3).toInt ∧ (N1.1 100 3).toInt ≤ 5) {j : Nat} (h : j ≠ 100) (g : j ≠ 103) : (sX6_remembers N1).1 j = N1.1 j := (remV hs).2.1 j h g
theorem madeV {N N1 : Mem} {x : Int32} {bad no : Prop} {v : Row} (s : MSame N N1) (nb : ¬ bad) (hx : x = 0 ↔ no) (hv : ¬ no → A4 (N1.1 108) v) (w : RW (N.1 101)) (hs : 0 ≤ (N.1 100 3).toInt ∧ (N.1 100 3).toInt ≤ 5) : MOp N bad no (N.1 101 0 = 8) (N.1 101 0) (addF (N.1 101) v) (sX6_comesMade N1 x) := by
  have hs1 : 0 ≤ (N1.1 100 3).toInt ∧ (N1.1 100 3).toInt ≤ 5 := by rw [s.2.2.2.2.1]; exact hs
  unfold sX6_comesMade
  refine ite_ind (P := MOp N bad no (N.1 101 0 = 8) (N.1 101 0) (addF (N.1 101) v)) (fun c => ?_) (fun c => ?_)
  · rw [tk_eta]
    exact mo_no s nb (hx.mp c)
  · have nn0 : ¬ no := fun n => c (hx.mpr n)
    rw [s.1]
    refine ite_ind (P := MOp N bad no (N.1 101 0 = 8) (N.1 101 0) (addF (N.1 101) v)) (fun c2 => ?_) (fun c2 => ?_)
    · rw [tk_eta]
      exact mo_full s nb nn0 c2
    · refine tk_ind (P := MOp N bad no (N.1 101 0 = 8) (N.1 101 0) (addF (N.1 101) v)) _ _ (fun R hR => ?_)
      have e101 : R.1 101 = N.1 101 := by rw [hR, rem101 hs1 (by decide) (by decide)]; exact s.1
      have e108 : R.1 108 = N1.1 108 := by rw [hR, rem101 hs1 (by decide) (by decide)]
      have vv := hv nn0
      rw [tk_eta, comesV (by rw [e101]; exact ⟨w.1.1, ne8 w.1 c2⟩), e101, e108, vv 0 (by decide), vv 1 (by decide), vv 2 (by decide), vv 3 (by decide), addF_g (v := s4 (v 0) (v 1) (v 2) (v 3)) (u := v) (r4 rfl rfl rfl rfl)]
      exact mo_ok nb nn0 c2 (macc s hs (by rw [hR]) (fun _ _ => rfl))
theorem mBox {N : Mem} (w : RW (N.1 101)) (hs : 0 ≤ (N.1 100 3).toInt ∧ (N.1 100 3).toInt ≤ 5) : MOp N False False (N.1 101 0 = 8) (N.1 101 0) (addF (N.1 101) (s4 0 10007 10007 0)) (sX6_box N) := by
  unfold sX6_box
  refine ite_ind (P := MOp N False False (N.1 101 0 = 8) (N.1 101 0) (addF (N.1 101) (s4 0 10007 10007 0))) (fun c2 => ?_) (fun c2 => ?_)
  · rw [tk_eta]
    exact mo_full MSame.rf id id c2
  · refine tk_ind (P := MOp N False False (N.1 101 0 = 8) (N.1 101 0) (addF (N.1 101) (s4 0 10007 10007 0))) _ _ (fun R hR => ?_)
    have e101 : R.1 101 = N.1 101 := by rw [hR, rem101 hs (by decide) (by decide)]
    rw [tk_eta, comesV (by rw [e101]; exact ⟨w.1.1, ne8 w.1 c2⟩), e101]
    exact mo_ok id id c2 (macc MSame.rf hs (by rw [hR]) (fun _ _ => rfl))
theorem in03_iff (k : Int32) : fX6_in k 0 3 = 0 ↔ ¬ (0 ≤ k.toInt ∧ k.toInt < 4) := by
  rw [in_iff]
  have e0 : (0 : Int32).toInt = 0 := rfl
  have e1 : (3 : Int32).toInt = 3 := rfl
  rw [e0, e1]
  constructor <;> (intro h g; exact h (by omega))
theorem e33 {k : Int32} (h : 0 ≤ k.toInt ∧ k.toInt < 12) : (33 + k).toNatClampNeg = 33 + k.toNatClampNeg := by
  have c := cl_T h.1
  have e : (33 : Int32).toInt = 33 := rfl
  apply cl_of
  rw [fb_addI (by omega) (by omega), e]
  omega
theorem e46 {k : Int32} (h : 0 ≤ k.toInt ∧ k.toInt < 12) : (46 + k).toNatClampNeg = 46 + k.toNatClampNeg := by
  have c := cl_T h.1
  have e : (46 : Int32).toInt = 46 := rfl
  apply cl_of
  rw [fb_addI (by omega) (by omega), e]
  omega
theorem mSets {N : Mem} {b k x y : Int32} (w : RW (N.1 101)) (hs : 0 ≤ (N.1 100 3).toInt ∧ (N.1 100 3).toInt ≤ 5) : MOp N (sBad (N.1 101) b k x y) False False (N.1 101 (1 + 4 * b.toNatClampNeg + k.toNatClampNeg)) (upd (N.1 101) (1 + 4 * b.toNatClampNeg + k.toNatClampNeg) (fX6_number x y)) (sX6_sets N b k x y) := by
  unfold sX6_sets
  refine ite_ind (P := MOp N (sBad (N.1 101) b k x y) False False (N.1 101 (1 + 4 * b.toNatClampNeg + k.toNatClampNeg)) (upd (N.1 101) (1 + 4 * b.toNatClampNeg + k.toNatClampNeg) (fX6_number x y))) (fun q => by rw [tk_eta]; exact mo_bad (Or.inl ((hbM w).mp q))) (fun q => ?_)
  have hb : HB (N.1 101) b := nn (fun n => q ((hbM w).mpr n))
  refine ite_ind (P := MOp N (sBad (N.1 101) b k x y) False False (N.1 101 (1 + 4 * b.toNatClampNeg + k.toNatClampNeg)) (upd (N.1 101) (1 + 4 * b.toNatClampNeg + k.toNatClampNeg) (fX6_number x y))) (fun q => by rw [tk_eta]; exact mo_bad (Or.inr (Or.inl ((in03_iff k).mp q)))) (fun q => ?_)
  have hk : 0 ≤ k.toInt ∧ k.toInt < 4 := nn (fun n => q ((in03_iff k).mpr n))
  refine ite_ind (P := MOp N (sBad (N.1 101) b k x y) False False (N.1 101 (1 + 4 * b.toNatClampNeg + k.toNatClampNeg)) (upd (N.1 101) (1 + 4 * b.toNatClampNeg + k.toNatClampNeg) (fX6_number x y))) (fun q => by rw [tk_eta]; exact mo_bad (Or.inr (Or.inr (fun n => ((part_iff x).mp q) n.1)))) (fun q => ?_)
  have hx : PT0 x := nn (fun n => q ((part_iff x).mpr n))
  refine ite_ind (P := MOp N (sBad (N.1 101) b k x y) False False (N.1 101 (1 + 4 * b.toNatClampNeg + k.toNatClampNeg)) (upd (N.1 101) (1 + 4 * b.toNatClampNeg + k.toNatClampNeg) (fX6_number x y))) (fun q => by rw [tk_eta]; exact mo_bad (Or.inr (Or.inr (fun n => ((part_iff y).mp q) n.2)))) (fun q => ?_)
  have hy : PT0 y := nn (fun n => q ((part_iff y).mpr n))
  refine tk_ind (P := MOp N (sBad (N.1 101) b k x y) False False (N.1 101 (1 + 4 * b.toNatClampNeg + k.toNatClampNeg)) (upd (N.1 101) (1 + 4 * b.toNatClampNeg + k.toNatClampNeg) (fX6_number x y))) _ _ (fun R hR => ?_)
  have e101 : R.1 101 = N.1 101 := by rw [hR, rem101 hs (by decide) (by decide)]
  rw [tk_eta]
  have e : sX6_exchanges R ((fX6_boxAt R b) + k) (fX6_number x y) = (R.1 101 (1 + 4 * b.toNatClampNeg + k.toNatClampNeg), sr R 101 (upd (R.1 101) (1 + 4 * b.toNatClampNeg + k.toNatClampNeg) (fX6_number x y))) := by
    unfold sX6_exchanges
    rw [bxk_cl (hb.r8 w) hk]
    rfl
  rw [e, e101]
  refine mo_ok (fun n => ?_) id id (macc MSame.rf hs (by rw [hR]) (fun _ _ => rfl))
  rcases n with n | n | n
  · exact n hb
  · exact n hk
  · exact n ⟨hx, hy⟩
theorem mErrs {N : Mem} {k x y : Int32} (hs : 0 ≤ (N.1 100 3).toInt ∧ (N.1 100 3).toInt ≤ 5) : MOp N (eBad k x y) False False (N.1 101 (33 + k.toNatClampNeg)) (upd (N.1 101) (33 + k.toNatClampNeg) (fX6_number x y)) (sX6_errs N k x y) := by
  unfold sX6_errs
  refine ite_ind (P := MOp N (eBad k x y) False False (N.1 101 (33 + k.toNatClampNeg)) (upd (N.1 101) (33 + k.toNatClampNeg) (fX6_number x y))) (fun q => by rw [tk_eta]; exact mo_bad (Or.inl ((err_iff k).mp q))) (fun q => ?_)
  have hk : 0 ≤ k.toInt ∧ k.toInt < 12 := nn (fun n => q ((err_iff k).mpr n))
  refine ite_ind (P := MOp N (eBad k x y) False False (N.1 101 (33 + k.toNatClampNeg)) (upd (N.1 101) (33 + k.toNatClampNeg) (fX6_number x y))) (fun q => by rw [tk_eta]; exact mo_bad (Or.inr (fun n => ((part_iff x).mp q) n.1))) (fun q => ?_)
  have hx : PT0 x := nn (fun n => q ((part_iff x).mpr n))
  refine ite_ind (P := MOp N (eBad k x y) False False (N.1 101 (33 + k.toNatClampNeg)) (upd (N.1 101) (33 + k.toNatClampNeg) (fX6_number x y))) (fun q => by rw [tk_eta]; exact mo_bad (Or.inr (fun n => ((part_iff y).mp q) n.2))) (fun q => ?_)
  have hy : PT0 y := nn (fun n => q ((part_iff y).mpr n))
  refine tk_ind (P := MOp N (eBad k x y) False False (N.1 101 (33 + k.toNatClampNeg)) (upd (N.1 101) (33 + k.toNatClampNeg) (fX6_number x y))) _ _ (fun R hR => ?_)
  have e101 : R.1 101 = N.1 101 := by rw [hR, rem101 hs (by decide) (by decide)]
  have e : sX6_exchanges R (33 + k) (fX6_number x y) = (R.1 101 (33 + k.toNatClampNeg), sr R 101 (upd (R.1 101) (33 + k.toNatClampNeg) (fX6_number x y))) := by
    unfold sX6_exchanges
    rw [e33 hk]
    rfl
  rw [tk_eta, e, e101]
  refine mo_ok (fun n => ?_) id id (macc MSame.rf hs (by rw [hR]) (fun _ _ => rfl))
  rcases n with n | n
  · exact n hk
  · exact n ⟨hx, hy⟩
theorem mDrops {N : Mem} {b : Int32} (w : RW (N.1 101)) (hs : 0 ≤ (N.1 100 3).toInt ∧ (N.1 100 3).toInt ≤ 5) : MOp N (¬ HB (N.1 101) b) False False (N.1 101 0 - 1) (dropF (N.1 101) b) (sX6_drops N b) := by
  unfold sX6_drops
  refine ite_ind (P := MOp N (¬ HB (N.1 101) b) False False (N.1 101 0 - 1) (dropF (N.1 101) b)) (fun q => by rw [tk_eta]; exact mo_bad ((hbM w).mp q)) (fun q => ?_)
  have hb : HB (N.1 101) b := nn (fun n => q ((hbM w).mpr n))
  refine tk_ind (P := MOp N (¬ HB (N.1 101) b) False False (N.1 101 0 - 1) (dropF (N.1 101) b)) _ _ (fun R hR => ?_)
  have e101 : R.1 101 = N.1 101 := by rw [hR, rem101 hs (by decide) (by decide)]
  refine tk_ind (P := MOp N (¬ HB (N.1 101) b) False False (N.1 101 0 - 1) (dropF (N.1 101) b)) _ _ (fun M2 h2 => ?_)
  have q2 : M2 = sr R 101 (upd (N.1 101) 0 (N.1 101 0 - 1)) := by rw [h2, e101, ← e101]; rfl
  refine tk_ind (P := MOp N (¬ HB (N.1 101) b) False False (N.1 101 0 - 1) (dropF (N.1 101) b)) _ _ (fun M3 h3 => ?_)
  have z : (sr R 101 (upd (N.1 101) 0 (N.1 101 0 - 1))).1 101 = upd (N.1 101) 0 (N.1 101 0 - 1) := sr_row _ _ _
  have q3 : M3 = sr R 101 (dropF (N.1 101) b) := by
    rw [h3, q2, z, pk_us]
    show (va_up (va_up R.1 101 _) 101 _, _) = (va_up R.1 101 _, _)
    rw [bx_uu]
    rfl
  rw [q3, sr_row, dropF_0]
  exact mo_ok (fun n => n hb) id id (macc MSame.rf hs (by rw [hR]) (fun _ _ => rfl))
theorem nowV {M : Mem} {f g : Row} (hf : M.1 101 = f) (hg : A12 (M.1 107) g) : sX6_learnsNow M = (ctK g (rwE f) 12, sr M 101 (learnF f g)) := by
  unfold sX6_learnsNow
  refine tk_ind (P := fun u : Int32 × Mem => u = (ctK g (rwE f) 12, sr M 101 (learnF f g))) _ _ (fun M1 h1 => ?_)
  refine tk_ind (P := fun u : Int32 × Mem => u = (ctK g (rwE f) 12, sr M 101 (learnF f g))) _ _ (fun M2 h2 => ?_)
  have q1 : M1 = sr M 101 (upd f 45 1) := by rw [h1, ← hf]; rfl
  have a1 : M1.1 101 = upd f 45 1 := by rw [q1, sr_row]
  have a2 : M1.1 107 = M.1 107 := by rw [q1, sr_ne _ _ (by decide)]
  have c1 : ctE (M1.1 107) (M1.1 101) 12 = ctK g (rwE f) 12 := ctE_g 12 (fun i hi => by rw [a2]; exact hg i hi) (fun i hi => by rw [a1, pk_un (by omega)]; rfl)
  have c2 : M2 = sr M 101 (learnF f g) := by
    rw [h2, a1, a2, q1]
    show (va_up (va_up M.1 101 _) 101 _, _) = (va_up M.1 101 _, _)
    rw [bx_uu]
    have : fb_put (upd f 45 1) (M.1 107) 46 12 = learnF f g := by
      funext k
      unfold learnF fb_put
      by_cases c : 46 ≤ k ∧ k < 46 + 12
      · rw [if_pos c, if_pos c]; exact hg _ (by omega)
      · rw [if_neg c, if_neg c]
    rw [this]
    rfl
  rw [c1, c2]
theorem mLearns {N : Mem} (w : RW (N.1 101)) (hs : 0 ≤ (N.1 100 3).toInt ∧ (N.1 100 3).toInt ≤ 5) : MOp N False (lbad (tr 12 (rwE (N.1 101)))) False (ctK (lgV (tr 12 (rwE (N.1 101)))) (rwE (N.1 101)) 12) (learnF (N.1 101) (lgV (tr 12 (rwE (N.1 101))))) (sX6_learns N) := by
  unfold sX6_learns
  refine tk_ind (P := MOp N False (lbad (tr 12 (rwE (N.1 101)))) False (ctK (lgV (tr 12 (rwE (N.1 101)))) (rwE (N.1 101)) 12) (learnF (N.1 101) (lgV (tr 12 (rwE (N.1 101)))))) _ _ (fun x1 h1 => ?_)
  have p := mcl (M := N) w.ce
  have k := kpX6_canLearn N
  rw [← h1] at p k
  rw [rwE_M] at p
  have s := MSame.kp k
  refine ite_ind (P := MOp N False (lbad (tr 12 (rwE (N.1 101)))) False (ctK (lgV (tr 12 (rwE (N.1 101)))) (rwE (N.1 101)) 12) (learnF (N.1 101) (lgV (tr 12 (rwE (N.1 101)))))) (fun q => by rw [tk_eta]; exact mo_no s id (p.1.mp q)) (fun q => ?_)
  have n := fun n => q (p.1.mpr n)
  have hs1 : 0 ≤ (x1.2.1 100 3).toInt ∧ (x1.2.1 100 3).toInt ≤ 5 := by rw [s.2.2.2.2.1]; exact hs
  refine tk_ind (P := MOp N False (lbad (tr 12 (rwE (N.1 101)))) False (ctK (lgV (tr 12 (rwE (N.1 101)))) (rwE (N.1 101)) 12) (learnF (N.1 101) (lgV (tr 12 (rwE (N.1 101)))))) _ _ (fun R hR => ?_)
  have e101 : R.1 101 = N.1 101 := by rw [hR, rem101 hs1 (by decide) (by decide)]; exact s.1
  have e107 : R.1 107 = x1.2.1 107 := by rw [hR, rem101 hs1 (by decide) (by decide)]
  rw [tk_eta, nowV e101 (by rw [e107]; exact p.2 n)]
  exact mo_ok id n id (macc s hs (by rw [hR]) (fun _ _ => rfl))
theorem mReads {N : Mem} {b : Int32} (w : RW (N.1 101)) (hs : 0 ≤ (N.1 100 3).toInt ∧ (N.1 100 3).toInt ≤ 5) : MOp N (¬ HB (N.1 101) b) (N.1 101 45 = 0 ∨ rbad (tr 12 (rwE (N.1 101))) (tr 4 (rwB (N.1 101) b)) (tr 12 (rwL (N.1 101)))) (N.1 101 0 = 8) (N.1 101 0) (addF (N.1 101) (rdV (tlV (tr 12 (rwE (N.1 101))) (tr 4 (rwB (N.1 101) b))) (tr 12 (rwL (N.1 101))))) (sX6_reads N b) := by
  unfold sX6_reads
  refine ite_ind (P := MOp N (¬ HB (N.1 101) b) (N.1 101 45 = 0 ∨ rbad (tr 12 (rwE (N.1 101))) (tr 4 (rwB (N.1 101) b)) (tr 12 (rwL (N.1 101)))) (N.1 101 0 = 8) (N.1 101 0) (addF (N.1 101) (rdV (tlV (tr 12 (rwE (N.1 101))) (tr 4 (rwB (N.1 101) b))) (tr 12 (rwL (N.1 101)))))) (fun q => by rw [tk_eta]; exact mo_bad ((hbM w).mp q)) (fun q => ?_)
  have hb : HB (N.1 101) b := nn (fun n => q ((hbM w).mpr n))
  refine tk_ind (P := MOp N (¬ HB (N.1 101) b) (N.1 101 45 = 0 ∨ rbad (tr 12 (rwE (N.1 101))) (tr 4 (rwB (N.1 101) b)) (tr 12 (rwL (N.1 101)))) (N.1 101 0 = 8) (N.1 101 0) (addF (N.1 101) (rdV (tlV (tr 12 (rwE (N.1 101))) (tr 4 (rwB (N.1 101) b))) (tr 12 (rwL (N.1 101)))))) _ _ (fun x2 h2 => ?_)
  have p := mcr (M := N) (b := b) (hb.r8 w) (w.c4 hb) w.ce (fun _ => w.cl) rfl rfl rfl
  have k := kpX6_canRead N b
  rw [← h2] at p k
  rw [tk_eta]
  exact madeV (MSame.kp k) (fun n => n hb) p.1 p.2 w hs
theorem mChains {N : Mem} {a b : Int32} (w : RW (N.1 101)) (hs : 0 ≤ (N.1 100 3).toInt ∧ (N.1 100 3).toInt ≤ 5) : MOp N (¬ HB (N.1 101) a ∨ ¬ HB (N.1 101) b) (cbad (tr 4 (rwB (N.1 101) a)) (tr 4 (rwB (N.1 101) b))) (N.1 101 0 = 8) (N.1 101 0) (addF (N.1 101) (chV (tr 4 (rwB (N.1 101) a)) (tr 4 (rwB (N.1 101) b)))) (sX6_chains N a b) := by
  unfold sX6_chains
  refine ite_ind (P := MOp N (¬ HB (N.1 101) a ∨ ¬ HB (N.1 101) b) (cbad (tr 4 (rwB (N.1 101) a)) (tr 4 (rwB (N.1 101) b))) (N.1 101 0 = 8) (N.1 101 0) (addF (N.1 101) (chV (tr 4 (rwB (N.1 101) a)) (tr 4 (rwB (N.1 101) b))))) (fun q => by rw [tk_eta]; exact mo_bad (Or.inl ((hbM w).mp q))) (fun q => ?_)
  have ha : HB (N.1 101) a := nn (fun n => q ((hbM w).mpr n))
  refine ite_ind (P := MOp N (¬ HB (N.1 101) a ∨ ¬ HB (N.1 101) b) (cbad (tr 4 (rwB (N.1 101) a)) (tr 4 (rwB (N.1 101) b))) (N.1 101 0 = 8) (N.1 101 0) (addF (N.1 101) (chV (tr 4 (rwB (N.1 101) a)) (tr 4 (rwB (N.1 101) b))))) (fun q => by rw [tk_eta]; exact mo_bad (Or.inr ((hbM w).mp q))) (fun q => ?_)
  have hb : HB (N.1 101) b := nn (fun n => q ((hbM w).mpr n))
  refine tk_ind (P := MOp N (¬ HB (N.1 101) a ∨ ¬ HB (N.1 101) b) (cbad (tr 4 (rwB (N.1 101) a)) (tr 4 (rwB (N.1 101) b))) (N.1 101 0 = 8) (N.1 101 0) (addF (N.1 101) (chV (tr 4 (rwB (N.1 101) a)) (tr 4 (rwB (N.1 101) b))))) _ _ (fun x2 h2 => ?_)
  have p := mch (M := N) (a := a) (b := b) (ha.r8 w) (hb.r8 w) (w.c4 ha) (w.c4 hb) rfl rfl
  have k := kpX6_canChain N a b
  rw [← h2] at p k
  rw [tk_eta]
  exact madeV (MSame.kp k) (fun n => n.elim (fun n => n ha) (fun n => n hb)) p.1 p.2 w hs
theorem mPeels {N : Mem} {i j k : Int32} (w : RW (N.1 101)) (hs : 0 ≤ (N.1 100 3).toInt ∧ (N.1 100 3).toInt ≤ 5) : MOp N (¬ HB (N.1 101) i ∨ ¬ HB (N.1 101) j ∨ ¬ HB (N.1 101) k) (pbad (tr 4 (rwB (N.1 101) i)) (tr 4 (rwB (N.1 101) j)) (tr 4 (rwB (N.1 101) k))) (N.1 101 0 = 8) (N.1 101 0) (addF (N.1 101) (gbV (pP (tr 4 (rwB (N.1 101) i)) (tr 4 (rwB (N.1 101) j)) (tr 4 (rwB (N.1 101) k))))) (sX6_peels N i j k) := by
  unfold sX6_peels
  refine ite_ind (P := MOp N (¬ HB (N.1 101) i ∨ ¬ HB (N.1 101) j ∨ ¬ HB (N.1 101) k) (pbad (tr 4 (rwB (N.1 101) i)) (tr 4 (rwB (N.1 101) j)) (tr 4 (rwB (N.1 101) k))) (N.1 101 0 = 8) (N.1 101 0) (addF (N.1 101) (gbV (pP (tr 4 (rwB (N.1 101) i)) (tr 4 (rwB (N.1 101) j)) (tr 4 (rwB (N.1 101) k)))))) (fun q => by rw [tk_eta]; exact mo_bad (Or.inl ((hbM w).mp q))) (fun q => ?_)
  have hi : HB (N.1 101) i := nn (fun n => q ((hbM w).mpr n))
  refine ite_ind (P := MOp N (¬ HB (N.1 101) i ∨ ¬ HB (N.1 101) j ∨ ¬ HB (N.1 101) k) (pbad (tr 4 (rwB (N.1 101) i)) (tr 4 (rwB (N.1 101) j)) (tr 4 (rwB (N.1 101) k))) (N.1 101 0 = 8) (N.1 101 0) (addF (N.1 101) (gbV (pP (tr 4 (rwB (N.1 101) i)) (tr 4 (rwB (N.1 101) j)) (tr 4 (rwB (N.1 101) k)))))) (fun q => by rw [tk_eta]; exact mo_bad (Or.inr (Or.inl ((hbM w).mp q)))) (fun q => ?_)
  have hj : HB (N.1 101) j := nn (fun n => q ((hbM w).mpr n))
  refine ite_ind (P := MOp N (¬ HB (N.1 101) i ∨ ¬ HB (N.1 101) j ∨ ¬ HB (N.1 101) k) (pbad (tr 4 (rwB (N.1 101) i)) (tr 4 (rwB (N.1 101) j)) (tr 4 (rwB (N.1 101) k))) (N.1 101 0 = 8) (N.1 101 0) (addF (N.1 101) (gbV (pP (tr 4 (rwB (N.1 101) i)) (tr 4 (rwB (N.1 101) j)) (tr 4 (rwB (N.1 101) k)))))) (fun q => by rw [tk_eta]; exact mo_bad (Or.inr (Or.inr ((hbM w).mp q)))) (fun q => ?_)
  have hk : HB (N.1 101) k := nn (fun n => q ((hbM w).mpr n))
  refine tk_ind (P := MOp N (¬ HB (N.1 101) i ∨ ¬ HB (N.1 101) j ∨ ¬ HB (N.1 101) k) (pbad (tr 4 (rwB (N.1 101) i)) (tr 4 (rwB (N.1 101) j)) (tr 4 (rwB (N.1 101) k))) (N.1 101 0 = 8) (N.1 101 0) (addF (N.1 101) (gbV (pP (tr 4 (rwB (N.1 101) i)) (tr 4 (rwB (N.1 101) j)) (tr 4 (rwB (N.1 101) k)))))) _ _ (fun x2 h2 => ?_)
  have p := mpe (M := N) (i := i) (j := j) (k := k) (hi.r8 w) (hj.r8 w) (hk.r8 w) (w.c4 hi) (w.c4 hj) (w.c4 hk) rfl rfl rfl
  have kk := kpX6_canPeel N i j k
  rw [← h2] at p kk
  rw [tk_eta]
  exact madeV (MSame.kp kk) (fun n => n.elim (fun n => n hi) (fun n => n.elim (fun n => n hj) (fun n => n hk))) p.1 p.2 w hs
theorem bt_cl {M : Mem} {b : Int32} (h : 0 ≤ b.toInt ∧ b.toInt < 8) (d : Nat) (hd : d ≤ 3) {k : Int32} (hk : k.toInt = (d : Int)) : (((fX6_boxAt M b) + 3) - k).toNatClampNeg = 1 + 4 * b.toNatClampNeg + (3 - d) := by
  have c := cl_T h.1
  have t : ((fX6_boxAt M b) + 3).toInt = 1 + 4 * b.toInt + 3 := bxkT (M := M) (b := b) (by omega) (k := 3) (by decide)
  apply cl_of
  rw [fb_subI (by omega) (by omega), t, hk]
  omega
theorem mTurns {N : Mem} {b : Int32} (w : RW (N.1 101)) (hs : 0 ≤ (N.1 100 3).toInt ∧ (N.1 100 3).toInt ≤ 5) : MOp N (¬ HB (N.1 101) b) False (N.1 101 0 = 8) (N.1 101 0) (addF (N.1 101) (tnV (rwB (N.1 101) b))) (sX6_turns N b) := by
  unfold sX6_turns
  refine ite_ind (P := MOp N (¬ HB (N.1 101) b) False (N.1 101 0 = 8) (N.1 101 0) (addF (N.1 101) (tnV (rwB (N.1 101) b)))) (fun q => by rw [tk_eta]; exact mo_bad ((hbM w).mp q)) (fun q => ?_)
  have hb : HB (N.1 101) b := nn (fun n => q ((hbM w).mpr n))
  rw [bt_cl (hb.r8 w) 0 (by decide) rfl]
  refine tk_ind (P := MOp N (¬ HB (N.1 101) b) False (N.1 101 0 = 8) (N.1 101 0) (addF (N.1 101) (tnV (rwB (N.1 101) b)))) _ _ (fun M1 h1 => ?_)
  rw [bt_cl (hb.r8 w) 1 (by decide) rfl]
  refine tk_ind (P := MOp N (¬ HB (N.1 101) b) False (N.1 101 0 = 8) (N.1 101 0) (addF (N.1 101) (tnV (rwB (N.1 101) b)))) _ _ (fun M2 h2 => ?_)
  rw [bt_cl (hb.r8 w) 2 (by decide) rfl]
  refine tk_ind (P := MOp N (¬ HB (N.1 101) b) False (N.1 101 0 = 8) (N.1 101 0) (addF (N.1 101) (tnV (rwB (N.1 101) b)))) _ _ (fun M3 h3 => ?_)
  rw [bt_cl (hb.r8 w) 3 (by decide) rfl]
  refine tk_ind (P := MOp N (¬ HB (N.1 101) b) False (N.1 101 0 = 8) (N.1 101 0) (addF (N.1 101) (tnV (rwB (N.1 101) b)))) _ _ (fun M4 h4 => ?_)
  have k1 : ∀ i, i ≠ 108 → M1.1 i = N.1 i := fun i hi => by rw [h1, st_ne _ _ _ hi]
  have k2 : ∀ i, i ≠ 108 → M2.1 i = N.1 i := fun i hi => by rw [h2, st_ne _ _ _ hi, k1 i hi]
  have k3 : ∀ i, i ≠ 108 → M3.1 i = N.1 i := fun i hi => by rw [h3, st_ne _ _ _ hi, k2 i hi]
  have k4 : ∀ i, i ≠ 108 → M4.1 i = N.1 i := fun i hi => by rw [h4, st_ne _ _ _ hi, k3 i hi]
  rw [tk_eta]
  refine madeV ⟨k4 _ (by decide), k4 _ (by decide), k4 _ (by decide), k4 _ (by decide), by rw [k4 _ (by decide)], by rw [k4 _ (by decide)]⟩ (fun n => n hb) ⟨fun n => absurd n (by decide), fun n => n.elim⟩ (fun _ => ?_) w hs
  refine r4 ?_ ?_ ?_ ?_
  · rw [h4, st_at_ne _ _ _ _ (by decide), h3, st_at_ne _ _ _ _ (by decide), h2, st_at_ne _ _ _ _ (by decide), h1, st_at]; rfl
  · rw [h4, st_at_ne _ _ _ _ (by decide), h3, st_at_ne _ _ _ _ (by decide), h2, st_at, k1 _ (by decide)]; rfl
  · rw [h4, st_at_ne _ _ _ _ (by decide), h3, st_at, k2 _ (by decide)]; rfl
  · rw [h4, st_at, k3 _ (by decide)]; rfl
theorem sim_box {C N : Mem}  (h : RelC C N) : Sim (sX5_box C ) (sX6_box N ) := by
  obtain ⟨d, k⟩ := draftV h
  have w := h.2.1.2
  have e : sX5_box C  = sX5_settled (sX4_addThrough (sX5_drafted C) (C.2.1 1) ).2 (sX4_addThrough (sX5_drafted C) (C.2.1 1) ).1 := by
    unfold sX5_box
    exact tk_set _ (fun M1 => sX4_addThrough M1 (C.2.1 1) )
  rw [e]
  exact simS h (kd_op k (kfX4_addThrough _ _)) (cThrough d w) (mBox w h.2.2.1.2) (fun _ _ n => ⟨w.1.1, rw_add w (c4_s4 cn_0 cn_1 cn_1 cn_0) n⟩)
theorem sim_sets {C N : Mem} {b i x y : Int32} (h : RelC C N) : Sim (sX5_sets C b i x y) (sX6_sets N b i x y) := by
  obtain ⟨d, k⟩ := draftV h
  have w := h.2.1.2
  have e : sX5_sets C b i x y = sX5_settled (sX2_putNumber (sX5_drafted C) (C.2.1 1) b i x y).2 (sX2_putNumber (sX5_drafted C) (C.2.1 1) b i x y).1 := by
    unfold sX5_sets
    exact tk_set _ (fun M1 => sX2_putNumber M1 (C.2.1 1) b i x y)
  rw [e]
  refine simS h (kd_op2 k (kfX2_putNumber _ _ _ _ _ _)) (cSets d w) (mSets w h.2.2.1.2) (fun n _ _ => ?_)
  have hb : HB (N.1 101) b := nn (fun q => n (Or.inl q))
  have hk : 0 ≤ i.toInt ∧ i.toInt < 4 := nn (fun q => n (Or.inr (Or.inl q)))
  have ck := cl_T hk.1
  exact ⟨(w.2.2.1 _ _ hb.n (by omega)).1, rw_set w hb.n (by omega) (cn_num _ _)⟩
theorem sim_errs {C N : Mem} {i x y : Int32} (h : RelC C N) : Sim (sX5_errs C i x y) (sX6_errs N i x y) := by
  obtain ⟨d, k⟩ := draftV h
  have w := h.2.1.2
  have e : sX5_errs C i x y = sX5_settled (sX2_putError (sX5_drafted C) (C.2.1 1) i x y).2 (sX2_putError (sX5_drafted C) (C.2.1 1) i x y).1 := by
    unfold sX5_errs
    exact tk_set _ (fun M1 => sX2_putError M1 (C.2.1 1) i x y)
  rw [e]
  refine simS h (kd_op2 k (kfX2_putError _ _ _ _ _)) (cErrs d w) (mErrs h.2.2.1.2) (fun n _ _ => ?_)
  have hk : 0 ≤ i.toInt ∧ i.toInt < 12 := nn (fun q => n (Or.inl q))
  have ck := cl_T hk.1
  exact ⟨(w.2.2.2.1 _ (by omega)).1, rw_err w (by omega) (cn_num _ _)⟩
theorem sim_drops {C N : Mem} {b : Int32} (h : RelC C N) : Sim (sX5_drops C b) (sX6_drops N b) := by
  obtain ⟨d, k⟩ := draftV h
  have w := h.2.1.2
  have e : sX5_drops C b = sX5_settled (sX2_removeBox (sX5_drafted C) (C.2.1 1) b).2 (sX2_removeBox (sX5_drafted C) (C.2.1 1) b).1 := by
    unfold sX5_drops
    exact tk_set _ (fun M1 => sX2_removeBox M1 (C.2.1 1) b)
  rw [e]
  refine simS h (kd_op2 k (kfX2_removeBox _ _ _)) (cDrops d w) (mDrops w h.2.2.1.2) (fun n _ _ => ?_)
  have hb : HB (N.1 101) b := nn n
  have b1 := hb.1
  have b2 := hb.2
  exact ⟨by rw [(hb_pos w hb).1]; omega, rw_drop w hb⟩
theorem sim_learns {C N : Mem}  (h : RelC C N) : Sim (sX5_learns C ) (sX6_learns N ) := by
  obtain ⟨d, k⟩ := draftV h
  have w := h.2.1.2
  have e : sX5_learns C  = sX5_settled (sX4_learnErrors (sX5_drafted C) (C.2.1 1) ).2 (sX4_learnErrors (sX5_drafted C) (C.2.1 1) ).1 := by
    unfold sX5_learns
    exact tk_set _ (fun M1 => sX4_learnErrors M1 (C.2.1 1) )
  rw [e]
  exact simS h (kd_op k (kfX4_learnErrors _ _)) (cLearns d w) (mLearns w h.2.2.1.2) (fun _ _ _ => ⟨(ctK_r _ _ 12 (by decide)).1, rw_learn w (c12_lg _)⟩)
theorem sim_reads {C N : Mem} {b : Int32} (h : RelC C N) : Sim (sX5_reads C b) (sX6_reads N b) := by
  obtain ⟨d, k⟩ := draftV h
  have w := h.2.1.2
  have e : sX5_reads C b = sX5_settled (sX4_addReading (sX5_drafted C) (C.2.1 1) b).2 (sX4_addReading (sX5_drafted C) (C.2.1 1) b).1 := by
    unfold sX5_reads
    exact tk_set _ (fun M1 => sX4_addReading M1 (C.2.1 1) b)
  rw [e]
  exact simS h (kd_op k (kfX4_addReading _ _ _)) (cRead d w) (mReads w h.2.2.1.2) (fun _ _ n => ⟨w.1.1, rw_add w (c4_rd _ _) n⟩)
theorem sim_chains {C N : Mem} {a b : Int32} (h : RelC C N) : Sim (sX5_chains C a b) (sX6_chains N a b) := by
  obtain ⟨d, k⟩ := draftV h
  have w := h.2.1.2
  have e : sX5_chains C a b = sX5_settled (sX4_addChain (sX5_drafted C) (C.2.1 1) a b).2 (sX4_addChain (sX5_drafted C) (C.2.1 1) a b).1 := by
    unfold sX5_chains
    exact tk_set _ (fun M1 => sX4_addChain M1 (C.2.1 1) a b)
  rw [e]
  exact simS h (kd_op k (kfX4_addChain _ _ _ _)) (cChain d w) (mChains w h.2.2.1.2) (fun _ _ n => ⟨w.1.1, rw_add w (c4_bx _) n⟩)
theorem sim_peels {C N : Mem} {m a b : Int32} (h : RelC C N) : Sim (sX5_peels C m a b) (sX6_peels N m a b) := by
  obtain ⟨d, k⟩ := draftV h
  have w := h.2.1.2
  have e : sX5_peels C m a b = sX5_settled (sX4_addPeeled (sX5_drafted C) (C.2.1 1) m a b).2 (sX4_addPeeled (sX5_drafted C) (C.2.1 1) m a b).1 := by
    unfold sX5_peels
    exact tk_set _ (fun M1 => sX4_addPeeled M1 (C.2.1 1) m a b)
  rw [e]
  exact simS h (kd_op k (kfX4_addPeeled _ _ _ _ _)) (cPeel d w) (mPeels w h.2.2.1.2) (fun _ _ n => ⟨w.1.1, rw_add w (c4_bx _) n⟩)
theorem sim_turns {C N : Mem} {b : Int32} (h : RelC C N) : Sim (sX5_turns C b) (sX6_turns N b) := by
  obtain ⟨d, k⟩ := draftV h
  have w := h.2.1.2
  have e : sX5_turns C b = sX5_settled (sX4_addTurned (sX5_drafted C) (C.2.1 1) b).2 (sX4_addTurned (sX5_drafted C) (C.2.1 1) b).1 := by
    unfold sX5_turns
    exact tk_set _ (fun M1 => sX4_addTurned M1 (C.2.1 1) b)
  rw [e]
  exact simS h (kd_op k (kfX4_addTurned _ _ _)) (cTurn d w) (mTurns w h.2.2.1.2) (fun q _ n => ⟨w.1.1, rw_add w (c4_s4 (w.c4 (nn q) 3 (by decide)) (w.c4 (nn q) 2 (by decide)) (w.c4 (nn q) 1 (by decide)) (w.c4 (nn q) 0 (by decide))) n⟩)
