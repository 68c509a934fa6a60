/-! ===== the class's forms as values ===== -/
theorem fillV (M : Mem) (j : Nat) (a b c d : Int32) : A4 ((sX0_fill M j a b c d).1 j) (s4 a b c d) := by
  unfold sX0_fill
  refine tk_ind (P := fun u : Mem => A4 (u.1 j) (s4 a b c d)) _ _ (fun M1 h1 => ?_)
  refine tk_ind (P := fun u : Mem => A4 (u.1 j) (s4 a b c d)) _ _ (fun M2 h2 => ?_)
  refine tk_ind (P := fun u : Mem => A4 (u.1 j) (s4 a b c d)) _ _ (fun M3 h3 => ?_)
  refine tk_ind (P := fun u : Mem => A4 (u.1 j) (s4 a b c d)) _ _ (fun M4 h4 => ?_)
  refine r4 ?_ ?_ ?_ ?_
  · rw [s4_0, h4, st_at_ne _ _ _ _ (by decide), h3, st_at_ne _ _ _ _ (by decide), h2, st_at_ne _ _ _ _ (by decide), h1, st_at]
  · rw [s4_1, h4, st_at_ne _ _ _ _ (by decide), h3, st_at_ne _ _ _ _ (by decide), h2, st_at]
  · rw [s4_2, h4, st_at_ne _ _ _ _ (by decide), h3, st_at]
  · rw [s4_3, h4, st_at]
theorem divV {M : Mem} {j : Nat} {z : Int32} {v : Nat → Int32} (h : A4 (M.1 j) v) (hv : C4 v) (hz : CN z) : ∀ k, k < 4 → (sX0_divideBy M j z).1 j k = fX1_over (v k) z := by
  unfold sX0_divideBy
  refine tk_ind (P := fun u : Mem => ∀ k, k < 4 → u.1 j k = fX1_over (v k) z) _ _ (fun M1 h1 => ?_)
  rw [h 0 (by decide), h 1 (by decide), h 2 (by decide), h 3 (by decide), divE (hv 0 (by decide)) hz, divE (hv 1 (by decide)) hz, divE (hv 2 (by decide)) hz, divE (hv 3 (by decide)) hz] at h1
  have q := fillV M j (fX1_over (v 0) z) (fX1_over (v 1) z) (fX1_over (v 2) z) (fX1_over (v 3) z)
  rw [← h1] at q
  exact r4 (q 0 (by decide)) (q 1 (by decide)) (q 2 (by decide)) (q 3 (by decide))
theorem detC {M : Mem} {j : Nat} : fX0_determinant M j = dtV (M.1 j) := rfl
theorem cTf {M : Mem} {j q : Nat} (hs : C4 (M.1 q)) : CP j 4 (M.1 q 2 = 0) (tfV (M.1 q)) (sX0_becomeTransfer M j q) := by
  unfold sX0_becomeTransfer
  refine ite_ind (P := CP j 4 (M.1 q 2 = 0) (tfV (M.1 q))) (fun c => cp_no c) (fun c => ?_)
  refine tk_ind (P := CP j 4 (M.1 q 2 = 0) (tfV (M.1 q))) _ _ (fun M1 h1 => ?_)
  have f1 := fillV M j (fX1_minus 0 (fX0_determinant M q)) (M.1 q 0) (fX1_minus 0 (M.1 q 3)) 10007
  rw [← h1] at f1
  refine tk_ind (P := CP j 4 (M.1 q 2 = 0) (tfV (M.1 q))) _ _ (fun M2 h2 => ?_)
  have d := divV f1 (c4_s4 (cn_minus _ _) (hs 0 (by decide)) (cn_minus _ _) cn_1) (hs 2 (by decide))
  rw [← h2] at d
  refine cp_yes c (r4 ?_ ?_ ?_ ?_)
  · rw [d 0 (by decide), s4_0, tfV_0, detC]
  · rw [d 1 (by decide), s4_1, tfV_1]
  · rw [d 2 (by decide), s4_2, tfV_2]
  · rw [d 3 (by decide), s4_3, tfV_3]
theorem cIv {M : Mem} {j : Nat} (hs : C4 (M.1 j)) : CP j 4 (dtV (M.1 j) = 0) (ivV (M.1 j)) (sX0_invert M j) := by
  unfold sX0_invert
  rw [detC]
  refine ite_ind (P := CP j 4 (dtV (M.1 j) = 0) (ivV (M.1 j))) (fun c => cp_no c) (fun c => ?_)
  refine tk_ind (P := CP j 4 (dtV (M.1 j) = 0) (ivV (M.1 j))) _ _ (fun M1 h1 => ?_)
  have f1 := fillV M j (M.1 j 3) (fX1_minus 0 (M.1 j 1)) (fX1_minus 0 (M.1 j 2)) (M.1 j 0)
  rw [← h1] at f1
  refine tk_ind (P := CP j 4 (dtV (M.1 j) = 0) (ivV (M.1 j))) _ _ (fun M2 h2 => ?_)
  have d := divV f1 (c4_s4 (hs 3 (by decide)) (cn_minus _ _) (cn_minus _ _) (hs 0 (by decide))) (cn_dt (M.1 j))
  rw [← h2] at d
  refine cp_yes c (r4 ?_ ?_ ?_ ?_)
  · rw [d 0 (by decide), s4_0, ivV_0]
  · rw [d 1 (by decide), s4_1, ivV_1]
  · rw [d 2 (by decide), s4_2, ivV_2]
  · rw [d 3 (by decide), s4_3, ivV_3]
theorem cPr {M : Mem} {j p q : Nat} : A4 ((sX0_becomeProduct M j p q).1 j) (prV (M.1 p) (M.1 q)) := by
  unfold sX0_becomeProduct
  refine tk_ind (P := fun u : Mem => A4 (u.1 j) (prV (M.1 p) (M.1 q))) _ _ (fun M1 h1 => ?_)
  have f := fillV M j (fX1_pairs (M.1 p 0) (M.1 q 0) (M.1 p 1) (M.1 q 2)) (fX1_pairs (M.1 p 0) (M.1 q 1) (M.1 p 1) (M.1 q 3)) (fX1_pairs (M.1 p 2) (M.1 q 0) (M.1 p 3) (M.1 q 2)) (fX1_pairs (M.1 p 2) (M.1 q 1) (M.1 p 3) (M.1 q 3))
  rw [← h1] at f
  refine r4 ?_ ?_ ?_ ?_
  · rw [f 0 (by decide), s4_0, prV_0]
  · rw [f 1 (by decide), s4_1, prV_1]
  · rw [f 2 (by decide), s4_2, prV_2]
  · rw [f 3 (by decide), s4_3, prV_3]
theorem cGb {M : Mem} {j q : Nat} (hs : C4 (M.1 q)) : CP j 4 (M.1 q 3 = 0) (gbV (M.1 q)) (sX0_becomeBoxOf M j q) := by
  unfold sX0_becomeBoxOf
  refine ite_ind (P := CP j 4 (M.1 q 3 = 0) (gbV (M.1 q))) (fun c => cp_no c) (fun c => ?_)
  refine tk_ind (P := CP j 4 (M.1 q 3 = 0) (gbV (M.1 q))) _ _ (fun M1 h1 => ?_)
  have f1 := fillV M j (M.1 q 1) (fX0_determinant M q) 10007 (fX1_minus 0 (M.1 q 2))
  rw [← h1] at f1
  refine tk_ind (P := CP j 4 (M.1 q 3 = 0) (gbV (M.1 q))) _ _ (fun M2 h2 => ?_)
  have d := divV f1 (c4_s4 (hs 1 (by decide)) (cn_dt (M.1 q)) cn_1 (cn_minus _ _)) (hs 3 (by decide))
  rw [← h2] at d
  refine cp_yes c (r4 ?_ ?_ ?_ ?_)
  · rw [d 0 (by decide), s4_0, gbV_0]
  · rw [d 1 (by decide), s4_1, gbV_1, detC]
  · rw [d 2 (by decide), s4_2, gbV_2]
  · rw [d 3 (by decide), s4_3, gbV_3]
theorem cS2 {M : Mem} {j q : Nat} (hs : C4 (M.1 q)) : CP j 4 (s2D (M.1 q) = 0) (s2V (M.1 q)) (sX0_becomeSecondForm M j q) := by
  unfold sX0_becomeSecondForm
  refine tk_ind (P := CP j 4 (s2D (M.1 q) = 0) (s2V (M.1 q))) _ _ (fun x1 hx => ?_)
  have ex : x1 = s2D (M.1 q) := by rw [hx, s2D]
  rw [ex]
  refine ite_ind (P := CP j 4 (s2D (M.1 q) = 0) (s2V (M.1 q))) (fun c => cp_no c) (fun c => ?_)
  rw [twiceE (hs 1 (by decide)), twiceE (hs 2 (by decide))]
  refine tk_ind (P := CP j 4 (s2D (M.1 q) = 0) (s2V (M.1 q))) _ _ (fun M1 h1 => ?_)
  have f1 := fillV M j (fX1_plus (fX1_times (fX1_plus 10007 (M.1 q 0)) (fX1_minus 10007 (M.1 q 3))) (fX1_times (M.1 q 1) (M.1 q 2))) (fX1_plus (M.1 q 1) (M.1 q 1)) (fX1_plus (M.1 q 2) (M.1 q 2)) (fX1_plus (fX1_times (fX1_minus 10007 (M.1 q 0)) (fX1_plus 10007 (M.1 q 3))) (fX1_times (M.1 q 1) (M.1 q 2)))
  rw [← h1] at f1
  refine tk_ind (P := CP j 4 (s2D (M.1 q) = 0) (s2V (M.1 q))) _ _ (fun M2 h2 => ?_)
  have d := divV f1 (c4_s4 (cn_plus _ _) (cn_plus _ _) (cn_plus _ _) (cn_plus _ _)) (cn_s2D (M.1 q))
  rw [← h2] at d
  refine cp_yes c (r4 ?_ ?_ ?_ ?_)
  · rw [d 0 (by decide), s4_0, s2V_0]
  · rw [d 1 (by decide), s4_1, s2V_1]
  · rw [d 2 (by decide), s4_2, s2V_2]
  · rw [d 3 (by decide), s4_3, s2V_3]
theorem CP.to {j n : Nat} {b c : Prop} {v w : Nat → Int32} {u : Int32 × Mem} (h : CP j n b v u) (hb : b = c) (hv : ∀ k, k < n → v k = w k) : CP j n c w u := by
  subst hb
  exact ⟨h.1, fun q k hk => (h.2 q k hk).trans (hv k hk)⟩
theorem cTl {M : Mem} {p q : Nat} : CP 3 4 (TB (M.1 p) (M.1 q)) (tlV (M.1 p) (M.1 q)) (sX4_tells M p q) := by
  unfold sX4_tells
  refine tk_ind (P := CP 3 4 (TB (M.1 p) (M.1 q)) (tlV (M.1 p) (M.1 q))) _ _ (fun x1 h1 => ?_)
  refine tk_ind (P := CP 3 4 (TB (M.1 p) (M.1 q)) (tlV (M.1 p) (M.1 q))) _ _ (fun x2 h2 => ?_)
  refine tk_ind (P := CP 3 4 (TB (M.1 p) (M.1 q)) (tlV (M.1 p) (M.1 q))) _ _ (fun x3 h3 => ?_)
  have e3 : x3 = tD (M.1 p) (M.1 q) := by rw [h3, h1, tD, detC]
  refine tk_ind (P := CP 3 4 (TB (M.1 p) (M.1 q)) (tlV (M.1 p) (M.1 q))) _ _ (fun x4 h4 => ?_)
  have e4 : x4 = tF (M.1 p) (M.1 q) := by rw [h4, h2, tF, detC]
  rw [e3, e4]
  refine ite_ind (P := CP 3 4 (TB (M.1 p) (M.1 q)) (tlV (M.1 p) (M.1 q))) (fun c => cp_no (Or.inl c)) (fun c => ?_)
  refine ite_ind (P := CP 3 4 (TB (M.1 p) (M.1 q)) (tlV (M.1 p) (M.1 q))) (fun c2 => cp_no (Or.inr c2)) (fun c2 => ?_)
  refine tk_ind (P := CP 3 4 (TB (M.1 p) (M.1 q)) (tlV (M.1 p) (M.1 q))) _ _ (fun x5 h5 => ?_)
  refine tk_ind (P := CP 3 4 (TB (M.1 p) (M.1 q)) (tlV (M.1 p) (M.1 q))) _ _ (fun x6 h6 => ?_)
  refine tk_ind (P := CP 3 4 (TB (M.1 p) (M.1 q)) (tlV (M.1 p) (M.1 q))) _ _ (fun M7 h7 => ?_)
  rw [h5, h6] at h7
  have f := fillV M 3 (fX1_plus (M.1 p 0) (fX1_over (fX1_times (M.1 p 2) (fX1_minus (M.1 q 0) (fX1_times (M.1 p 4) (fX0_determinant M q)))) (tD (M.1 p) (M.1 q)))) (fX1_plus (M.1 p 9) (fX1_over (fX1_times (M.1 p 11) (M.1 q 1)) (tF (M.1 p) (M.1 q)))) (fX1_plus (M.1 p 3) (fX1_over (fX1_times (M.1 p 5) (M.1 q 2)) (tD (M.1 p) (M.1 q)))) (fX1_plus (M.1 p 6) (fX1_over (fX1_times (M.1 p 8) (fX1_minus (M.1 q 3) (fX1_times (M.1 p 10) (fX0_determinant M q)))) (tF (M.1 p) (M.1 q))))
  rw [← h7] at f
  refine cp_yes (fun h => h.elim c c2) (r4 ?_ ?_ ?_ ?_)
  · rw [f 0 (by decide), s4_0, tlV_0, detC]
  · rw [f 1 (by decide), s4_1, tlV_1]
  · rw [f 2 (by decide), s4_2, tlV_2]
  · rw [f 3 (by decide), s4_3, tlV_3, detC]
theorem cTl' {M : Mem} {p q : Nat} {e s : Nat → Int32} (he : tr 12 (M.1 p) = e) (hs : A4 (M.1 q) s) : CP 3 4 (TB e s) (tlV e s) (sX4_tells M p q) := by
  subst he
  exact cTl.to (TB_g (a12_tr _) hs) (tl_g (a12_tr _) hs)
/-- reading: what is left of what is told -/
theorem cSt {M : Mem} {q : Nat} {t g : Nat → Int32} (hg : tr 12 (M.1 q) = g) (ht : A4 (M.1 3) t) : CP 4 4 (g 2 = 0 ∨ g 5 = 0 ∨ g 8 = 0 ∨ g 11 = 0) (s4 (rn0 t g) (rn1 t g) (rn2 t g) (rn3 t g)) (sX4_strip M q) := by
  have k : ∀ i, i < 12 → M.1 q i = g i := fun i hi => by rw [← hg, tr_at _ hi]
  unfold sX4_strip
  rw [k 0 (by decide), k 2 (by decide), k 3 (by decide), k 5 (by decide), k 6 (by decide), k 8 (by decide), k 9 (by decide), k 11 (by decide), ht 0 (by decide), ht 1 (by decide), ht 2 (by decide), ht 3 (by decide)]
  refine ite_ind (P := CP 4 4 (g 2 = 0 ∨ g 5 = 0 ∨ g 8 = 0 ∨ g 11 = 0) (s4 (rn0 t g) (rn1 t g) (rn2 t g) (rn3 t g))) (fun c => cp_no (Or.inl c)) (fun c1 => ?_)
  refine ite_ind (P := CP 4 4 (g 2 = 0 ∨ g 5 = 0 ∨ g 8 = 0 ∨ g 11 = 0) (s4 (rn0 t g) (rn1 t g) (rn2 t g) (rn3 t g))) (fun c => cp_no (Or.inr (Or.inl c))) (fun c2 => ?_)
  refine ite_ind (P := CP 4 4 (g 2 = 0 ∨ g 5 = 0 ∨ g 8 = 0 ∨ g 11 = 0) (s4 (rn0 t g) (rn1 t g) (rn2 t g) (rn3 t g))) (fun c => cp_no (Or.inr (Or.inr (Or.inl c)))) (fun c3 => ?_)
  refine ite_ind (P := CP 4 4 (g 2 = 0 ∨ g 5 = 0 ∨ g 8 = 0 ∨ g 11 = 0) (s4 (rn0 t g) (rn1 t g) (rn2 t g) (rn3 t g))) (fun c => cp_no (Or.inr (Or.inr (Or.inr c)))) (fun c4 => ?_)
  rw [show fX1_over (fX1_minus (t 0) (g 0)) (g 2) = rn0 t g from by rw [rn0], show fX1_over (fX1_minus (t 1) (g 9)) (g 11) = rn1 t g from by rw [rn1], show fX1_over (fX1_minus (t 2) (g 3)) (g 5) = rn2 t g from by rw [rn2], show fX1_over (fX1_minus (t 3) (g 6)) (g 8) = rn3 t g from by rw [rn3]]
  refine tk_ind (P := CP 4 4 (g 2 = 0 ∨ g 5 = 0 ∨ g 8 = 0 ∨ g 11 = 0) (s4 (rn0 t g) (rn1 t g) (rn2 t g) (rn3 t g))) _ _ (fun M1 h1 => ?_)
  refine cp_yes (fun h => ?_) ?_
  · rcases h with h | h | h | h
    · exact c1 h
    · exact c2 h
    · exact c3 h
    · exact c4 h
  · rw [h1]
    exact fillV _ _ _ _ _ _
theorem cSo {M : Mem} {q : Nat} {t g : Nat → Int32} (hg : tr 12 (M.1 q) = g) (hp : A4 (M.1 4) (s4 (rn0 t g) (rn1 t g) (rn2 t g) (rn3 t g))) : CP 8 4 (rqq t g = 0) (rdV t g) (sX4_solve M q) := by
  have k : ∀ i, i < 12 → M.1 q i = g i := fun i hi => by rw [← hg, tr_at _ hi]
  have p0 : M.1 4 0 = rn0 t g := (hp 0 (by decide)).trans (s4_0 _ _ _ _)
  have p1 : M.1 4 1 = rn1 t g := (hp 1 (by decide)).trans (s4_1 _ _ _ _)
  have p2 : M.1 4 2 = rn2 t g := (hp 2 (by decide)).trans (s4_2 _ _ _ _)
  have p3 : M.1 4 3 = rn3 t g := (hp 3 (by decide)).trans (s4_3 _ _ _ _)
  have u1 : fX1_plus 10007 (fX1_times (rn0 t g) (g 1)) = ro1 t g := by rw [ro1]
  have u2 : fX1_plus 10007 (fX1_times (rn3 t g) (g 7)) = ro2 t g := by rw [ro2]
  have u3 : fX1_times (rn2 t g) (rn1 t g) = rtt t g := by rw [rtt]
  unfold sX4_solve
  rw [k 1 (by decide), k 4 (by decide), k 7 (by decide), k 10 (by decide), p0, p1, p2, p3, u1, u2, u3]
  refine tk_ind (P := CP 8 4 (rqq t g = 0) (rdV t g)) _ _ (fun x1 h1 => ?_)
  have e1 : x1 = rqq t g := by rw [h1, rqq]
  rw [e1]
  refine ite_ind (P := CP 8 4 (rqq t g = 0) (rdV t g)) (fun c => cp_no c) (fun c => ?_)
  refine tk_ind (P := CP 8 4 (rqq t g = 0) (rdV t g)) _ _ (fun x2 h2 => ?_)
  refine tk_ind (P := CP 8 4 (rqq t g = 0) (rdV t g)) _ _ (fun x3 h3 => ?_)
  have v0 : fX1_minus (fX1_times (rn0 t g) (ro2 t g)) (fX1_times (g 4) (rtt t g)) = rv0 t g := by rw [rv0]
  have v1 : fX1_times x2 (rn1 t g) = rv1 t g := by rw [h2, rv1]
  have v2 : fX1_times x3 (rn2 t g) = rv2 t g := by rw [h3, rv2]
  have v3 : fX1_minus (fX1_times (rn3 t g) (ro1 t g)) (fX1_times (g 10) (rtt t g)) = rv3 t g := by rw [rv3]
  rw [v0, v1, v2, v3]
  refine tk_ind (P := CP 8 4 (rqq t g = 0) (rdV t g)) _ _ (fun M4 h4 => ?_)
  have f := fillV M 8 (rv0 t g) (rv1 t g) (rv2 t g) (rv3 t g)
  rw [← h4] at f
  refine tk_ind (P := CP 8 4 (rqq t g = 0) (rdV t g)) _ _ (fun M5 h5 => ?_)
  have d := divV f (c4_s4 (by rw [rv0]; exact cn_minus _ _) (by rw [rv1]; exact cn_times _ _) (by rw [rv2]; exact cn_times _ _) (by rw [rv3]; exact cn_minus _ _)) (z := rqq t g) (by rw [rqq]; exact cn_minus _ _)
  rw [← h5] at d
  exact cp_yes c (fun k hk => by rw [d k hk, rdV])
