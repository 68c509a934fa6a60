theorem er_0 (M : Mem) : fX6_err M 0 = eR M 0 := rfl
theorem er_1 (M : Mem) : fX6_err M 1 = eR M 1 := rfl
theorem er_2 (M : Mem) : fX6_err M 2 = eR M 2 := rfl
theorem er_3 (M : Mem) : fX6_err M 3 = eR M 3 := rfl
theorem er_4 (M : Mem) : fX6_err M 4 = eR M 4 := rfl
theorem er_5 (M : Mem) : fX6_err M 5 = eR M 5 := rfl
theorem er_6 (M : Mem) : fX6_err M 6 = eR M 6 := rfl
theorem er_7 (M : Mem) : fX6_err M 7 = eR M 7 := rfl
theorem er_8 (M : Mem) : fX6_err M 8 = eR M 8 := rfl
theorem er_9 (M : Mem) : fX6_err M 9 = eR M 9 := rfl
theorem er_10 (M : Mem) : fX6_err M 10 = eR M 10 := rfl
theorem er_11 (M : Mem) : fX6_err M 11 = eR M 11 := rfl
theorem lr_0 (M : Mem) : fX6_lrn M 0 = lR M 0 := rfl
theorem lr_1 (M : Mem) : fX6_lrn M 1 = lR M 1 := rfl
theorem lr_2 (M : Mem) : fX6_lrn M 2 = lR M 2 := rfl
theorem lr_3 (M : Mem) : fX6_lrn M 3 = lR M 3 := rfl
theorem lr_4 (M : Mem) : fX6_lrn M 4 = lR M 4 := rfl
theorem lr_5 (M : Mem) : fX6_lrn M 5 = lR M 5 := rfl
theorem lr_6 (M : Mem) : fX6_lrn M 6 = lR M 6 := rfl
theorem lr_7 (M : Mem) : fX6_lrn M 7 = lR M 7 := rfl
theorem lr_8 (M : Mem) : fX6_lrn M 8 = lR M 8 := rfl
theorem lr_9 (M : Mem) : fX6_lrn M 9 = lR M 9 := rfl
theorem lr_10 (M : Mem) : fX6_lrn M 10 = lR M 10 := rfl
theorem lr_11 (M : Mem) : fX6_lrn M 11 = lR M 11 := rfl
theorem eRg {M M' : Mem} (h : M'.1 101 = M.1 101) : eR M' = eR M := by unfold eR; rw [h]
theorem lRg {M M' : Mem} (h : M'.1 101 = M.1 101) : lR M' = lR M := by unfold lR; rw [h]
theorem bRg {M M' : Mem} (b : Int32) (h : M'.1 101 = M.1 101) : bxR M' b = bxR M b := by unfold bxR; rw [h]
theorem belowE {a b c d w : Int32} (ha : CN a) (hb : CN b) (hc : CN c) (hd : CN d) (hw : CN w) : fX6_belowOf a b c d w = fX1_plus (fX1_minus (fX1_minus 10007 (fX1_times a b)) (fX1_times c d)) (fX1_times (fX1_times a c) w) := by
  unfold fX6_belowOf
  rw [plusE, lessE, lessE, byE ha hb, byE hc hd, byE ha hc, byE (cn_times _ _) hw]
theorem told4E {M : Mem} {i1 i2 i3 i4 a b : Int32} (h1 : fX6_err M i1 = a) (h2 : fX6_err M i2 = b) (hb : CN b) (h3 : CN i3) (h4 : CN i4) (z : ¬ i4 = 0) : sX6_told4 M i1 i2 i3 i4 = (fX1_plus a (fX1_over (fX1_times b i3) i4), M) := by
  unfold sX6_told4
  refine tk_ind (P := fun u : Int32 × Mem => u = (fX1_plus a (fX1_over (fX1_times b i3) i4), M)) _ _ (fun x hx => ?_)
  have e : x = (fX1_over (fX1_times b i3) i4, M) := by rw [hx, h2, byE hb h3, ovE (cn_times _ _) h4 z]
  have e1 : x.1 = fX1_over (fX1_times b i3) i4 := by rw [e]
  have e2 : x.2 = M := by rw [e]
  rw [e1, e2, h1, plusE]
theorem told40 (M : Mem) (i1 i2 i3 : Int32) : (sX6_told4 M i1 i2 i3 0).2.1 100 7 = 1 := by
  unfold sX6_told4
  refine tk_ind (P := fun u : Int32 × Mem => u.2.1 100 7 = 1) _ _ (fun x hx => ?_)
  have e2 : x.2 = st M 100 7 1 := by rw [hx, ov0]
  rw [e2]
  exact st_at _ _ _ _
/-- what can't be told -/
def TB (e s : Nat → Int32) : Prop := tD e s = 0 ∨ tF e s = 0
theorem mtl {M : Mem} {s : Nat → Int32} (hs : C4 s) (he : C12 (eR M)) : FP 106 M (TB (eR M) s) (tlV (eR M) s) (sX6_tellsOf M (s 0) (s 1) (s 2) (s 3)) := by
  unfold sX6_tellsOf
  rw [show fX6_detOf (s 0) (s 1) (s 2) (s 3) = dtV s from detE (hs 0 (by decide)) (hs 1 (by decide)) (hs 2 (by decide)) (hs 3 (by decide))]
  have c0 := hs 0 (by decide)
  have c1 := hs 1 (by decide)
  have c2 := hs 2 (by decide)
  have c3 := hs 3 (by decide)
  refine tk_ind (P := FP 106 M (TB (eR M) s) (tlV (eR M) s)) _ _ (fun x1 hx1 => ?_)
  have ex1 : x1 = tD (eR M) s := by rw [hx1, er_1, er_4, belowE (he 1 (by decide)) c0 (he 4 (by decide)) c3 (cn_dt s)]; rfl
  refine tk_ind (P := FP 106 M (TB (eR M) s) (tlV (eR M) s)) _ _ (fun x2 hx2 => ?_)
  have ex2 : x2 = tF (eR M) s := by rw [hx2, er_10, er_7, belowE (he 10 (by decide)) c0 (he 7 (by decide)) c3 (cn_dt s)]; rfl
  by_cases z1 : tD (eR M) s = 0
  · refine ⟨fun _ => ?_, fun h => absurd (Or.inl z1) h⟩
    refine tk_ind (P := fun u : Mem => u.1 100 7 = 1) _ _ (fun x3 hx3 => ?_)
    have fx3 : x3.2.1 100 7 = 1 := by rw [hx3, ex1, z1]; exact told40 _ _ _ _
    refine tk_ind (P := fun u : Mem => u.1 100 7 = 1) _ _ (fun M4 hM4 => ?_)
    have fM4 : M4.1 100 7 = 1 := by rw [hM4, st_ne _ _ _ (by decide)]; exact fx3
    refine tk_ind (P := fun u : Mem => u.1 100 7 = 1) _ _ (fun x5 hx5 => ?_)
    have fx5 : x5.2.1 100 7 = 1 := by rw [hx5]; exact kbX6_told4 _ _ _ _ _ fM4
    refine tk_ind (P := fun u : Mem => u.1 100 7 = 1) _ _ (fun M6 hM6 => ?_)
    have fM6 : M6.1 100 7 = 1 := by rw [hM6, st_ne _ _ _ (by decide)]; exact fx5
    refine tk_ind (P := fun u : Mem => u.1 100 7 = 1) _ _ (fun x7 hx7 => ?_)
    have fx7 : x7.2.1 100 7 = 1 := by rw [hx7]; exact kbX6_told4 _ _ _ _ _ fM6
    refine tk_ind (P := fun u : Mem => u.1 100 7 = 1) _ _ (fun M8 hM8 => ?_)
    have fM8 : M8.1 100 7 = 1 := by rw [hM8, st_ne _ _ _ (by decide)]; exact fx7
    refine tk_ind (P := fun u : Mem => u.1 100 7 = 1) _ _ (fun x9 hx9 => ?_)
    have fx9 : x9.2.1 100 7 = 1 := by rw [hx9]; exact kbX6_told4 _ _ _ _ _ fM8
    refine tk_ind (P := fun u : Mem => u.1 100 7 = 1) _ _ (fun M10 hM10 => ?_)
    have fM10 : M10.1 100 7 = 1 := by rw [hM10, st_ne _ _ _ (by decide)]; exact fx9
    exact fM10
  by_cases z2 : tF (eR M) s = 0
  · refine ⟨fun _ => ?_, fun h => absurd (Or.inr z2) h⟩
    refine tk_ind (P := fun u : Mem => u.1 100 7 = 1) _ _ (fun x3 hx3 => ?_)
    have ex3 : x3 = (tlV (eR M) s 0, M) := hx3.trans (by rw [lessE, er_4, byE (he 4 (by decide)) (cn_dt s), ex1, tlV_0]; exact told4E (a := eR M 0) (b := eR M 2) (by rw [er_0]) (by rw [er_2]) (he 2 (by decide)) (cn_minus _ _) (cn_tD _ _) z1)
    have ax3 : x3.1 = tlV (eR M) s 0 := by rw [ex3]
    have bx3 : x3.2 = M := by rw [ex3]
    rw [ax3, bx3]
    refine tk_ind (P := fun u : Mem => u.1 100 7 = 1) _ _ (fun M4 hM4 => ?_)
    have rM4 : ∀ i, i ≠ 106 → M4.1 i = M.1 i := fun i hi => by rw [hM4, st_ne _ _ _ hi]
    refine tk_ind (P := fun u : Mem => u.1 100 7 = 1) _ _ (fun x5 hx5 => ?_)
    have fx5 : x5.2.1 100 7 = 1 := by rw [hx5, ex2, z2]; exact told40 _ _ _ _
    refine tk_ind (P := fun u : Mem => u.1 100 7 = 1) _ _ (fun M6 hM6 => ?_)
    have fM6 : M6.1 100 7 = 1 := by rw [hM6, st_ne _ _ _ (by decide)]; exact fx5
    refine tk_ind (P := fun u : Mem => u.1 100 7 = 1) _ _ (fun x7 hx7 => ?_)
    have fx7 : x7.2.1 100 7 = 1 := by rw [hx7]; exact kbX6_told4 _ _ _ _ _ fM6
    refine tk_ind (P := fun u : Mem => u.1 100 7 = 1) _ _ (fun M8 hM8 => ?_)
    have fM8 : M8.1 100 7 = 1 := by rw [hM8, st_ne _ _ _ (by decide)]; exact fx7
    refine tk_ind (P := fun u : Mem => u.1 100 7 = 1) _ _ (fun x9 hx9 => ?_)
    have fx9 : x9.2.1 100 7 = 1 := by rw [hx9]; exact kbX6_told4 _ _ _ _ _ fM8
    refine tk_ind (P := fun u : Mem => u.1 100 7 = 1) _ _ (fun M10 hM10 => ?_)
    have fM10 : M10.1 100 7 = 1 := by rw [hM10, st_ne _ _ _ (by decide)]; exact fx9
    exact fM10
  refine ⟨fun h => absurd h (fun h => h.elim z1 z2), fun _ => ?_⟩
  refine tk_ind (P := fun u : Mem => (∀ i, i ≠ 106 → u.1 i = M.1 i) ∧ A4 (u.1 106) (tlV (eR M) s)) _ _ (fun x3 hx3 => ?_)
  have ex3 : x3 = (tlV (eR M) s 0, M) := hx3.trans (by rw [lessE, er_4, byE (he 4 (by decide)) (cn_dt s), ex1, tlV_0]; exact told4E (a := eR M 0) (b := eR M 2) (by rw [er_0]) (by rw [er_2]) (he 2 (by decide)) (cn_minus _ _) (cn_tD _ _) z1)
  have ax3 : x3.1 = tlV (eR M) s 0 := by rw [ex3]
  have bx3 : x3.2 = M := by rw [ex3]
  rw [ax3, bx3]
  refine tk_ind (P := fun u : Mem => (∀ i, i ≠ 106 → u.1 i = M.1 i) ∧ A4 (u.1 106) (tlV (eR M) s)) _ _ (fun M4 hM4 => ?_)
  have rM4 : ∀ i, i ≠ 106 → M4.1 i = M.1 i := fun i hi => by rw [hM4, st_ne _ _ _ hi]
  have wM4_0 : M4.1 106 0 = tlV (eR M) s 0 := by rw [hM4, st_at]
  refine tk_ind (P := fun u : Mem => (∀ i, i ≠ 106 → u.1 i = M.1 i) ∧ A4 (u.1 106) (tlV (eR M) s)) _ _ (fun x5 hx5 => ?_)
  have ex5 : x5 = (tlV (eR M) s 1, M4) := hx5.trans (by rw [ex2, tlV_1]; exact told4E (a := eR M 9) (b := eR M 11) (by rw [er_9, eRg (rM4 101 (by decide))]) (by rw [er_11, eRg (rM4 101 (by decide))]) (he 11 (by decide)) c1 (cn_tF _ _) z2)
  have ax5 : x5.1 = tlV (eR M) s 1 := by rw [ex5]
  have bx5 : x5.2 = M4 := by rw [ex5]
  rw [ax5, bx5]
  refine tk_ind (P := fun u : Mem => (∀ i, i ≠ 106 → u.1 i = M.1 i) ∧ A4 (u.1 106) (tlV (eR M) s)) _ _ (fun M6 hM6 => ?_)
  have rM6 : ∀ i, i ≠ 106 → M6.1 i = M.1 i := fun i hi => by rw [hM6, st_ne _ _ _ hi]; exact rM4 i hi
  have wM6_1 : M6.1 106 1 = tlV (eR M) s 1 := by rw [hM6, st_at]
  have wM6_0 : M6.1 106 0 = tlV (eR M) s 0 := by rw [hM6, st_at_ne _ _ _ _ (by decide)]; exact wM4_0
  refine tk_ind (P := fun u : Mem => (∀ i, i ≠ 106 → u.1 i = M.1 i) ∧ A4 (u.1 106) (tlV (eR M) s)) _ _ (fun x7 hx7 => ?_)
  have ex7 : x7 = (tlV (eR M) s 2, M6) := hx7.trans (by rw [ex1, tlV_2]; exact told4E (a := eR M 3) (b := eR M 5) (by rw [er_3, eRg (rM6 101 (by decide))]) (by rw [er_5, eRg (rM6 101 (by decide))]) (he 5 (by decide)) c2 (cn_tD _ _) z1)
  have ax7 : x7.1 = tlV (eR M) s 2 := by rw [ex7]
  have bx7 : x7.2 = M6 := by rw [ex7]
  rw [ax7, bx7]
  refine tk_ind (P := fun u : Mem => (∀ i, i ≠ 106 → u.1 i = M.1 i) ∧ A4 (u.1 106) (tlV (eR M) s)) _ _ (fun M8 hM8 => ?_)
  have rM8 : ∀ i, i ≠ 106 → M8.1 i = M.1 i := fun i hi => by rw [hM8, st_ne _ _ _ hi]; exact rM6 i hi
  have wM8_2 : M8.1 106 2 = tlV (eR M) s 2 := by rw [hM8, st_at]
  have wM8_0 : M8.1 106 0 = tlV (eR M) s 0 := by rw [hM8, st_at_ne _ _ _ _ (by decide)]; exact wM6_0
  have wM8_1 : M8.1 106 1 = tlV (eR M) s 1 := by rw [hM8, st_at_ne _ _ _ _ (by decide)]; exact wM6_1
  refine tk_ind (P := fun u : Mem => (∀ i, i ≠ 106 → u.1 i = M.1 i) ∧ A4 (u.1 106) (tlV (eR M) s)) _ _ (fun x9 hx9 => ?_)
  have ex9 : x9 = (tlV (eR M) s 3, M8) := hx9.trans (by rw [lessE, er_10, eRg (rM8 101 (by decide)), byE (he 10 (by decide)) (cn_dt s), ex2, tlV_3]; exact told4E (a := eR M 6) (b := eR M 8) (by rw [er_6, eRg (rM8 101 (by decide))]) (by rw [er_8, eRg (rM8 101 (by decide))]) (he 8 (by decide)) (cn_minus _ _) (cn_tF _ _) z2)
  have ax9 : x9.1 = tlV (eR M) s 3 := by rw [ex9]
  have bx9 : x9.2 = M8 := by rw [ex9]
  rw [ax9, bx9]
  refine tk_ind (P := fun u : Mem => (∀ i, i ≠ 106 → u.1 i = M.1 i) ∧ A4 (u.1 106) (tlV (eR M) s)) _ _ (fun M10 hM10 => ?_)
  have rM10 : ∀ i, i ≠ 106 → M10.1 i = M.1 i := fun i hi => by rw [hM10, st_ne _ _ _ hi]; exact rM8 i hi
  have wM10_3 : M10.1 106 3 = tlV (eR M) s 3 := by rw [hM10, st_at]
  have wM10_0 : M10.1 106 0 = tlV (eR M) s 0 := by rw [hM10, st_at_ne _ _ _ _ (by decide)]; exact wM8_0
  have wM10_1 : M10.1 106 1 = tlV (eR M) s 1 := by rw [hM10, st_at_ne _ _ _ _ (by decide)]; exact wM8_1
  have wM10_2 : M10.1 106 2 = tlV (eR M) s 2 := by rw [hM10, st_at_ne _ _ _ _ (by decide)]; exact wM8_2
  exact ⟨rM10, r4 wM10_0 wM10_1 wM10_2 wM10_3⟩
def s4 (a b c d : Int32) (k : Nat) : Int32 := if k = 0 then a else if k = 1 then b else if k = 2 then c else d
theorem s4_0 (a b c d : Int32) : s4 a b c d 0 = a := rfl
theorem s4_1 (a b c d : Int32) : s4 a b c d 1 = b := rfl
theorem s4_2 (a b c d : Int32) : s4 a b c d 2 = c := rfl
theorem s4_3 (a b c d : Int32) : s4 a b c d 3 = d := rfl
theorem c4_s4 {a b c d : Int32} (ha : CN a) (hb : CN b) (hc : CN c) (hd : CN d) : C4 (s4 a b c d) := r4 ha hb hc hd
/-- a row cut off behind n places -/
def tr (n : Nat) (f : Nat → Int32) : Nat → Int32 := fun k => if k < n then f k else 0
theorem tr_at {n k : Nat} (f : Nat → Int32) (h : k < n) : tr n f k = f k := if_pos h
theorem tr_ext {n : Nat} {f g : Nat → Int32} (h : ∀ k, k < n → f k = g k) : tr n f = tr n g := funext fun k => by
  by_cases q : k < n
  · rw [tr_at f q, tr_at g q, h k q]
  · unfold tr
    rw [if_neg q, if_neg q]
theorem a12_tr (f : Nat → Int32) : A12 f (tr 12 f) := fun k hk => (tr_at f hk).symm
theorem a4_rf (f : Nat → Int32) : A4 f f := fun _ _ => rfl
theorem a4_tr (f : Nat → Int32) : A4 f (tr 4 f) := fun k hk => (tr_at f hk).symm
theorem A4.trans {f g h : Nat → Int32} (a : A4 f g) (b : A4 g h) : A4 f h := fun k hk => (a k hk).trans (b k hk)
theorem A4.sy {f g : Nat → Int32} (a : A4 f g) : A4 g f := fun k hk => (a k hk).symm
theorem TB_g {e f s t : Nat → Int32} (g : A12 e f) (h : A4 s t) : TB e s = TB f t := by unfold TB; rw [tD_g g h, tF_g g h]
theorem FP.to {J : Nat} {M : Mem} {p q : Prop} {v w : Nat → Int32} {u : Mem} (h : FP J M p v u) (hp : p = q) (hv : A4 v w) : FP J M q w u := by
  subst hp
  exact ⟨h.1, fun n => ⟨(h.2 n).1, (h.2 n).2.trans hv⟩⟩
theorem mtl4 {M : Mem} {a b c d : Int32} (ha : CN a) (hb : CN b) (hc : CN c) (hd : CN d) (he : C12 (eR M)) : FP 106 M (TB (tr 12 (eR M)) (s4 a b c d)) (tlV (tr 12 (eR M)) (s4 a b c d)) (sX6_tellsOf M a b c d) := by
  have h := mtl (M := M) (c4_s4 ha hb hc hd) he
  rw [s4_0, s4_1, s4_2, s4_3] at h
  exact h.to (TB_g (a12_tr _) (a4_rf _)) (tl_g (a12_tr _) (a4_rf _))
theorem mtlB {M : Mem} {b : Int32} (hb : 0 ≤ b.toInt ∧ b.toInt < 8) (hs : C4 (bxR M b)) (he : C12 (eR M)) : FP 106 M (TB (tr 12 (eR M)) (tr 4 (bxR M b))) (tlV (tr 12 (eR M)) (tr 4 (bxR M b))) (sX6_tellsBox M b) := by
  have h := (mtl (M := M) hs he).to (TB_g (a12_tr _) (a4_tr _)) (tl_g (a12_tr _) (a4_tr _))
  unfold sX6_tellsBox
  refine tk_ind (P := FP 106 M (TB (tr 12 (eR M)) (tr 4 (bxR M b))) (tlV (tr 12 (eR M)) (tr 4 (bxR M b)))) _ _ (fun M1 h1 => ?_)
  rw [bi0 hb, bi1 hb, bi2 hb, bi3 hb] at h1
  rw [h1]
  exact h
theorem mls_1 {M : Mem} {a b : Int32} (ha : CN a) (z : ¬ fX1_minus a b = 0) : sX6_learnsSide_1 M a b = st (st M 107 1 (fX1_over (fX1_plus a b) (fX1_minus a b))) 107 2 (fX1_times a (fX1_minus 10007 (fX1_over (fX1_plus a b) (fX1_minus a b)))) := by
  unfold sX6_learnsSide_1
  refine tk_ind (P := fun u : Mem => u = st (st M 107 1 (fX1_over (fX1_plus a b) (fX1_minus a b))) 107 2 (fX1_times a (fX1_minus 10007 (fX1_over (fX1_plus a b) (fX1_minus a b))))) _ _ (fun x1 h1 => ?_)
  have e1 : x1 = (fX1_over (fX1_plus a b) (fX1_minus a b), M) := by rw [h1, plusE, lessE, ovE (cn_plus _ _) (cn_minus _ _) z]
  have a1 : x1.1 = fX1_over (fX1_plus a b) (fX1_minus a b) := by rw [e1]
  have b1 : x1.2 = M := by rw [e1]
  rw [a1, b1]
  refine tk_ind (P := fun u : Mem => u = st (st M 107 1 (fX1_over (fX1_plus a b) (fX1_minus a b))) 107 2 (fX1_times a (fX1_minus 10007 (fX1_over (fX1_plus a b) (fX1_minus a b))))) _ _ (fun M2 h2 => ?_)
  have w : M2.1 107 1 = fX1_over (fX1_plus a b) (fX1_minus a b) := by rw [h2, st_at]
  rw [w, lessE, byE ha (cn_minus _ _)]
  refine tk_ind (P := fun u : Mem => u = st (st M 107 1 (fX1_over (fX1_plus a b) (fX1_minus a b))) 107 2 (fX1_times a (fX1_minus 10007 (fX1_over (fX1_plus a b) (fX1_minus a b))))) _ _ (fun M3 h3 => ?_)
  rw [h3, h2]
theorem mls_1_0 {M : Mem} {a b : Int32} (z : fX1_minus a b = 0) : (sX6_learnsSide_1 M a b).1 100 7 = 1 := by
  unfold sX6_learnsSide_1
  refine tk_ind (P := fun u : Mem => u.1 100 7 = 1) _ _ (fun x hx => ?_)
  have f : x.2.1 100 7 = 1 := by rw [hx, lessE, z, ov0]; exact st_at _ _ _ _
  refine tk_ind (P := fun u : Mem => u.1 100 7 = 1) _ _ (fun M2 h2 => ?_)
  refine tk_ind (P := fun u : Mem => u.1 100 7 = 1) _ _ (fun M3 h3 => ?_)
  rw [h3, st_ne _ _ _ (by decide), h2, st_ne _ _ _ (by decide), f]
theorem mls_7 {M : Mem} {a b : Int32} (ha : CN a) (z : ¬ fX1_minus a b = 0) : sX6_learnsSide_7 M a b = st (st M 107 7 (fX1_over (fX1_plus a b) (fX1_minus a b))) 107 8 (fX1_times a (fX1_minus 10007 (fX1_over (fX1_plus a b) (fX1_minus a b)))) := by
  unfold sX6_learnsSide_7
  refine tk_ind (P := fun u : Mem => u = st (st M 107 7 (fX1_over (fX1_plus a b) (fX1_minus a b))) 107 8 (fX1_times a (fX1_minus 10007 (fX1_over (fX1_plus a b) (fX1_minus a b))))) _ _ (fun x1 h1 => ?_)
  have e1 : x1 = (fX1_over (fX1_plus a b) (fX1_minus a b), M) := by rw [h1, plusE, lessE, ovE (cn_plus _ _) (cn_minus _ _) z]
  have a1 : x1.1 = fX1_over (fX1_plus a b) (fX1_minus a b) := by rw [e1]
  have b1 : x1.2 = M := by rw [e1]
  rw [a1, b1]
  refine tk_ind (P := fun u : Mem => u = st (st M 107 7 (fX1_over (fX1_plus a b) (fX1_minus a b))) 107 8 (fX1_times a (fX1_minus 10007 (fX1_over (fX1_plus a b) (fX1_minus a b))))) _ _ (fun M2 h2 => ?_)
  have w : M2.1 107 7 = fX1_over (fX1_plus a b) (fX1_minus a b) := by rw [h2, st_at]
  rw [w, lessE, byE ha (cn_minus _ _)]
  refine tk_ind (P := fun u : Mem => u = st (st M 107 7 (fX1_over (fX1_plus a b) (fX1_minus a b))) 107 8 (fX1_times a (fX1_minus 10007 (fX1_over (fX1_plus a b) (fX1_minus a b))))) _ _ (fun M3 h3 => ?_)
  rw [h3, h2]
theorem mls_7_0 {M : Mem} {a b : Int32} (z : fX1_minus a b = 0) : (sX6_learnsSide_7 M a b).1 100 7 = 1 := by
  unfold sX6_learnsSide_7
  refine tk_ind (P := fun u : Mem => u.1 100 7 = 1) _ _ (fun x hx => ?_)
  have f : x.2.1 100 7 = 1 := by rw [hx, lessE, z, ov0]; exact st_at _ _ _ _
  refine tk_ind (P := fun u : Mem => u.1 100 7 = 1) _ _ (fun M2 h2 => ?_)
  refine tk_ind (P := fun u : Mem => u.1 100 7 = 1) _ _ (fun M3 h3 => ?_)
  rw [h3, st_ne _ _ _ (by decide), h2, st_ne _ _ _ (by decide), f]
theorem mlt_1 {M : Mem} {a p q : Int32} (c1 : CN (M.1 107 1)) (z : ¬ fX1_plus (M.1 107 2) (fX1_times (fX1_minus a (M.1 107 0)) (M.1 107 1)) = 0) : sX6_learnsThrough_1 M a p q = st (st M 107 4 (fX1_over (fX1_minus a (M.1 107 0)) (fX1_plus (M.1 107 2) (fX1_times (fX1_minus a (M.1 107 0)) (M.1 107 1))))) 107 5 (fX1_times (fX1_minus p q) (fX1_minus 10007 (fX1_times (M.1 107 1) (fX1_over (fX1_minus a (M.1 107 0)) (fX1_plus (M.1 107 2) (fX1_times (fX1_minus a (M.1 107 0)) (M.1 107 1))))))) := by
  unfold sX6_learnsThrough_1
  refine tk_ind (P := fun u : Mem => u = st (st M 107 4 (fX1_over (fX1_minus a (M.1 107 0)) (fX1_plus (M.1 107 2) (fX1_times (fX1_minus a (M.1 107 0)) (M.1 107 1))))) 107 5 (fX1_times (fX1_minus p q) (fX1_minus 10007 (fX1_times (M.1 107 1) (fX1_over (fX1_minus a (M.1 107 0)) (fX1_plus (M.1 107 2) (fX1_times (fX1_minus a (M.1 107 0)) (M.1 107 1)))))))) _ _ (fun x1 h1 => ?_)
  have e1 : x1 = (fX1_over (fX1_minus a (M.1 107 0)) (fX1_plus (M.1 107 2) (fX1_times (fX1_minus a (M.1 107 0)) (M.1 107 1))), M) := by rw [h1, lessE, byE (cn_minus _ _) c1, plusE, ovE (cn_minus _ _) (cn_plus _ _) z]
  have a1 : x1.1 = fX1_over (fX1_minus a (M.1 107 0)) (fX1_plus (M.1 107 2) (fX1_times (fX1_minus a (M.1 107 0)) (M.1 107 1))) := by rw [e1]
  have b1 : x1.2 = M := by rw [e1]
  rw [a1, b1]
  refine tk_ind (P := fun u : Mem => u = st (st M 107 4 (fX1_over (fX1_minus a (M.1 107 0)) (fX1_plus (M.1 107 2) (fX1_times (fX1_minus a (M.1 107 0)) (M.1 107 1))))) 107 5 (fX1_times (fX1_minus p q) (fX1_minus 10007 (fX1_times (M.1 107 1) (fX1_over (fX1_minus a (M.1 107 0)) (fX1_plus (M.1 107 2) (fX1_times (fX1_minus a (M.1 107 0)) (M.1 107 1)))))))) _ _ (fun M2 h2 => ?_)
  have w : M2.1 107 4 = fX1_over (fX1_minus a (M.1 107 0)) (fX1_plus (M.1 107 2) (fX1_times (fX1_minus a (M.1 107 0)) (M.1 107 1))) := by rw [h2, st_at]
  have w2 : M2.1 107 1 = M.1 107 1 := by rw [h2, st_at_ne _ _ _ _ (by decide)]
  rw [w, w2, lessE, lessE, byE c1 (cn_over _ _), byE (cn_minus _ _) (cn_minus _ _)]
  refine tk_ind (P := fun u : Mem => u = st (st M 107 4 (fX1_over (fX1_minus a (M.1 107 0)) (fX1_plus (M.1 107 2) (fX1_times (fX1_minus a (M.1 107 0)) (M.1 107 1))))) 107 5 (fX1_times (fX1_minus p q) (fX1_minus 10007 (fX1_times (M.1 107 1) (fX1_over (fX1_minus a (M.1 107 0)) (fX1_plus (M.1 107 2) (fX1_times (fX1_minus a (M.1 107 0)) (M.1 107 1)))))))) _ _ (fun M3 h3 => ?_)
  rw [h3, h2]
theorem mlt_1_0 {M : Mem} {a p q : Int32} (c1 : CN (M.1 107 1)) (z : fX1_plus (M.1 107 2) (fX1_times (fX1_minus a (M.1 107 0)) (M.1 107 1)) = 0) : (sX6_learnsThrough_1 M a p q).1 100 7 = 1 := by
  unfold sX6_learnsThrough_1
  refine tk_ind (P := fun u : Mem => u.1 100 7 = 1) _ _ (fun x hx => ?_)
  have f : x.2.1 100 7 = 1 := by rw [hx, lessE, byE (cn_minus _ _) c1, plusE, z, ov0]; exact st_at _ _ _ _
  refine tk_ind (P := fun u : Mem => u.1 100 7 = 1) _ _ (fun M2 h2 => ?_)
  refine tk_ind (P := fun u : Mem => u.1 100 7 = 1) _ _ (fun M3 h3 => ?_)
  rw [h3, st_ne _ _ _ (by decide), h2, st_ne _ _ _ (by decide), f]
theorem mlt_7 {M : Mem} {a p q : Int32} (c1 : CN (M.1 107 7)) (z : ¬ fX1_plus (M.1 107 8) (fX1_times (fX1_minus a (M.1 107 6)) (M.1 107 7)) = 0) : sX6_learnsThrough_7 M a p q = st (st M 107 10 (fX1_over (fX1_minus a (M.1 107 6)) (fX1_plus (M.1 107 8) (fX1_times (fX1_minus a (M.1 107 6)) (M.1 107 7))))) 107 11 (fX1_times (fX1_minus p q) (fX1_minus 10007 (fX1_times (M.1 107 7) (fX1_over (fX1_minus a (M.1 107 6)) (fX1_plus (M.1 107 8) (fX1_times (fX1_minus a (M.1 107 6)) (M.1 107 7))))))) := by
  unfold sX6_learnsThrough_7
  refine tk_ind (P := fun u : Mem => u = st (st M 107 10 (fX1_over (fX1_minus a (M.1 107 6)) (fX1_plus (M.1 107 8) (fX1_times (fX1_minus a (M.1 107 6)) (M.1 107 7))))) 107 11 (fX1_times (fX1_minus p q) (fX1_minus 10007 (fX1_times (M.1 107 7) (fX1_over (fX1_minus a (M.1 107 6)) (fX1_plus (M.1 107 8) (fX1_times (fX1_minus a (M.1 107 6)) (M.1 107 7)))))))) _ _ (fun x1 h1 => ?_)
  have e1 : x1 = (fX1_over (fX1_minus a (M.1 107 6)) (fX1_plus (M.1 107 8) (fX1_times (fX1_minus a (M.1 107 6)) (M.1 107 7))), M) := by rw [h1, lessE, byE (cn_minus _ _) c1, plusE, ovE (cn_minus _ _) (cn_plus _ _) z]
  have a1 : x1.1 = fX1_over (fX1_minus a (M.1 107 6)) (fX1_plus (M.1 107 8) (fX1_times (fX1_minus a (M.1 107 6)) (M.1 107 7))) := by rw [e1]
  have b1 : x1.2 = M := by rw [e1]
  rw [a1, b1]
  refine tk_ind (P := fun u : Mem => u = st (st M 107 10 (fX1_over (fX1_minus a (M.1 107 6)) (fX1_plus (M.1 107 8) (fX1_times (fX1_minus a (M.1 107 6)) (M.1 107 7))))) 107 11 (fX1_times (fX1_minus p q) (fX1_minus 10007 (fX1_times (M.1 107 7) (fX1_over (fX1_minus a (M.1 107 6)) (fX1_plus (M.1 107 8) (fX1_times (fX1_minus a (M.1 107 6)) (M.1 107 7)))))))) _ _ (fun M2 h2 => ?_)
  have w : M2.1 107 10 = fX1_over (fX1_minus a (M.1 107 6)) (fX1_plus (M.1 107 8) (fX1_times (fX1_minus a (M.1 107 6)) (M.1 107 7))) := by rw [h2, st_at]
  have w2 : M2.1 107 7 = M.1 107 7 := by rw [h2, st_at_ne _ _ _ _ (by decide)]
  rw [w, w2, lessE, lessE, byE c1 (cn_over _ _), byE (cn_minus _ _) (cn_minus _ _)]
  refine tk_ind (P := fun u : Mem => u = st (st M 107 10 (fX1_over (fX1_minus a (M.1 107 6)) (fX1_plus (M.1 107 8) (fX1_times (fX1_minus a (M.1 107 6)) (M.1 107 7))))) 107 11 (fX1_times (fX1_minus p q) (fX1_minus 10007 (fX1_times (M.1 107 7) (fX1_over (fX1_minus a (M.1 107 6)) (fX1_plus (M.1 107 8) (fX1_times (fX1_minus a (M.1 107 6)) (M.1 107 7)))))))) _ _ (fun M3 h3 => ?_)
  rw [h3, h2]
theorem mlt_7_0 {M : Mem} {a p q : Int32} (c1 : CN (M.1 107 7)) (z : fX1_plus (M.1 107 8) (fX1_times (fX1_minus a (M.1 107 6)) (M.1 107 7)) = 0) : (sX6_learnsThrough_7 M a p q).1 100 7 = 1 := by
  unfold sX6_learnsThrough_7
  refine tk_ind (P := fun u : Mem => u.1 100 7 = 1) _ _ (fun x hx => ?_)
  have f : x.2.1 100 7 = 1 := by rw [hx, lessE, byE (cn_minus _ _) c1, plusE, z, ov0]; exact st_at _ _ _ _
  refine tk_ind (P := fun u : Mem => u.1 100 7 = 1) _ _ (fun M2 h2 => ?_)
  refine tk_ind (P := fun u : Mem => u.1 100 7 = 1) _ _ (fun M3 h3 => ?_)
  rw [h3, st_ne _ _ _ (by decide), h2, st_ne _ _ _ (by decide), f]
