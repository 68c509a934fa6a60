/-! ===== values ===== -/
def dtV (s : Nat → Int32) : Int32 := fX1_minus (fX1_times (s 0) (s 3)) (fX1_times (s 1) (s 2))
def tfN (s : Nat → Int32) (k : Nat) : Int32 := if k = 0 then fX1_minus 0 (dtV s) else if k = 1 then s 0 else if k = 2 then fX1_minus 0 (s 3) else 10007
def tfV (s : Nat → Int32) (k : Nat) : Int32 := fX1_over (tfN s k) (s 2)
def ivN (t : Nat → Int32) (k : Nat) : Int32 := if k = 0 then t 3 else if k = 1 then fX1_minus 0 (t 1) else if k = 2 then fX1_minus 0 (t 2) else t 0
def ivV (t : Nat → Int32) (k : Nat) : Int32 := fX1_over (ivN t k) (dtV t)
def prV (t u : Nat → Int32) (k : Nat) : Int32 := if k = 0 then fX1_pairs (t 0) (u 0) (t 1) (u 2) else if k = 1 then fX1_pairs (t 0) (u 1) (t 1) (u 3) else if k = 2 then fX1_pairs (t 2) (u 0) (t 3) (u 2) else fX1_pairs (t 2) (u 1) (t 3) (u 3)
def gbN (t : Nat → Int32) (k : Nat) : Int32 := if k = 0 then t 1 else if k = 1 then dtV t else if k = 2 then 10007 else fX1_minus 0 (t 2)
def gbV (t : Nat → Int32) (k : Nat) : Int32 := fX1_over (gbN t k) (t 3)
def s2D (s : Nat → Int32) : Int32 := fX1_minus (fX1_times (fX1_minus 10007 (s 0)) (fX1_minus 10007 (s 3))) (fX1_times (s 1) (s 2))
def s2W (a b c d : Int32) (k : Nat) : Int32 := if k = 0 then fX1_plus (fX1_times (fX1_plus 10007 a) (fX1_minus 10007 d)) (fX1_times b c) else if k = 1 then fX1_plus b b else if k = 2 then fX1_plus c c else fX1_plus (fX1_times (fX1_minus 10007 a) (fX1_plus 10007 d)) (fX1_times b c)
def s2V (s : Nat → Int32) (k : Nat) : Int32 := fX1_over (s2W (s 0) (s 1) (s 2) (s 3) k) (s2D s)
def tD (e s : Nat → Int32) : Int32 := fX1_plus (fX1_minus (fX1_minus 10007 (fX1_times (e 1) (s 0))) (fX1_times (e 4) (s 3))) (fX1_times (fX1_times (e 1) (e 4)) (dtV s))
def tF (e s : Nat → Int32) : Int32 := fX1_plus (fX1_minus (fX1_minus 10007 (fX1_times (e 10) (s 0))) (fX1_times (e 7) (s 3))) (fX1_times (fX1_times (e 10) (e 7)) (dtV s))
def tlW (e0 e2 e3 e4 e5 e6 e8 e9 e10 e11 s0 s1 s2 s3 w d f : Int32) (k : Nat) : Int32 := if k = 0 then fX1_plus e0 (fX1_over (fX1_times e2 (fX1_minus s0 (fX1_times e4 w))) d) else if k = 1 then fX1_plus e9 (fX1_over (fX1_times e11 s1) f) else if k = 2 then fX1_plus e3 (fX1_over (fX1_times e5 s2) d) else fX1_plus e6 (fX1_over (fX1_times e8 (fX1_minus s3 (fX1_times e10 w))) f)
def tlV (e s : Nat → Int32) (k : Nat) : Int32 := tlW (e 0) (e 2) (e 3) (e 4) (e 5) (e 6) (e 8) (e 9) (e 10) (e 11) (s 0) (s 1) (s 2) (s 3) (dtV s) (tD e s) (tF e s) k
theorem tfV_0 (s : Nat → Int32) : tfV s 0 = fX1_over (fX1_minus 0 (dtV s)) (s 2) := by unfold tfV tfN; rw [if_pos rfl]
theorem tfV_1 (s : Nat → Int32) : tfV s 1 = fX1_over (s 0) (s 2) := by unfold tfV tfN; rw [if_neg (by decide), if_pos rfl]
theorem tfV_2 (s : Nat → Int32) : tfV s 2 = fX1_over (fX1_minus 0 (s 3)) (s 2) := by unfold tfV tfN; rw [if_neg (by decide), if_neg (by decide), if_pos rfl]
theorem tfV_3 (s : Nat → Int32) : tfV s 3 = fX1_over 10007 (s 2) := by unfold tfV tfN; rw [if_neg (by decide), if_neg (by decide), if_neg (by decide)]
theorem ivV_0 (s : Nat → Int32) : ivV s 0 = fX1_over (s 3) (dtV s) := by unfold ivV ivN; rw [if_pos rfl]
theorem ivV_1 (s : Nat → Int32) : ivV s 1 = fX1_over (fX1_minus 0 (s 1)) (dtV s) := by unfold ivV ivN; rw [if_neg (by decide), if_pos rfl]
theorem ivV_2 (s : Nat → Int32) : ivV s 2 = fX1_over (fX1_minus 0 (s 2)) (dtV s) := by unfold ivV ivN; rw [if_neg (by decide), if_neg (by decide), if_pos rfl]
theorem ivV_3 (s : Nat → Int32) : ivV s 3 = fX1_over (s 0) (dtV s) := by unfold ivV ivN; rw [if_neg (by decide), if_neg (by decide), if_neg (by decide)]
theorem gbV_0 (s : Nat → Int32) : gbV s 0 = fX1_over (s 1) (s 3) := by unfold gbV gbN; rw [if_pos rfl]
theorem gbV_1 (s : Nat → Int32) : gbV s 1 = fX1_over (dtV s) (s 3) := by unfold gbV gbN; rw [if_neg (by decide), if_pos rfl]
theorem gbV_2 (s : Nat → Int32) : gbV s 2 = fX1_over 10007 (s 3) := by unfold gbV gbN; rw [if_neg (by decide), if_neg (by decide), if_pos rfl]
theorem gbV_3 (s : Nat → Int32) : gbV s 3 = fX1_over (fX1_minus 0 (s 2)) (s 3) := by unfold gbV gbN; rw [if_neg (by decide), if_neg (by decide), if_neg (by decide)]
theorem prV_0 (t u : Nat → Int32) : prV t u 0 = fX1_pairs (t 0) (u 0) (t 1) (u 2) := by unfold prV; rw [if_pos rfl]
theorem prV_1 (t u : Nat → Int32) : prV t u 1 = fX1_pairs (t 0) (u 1) (t 1) (u 3) := by unfold prV; rw [if_neg (by decide), if_pos rfl]
theorem prV_2 (t u : Nat → Int32) : prV t u 2 = fX1_pairs (t 2) (u 0) (t 3) (u 2) := by unfold prV; rw [if_neg (by decide), if_neg (by decide), if_pos rfl]
theorem prV_3 (t u : Nat → Int32) : prV t u 3 = fX1_pairs (t 2) (u 1) (t 3) (u 3) := by unfold prV; rw [if_neg (by decide), if_neg (by decide), if_neg (by decide)]
theorem s2V_0 (s : Nat → Int32) : s2V s 0 = fX1_over (fX1_plus (fX1_times (fX1_plus 10007 (s 0)) (fX1_minus 10007 (s 3))) (fX1_times (s 1) (s 2))) (s2D s) := by unfold s2V s2W; rw [if_pos rfl]
theorem s2V_1 (s : Nat → Int32) : s2V s 1 = fX1_over (fX1_plus (s 1) (s 1)) (s2D s) := by unfold s2V s2W; rw [if_neg (by decide), if_pos rfl]
theorem s2V_2 (s : Nat → Int32) : s2V s 2 = fX1_over (fX1_plus (s 2) (s 2)) (s2D s) := by unfold s2V s2W; rw [if_neg (by decide), if_neg (by decide), if_pos rfl]
theorem s2V_3 (s : Nat → Int32) : s2V s 3 = fX1_over (fX1_plus (fX1_times (fX1_minus 10007 (s 0)) (fX1_plus 10007 (s 3))) (fX1_times (s 1) (s 2))) (s2D s) := by unfold s2V s2W; rw [if_neg (by decide), if_neg (by decide), if_neg (by decide)]
theorem tlV_0 (e s : Nat → Int32) : tlV e s 0 = fX1_plus (e 0) (fX1_over (fX1_times (e 2) (fX1_minus (s 0) (fX1_times (e 4) (dtV s)))) (tD e s)) := by unfold tlV tlW; rw [if_pos rfl]
theorem tlV_1 (e s : Nat → Int32) : tlV e s 1 = fX1_plus (e 9) (fX1_over (fX1_times (e 11) (s 1)) (tF e s)) := by unfold tlV tlW; rw [if_neg (by decide), if_pos rfl]
theorem tlV_2 (e s : Nat → Int32) : tlV e s 2 = fX1_plus (e 3) (fX1_over (fX1_times (e 5) (s 2)) (tD e s)) := by unfold tlV tlW; rw [if_neg (by decide), if_neg (by decide), if_pos rfl]
theorem tlV_3 (e s : Nat → Int32) : tlV e s 3 = fX1_plus (e 6) (fX1_over (fX1_times (e 8) (fX1_minus (s 3) (fX1_times (e 10) (dtV s)))) (tF e s)) := by unfold tlV tlW; rw [if_neg (by decide), if_neg (by decide), if_neg (by decide)]
def C4 (s : Nat → Int32) : Prop := ∀ k, k < 4 → CN (s k)
def C12 (s : Nat → Int32) : Prop := ∀ k, k < 12 → CN (s k)
def A4 (s t : Nat → Int32) : Prop := ∀ k, k < 4 → s k = t k
theorem r4 {P : Nat → Prop} (h0 : P 0) (h1 : P 1) (h2 : P 2) (h3 : P 3) : ∀ k, k < 4 → P k := fun k hk => by
  rcases (show k = 0 ∨ k = 1 ∨ k = 2 ∨ k = 3 by omega) with e | e | e | e <;> subst e <;> assumption
theorem C4.of {s t : Nat → Int32} (h : C4 s) (a : A4 t s) : C4 t := fun k hk => by rw [a k hk]; exact h k hk
theorem c4_tf (s : Nat → Int32) : C4 (tfV s) := fun k _ => cn_over _ _
theorem c4_iv (s : Nat → Int32) : C4 (ivV s) := fun k _ => cn_over _ _
theorem c4_bx (s : Nat → Int32) : C4 (gbV s) := fun k _ => cn_over _ _
theorem c4_s2 (s : Nat → Int32) : C4 (s2V s) := fun k _ => cn_over _ _
theorem c4_pr (s t : Nat → Int32) : C4 (prV s t) := fun k _ => ite_ind (P := CN) (fun _ => cn_pairs _ _ _ _) (fun _ => ite_ind (P := CN) (fun _ => cn_pairs _ _ _ _) (fun _ => ite_ind (P := CN) (fun _ => cn_pairs _ _ _ _) (fun _ => cn_pairs _ _ _ _)))
theorem cn_tlW (e0 e2 e3 e4 e5 e6 e8 e9 e10 e11 s0 s1 s2 s3 w d f : Int32) (k : Nat) : CN (tlW e0 e2 e3 e4 e5 e6 e8 e9 e10 e11 s0 s1 s2 s3 w d f k) := ite_ind (P := CN) (fun _ => cn_plus _ _) (fun _ => ite_ind (P := CN) (fun _ => cn_plus _ _) (fun _ => ite_ind (P := CN) (fun _ => cn_plus _ _) (fun _ => cn_plus _ _)))
theorem c4_tl (e s : Nat → Int32) : C4 (tlV e s) := fun k _ => cn_tlW _ _ _ _ _ _ _ _ _ _ _ _ _ _ _ _ _ k
theorem cn_dt (s : Nat → Int32) : CN (dtV s) := cn_minus _ _
theorem cn_tD (e s : Nat → Int32) : CN (tD e s) := cn_plus _ _
theorem cn_tF (e s : Nat → Int32) : CN (tF e s) := cn_plus _ _
theorem cn_s2D (s : Nat → Int32) : CN (s2D s) := cn_minus _ _
theorem dt_g {s t : Nat → Int32} (h : A4 s t) : dtV s = dtV t := by unfold dtV; rw [h 0 (by decide), h 1 (by decide), h 2 (by decide), h 3 (by decide)]
theorem tf_g {s t : Nat → Int32} (h : A4 s t) : A4 (tfV s) (tfV t) := by
  have d := dt_g h
  exact r4 (by rw [tfV_0, tfV_0, d, h 2 (by decide)]) (by rw [tfV_1, tfV_1, h 0 (by decide), h 2 (by decide)]) (by rw [tfV_2, tfV_2, h 3 (by decide), h 2 (by decide)]) (by rw [tfV_3, tfV_3, h 2 (by decide)])
theorem iv_g {s t : Nat → Int32} (h : A4 s t) : A4 (ivV s) (ivV t) := by
  have d := dt_g h
  exact r4 (by rw [ivV_0, ivV_0, d, h 3 (by decide)]) (by rw [ivV_1, ivV_1, d, h 1 (by decide)]) (by rw [ivV_2, ivV_2, d, h 2 (by decide)]) (by rw [ivV_3, ivV_3, d, h 0 (by decide)])
theorem pr_g {s t u v : Nat → Int32} (h : A4 s t) (g : A4 u v) : A4 (prV s u) (prV t v) := by
  exact r4 (by rw [prV_0, prV_0, h 0 (by decide), h 1 (by decide), g 0 (by decide), g 2 (by decide)]) (by rw [prV_1, prV_1, h 0 (by decide), h 1 (by decide), g 1 (by decide), g 3 (by decide)]) (by rw [prV_2, prV_2, h 2 (by decide), h 3 (by decide), g 0 (by decide), g 2 (by decide)]) (by rw [prV_3, prV_3, h 2 (by decide), h 3 (by decide), g 1 (by decide), g 3 (by decide)])
theorem bx_g {s t : Nat → Int32} (h : A4 s t) : A4 (gbV s) (gbV t) := by
  have d := dt_g h
  exact r4 (by rw [gbV_0, gbV_0, h 1 (by decide), h 3 (by decide)]) (by rw [gbV_1, gbV_1, d, h 3 (by decide)]) (by rw [gbV_2, gbV_2, h 3 (by decide)]) (by rw [gbV_3, gbV_3, h 2 (by decide), h 3 (by decide)])
theorem s2D_g {s t : Nat → Int32} (h : A4 s t) : s2D s = s2D t := by unfold s2D; rw [h 0 (by decide), h 1 (by decide), h 2 (by decide), h 3 (by decide)]
theorem s2_g {s t : Nat → Int32} (h : A4 s t) : A4 (s2V s) (s2V t) := fun k _ => by
  unfold s2V
  rw [s2D_g h, h 0 (by decide), h 1 (by decide), h 2 (by decide), h 3 (by decide)]
def A12 (s t : Nat → Int32) : Prop := ∀ k, k < 12 → s k = t k
theorem tD_g {e f s t : Nat → Int32} (g : A12 e f) (h : A4 s t) : tD e s = tD f t := by unfold tD; rw [dt_g h, h 0 (by decide), h 3 (by decide), g 1 (by decide), g 4 (by decide)]
theorem tF_g {e f s t : Nat → Int32} (g : A12 e f) (h : A4 s t) : tF e s = tF f t := by unfold tF; rw [dt_g h, h 0 (by decide), h 3 (by decide), g 7 (by decide), g 10 (by decide)]
theorem tl_g {e f s t : Nat → Int32} (g : A12 e f) (h : A4 s t) : A4 (tlV e s) (tlV f t) := fun k _ => by
  unfold tlV
  rw [dt_g h, tD_g g h, tF_g g h, h 0 (by decide), h 1 (by decide), h 2 (by decide), h 3 (by decide), g 0 (by decide), g 2 (by decide), g 3 (by decide), g 4 (by decide), g 5 (by decide), g 6 (by decide), g 8 (by decide), g 9 (by decide), g 10 (by decide), g 11 (by decide)]
/-! ===== the reference's steps ===== -/
theorem ovE {M : Mem} {a b : Int32} (ha : CN a) (hb : CN b) (h : ¬ b = 0) : sX6_over M a b = (fX1_over a b, M) := by
  unfold sX6_over
  rw [if_neg h]
  show (mov a b, M) = _
  rw [movE ha hb]
theorem ov0 (M : Mem) (a : Int32) : sX6_over M a 0 = (0, st M 100 7 1) := by
  unfold sX6_over
  rw [if_pos rfl]
  rfl
def bxR (M : Mem) (b : Int32) : Nat → Int32 := fun k => M.1 101 (1 + 4 * b.toNatClampNeg + k)
def eR (M : Mem) : Nat → Int32 := fun k => M.1 101 (33 + k)
def lR (M : Mem) : Nat → Int32 := fun k => M.1 101 (46 + k)
theorem bi0 {M : Mem} {b : Int32} (h : 0 ≤ b.toInt ∧ b.toInt < 8) : (fX6_boxAt M b).toNatClampNeg = 1 + 4 * b.toNatClampNeg + 0 := bx_cl h
theorem bi1 {M : Mem} {b : Int32} (h : 0 ≤ b.toInt ∧ b.toInt < 8) : (fX6_boxAt M b + 1).toNatClampNeg = 1 + 4 * b.toNatClampNeg + 1 := bxk_cl h (by decide)
theorem bi2 {M : Mem} {b : Int32} (h : 0 ≤ b.toInt ∧ b.toInt < 8) : (fX6_boxAt M b + 2).toNatClampNeg = 1 + 4 * b.toNatClampNeg + 2 := bxk_cl h (by decide)
theorem bi3 {M : Mem} {b : Int32} (h : 0 ≤ b.toInt ∧ b.toInt < 8) : (fX6_boxAt M b + 3).toNatClampNeg = 1 + 4 * b.toNatClampNeg + 3 := bxk_cl h (by decide)
theorem detE {a b c d : Int32} (ha : CN a) (hb : CN b) (hc : CN c) (hd : CN d) : fX6_detOf a b c d = fX1_minus (fX1_times a d) (fX1_times b c) := by
  unfold fX6_detOf
  rw [lessE, byE ha hd, byE hb hc]
theorem detBoxE {M : Mem} {b : Int32} (h : 0 ≤ b.toInt ∧ b.toInt < 8) (hs : C4 (bxR M b)) : fX6_detBox M b = dtV (bxR M b) := by
  unfold fX6_detBox
  rw [bi0 h, bi1 h, bi2 h, bi3 h]
  exact detE (hs 0 (by decide)) (hs 1 (by decide)) (hs 2 (by decide)) (hs 3 (by decide))
/-- behind a row of steps: broken, or four values in row J, and nothing else changed -/
def FP (J : Nat) (M : Mem) (bad : Prop) (v : Nat → Int32) (u : Mem) : Prop := (bad → u.1 100 7 = 1) ∧ (¬ bad → (∀ i, i ≠ J → u.1 i = M.1 i) ∧ A4 (u.1 J) v)
theorem mtf_1 {M : Mem} {b : Int32} (hb : 0 ≤ b.toInt ∧ b.toInt < 8) (hs : C4 (bxR M b)) : FP 109 M (M.1 101 (1 + 4 * b.toNatClampNeg + 2) = 0) (tfV (bxR M b)) (sX6_formsTo_1 M b) := by
  unfold sX6_formsTo_1
  rw [bi0 hb, bi2 hb, bi3 hb, detBoxE hb hs, lessE]
  by_cases z : M.1 101 (1 + 4 * b.toNatClampNeg + 2) = 0
  · refine ⟨fun _ => ?_, fun h => absurd z h⟩
    refine tk_ind (P := fun u : Mem => u.1 100 7 = 1) _ _ (fun x1 hx1 => ?_)
    rw [z, ov0] at hx1
    have f0 : x1.2.1 100 7 = 1 := by rw [hx1, st_at]
    refine tk_ind (P := fun u : Mem => u.1 100 7 = 1) _ _ (fun M2 hM2 => ?_)
    have fM2 : M2.1 100 7 = 1 := by rw [hM2, st_ne _ _ _ (by decide)]; exact f0
    refine tk_ind (P := fun u : Mem => u.1 100 7 = 1) _ _ (fun x3 hx3 => ?_)
    have fx3 : x3.2.1 100 7 = 1 := by rw [hx3]; exact kbX6_over _ _ _ fM2
    refine tk_ind (P := fun u : Mem => u.1 100 7 = 1) _ _ (fun M4 hM4 => ?_)
    have fM4 : M4.1 100 7 = 1 := by rw [hM4, st_ne _ _ _ (by decide)]; exact fx3
    refine tk_ind (P := fun u : Mem => u.1 100 7 = 1) _ _ (fun x5 hx5 => ?_)
    have fx5 : x5.2.1 100 7 = 1 := by rw [hx5]; exact kbX6_over _ _ _ fM4
    refine tk_ind (P := fun u : Mem => u.1 100 7 = 1) _ _ (fun M6 hM6 => ?_)
    have fM6 : M6.1 100 7 = 1 := by rw [hM6, st_ne _ _ _ (by decide)]; exact fx5
    refine tk_ind (P := fun u : Mem => u.1 100 7 = 1) _ _ (fun x7 hx7 => ?_)
    have fx7 : x7.2.1 100 7 = 1 := by rw [hx7]; exact kbX6_over _ _ _ fM6
    refine tk_ind (P := fun u : Mem => u.1 100 7 = 1) _ _ (fun M8 hM8 => ?_)
    have fM8 : M8.1 100 7 = 1 := by rw [hM8, st_ne _ _ _ (by decide)]; exact fx7
    exact fM8
  · refine ⟨fun h => absurd h z, fun _ => ?_⟩
    refine tk_ind (P := fun u : Mem => (∀ i, i ≠ 109 → u.1 i = M.1 i) ∧ A4 (u.1 109) (tfV (bxR M b))) _ _ (fun x1 hx1 => ?_)
    have ex1 : x1 = (tfV (bxR M b) 0, M) := hx1.trans (by rw [tfV_0]; exact ovE (cn_minus _ _) (hs 2 (by decide)) z)
    have ax1 : x1.1 = tfV (bxR M b) 0 := by rw [ex1]
    have bx1 : x1.2 = M := by rw [ex1]
    rw [ax1, bx1]
    refine tk_ind (P := fun u : Mem => (∀ i, i ≠ 109 → u.1 i = M.1 i) ∧ A4 (u.1 109) (tfV (bxR M b))) _ _ (fun M2 hM2 => ?_)
    have rM2 : ∀ i, i ≠ 109 → M2.1 i = M.1 i := fun i hi => by rw [hM2, st_ne _ _ _ hi]
    have wM2_0 : M2.1 109 0 = tfV (bxR M b) 0 := by rw [hM2, st_at]
    refine tk_ind (P := fun u : Mem => (∀ i, i ≠ 109 → u.1 i = M.1 i) ∧ A4 (u.1 109) (tfV (bxR M b))) _ _ (fun x3 hx3 => ?_)
    have ex3 : x3 = (tfV (bxR M b) 1, M2) := hx3.trans (by rw [rM2 101 (by decide), tfV_1]; exact ovE (hs 0 (by decide)) (hs 2 (by decide)) z)
    have ax3 : x3.1 = tfV (bxR M b) 1 := by rw [ex3]
    have bx3 : x3.2 = M2 := by rw [ex3]
    rw [ax3, bx3]
    refine tk_ind (P := fun u : Mem => (∀ i, i ≠ 109 → u.1 i = M.1 i) ∧ A4 (u.1 109) (tfV (bxR M b))) _ _ (fun M4 hM4 => ?_)
    have rM4 : ∀ i, i ≠ 109 → M4.1 i = M.1 i := fun i hi => by rw [hM4, st_ne _ _ _ hi]; exact rM2 i hi
    have wM4_1 : M4.1 109 1 = tfV (bxR M b) 1 := by rw [hM4, st_at]
    have wM4_0 : M4.1 109 0 = tfV (bxR M b) 0 := (show M4.1 109 0 = M2.1 109 0 from by rw [hM4, st_at_ne _ _ _ _ (by decide)]).trans wM2_0
    refine tk_ind (P := fun u : Mem => (∀ i, i ≠ 109 → u.1 i = M.1 i) ∧ A4 (u.1 109) (tfV (bxR M b))) _ _ (fun x5 hx5 => ?_)
    have ex5 : x5 = (tfV (bxR M b) 2, M4) := hx5.trans (by rw [lessE, rM4 101 (by decide), tfV_2]; exact ovE (cn_minus _ _) (hs 2 (by decide)) z)
    have ax5 : x5.1 = tfV (bxR M b) 2 := by rw [ex5]
    have bx5 : x5.2 = M4 := by rw [ex5]
    rw [ax5, bx5]
    refine tk_ind (P := fun u : Mem => (∀ i, i ≠ 109 → u.1 i = M.1 i) ∧ A4 (u.1 109) (tfV (bxR M b))) _ _ (fun M6 hM6 => ?_)
    have rM6 : ∀ i, i ≠ 109 → M6.1 i = M.1 i := fun i hi => by rw [hM6, st_ne _ _ _ hi]; exact rM4 i hi
    have wM6_2 : M6.1 109 2 = tfV (bxR M b) 2 := by rw [hM6, st_at]
    have wM6_0 : M6.1 109 0 = tfV (bxR M b) 0 := (show M6.1 109 0 = M4.1 109 0 from by rw [hM6, st_at_ne _ _ _ _ (by decide)]).trans wM4_0
    have wM6_1 : M6.1 109 1 = tfV (bxR M b) 1 := (show M6.1 109 1 = M4.1 109 1 from by rw [hM6, st_at_ne _ _ _ _ (by decide)]).trans wM4_1
    refine tk_ind (P := fun u : Mem => (∀ i, i ≠ 109 → u.1 i = M.1 i) ∧ A4 (u.1 109) (tfV (bxR M b))) _ _ (fun x7 hx7 => ?_)
    have ex7 : x7 = (tfV (bxR M b) 3, M6) := hx7.trans (by rw [tfV_3]; exact ovE cn_1 (hs 2 (by decide)) z)
    have ax7 : x7.1 = tfV (bxR M b) 3 := by rw [ex7]
    have bx7 : x7.2 = M6 := by rw [ex7]
    rw [ax7, bx7]
    refine tk_ind (P := fun u : Mem => (∀ i, i ≠ 109 → u.1 i = M.1 i) ∧ A4 (u.1 109) (tfV (bxR M b))) _ _ (fun M8 hM8 => ?_)
    have rM8 : ∀ i, i ≠ 109 → M8.1 i = M.1 i := fun i hi => by rw [hM8, st_ne _ _ _ hi]; exact rM6 i hi
    have wM8_3 : M8.1 109 3 = tfV (bxR M b) 3 := by rw [hM8, st_at]
    have wM8_0 : M8.1 109 0 = tfV (bxR M b) 0 := (show M8.1 109 0 = M6.1 109 0 from by rw [hM8, st_at_ne _ _ _ _ (by decide)]).trans wM6_0
    have wM8_1 : M8.1 109 1 = tfV (bxR M b) 1 := (show M8.1 109 1 = M6.1 109 1 from by rw [hM8, st_at_ne _ _ _ _ (by decide)]).trans wM6_1
    have wM8_2 : M8.1 109 2 = tfV (bxR M b) 2 := (show M8.1 109 2 = M6.1 109 2 from by rw [hM8, st_at_ne _ _ _ _ (by decide)]).trans wM6_2
    exact ⟨rM8, r4 wM8_0 wM8_1 wM8_2 wM8_3⟩
theorem mtf_2 {M : Mem} {b : Int32} (hb : 0 ≤ b.toInt ∧ b.toInt < 8) (hs : C4 (bxR M b)) : FP 110 M (M.1 101 (1 + 4 * b.toNatClampNeg + 2) = 0) (tfV (bxR M b)) (sX6_formsTo_2 M b) := by
  unfold sX6_formsTo_2
  rw [bi0 hb, bi2 hb, bi3 hb, detBoxE hb hs, lessE]
  by_cases z : M.1 101 (1 + 4 * b.toNatClampNeg + 2) = 0
  · refine ⟨fun _ => ?_, fun h => absurd z h⟩
    refine tk_ind (P := fun u : Mem => u.1 100 7 = 1) _ _ (fun x1 hx1 => ?_)
    rw [z, ov0] at hx1
    have f0 : x1.2.1 100 7 = 1 := by rw [hx1, st_at]
    refine tk_ind (P := fun u : Mem => u.1 100 7 = 1) _ _ (fun M2 hM2 => ?_)
    have fM2 : M2.1 100 7 = 1 := by rw [hM2, st_ne _ _ _ (by decide)]; exact f0
    refine tk_ind (P := fun u : Mem => u.1 100 7 = 1) _ _ (fun x3 hx3 => ?_)
    have fx3 : x3.2.1 100 7 = 1 := by rw [hx3]; exact kbX6_over _ _ _ fM2
    refine tk_ind (P := fun u : Mem => u.1 100 7 = 1) _ _ (fun M4 hM4 => ?_)
    have fM4 : M4.1 100 7 = 1 := by rw [hM4, st_ne _ _ _ (by decide)]; exact fx3
    refine tk_ind (P := fun u : Mem => u.1 100 7 = 1) _ _ (fun x5 hx5 => ?_)
    have fx5 : x5.2.1 100 7 = 1 := by rw [hx5]; exact kbX6_over _ _ _ fM4
    refine tk_ind (P := fun u : Mem => u.1 100 7 = 1) _ _ (fun M6 hM6 => ?_)
    have fM6 : M6.1 100 7 = 1 := by rw [hM6, st_ne _ _ _ (by decide)]; exact fx5
    refine tk_ind (P := fun u : Mem => u.1 100 7 = 1) _ _ (fun x7 hx7 => ?_)
    have fx7 : x7.2.1 100 7 = 1 := by rw [hx7]; exact kbX6_over _ _ _ fM6
    refine tk_ind (P := fun u : Mem => u.1 100 7 = 1) _ _ (fun M8 hM8 => ?_)
    have fM8 : M8.1 100 7 = 1 := by rw [hM8, st_ne _ _ _ (by decide)]; exact fx7
    exact fM8
  · refine ⟨fun h => absurd h z, fun _ => ?_⟩
    refine tk_ind (P := fun u : Mem => (∀ i, i ≠ 110 → u.1 i = M.1 i) ∧ A4 (u.1 110) (tfV (bxR M b))) _ _ (fun x1 hx1 => ?_)
    have ex1 : x1 = (tfV (bxR M b) 0, M) := hx1.trans (by rw [tfV_0]; exact ovE (cn_minus _ _) (hs 2 (by decide)) z)
    have ax1 : x1.1 = tfV (bxR M b) 0 := by rw [ex1]
    have bx1 : x1.2 = M := by rw [ex1]
    rw [ax1, bx1]
    refine tk_ind (P := fun u : Mem => (∀ i, i ≠ 110 → u.1 i = M.1 i) ∧ A4 (u.1 110) (tfV (bxR M b))) _ _ (fun M2 hM2 => ?_)
    have rM2 : ∀ i, i ≠ 110 → M2.1 i = M.1 i := fun i hi => by rw [hM2, st_ne _ _ _ hi]
    have wM2_0 : M2.1 110 0 = tfV (bxR M b) 0 := by rw [hM2, st_at]
    refine tk_ind (P := fun u : Mem => (∀ i, i ≠ 110 → u.1 i = M.1 i) ∧ A4 (u.1 110) (tfV (bxR M b))) _ _ (fun x3 hx3 => ?_)
    have ex3 : x3 = (tfV (bxR M b) 1, M2) := hx3.trans (by rw [rM2 101 (by decide), tfV_1]; exact ovE (hs 0 (by decide)) (hs 2 (by decide)) z)
    have ax3 : x3.1 = tfV (bxR M b) 1 := by rw [ex3]
    have bx3 : x3.2 = M2 := by rw [ex3]
    rw [ax3, bx3]
    refine tk_ind (P := fun u : Mem => (∀ i, i ≠ 110 → u.1 i = M.1 i) ∧ A4 (u.1 110) (tfV (bxR M b))) _ _ (fun M4 hM4 => ?_)
    have rM4 : ∀ i, i ≠ 110 → M4.1 i = M.1 i := fun i hi => by rw [hM4, st_ne _ _ _ hi]; exact rM2 i hi
    have wM4_1 : M4.1 110 1 = tfV (bxR M b) 1 := by rw [hM4, st_at]
    have wM4_0 : M4.1 110 0 = tfV (bxR M b) 0 := (show M4.1 110 0 = M2.1 110 0 from by rw [hM4, st_at_ne _ _ _ _ (by decide)]).trans wM2_0
    refine tk_ind (P := fun u : Mem => (∀ i, i ≠ 110 → u.1 i = M.1 i) ∧ A4 (u.1 110) (tfV (bxR M b))) _ _ (fun x5 hx5 => ?_)
    have ex5 : x5 = (tfV (bxR M b) 2, M4) := hx5.trans (by rw [lessE, rM4 101 (by decide), tfV_2]; exact ovE (cn_minus _ _) (hs 2 (by decide)) z)
    have ax5 : x5.1 = tfV (bxR M b) 2 := by rw [ex5]
    have bx5 : x5.2 = M4 := by rw [ex5]
    rw [ax5, bx5]
    refine tk_ind (P := fun u : Mem => (∀ i, i ≠ 110 → u.1 i = M.1 i) ∧ A4 (u.1 110) (tfV (bxR M b))) _ _ (fun M6 hM6 => ?_)
    have rM6 : ∀ i, i ≠ 110 → M6.1 i = M.1 i := fun i hi => by rw [hM6, st_ne _ _ _ hi]; exact rM4 i hi
    have wM6_2 : M6.1 110 2 = tfV (bxR M b) 2 := by rw [hM6, st_at]
    have wM6_0 : M6.1 110 0 = tfV (bxR M b) 0 := (show M6.1 110 0 = M4.1 110 0 from by rw [hM6, st_at_ne _ _ _ _ (by decide)]).trans wM4_0
    have wM6_1 : M6.1 110 1 = tfV (bxR M b) 1 := (show M6.1 110 1 = M4.1 110 1 from by rw [hM6, st_at_ne _ _ _ _ (by decide)]).trans wM4_1
    refine tk_ind (P := fun u : Mem => (∀ i, i ≠ 110 → u.1 i = M.1 i) ∧ A4 (u.1 110) (tfV (bxR M b))) _ _ (fun x7 hx7 => ?_)
    have ex7 : x7 = (tfV (bxR M b) 3, M6) := hx7.trans (by rw [tfV_3]; exact ovE cn_1 (hs 2 (by decide)) z)
    have ax7 : x7.1 = tfV (bxR M b) 3 := by rw [ex7]
    have bx7 : x7.2 = M6 := by rw [ex7]
    rw [ax7, bx7]
    refine tk_ind (P := fun u : Mem => (∀ i, i ≠ 110 → u.1 i = M.1 i) ∧ A4 (u.1 110) (tfV (bxR M b))) _ _ (fun M8 hM8 => ?_)
    have rM8 : ∀ i, i ≠ 110 → M8.1 i = M.1 i := fun i hi => by rw [hM8, st_ne _ _ _ hi]; exact rM6 i hi
    have wM8_3 : M8.1 110 3 = tfV (bxR M b) 3 := by rw [hM8, st_at]
    have wM8_0 : M8.1 110 0 = tfV (bxR M b) 0 := (show M8.1 110 0 = M6.1 110 0 from by rw [hM8, st_at_ne _ _ _ _ (by decide)]).trans wM6_0
    have wM8_1 : M8.1 110 1 = tfV (bxR M b) 1 := (show M8.1 110 1 = M6.1 110 1 from by rw [hM8, st_at_ne _ _ _ _ (by decide)]).trans wM6_1
    have wM8_2 : M8.1 110 2 = tfV (bxR M b) 2 := (show M8.1 110 2 = M6.1 110 2 from by rw [hM8, st_at_ne _ _ _ _ (by decide)]).trans wM6_2
    exact ⟨rM8, r4 wM8_0 wM8_1 wM8_2 wM8_3⟩
theorem miv_1 {M : Mem} (ht : C4 (M.1 109)) : FP 109 M (dtV (M.1 109) = 0) (ivV (M.1 109)) (sX6_inverts_1 M) := by
  unfold sX6_inverts_1
  by_cases z : dtV (M.1 109) = 0
  · refine ⟨fun _ => ?_, fun h => absurd z h⟩
    refine tk_ind (P := fun u : Mem => u.1 100 7 = 1) _ _ (fun x1 hx1 => ?_)
    have ex1 : x1 = dtV (M.1 109) := by rw [hx1, lessE, byE (ht 0 (by decide)) (ht 3 (by decide)), byE (ht 1 (by decide)) (ht 2 (by decide))]; rfl
    refine tk_ind (P := fun u : Mem => u.1 100 7 = 1) _ _ (fun x2 hx2 => ?_)
    rw [ex1, z, ov0] at hx2
    have f0 : x2.2.1 100 7 = 1 := by rw [hx2, st_at]
    refine tk_ind (P := fun u : Mem => u.1 100 7 = 1) _ _ (fun x3 hx3 => ?_)
    have fx3 : x3.2.1 100 7 = 1 := by rw [hx3]; exact kbX6_over _ _ _ f0
    refine tk_ind (P := fun u : Mem => u.1 100 7 = 1) _ _ (fun M4 hM4 => ?_)
    have fM4 : M4.1 100 7 = 1 := by rw [hM4, st_ne _ _ _ (by decide)]; exact fx3
    refine tk_ind (P := fun u : Mem => u.1 100 7 = 1) _ _ (fun x5 hx5 => ?_)
    have fx5 : x5.2.1 100 7 = 1 := by rw [hx5]; exact kbX6_over _ _ _ fM4
    refine tk_ind (P := fun u : Mem => u.1 100 7 = 1) _ _ (fun M6 hM6 => ?_)
    have fM6 : M6.1 100 7 = 1 := by rw [hM6, st_ne _ _ _ (by decide)]; exact fx5
    refine tk_ind (P := fun u : Mem => u.1 100 7 = 1) _ _ (fun x7 hx7 => ?_)
    have fx7 : x7.2.1 100 7 = 1 := by rw [hx7]; exact kbX6_over _ _ _ fM6
    refine tk_ind (P := fun u : Mem => u.1 100 7 = 1) _ _ (fun M8 hM8 => ?_)
    have fM8 : M8.1 100 7 = 1 := by rw [hM8, st_ne _ _ _ (by decide)]; exact fx7
    refine tk_ind (P := fun u : Mem => u.1 100 7 = 1) _ _ (fun M9 hM9 => ?_)
    have fM9 : M9.1 100 7 = 1 := by rw [hM9, st_ne _ _ _ (by decide)]; exact fM8
    exact fM9
  · refine ⟨fun h => absurd h z, fun _ => ?_⟩
    have wM_0 : M.1 109 0 = M.1 109 0 := rfl
    have wM_1 : M.1 109 1 = M.1 109 1 := rfl
    have wM_2 : M.1 109 2 = M.1 109 2 := rfl
    have wM_3 : M.1 109 3 = M.1 109 3 := rfl
    refine tk_ind (P := fun u : Mem => (∀ i, i ≠ 109 → u.1 i = M.1 i) ∧ A4 (u.1 109) (ivV (M.1 109))) _ _ (fun x1 hx1 => ?_)
    have ex1 : x1 = dtV (M.1 109) := by rw [hx1, lessE, byE (ht 0 (by decide)) (ht 3 (by decide)), byE (ht 1 (by decide)) (ht 2 (by decide))]; rfl
    refine tk_ind (P := fun u : Mem => (∀ i, i ≠ 109 → u.1 i = M.1 i) ∧ A4 (u.1 109) (ivV (M.1 109))) _ _ (fun x2 hx2 => ?_)
    have ex2 : x2 = (ivV (M.1 109) 3, M) := hx2.trans (by rw [ex1, ivV_3]; exact ovE (ht 0 (by decide)) (cn_dt _) z)
    have ax2 : x2.1 = ivV (M.1 109) 3 := by rw [ex2]
    have bx2 : x2.2 = M := by rw [ex2]
    rw [ax2, bx2]
    refine tk_ind (P := fun u : Mem => (∀ i, i ≠ 109 → u.1 i = M.1 i) ∧ A4 (u.1 109) (ivV (M.1 109))) _ _ (fun x3 hx3 => ?_)
    have ex3 : x3 = (ivV (M.1 109) 0, M) := hx3.trans (by rw [ex1, ivV_0]; exact ovE (ht 3 (by decide)) (cn_dt _) z)
    have ax3 : x3.1 = ivV (M.1 109) 0 := by rw [ex3]
    have bx3 : x3.2 = M := by rw [ex3]
    rw [ax3, bx3]
    refine tk_ind (P := fun u : Mem => (∀ i, i ≠ 109 → u.1 i = M.1 i) ∧ A4 (u.1 109) (ivV (M.1 109))) _ _ (fun M4 hM4 => ?_)
    have rM4 : ∀ i, i ≠ 109 → M4.1 i = M.1 i := fun i hi => by rw [hM4, st_ne _ _ _ hi]
    have wM4_0 : M4.1 109 0 = ivV (M.1 109) 0 := by rw [hM4, st_at]
    have wM4_1 : M4.1 109 1 = M.1 109 1 := (show M4.1 109 1 = M.1 109 1 from by rw [hM4, st_at_ne _ _ _ _ (by decide)]).trans wM_1
    have wM4_2 : M4.1 109 2 = M.1 109 2 := (show M4.1 109 2 = M.1 109 2 from by rw [hM4, st_at_ne _ _ _ _ (by decide)]).trans wM_2
    have wM4_3 : M4.1 109 3 = M.1 109 3 := (show M4.1 109 3 = M.1 109 3 from by rw [hM4, st_at_ne _ _ _ _ (by decide)]).trans wM_3
    refine tk_ind (P := fun u : Mem => (∀ i, i ≠ 109 → u.1 i = M.1 i) ∧ A4 (u.1 109) (ivV (M.1 109))) _ _ (fun x5 hx5 => ?_)
    have ex5 : x5 = (ivV (M.1 109) 1, M4) := hx5.trans (by rw [lessE, wM4_1, ex1, ivV_1]; exact ovE (cn_minus _ _) (cn_dt _) z)
    have ax5 : x5.1 = ivV (M.1 109) 1 := by rw [ex5]
    have bx5 : x5.2 = M4 := by rw [ex5]
    rw [ax5, bx5]
    refine tk_ind (P := fun u : Mem => (∀ i, i ≠ 109 → u.1 i = M.1 i) ∧ A4 (u.1 109) (ivV (M.1 109))) _ _ (fun M6 hM6 => ?_)
    have rM6 : ∀ i, i ≠ 109 → M6.1 i = M.1 i := fun i hi => by rw [hM6, st_ne _ _ _ hi]; exact rM4 i hi
    have wM6_1 : M6.1 109 1 = ivV (M.1 109) 1 := by rw [hM6, st_at]
    have wM6_0 : M6.1 109 0 = ivV (M.1 109) 0 := (show M6.1 109 0 = M4.1 109 0 from by rw [hM6, st_at_ne _ _ _ _ (by decide)]).trans wM4_0
    have wM6_2 : M6.1 109 2 = M.1 109 2 := (show M6.1 109 2 = M4.1 109 2 from by rw [hM6, st_at_ne _ _ _ _ (by decide)]).trans wM4_2
    have wM6_3 : M6.1 109 3 = M.1 109 3 := (show M6.1 109 3 = M4.1 109 3 from by rw [hM6, st_at_ne _ _ _ _ (by decide)]).trans wM4_3
    refine tk_ind (P := fun u : Mem => (∀ i, i ≠ 109 → u.1 i = M.1 i) ∧ A4 (u.1 109) (ivV (M.1 109))) _ _ (fun x7 hx7 => ?_)
    have ex7 : x7 = (ivV (M.1 109) 2, M6) := hx7.trans (by rw [lessE, wM6_2, ex1, ivV_2]; exact ovE (cn_minus _ _) (cn_dt _) z)
    have ax7 : x7.1 = ivV (M.1 109) 2 := by rw [ex7]
    have bx7 : x7.2 = M6 := by rw [ex7]
    rw [ax7, bx7]
    refine tk_ind (P := fun u : Mem => (∀ i, i ≠ 109 → u.1 i = M.1 i) ∧ A4 (u.1 109) (ivV (M.1 109))) _ _ (fun M8 hM8 => ?_)
    have rM8 : ∀ i, i ≠ 109 → M8.1 i = M.1 i := fun i hi => by rw [hM8, st_ne _ _ _ hi]; exact rM6 i hi
    have wM8_2 : M8.1 109 2 = ivV (M.1 109) 2 := by rw [hM8, st_at]
    have wM8_0 : M8.1 109 0 = ivV (M.1 109) 0 := (show M8.1 109 0 = M6.1 109 0 from by rw [hM8, st_at_ne _ _ _ _ (by decide)]).trans wM6_0
    have wM8_1 : M8.1 109 1 = ivV (M.1 109) 1 := (show M8.1 109 1 = M6.1 109 1 from by rw [hM8, st_at_ne _ _ _ _ (by decide)]).trans wM6_1
    have wM8_3 : M8.1 109 3 = M.1 109 3 := (show M8.1 109 3 = M6.1 109 3 from by rw [hM8, st_at_ne _ _ _ _ (by decide)]).trans wM6_3
    refine tk_ind (P := fun u : Mem => (∀ i, i ≠ 109 → u.1 i = M.1 i) ∧ A4 (u.1 109) (ivV (M.1 109))) _ _ (fun M9 hM9 => ?_)
    have rM9 : ∀ i, i ≠ 109 → M9.1 i = M.1 i := fun i hi => by rw [hM9, st_ne _ _ _ hi]; exact rM8 i hi
    have wM9_3 : M9.1 109 3 = ivV (M.1 109) 3 := by rw [hM9, st_at]
    have wM9_0 : M9.1 109 0 = ivV (M.1 109) 0 := (show M9.1 109 0 = M8.1 109 0 from by rw [hM9, st_at_ne _ _ _ _ (by decide)]).trans wM8_0
    have wM9_1 : M9.1 109 1 = ivV (M.1 109) 1 := (show M9.1 109 1 = M8.1 109 1 from by rw [hM9, st_at_ne _ _ _ _ (by decide)]).trans wM8_1
    have wM9_2 : M9.1 109 2 = ivV (M.1 109) 2 := (show M9.1 109 2 = M8.1 109 2 from by rw [hM9, st_at_ne _ _ _ _ (by decide)]).trans wM8_2
    exact ⟨rM9, r4 wM9_0 wM9_1 wM9_2 wM9_3⟩
theorem miv_2 {M : Mem} (ht : C4 (M.1 110)) : FP 110 M (dtV (M.1 110) = 0) (ivV (M.1 110)) (sX6_inverts_2 M) := by
  unfold sX6_inverts_2
  by_cases z : dtV (M.1 110) = 0
  · refine ⟨fun _ => ?_, fun h => absurd z h⟩
    refine tk_ind (P := fun u : Mem => u.1 100 7 = 1) _ _ (fun x1 hx1 => ?_)
    have ex1 : x1 = dtV (M.1 110) := by rw [hx1, lessE, byE (ht 0 (by decide)) (ht 3 (by decide)), byE (ht 1 (by decide)) (ht 2 (by decide))]; rfl
    refine tk_ind (P := fun u : Mem => u.1 100 7 = 1) _ _ (fun x2 hx2 => ?_)
    rw [ex1, z, ov0] at hx2
    have f0 : x2.2.1 100 7 = 1 := by rw [hx2, st_at]
    refine tk_ind (P := fun u : Mem => u.1 100 7 = 1) _ _ (fun x3 hx3 => ?_)
    have fx3 : x3.2.1 100 7 = 1 := by rw [hx3]; exact kbX6_over _ _ _ f0
    refine tk_ind (P := fun u : Mem => u.1 100 7 = 1) _ _ (fun M4 hM4 => ?_)
    have fM4 : M4.1 100 7 = 1 := by rw [hM4, st_ne _ _ _ (by decide)]; exact fx3
    refine tk_ind (P := fun u : Mem => u.1 100 7 = 1) _ _ (fun x5 hx5 => ?_)
    have fx5 : x5.2.1 100 7 = 1 := by rw [hx5]; exact kbX6_over _ _ _ fM4
    refine tk_ind (P := fun u : Mem => u.1 100 7 = 1) _ _ (fun M6 hM6 => ?_)
    have fM6 : M6.1 100 7 = 1 := by rw [hM6, st_ne _ _ _ (by decide)]; exact fx5
    refine tk_ind (P := fun u : Mem => u.1 100 7 = 1) _ _ (fun x7 hx7 => ?_)
    have fx7 : x7.2.1 100 7 = 1 := by rw [hx7]; exact kbX6_over _ _ _ fM6
    refine tk_ind (P := fun u : Mem => u.1 100 7 = 1) _ _ (fun M8 hM8 => ?_)
    have fM8 : M8.1 100 7 = 1 := by rw [hM8, st_ne _ _ _ (by decide)]; exact fx7
    refine tk_ind (P := fun u : Mem => u.1 100 7 = 1) _ _ (fun M9 hM9 => ?_)
    have fM9 : M9.1 100 7 = 1 := by rw [hM9, st_ne _ _ _ (by decide)]; exact fM8
    exact fM9
  · refine ⟨fun h => absurd h z, fun _ => ?_⟩
    have wM_0 : M.1 110 0 = M.1 110 0 := rfl
    have wM_1 : M.1 110 1 = M.1 110 1 := rfl
    have wM_2 : M.1 110 2 = M.1 110 2 := rfl
    have wM_3 : M.1 110 3 = M.1 110 3 := rfl
    refine tk_ind (P := fun u : Mem => (∀ i, i ≠ 110 → u.1 i = M.1 i) ∧ A4 (u.1 110) (ivV (M.1 110))) _ _ (fun x1 hx1 => ?_)
    have ex1 : x1 = dtV (M.1 110) := by rw [hx1, lessE, byE (ht 0 (by decide)) (ht 3 (by decide)), byE (ht 1 (by decide)) (ht 2 (by decide))]; rfl
    refine tk_ind (P := fun u : Mem => (∀ i, i ≠ 110 → u.1 i = M.1 i) ∧ A4 (u.1 110) (ivV (M.1 110))) _ _ (fun x2 hx2 => ?_)
    have ex2 : x2 = (ivV (M.1 110) 3, M) := hx2.trans (by rw [ex1, ivV_3]; exact ovE (ht 0 (by decide)) (cn_dt _) z)
    have ax2 : x2.1 = ivV (M.1 110) 3 := by rw [ex2]
    have bx2 : x2.2 = M := by rw [ex2]
    rw [ax2, bx2]
    refine tk_ind (P := fun u : Mem => (∀ i, i ≠ 110 → u.1 i = M.1 i) ∧ A4 (u.1 110) (ivV (M.1 110))) _ _ (fun x3 hx3 => ?_)
    have ex3 : x3 = (ivV (M.1 110) 0, M) := hx3.trans (by rw [ex1, ivV_0]; exact ovE (ht 3 (by decide)) (cn_dt _) z)
    have ax3 : x3.1 = ivV (M.1 110) 0 := by rw [ex3]
    have bx3 : x3.2 = M := by rw [ex3]
    rw [ax3, bx3]
    refine tk_ind (P := fun u : Mem => (∀ i, i ≠ 110 → u.1 i = M.1 i) ∧ A4 (u.1 110) (ivV (M.1 110))) _ _ (fun M4 hM4 => ?_)
    have rM4 : ∀ i, i ≠ 110 → M4.1 i = M.1 i := fun i hi => by rw [hM4, st_ne _ _ _ hi]
    have wM4_0 : M4.1 110 0 = ivV (M.1 110) 0 := by rw [hM4, st_at]
    have wM4_1 : M4.1 110 1 = M.1 110 1 := (show M4.1 110 1 = M.1 110 1 from by rw [hM4, st_at_ne _ _ _ _ (by decide)]).trans wM_1
    have wM4_2 : M4.1 110 2 = M.1 110 2 := (show M4.1 110 2 = M.1 110 2 from by rw [hM4, st_at_ne _ _ _ _ (by decide)]).trans wM_2
    have wM4_3 : M4.1 110 3 = M.1 110 3 := (show M4.1 110 3 = M.1 110 3 from by rw [hM4, st_at_ne _ _ _ _ (by decide)]).trans wM_3
    refine tk_ind (P := fun u : Mem => (∀ i, i ≠ 110 → u.1 i = M.1 i) ∧ A4 (u.1 110) (ivV (M.1 110))) _ _ (fun x5 hx5 => ?_)
    have ex5 : x5 = (ivV (M.1 110) 1, M4) := hx5.trans (by rw [lessE, wM4_1, ex1, ivV_1]; exact ovE (cn_minus _ _) (cn_dt _) z)
    have ax5 : x5.1 = ivV (M.1 110) 1 := by rw [ex5]
    have bx5 : x5.2 = M4 := by rw [ex5]
    rw [ax5, bx5]
    refine tk_ind (P := fun u : Mem => (∀ i, i ≠ 110 → u.1 i = M.1 i) ∧ A4 (u.1 110) (ivV (M.1 110))) _ _ (fun M6 hM6 => ?_)
    have rM6 : ∀ i, i ≠ 110 → M6.1 i = M.1 i := fun i hi => by rw [hM6, st_ne _ _ _ hi]; exact rM4 i hi
    have wM6_1 : M6.1 110 1 = ivV (M.1 110) 1 := by rw [hM6, st_at]
    have wM6_0 : M6.1 110 0 = ivV (M.1 110) 0 := (show M6.1 110 0 = M4.1 110 0 from by rw [hM6, st_at_ne _ _ _ _ (by decide)]).trans wM4_0
    have wM6_2 : M6.1 110 2 = M.1 110 2 := (show M6.1 110 2 = M4.1 110 2 from by rw [hM6, st_at_ne _ _ _ _ (by decide)]).trans wM4_2
    have wM6_3 : M6.1 110 3 = M.1 110 3 := (show M6.1 110 3 = M4.1 110 3 from by rw [hM6, st_at_ne _ _ _ _ (by decide)]).trans wM4_3
    refine tk_ind (P := fun u : Mem => (∀ i, i ≠ 110 → u.1 i = M.1 i) ∧ A4 (u.1 110) (ivV (M.1 110))) _ _ (fun x7 hx7 => ?_)
    have ex7 : x7 = (ivV (M.1 110) 2, M6) := hx7.trans (by rw [lessE, wM6_2, ex1, ivV_2]; exact ovE (cn_minus _ _) (cn_dt _) z)
    have ax7 : x7.1 = ivV (M.1 110) 2 := by rw [ex7]
    have bx7 : x7.2 = M6 := by rw [ex7]
    rw [ax7, bx7]
    refine tk_ind (P := fun u : Mem => (∀ i, i ≠ 110 → u.1 i = M.1 i) ∧ A4 (u.1 110) (ivV (M.1 110))) _ _ (fun M8 hM8 => ?_)
    have rM8 : ∀ i, i ≠ 110 → M8.1 i = M.1 i := fun i hi => by rw [hM8, st_ne _ _ _ hi]; exact rM6 i hi
    have wM8_2 : M8.1 110 2 = ivV (M.1 110) 2 := by rw [hM8, st_at]
    have wM8_0 : M8.1 110 0 = ivV (M.1 110) 0 := (show M8.1 110 0 = M6.1 110 0 from by rw [hM8, st_at_ne _ _ _ _ (by decide)]).trans wM6_0
    have wM8_1 : M8.1 110 1 = ivV (M.1 110) 1 := (show M8.1 110 1 = M6.1 110 1 from by rw [hM8, st_at_ne _ _ _ _ (by decide)]).trans wM6_1
    have wM8_3 : M8.1 110 3 = M.1 110 3 := (show M8.1 110 3 = M6.1 110 3 from by rw [hM8, st_at_ne _ _ _ _ (by decide)]).trans wM6_3
    refine tk_ind (P := fun u : Mem => (∀ i, i ≠ 110 → u.1 i = M.1 i) ∧ A4 (u.1 110) (ivV (M.1 110))) _ _ (fun M9 hM9 => ?_)
    have rM9 : ∀ i, i ≠ 110 → M9.1 i = M.1 i := fun i hi => by rw [hM9, st_ne _ _ _ hi]; exact rM8 i hi
    have wM9_3 : M9.1 110 3 = ivV (M.1 110) 3 := by rw [hM9, st_at]
    have wM9_0 : M9.1 110 0 = ivV (M.1 110) 0 := (show M9.1 110 0 = M8.1 110 0 from by rw [hM9, st_at_ne _ _ _ _ (by decide)]).trans wM8_0
    have wM9_1 : M9.1 110 1 = ivV (M.1 110) 1 := (show M9.1 110 1 = M8.1 110 1 from by rw [hM9, st_at_ne _ _ _ _ (by decide)]).trans wM8_1
    have wM9_2 : M9.1 110 2 = ivV (M.1 110) 2 := (show M9.1 110 2 = M8.1 110 2 from by rw [hM9, st_at_ne _ _ _ _ (by decide)]).trans wM8_2
    exact ⟨rM9, r4 wM9_0 wM9_1 wM9_2 wM9_3⟩
theorem mmu {M : Mem} (h1 : C4 (M.1 109)) (h2 : C4 (M.1 110)) : (∀ i, i ≠ 111 → (sX6_multiplies M).1 i = M.1 i) ∧ A4 ((sX6_multiplies M).1 111) (prV (M.1 109) (M.1 110)) := by
  unfold sX6_multiplies
  have pq : ∀ a b c d : Int32, CN a → CN b → CN c → CN d → fX6_plus (fX6_by a b) (fX6_by c d) = fX1_pairs a b c d := fun a b c d ha hb hc hd => by
    unfold fX1_pairs
    rw [plusE, byE ha hb, byE hc hd]
  have h10 := h1 0 (by decide)
  have h11 := h1 1 (by decide)
  have h12 := h1 2 (by decide)
  have h13 := h1 3 (by decide)
  have h20 := h2 0 (by decide)
  have h21 := h2 1 (by decide)
  have h22 := h2 2 (by decide)
  have h23 := h2 3 (by decide)
  refine tk_ind (P := fun u : Mem => (∀ i, i ≠ 111 → u.1 i = M.1 i) ∧ A4 (u.1 111) (prV (M.1 109) (M.1 110))) _ _ (fun M1 e1 => ?_)
  have r1 : ∀ i, i ≠ 111 → M1.1 i = M.1 i := fun i hi => by rw [e1, st_ne _ _ _ hi]
  have w1 : M1.1 111 0 = prV (M.1 109) (M.1 110) 0 := by rw [e1, st_at, pq _ _ _ _ h10 h20 h11 h22, prV_0]
  rw [r1 109 (by decide), r1 110 (by decide)]
  refine tk_ind (P := fun u : Mem => (∀ i, i ≠ 111 → u.1 i = M.1 i) ∧ A4 (u.1 111) (prV (M.1 109) (M.1 110))) _ _ (fun M2 e2 => ?_)
  have r2 : ∀ i, i ≠ 111 → M2.1 i = M.1 i := fun i hi => by rw [e2, st_ne _ _ _ hi, r1 i hi]
  have w2 : M2.1 111 1 = prV (M.1 109) (M.1 110) 1 := by rw [e2, st_at, pq _ _ _ _ h10 h21 h11 h23, prV_1]
  have w20 : M2.1 111 0 = prV (M.1 109) (M.1 110) 0 := by rw [e2, st_at_ne _ _ _ _ (by decide), w1]
  rw [r2 109 (by decide), r2 110 (by decide)]
  refine tk_ind (P := fun u : Mem => (∀ i, i ≠ 111 → u.1 i = M.1 i) ∧ A4 (u.1 111) (prV (M.1 109) (M.1 110))) _ _ (fun M3 e3 => ?_)
  have r3 : ∀ i, i ≠ 111 → M3.1 i = M.1 i := fun i hi => by rw [e3, st_ne _ _ _ hi, r2 i hi]
  have w3 : M3.1 111 2 = prV (M.1 109) (M.1 110) 2 := by rw [e3, st_at, pq _ _ _ _ h12 h20 h13 h22, prV_2]
  have w31 : M3.1 111 1 = prV (M.1 109) (M.1 110) 1 := by rw [e3, st_at_ne _ _ _ _ (by decide), w2]
  have w30 : M3.1 111 0 = prV (M.1 109) (M.1 110) 0 := by rw [e3, st_at_ne _ _ _ _ (by decide), w20]
  rw [r3 109 (by decide), r3 110 (by decide)]
  refine tk_ind (P := fun u : Mem => (∀ i, i ≠ 111 → u.1 i = M.1 i) ∧ A4 (u.1 111) (prV (M.1 109) (M.1 110))) _ _ (fun M4 e4 => ?_)
  have r4' : ∀ i, i ≠ 111 → M4.1 i = M.1 i := fun i hi => by rw [e4, st_ne _ _ _ hi, r3 i hi]
  exact ⟨r4', r4 (by rw [e4, st_at_ne _ _ _ _ (by decide), w30]) (by rw [e4, st_at_ne _ _ _ _ (by decide), w31]) (by rw [e4, st_at_ne _ _ _ _ (by decide), w3]) (by rw [e4, st_at, pq _ _ _ _ h12 h21 h13 h23, prV_3])⟩
theorem mgb {M : Mem} (ht : C4 (M.1 111)) : FP 108 M (M.1 111 3 = 0) (gbV (M.1 111)) (sX6_goesBack M) := by
  unfold sX6_goesBack
  by_cases z : M.1 111 3 = 0
  · refine ⟨fun _ => ?_, fun h => absurd z h⟩
    refine tk_ind (P := fun u : Mem => u.1 100 7 = 1) _ _ (fun x1 hx1 => ?_)
    have ex1 : x1 = dtV (M.1 111) := by rw [hx1, lessE, byE (ht 0 (by decide)) (ht 3 (by decide)), byE (ht 1 (by decide)) (ht 2 (by decide))]; rfl
    refine tk_ind (P := fun u : Mem => u.1 100 7 = 1) _ _ (fun x2 hx2 => ?_)
    rw [z, ov0] at hx2
    have f0 : x2.2.1 100 7 = 1 := by rw [hx2, st_at]
    refine tk_ind (P := fun u : Mem => u.1 100 7 = 1) _ _ (fun M3 hM3 => ?_)
    have fM3 : M3.1 100 7 = 1 := by rw [hM3, st_ne _ _ _ (by decide)]; exact f0
    refine tk_ind (P := fun u : Mem => u.1 100 7 = 1) _ _ (fun x4 hx4 => ?_)
    have fx4 : x4.2.1 100 7 = 1 := by rw [hx4]; exact kbX6_over _ _ _ fM3
    refine tk_ind (P := fun u : Mem => u.1 100 7 = 1) _ _ (fun M5 hM5 => ?_)
    have fM5 : M5.1 100 7 = 1 := by rw [hM5, st_ne _ _ _ (by decide)]; exact fx4
    refine tk_ind (P := fun u : Mem => u.1 100 7 = 1) _ _ (fun x6 hx6 => ?_)
    have fx6 : x6.2.1 100 7 = 1 := by rw [hx6]; exact kbX6_over _ _ _ fM5
    refine tk_ind (P := fun u : Mem => u.1 100 7 = 1) _ _ (fun M7 hM7 => ?_)
    have fM7 : M7.1 100 7 = 1 := by rw [hM7, st_ne _ _ _ (by decide)]; exact fx6
    refine tk_ind (P := fun u : Mem => u.1 100 7 = 1) _ _ (fun x8 hx8 => ?_)
    have fx8 : x8.2.1 100 7 = 1 := by rw [hx8]; exact kbX6_over _ _ _ fM7
    refine tk_ind (P := fun u : Mem => u.1 100 7 = 1) _ _ (fun M9 hM9 => ?_)
    have fM9 : M9.1 100 7 = 1 := by rw [hM9, st_ne _ _ _ (by decide)]; exact fx8
    exact fM9
  · refine ⟨fun h => absurd h z, fun _ => ?_⟩
    refine tk_ind (P := fun u : Mem => (∀ i, i ≠ 108 → u.1 i = M.1 i) ∧ A4 (u.1 108) (gbV (M.1 111))) _ _ (fun x1 hx1 => ?_)
    have ex1 : x1 = dtV (M.1 111) := by rw [hx1, lessE, byE (ht 0 (by decide)) (ht 3 (by decide)), byE (ht 1 (by decide)) (ht 2 (by decide))]; rfl
    refine tk_ind (P := fun u : Mem => (∀ i, i ≠ 108 → u.1 i = M.1 i) ∧ A4 (u.1 108) (gbV (M.1 111))) _ _ (fun x2 hx2 => ?_)
    have ex2 : x2 = (gbV (M.1 111) 0, M) := hx2.trans (by rw [gbV_0]; exact ovE (ht 1 (by decide)) (ht 3 (by decide)) z)
    have ax2 : x2.1 = gbV (M.1 111) 0 := by rw [ex2]
    have bx2 : x2.2 = M := by rw [ex2]
    rw [ax2, bx2]
    refine tk_ind (P := fun u : Mem => (∀ i, i ≠ 108 → u.1 i = M.1 i) ∧ A4 (u.1 108) (gbV (M.1 111))) _ _ (fun M3 hM3 => ?_)
    have rM3 : ∀ i, i ≠ 108 → M3.1 i = M.1 i := fun i hi => by rw [hM3, st_ne _ _ _ hi]
    have wM3_0 : M3.1 108 0 = gbV (M.1 111) 0 := by rw [hM3, st_at]
    refine tk_ind (P := fun u : Mem => (∀ i, i ≠ 108 → u.1 i = M.1 i) ∧ A4 (u.1 108) (gbV (M.1 111))) _ _ (fun x4 hx4 => ?_)
    have ex4 : x4 = (gbV (M.1 111) 1, M3) := hx4.trans (by rw [ex1, rM3 111 (by decide), gbV_1]; exact ovE (cn_dt _) (ht 3 (by decide)) z)
    have ax4 : x4.1 = gbV (M.1 111) 1 := by rw [ex4]
    have bx4 : x4.2 = M3 := by rw [ex4]
    rw [ax4, bx4]
    refine tk_ind (P := fun u : Mem => (∀ i, i ≠ 108 → u.1 i = M.1 i) ∧ A4 (u.1 108) (gbV (M.1 111))) _ _ (fun M5 hM5 => ?_)
    have rM5 : ∀ i, i ≠ 108 → M5.1 i = M.1 i := fun i hi => by rw [hM5, st_ne _ _ _ hi]; exact rM3 i hi
    have wM5_1 : M5.1 108 1 = gbV (M.1 111) 1 := by rw [hM5, st_at]
    have wM5_0 : M5.1 108 0 = gbV (M.1 111) 0 := (show M5.1 108 0 = M3.1 108 0 from by rw [hM5, st_at_ne _ _ _ _ (by decide)]).trans wM3_0
    refine tk_ind (P := fun u : Mem => (∀ i, i ≠ 108 → u.1 i = M.1 i) ∧ A4 (u.1 108) (gbV (M.1 111))) _ _ (fun x6 hx6 => ?_)
    have ex6 : x6 = (gbV (M.1 111) 2, M5) := hx6.trans (by rw [rM5 111 (by decide), gbV_2]; exact ovE cn_1 (ht 3 (by decide)) z)
    have ax6 : x6.1 = gbV (M.1 111) 2 := by rw [ex6]
    have bx6 : x6.2 = M5 := by rw [ex6]
    rw [ax6, bx6]
    refine tk_ind (P := fun u : Mem => (∀ i, i ≠ 108 → u.1 i = M.1 i) ∧ A4 (u.1 108) (gbV (M.1 111))) _ _ (fun M7 hM7 => ?_)
    have rM7 : ∀ i, i ≠ 108 → M7.1 i = M.1 i := fun i hi => by rw [hM7, st_ne _ _ _ hi]; exact rM5 i hi
    have wM7_2 : M7.1 108 2 = gbV (M.1 111) 2 := by rw [hM7, st_at]
    have wM7_0 : M7.1 108 0 = gbV (M.1 111) 0 := (show M7.1 108 0 = M5.1 108 0 from by rw [hM7, st_at_ne _ _ _ _ (by decide)]).trans wM5_0
    have wM7_1 : M7.1 108 1 = gbV (M.1 111) 1 := (show M7.1 108 1 = M5.1 108 1 from by rw [hM7, st_at_ne _ _ _ _ (by decide)]).trans wM5_1
    refine tk_ind (P := fun u : Mem => (∀ i, i ≠ 108 → u.1 i = M.1 i) ∧ A4 (u.1 108) (gbV (M.1 111))) _ _ (fun x8 hx8 => ?_)
    have ex8 : x8 = (gbV (M.1 111) 3, M7) := hx8.trans (by rw [lessE, rM7 111 (by decide), gbV_3]; exact ovE (cn_minus _ _) (ht 3 (by decide)) z)
    have ax8 : x8.1 = gbV (M.1 111) 3 := by rw [ex8]
    have bx8 : x8.2 = M7 := by rw [ex8]
    rw [ax8, bx8]
    refine tk_ind (P := fun u : Mem => (∀ i, i ≠ 108 → u.1 i = M.1 i) ∧ A4 (u.1 108) (gbV (M.1 111))) _ _ (fun M9 hM9 => ?_)
    have rM9 : ∀ i, i ≠ 108 → M9.1 i = M.1 i := fun i hi => by rw [hM9, st_ne _ _ _ hi]; exact rM7 i hi
    have wM9_3 : M9.1 108 3 = gbV (M.1 111) 3 := by rw [hM9, st_at]
    have wM9_0 : M9.1 108 0 = gbV (M.1 111) 0 := (show M9.1 108 0 = M7.1 108 0 from by rw [hM9, st_at_ne _ _ _ _ (by decide)]).trans wM7_0
    have wM9_1 : M9.1 108 1 = gbV (M.1 111) 1 := (show M9.1 108 1 = M7.1 108 1 from by rw [hM9, st_at_ne _ _ _ _ (by decide)]).trans wM7_1
    have wM9_2 : M9.1 108 2 = gbV (M.1 111) 2 := (show M9.1 108 2 = M7.1 108 2 from by rw [hM9, st_at_ne _ _ _ _ (by decide)]).trans wM7_2
    exact ⟨rM9, r4 wM9_0 wM9_1 wM9_2 wM9_3⟩
theorem ms2 {M : Mem} {b : Int32} (hb : 0 ≤ b.toInt ∧ b.toInt < 8) (hs : C4 (bxR M b)) : FP 109 M (s2D (bxR M b) = 0) (s2V (bxR M b)) (sX6_formsSecond M b) := by
  unfold sX6_formsSecond
  rw [bi0 hb, bi1 hb, bi2 hb, bi3 hb]
  by_cases z : s2D (bxR M b) = 0
  · refine ⟨fun _ => ?_, fun h => absurd z h⟩
    refine tk_ind (P := fun u : Mem => u.1 100 7 = 1) _ _ (fun x1 hx1 => ?_)
    have ex1 : x1 = fX1_times (bxR M b 1) (bxR M b 2) := by rw [hx1]; exact byE (hs 1 (by decide)) (hs 2 (by decide))
    refine tk_ind (P := fun u : Mem => u.1 100 7 = 1) _ _ (fun x2 hx2 => ?_)
    have ex2 : x2 = s2D (bxR M b) := by rw [hx2, ex1, lessE, lessE, lessE, byE (cn_minus _ _) (cn_minus _ _)]; rfl
    refine tk_ind (P := fun u : Mem => u.1 100 7 = 1) _ _ (fun x3 hx3 => ?_)
    rw [ex2, z, ov0] at hx3
    have f0 : x3.2.1 100 7 = 1 := by rw [hx3, st_at]
    refine tk_ind (P := fun u : Mem => u.1 100 7 = 1) _ _ (fun M4 hM4 => ?_)
    have fM4 : M4.1 100 7 = 1 := by rw [hM4, st_ne _ _ _ (by decide)]; exact f0
    refine tk_ind (P := fun u : Mem => u.1 100 7 = 1) _ _ (fun x5 hx5 => ?_)
    have fx5 : x5.2.1 100 7 = 1 := by rw [hx5]; exact kbX6_over _ _ _ fM4
    refine tk_ind (P := fun u : Mem => u.1 100 7 = 1) _ _ (fun M6 hM6 => ?_)
    have fM6 : M6.1 100 7 = 1 := by rw [hM6, st_ne _ _ _ (by decide)]; exact fx5
    refine tk_ind (P := fun u : Mem => u.1 100 7 = 1) _ _ (fun x7 hx7 => ?_)
    have fx7 : x7.2.1 100 7 = 1 := by rw [hx7]; exact kbX6_over _ _ _ fM6
    refine tk_ind (P := fun u : Mem => u.1 100 7 = 1) _ _ (fun M8 hM8 => ?_)
    have fM8 : M8.1 100 7 = 1 := by rw [hM8, st_ne _ _ _ (by decide)]; exact fx7
    refine tk_ind (P := fun u : Mem => u.1 100 7 = 1) _ _ (fun x9 hx9 => ?_)
    have fx9 : x9.2.1 100 7 = 1 := by rw [hx9]; exact kbX6_over _ _ _ fM8
    refine tk_ind (P := fun u : Mem => u.1 100 7 = 1) _ _ (fun M10 hM10 => ?_)
    have fM10 : M10.1 100 7 = 1 := by rw [hM10, st_ne _ _ _ (by decide)]; exact fx9
    exact fM10
  · refine ⟨fun h => absurd h z, fun _ => ?_⟩
    refine tk_ind (P := fun u : Mem => (∀ i, i ≠ 109 → u.1 i = M.1 i) ∧ A4 (u.1 109) (s2V (bxR M b))) _ _ (fun x1 hx1 => ?_)
    have ex1 : x1 = fX1_times (bxR M b 1) (bxR M b 2) := by rw [hx1]; exact byE (hs 1 (by decide)) (hs 2 (by decide))
    refine tk_ind (P := fun u : Mem => (∀ i, i ≠ 109 → u.1 i = M.1 i) ∧ A4 (u.1 109) (s2V (bxR M b))) _ _ (fun x2 hx2 => ?_)
    have ex2 : x2 = s2D (bxR M b) := by rw [hx2, ex1, lessE, lessE, lessE, byE (cn_minus _ _) (cn_minus _ _)]; rfl
    refine tk_ind (P := fun u : Mem => (∀ i, i ≠ 109 → u.1 i = M.1 i) ∧ A4 (u.1 109) (s2V (bxR M b))) _ _ (fun x3 hx3 => ?_)
    have ex3 : x3 = (s2V (bxR M b) 0, M) := hx3.trans (by rw [ex2, ex1, plusE, plusE, lessE, byE (cn_plus _ _) (cn_minus _ _), s2V_0]; exact ovE (cn_plus _ _) (cn_s2D _) z)
    have ax3 : x3.1 = s2V (bxR M b) 0 := by rw [ex3]
    have bx3 : x3.2 = M := by rw [ex3]
    rw [ax3, bx3]
    refine tk_ind (P := fun u : Mem => (∀ i, i ≠ 109 → u.1 i = M.1 i) ∧ A4 (u.1 109) (s2V (bxR M b))) _ _ (fun M4 hM4 => ?_)
    have rM4 : ∀ i, i ≠ 109 → M4.1 i = M.1 i := fun i hi => by rw [hM4, st_ne _ _ _ hi]
    have wM4_0 : M4.1 109 0 = s2V (bxR M b) 0 := by rw [hM4, st_at]
    refine tk_ind (P := fun u : Mem => (∀ i, i ≠ 109 → u.1 i = M.1 i) ∧ A4 (u.1 109) (s2V (bxR M b))) _ _ (fun x5 hx5 => ?_)
    have ex5 : x5 = (s2V (bxR M b) 1, M4) := hx5.trans (by rw [ex2, plusE, rM4 101 (by decide), s2V_1]; exact ovE (cn_plus _ _) (cn_s2D _) z)
    have ax5 : x5.1 = s2V (bxR M b) 1 := by rw [ex5]
    have bx5 : x5.2 = M4 := by rw [ex5]
    rw [ax5, bx5]
    refine tk_ind (P := fun u : Mem => (∀ i, i ≠ 109 → u.1 i = M.1 i) ∧ A4 (u.1 109) (s2V (bxR M b))) _ _ (fun M6 hM6 => ?_)
    have rM6 : ∀ i, i ≠ 109 → M6.1 i = M.1 i := fun i hi => by rw [hM6, st_ne _ _ _ hi]; exact rM4 i hi
    have wM6_1 : M6.1 109 1 = s2V (bxR M b) 1 := by rw [hM6, st_at]
    have wM6_0 : M6.1 109 0 = s2V (bxR M b) 0 := (show M6.1 109 0 = M4.1 109 0 from by rw [hM6, st_at_ne _ _ _ _ (by decide)]).trans wM4_0
    refine tk_ind (P := fun u : Mem => (∀ i, i ≠ 109 → u.1 i = M.1 i) ∧ A4 (u.1 109) (s2V (bxR M b))) _ _ (fun x7 hx7 => ?_)
    have ex7 : x7 = (s2V (bxR M b) 2, M6) := hx7.trans (by rw [ex2, plusE, rM6 101 (by decide), s2V_2]; exact ovE (cn_plus _ _) (cn_s2D _) z)
    have ax7 : x7.1 = s2V (bxR M b) 2 := by rw [ex7]
    have bx7 : x7.2 = M6 := by rw [ex7]
    rw [ax7, bx7]
    refine tk_ind (P := fun u : Mem => (∀ i, i ≠ 109 → u.1 i = M.1 i) ∧ A4 (u.1 109) (s2V (bxR M b))) _ _ (fun M8 hM8 => ?_)
    have rM8 : ∀ i, i ≠ 109 → M8.1 i = M.1 i := fun i hi => by rw [hM8, st_ne _ _ _ hi]; exact rM6 i hi
    have wM8_2 : M8.1 109 2 = s2V (bxR M b) 2 := by rw [hM8, st_at]
    have wM8_0 : M8.1 109 0 = s2V (bxR M b) 0 := (show M8.1 109 0 = M6.1 109 0 from by rw [hM8, st_at_ne _ _ _ _ (by decide)]).trans wM6_0
    have wM8_1 : M8.1 109 1 = s2V (bxR M b) 1 := (show M8.1 109 1 = M6.1 109 1 from by rw [hM8, st_at_ne _ _ _ _ (by decide)]).trans wM6_1
    refine tk_ind (P := fun u : Mem => (∀ i, i ≠ 109 → u.1 i = M.1 i) ∧ A4 (u.1 109) (s2V (bxR M b))) _ _ (fun x9 hx9 => ?_)
    have ex9 : x9 = (s2V (bxR M b) 3, M8) := hx9.trans (by rw [ex2, ex1, plusE, plusE, lessE, byE (cn_minus _ _) (cn_plus _ _), s2V_3]; exact ovE (cn_plus _ _) (cn_s2D _) z)
    have ax9 : x9.1 = s2V (bxR M b) 3 := by rw [ex9]
    have bx9 : x9.2 = M8 := by rw [ex9]
    rw [ax9, bx9]
    refine tk_ind (P := fun u : Mem => (∀ i, i ≠ 109 → u.1 i = M.1 i) ∧ A4 (u.1 109) (s2V (bxR M b))) _ _ (fun M10 hM10 => ?_)
    have rM10 : ∀ i, i ≠ 109 → M10.1 i = M.1 i := fun i hi => by rw [hM10, st_ne _ _ _ hi]; exact rM8 i hi
    have wM10_3 : M10.1 109 3 = s2V (bxR M b) 3 := by rw [hM10, st_at]
    have wM10_0 : M10.1 109 0 = s2V (bxR M b) 0 := (show M10.1 109 0 = M8.1 109 0 from by rw [hM10, st_at_ne _ _ _ _ (by decide)]).trans wM8_0
    have wM10_1 : M10.1 109 1 = s2V (bxR M b) 1 := (show M10.1 109 1 = M8.1 109 1 from by rw [hM10, st_at_ne _ _ _ _ (by decide)]).trans wM8_1
    have wM10_2 : M10.1 109 2 = s2V (bxR M b) 2 := (show M10.1 109 2 = M8.1 109 2 from by rw [hM10, st_at_ne _ _ _ _ (by decide)]).trans wM8_2
    exact ⟨rM10, r4 wM10_0 wM10_1 wM10_2 wM10_3⟩
