/-! ===== numbers of two parts: the class's and the reference's are one ===== -/
theorem tm_pos {v : Int} (h : 0 ≤ v) : v.tmod 10007 = v % 10007 := Int.tmod_eq_emod_of_nonneg h
theorem tm_neg {v : Int} (h : v < 0) : v.tmod 10007 = -((-v) % 10007) := by
  have e : v.tmod 10007 = -((-v).tmod 10007) := by rw [Int.neg_tmod, Int.neg_neg]
  rw [e, tm_pos (by omega)]
theorem td_pos {v : Int} (h : 0 ≤ v) : v.tdiv 10007 = v / 10007 := Int.tdiv_eq_ediv_of_nonneg h
theorem td_neg {v : Int} (h : v < 0) : v.tdiv 10007 = -((-v) / 10007) := by
  have e : v.tdiv 10007 = -((-v).tdiv 10007) := by rw [Int.neg_tdiv, Int.neg_neg]
  rw [e, td_pos (by omega)]
theorem dvT (x : Int32) : (x / 10007).toInt = x.toInt.tdiv 10007 := by
  have r := fb_rng x
  rw [Int32.toInt_div]
  show (x.toInt.tdiv 10007).bmod (2 ^ 32) = _
  rcases Int.lt_or_le x.toInt 0 with h | h
  · rw [td_neg h, fb_bmod (by omega) (by omega)]
  · rw [td_pos h, fb_bmod (by omega) (by omega)]
theorem dvP {x : Int32} (h : 0 ≤ x.toInt) : (x / 10007).toInt = x.toInt / 10007 := by rw [dvT, td_pos h]
theorem e10007 : (10007 : Int32).toInt = 10007 := rfl
theorem rmT (x : Int32) : (rem x 10007).toInt = x.toInt.tmod 10007 := by
  have r := fb_rng x
  unfold rem
  have d := dvT x
  rcases Int.lt_or_le x.toInt 0 with h | h
  · rw [td_neg h] at d
    have m : (x / 10007 * 10007).toInt = -((-x.toInt) / 10007) * 10007 := by rw [fb_mulI (by rw [d, e10007]; omega) (by rw [d, e10007]; omega), d, e10007]
    rw [fb_subI (by rw [m]; omega) (by rw [m]; omega), m, tm_neg h]
    omega
  · rw [td_pos h] at d
    have m : (x / 10007 * 10007).toInt = (x.toInt / 10007) * 10007 := by rw [fb_mulI (by rw [d, e10007]; omega) (by rw [d, e10007]; omega), d, e10007]
    rw [fb_subI (by rw [m]; omega) (by rw [m]; omega), m, tm_pos h]
    omega
theorem rmP {x : Int32} (h : 0 ≤ x.toInt) : (rem x 10007).toInt = x.toInt % 10007 := by rw [rmT, tm_pos h]
theorem restT (v : Int32) : (fX6_restOf v).toInt = v.toInt % 10007 := by
  have r := rmT v
  have g := fb_rng v
  unfold fX6_restOf
  have e0 : (0 : Int32).toInt = 0 := rfl
  rcases Int.lt_or_le v.toInt 0 with h | h
  · rw [tm_neg h] at r
    split
    · rename_i q
      rw [fa_le, e0] at q
      omega
    · rename_i q
      rw [fb_addI (by rw [r, e10007]; omega) (by rw [r, e10007]; omega), r, e10007]
      rw [fa_le, e0] at q
      omega
  · rw [tm_pos h] at r
    split
    · exact r
    · rename_i q
      rw [fa_le, e0] at q
      omega
def CN (x : Int32) : Prop := 0 ≤ x.toInt ∧ x.toInt < 100140049
def re (x : Int32) : Int := x.toInt / 10007
def im (x : Int32) : Int := x.toInt % 10007
theorem numT (x y : Int32) : (fX6_number x y).toInt = 10007 * (x.toInt % 10007) + y.toInt % 10007 := by
  unfold fX6_number
  have a := restT x
  have b := restT y
  have m : (10007 * fX6_restOf x).toInt = 10007 * (x.toInt % 10007) := by rw [fb_mulI (by rw [a, e10007]; omega) (by rw [a, e10007]; omega), a, e10007]
  rw [fb_addI (by rw [m, b]; omega) (by rw [m, b]; omega), m, b]
theorem madeE (x y : Int32) : fX1_made x y = fX6_number x y := by
  unfold fX1_made fX6_number fX6_restOf
  split <;> split <;> rfl
theorem cn_num (x y : Int32) : CN (fX6_number x y) := by
  unfold CN
  rw [numT]
  omega
theorem re_num (x y : Int32) : re (fX6_number x y) = x.toInt % 10007 := by
  unfold re
  rw [numT]
  omega
theorem im_num (x y : Int32) : im (fX6_number x y) = y.toInt % 10007 := by
  unfold im
  rw [numT]
  omega
theorem cn_ext {a b : Int32} (h1 : re a = re b) (h2 : im a = im b) : a = b := by
  unfold re at h1
  unfold im at h2
  apply Int32.toInt_inj.mp
  omega
theorem CN.r {a : Int32} (h : CN a) : 0 ≤ re a ∧ re a < 10007 := by unfold CN at h; unfold re; omega
theorem CN.i {a : Int32} (h : CN a) : 0 ≤ im a ∧ im a < 10007 := by unfold CN at h; unfold im; omega
theorem CN.d {a : Int32} (h : CN a) : (a / 10007).toInt = re a := dvP h.1
theorem CN.m {a : Int32} (h : CN a) : (rem a 10007).toInt = im a := rmP h.1
theorem plusE (a b : Int32) : fX6_plus a b = fX1_plus a b := by unfold fX6_plus fX1_plus; rw [madeE]
theorem lessE (a b : Int32) : fX6_less a b = fX1_minus a b := by unfold fX6_less fX1_minus; rw [madeE]
theorem otherE (a : Int32) : fX6_otherOf a = fX1_other a := by unfold fX6_otherOf fX1_other; rw [madeE]
theorem cn_plus (a b : Int32) : CN (fX1_plus a b) := by unfold fX1_plus; rw [madeE]; exact cn_num _ _
theorem cn_minus (a b : Int32) : CN (fX1_minus a b) := by unfold fX1_minus; rw [madeE]; exact cn_num _ _
theorem cn_times (a b : Int32) : CN (fX1_times a b) := by unfold fX1_times; rw [madeE]; exact cn_num _ _
theorem cn_other (a : Int32) : CN (fX1_other a) := by unfold fX1_other; rw [madeE]; exact cn_num _ _
theorem cn_over (a b : Int32) : CN (fX1_over a b) := by
  unfold fX1_over
  refine tk_ind (P := CN) _ _ (fun x _ => ?_)
  rw [madeE]
  exact cn_num _ _
theorem cn_made (a b : Int32) : CN (fX1_made a b) := by rw [madeE]; exact cn_num _ _
theorem cn_pairs (a b c d : Int32) : CN (fX1_pairs a b c d) := by unfold fX1_pairs; exact cn_plus _ _
theorem cn_0 : CN 0 := by unfold CN; decide
theorem cn_1 : CN 10007 := by unfold CN; decide
theorem cn_m1 : CN 100130042 := by unfold CN; decide
theorem cn_2 : CN 20014 := by unfold CN; decide
theorem mulb {x y : Int} (hx : 0 ≤ x ∧ x < 10007) (hy : 0 ≤ y ∧ y < 10007) : 0 ≤ x * y ∧ x * y ≤ 100120036 := by
  refine ⟨Int.mul_nonneg hx.1 hy.1, ?_⟩
  have h1 : x * y ≤ 10006 * y := Int.mul_le_mul_of_nonneg_right (by omega) hy.1
  omega
theorem mulT {x y : Int32} (hx : 0 ≤ x.toInt ∧ x.toInt < 10007) (hy : 0 ≤ y.toInt ∧ y.toInt < 10007) : (x * y).toInt = x.toInt * y.toInt := by
  have b := mulb hx hy
  exact fb_mulI (by omega) (by omega)
theorem times_ri {a b : Int32} (ha : CN a) (hb : CN b) : re (fX1_times a b) = (re a * re b - im a * im b) % 10007 ∧ im (fX1_times a b) = (re a * im b + im a * re b) % 10007 := by
  have a1 := ha.d
  have a2 := ha.m
  have b1 := hb.d
  have b2 := hb.m
  have ar := ha.r
  have ai := ha.i
  have br := hb.r
  have bi := hb.i
  have m1 := mulb ar br
  have m2 := mulb ai bi
  have m3 := mulb ar bi
  have m4 := mulb ai br
  have t1 : (a / 10007 * (b / 10007)).toInt = re a * re b := by rw [mulT (by rw [a1]; exact ar) (by rw [b1]; exact br), a1, b1]
  have t2 : (rem a 10007 * rem b 10007).toInt = im a * im b := by rw [mulT (by rw [a2]; exact ai) (by rw [b2]; exact bi), a2, b2]
  have t3 : (a / 10007 * rem b 10007).toInt = re a * im b := by rw [mulT (by rw [a1]; exact ar) (by rw [b2]; exact bi), a1, b2]
  have t4 : (rem a 10007 * (b / 10007)).toInt = im a * re b := by rw [mulT (by rw [a2]; exact ai) (by rw [b1]; exact br), a2, b1]
  unfold fX1_times
  rw [madeE, re_num, im_num, fb_subI (by omega) (by omega), fb_addI (by omega) (by omega), t1, t2, t3, t4]
  exact ⟨rfl, rfl⟩
theorem byE {a b : Int32} (ha : CN a) (hb : CN b) : fX6_by a b = fX1_times a b := by
  have t := times_ri ha hb
  have a1 := ha.d
  have a2 := ha.m
  have b1 := hb.d
  have b2 := hb.m
  have ar := ha.r
  have ai := ha.i
  have br := hb.r
  have bi := hb.i
  have m1 := mulb ar br
  have m2 := mulb ai bi
  have m3 := mulb ar bi
  have m4 := mulb ai br
  have t1 : (a / 10007 * (b / 10007)).toInt = re a * re b := by rw [mulT (by rw [a1]; exact ar) (by rw [b1]; exact br), a1, b1]
  have t2 : (rem a 10007 * rem b 10007).toInt = im a * im b := by rw [mulT (by rw [a2]; exact ai) (by rw [b2]; exact bi), a2, b2]
  have t3 : (a / 10007 * rem b 10007).toInt = re a * im b := by rw [mulT (by rw [a1]; exact ar) (by rw [b2]; exact bi), a1, b2]
  have t4 : (rem a 10007 * (b / 10007)).toInt = im a * re b := by rw [mulT (by rw [a2]; exact ai) (by rw [b1]; exact br), a2, b1]
  have r1 := rmP (x := a / 10007 * (b / 10007)) (by omega)
  have r2 := rmP (x := rem a 10007 * rem b 10007) (by omega)
  have r3 := rmP (x := a / 10007 * rem b 10007) (by omega)
  have r4 := rmP (x := rem a 10007 * (b / 10007)) (by omega)
  rw [t1] at r1
  rw [t2] at r2
  rw [t3] at r3
  rw [t4] at r4
  apply cn_ext
  · rw [t.1]
    unfold fX6_by
    rw [re_num, fb_subI (by omega) (by omega), r1, r2]
    omega
  · rw [t.2]
    unfold fX6_by
    rw [im_num, fb_addI (by omega) (by omega), r3, r4]
    omega
def RG (x : Int32) : Prop := 0 ≤ x.toInt ∧ x.toInt < 10007
theorem rgm {a b : Int32} (ha : RG a) (hb : RG b) : RG (rem (a * b) 10007) := by
  have m := mulb ha hb
  have t := mulT ha hb
  unfold RG
  rw [rmP (by omega)]
  omega
theorem rg_inv {v : Int32} (h : RG v) : RG (fX1_inverted v) := by
  unfold fX1_inverted
  refine tk_ind (P := RG) _ _ (fun x1 h1 => ?_)
  have q1 : RG x1 := by rw [h1]; exact rgm (rgm h h) (rgm h h)
  refine tk_ind (P := RG) _ _ (fun x2 h2 => ?_)
  have q2 : RG x2 := by rw [h2]; exact rgm (rgm ⟨by decide, by decide⟩ h) q1
  refine tk_ind (P := RG) _ _ (fun x3 h3 => ?_)
  have q3 : RG x3 := by rw [h3]; exact rgm (rgm q1 q1) (rgm q1 q1)
  refine tk_ind (P := RG) _ _ (fun x4 h4 => ?_)
  have q4 : RG x4 := by rw [h4]; exact rgm (rgm q3 q3) (rgm q3 q3)
  refine tk_ind (P := RG) _ _ (fun x5 h5 => ?_)
  have q5 : RG x5 := by rw [h5]; exact rgm (rgm q4 q4) (rgm q4 q4)
  refine tk_ind (P := RG) _ _ (fun x6 h6 => ?_)
  have q6 : RG x6 := by rw [h6]; exact rgm (rgm q2 q3) q5
  refine tk_ind (P := RG) _ _ (fun x7 h7 => ?_)
  have q7 : RG x7 := by rw [h7]; exact rgm q6 (rgm q5 q5)
  refine tk_ind (P := RG) _ _ (fun x8 h8 => ?_)
  have q8 : RG x8 := by rw [h8]; exact rgm (rgm q5 q5) (rgm q5 q5)
  refine tk_ind (P := RG) _ _ (fun x9 h9 => ?_)
  have q9 : RG x9 := by rw [h9]; exact rgm (rgm q8 q8) (rgm q8 q8)
  refine tk_ind (P := RG) _ _ (fun x10 h10 => ?_)
  have q10 : RG x10 := by rw [h10]; exact rgm (rgm q7 q8) (rgm q9 q9)
  refine tk_ind (P := RG) _ _ (fun x11 h11 => ?_)
  exact q10
theorem invE (v : Int32) : fX6_inverse v = fX1_inverted v := rfl
/-- the sum of the squares of a number's parts -/
def sqs (z : Int32) : Int32 := rem (((z / 10007) * (z / 10007)) + ((rem z 10007) * (rem z 10007))) 10007
theorem sqs_T {z : Int32} (h : CN z) : (sqs z).toInt = (re z * re z + im z * im z) % 10007 := by
  have a1 := h.d
  have a2 := h.m
  have ar := h.r
  have ai := h.i
  have m1 := mulb ar ar
  have m2 := mulb ai ai
  have t1 : (z / 10007 * (z / 10007)).toInt = re z * re z := by rw [mulT (by rw [a1]; exact ar) (by rw [a1]; exact ar), a1]
  have t2 : (rem z 10007 * rem z 10007).toInt = im z * im z := by rw [mulT (by rw [a2]; exact ai) (by rw [a2]; exact ai), a2]
  have s : ((z / 10007 * (z / 10007)) + (rem z 10007 * rem z 10007)).toInt = re z * re z + im z * im z := by rw [fb_addI (by omega) (by omega), t1, t2]
  unfold sqs
  rw [rmP (by omega), s]
theorem rg_sqs {z : Int32} (h : CN z) : RG (sqs z) := by
  unfold RG
  rw [sqs_T h]
  omega
/-- what the number's squares have for an inverse -/
def nv (z : Int32) : Int32 := fX1_inverted (sqs z)
theorem rg_nv {z : Int32} (h : CN z) : 0 ≤ (nv z).toInt ∧ (nv z).toInt < 10007 := rg_inv (rg_sqs h)
theorem overN (w z : Int32) : fX1_over w z = fX1_made (((w / 10007) * (rem ((z / 10007) * nv z) 10007)) + ((rem w 10007) * (rem ((rem z 10007) * nv z) 10007))) (((rem w 10007) * (rem ((z / 10007) * nv z) 10007)) - ((w / 10007) * (rem ((rem z 10007) * nv z) 10007))) := by
  unfold fX1_over nv sqs
  exact tk_eq rfl _
theorem over_ri {w z : Int32} (hw : CN w) (hz : CN z) : re (fX1_over w z) = (re w * ((re z * (nv z).toInt) % 10007) + im w * ((im z * (nv z).toInt) % 10007)) % 10007 ∧ im (fX1_over w z) = (im w * ((re z * (nv z).toInt) % 10007) - re w * ((im z * (nv z).toInt) % 10007)) % 10007 := by
  have n := rg_nv hz
  have a1 := hw.d
  have a2 := hw.m
  have b1 := hz.d
  have b2 := hz.m
  have ar := hw.r
  have ai := hw.i
  have br := hz.r
  have bi := hz.i
  rw [overN]
  generalize nv z = N at *
  have p1 := mulb br n
  have p2 := mulb bi n
  have u1 : ((z / 10007) * N).toInt = re z * N.toInt := by rw [mulT (by rw [b1]; exact br) n, b1]
  have u2 : ((rem z 10007) * N).toInt = im z * N.toInt := by rw [mulT (by rw [b2]; exact bi) n, b2]
  have v1 := rmP (x := (z / 10007) * N) (by rw [u1]; exact p1.1)
  have v2 := rmP (x := (rem z 10007) * N) (by rw [u2]; exact p2.1)
  rw [u1] at v1
  rw [u2] at v2
  have cr : 0 ≤ (re z * N.toInt) % 10007 ∧ (re z * N.toInt) % 10007 < 10007 := ⟨Int.emod_nonneg _ (by decide), Int.emod_lt_of_pos _ (by decide)⟩
  have dr : 0 ≤ (im z * N.toInt) % 10007 ∧ (im z * N.toInt) % 10007 < 10007 := ⟨Int.emod_nonneg _ (by decide), Int.emod_lt_of_pos _ (by decide)⟩
  generalize (re z * N.toInt) % 10007 = c at v1 cr ⊢
  generalize (im z * N.toInt) % 10007 = d at v2 dr ⊢
  have m1 := mulb ar cr
  have m2 := mulb ai dr
  have m3 := mulb ai cr
  have m4 := mulb ar dr
  have t1 : ((w / 10007) * (rem ((z / 10007) * N) 10007)).toInt = re w * c := by rw [mulT (by rw [a1]; exact ar) (by rw [v1]; exact cr), a1, v1]
  have t2 : ((rem w 10007) * (rem ((rem z 10007) * N) 10007)).toInt = im w * d := by rw [mulT (by rw [a2]; exact ai) (by rw [v2]; exact dr), a2, v2]
  have t3 : ((rem w 10007) * (rem ((z / 10007) * N) 10007)).toInt = im w * c := by rw [mulT (by rw [a2]; exact ai) (by rw [v1]; exact cr), a2, v1]
  have t4 : ((w / 10007) * (rem ((rem z 10007) * N) 10007)).toInt = re w * d := by rw [mulT (by rw [a1]; exact ar) (by rw [v2]; exact dr), a1, v2]
  clear v1 v2 u1 u2 p1 p2 a1 a2 b1 b2
  rw [madeE, re_num, im_num, fb_addI (by rw [t1, t2]; omega) (by rw [t1, t2]; omega), fb_subI (by rw [t3, t4]; omega) (by rw [t3, t4]; omega), t1, t2, t3, t4]
  exact ⟨rfl, rfl⟩
theorem mq {x y : Int} (k : Int) (h : x = y + 10007 * k) : x % 10007 = y % 10007 := by omega
theorem mdk (x : Int) : ∃ k, x % 10007 = x - 10007 * k := ⟨x / 10007, by omega⟩
theorem other_ri {a : Int32} (ha : CN a) : re (fX1_other a) = re a ∧ im (fX1_other a) = (-im a) % 10007 := by
  have a1 := ha.d
  have a2 := ha.m
  have ar := ha.r
  have ai := ha.i
  have n : (-(rem a 10007)).toInt = -im a := by rw [fb_negI (by omega), a2]
  unfold fX1_other
  rw [madeE, re_num, im_num, n, a1]
  exact ⟨by omega, rfl⟩
/-- the reference's over, its own steps -/
def mov (w z : Int32) : Int32 := fX6_by (fX6_by w (fX6_otherOf z)) (fX6_number (fX6_inverse (rem ((rem ((z / 10007) * (z / 10007)) 10007) + (rem ((rem z 10007) * (rem z 10007)) 10007)) 10007)) 0)
theorem sqs2 {z : Int32} (h : CN z) : rem ((rem ((z / 10007) * (z / 10007)) 10007) + (rem ((rem z 10007) * (rem z 10007)) 10007)) 10007 = sqs z := by
  have a1 := h.d
  have a2 := h.m
  have ar := h.r
  have ai := h.i
  have m1 := mulb ar ar
  have m2 := mulb ai ai
  have t1 : (z / 10007 * (z / 10007)).toInt = re z * re z := by rw [mulT (by rw [a1]; exact ar) (by rw [a1]; exact ar), a1]
  have t2 : (rem z 10007 * rem z 10007).toInt = im z * im z := by rw [mulT (by rw [a2]; exact ai) (by rw [a2]; exact ai), a2]
  have r1 := rmP (x := z / 10007 * (z / 10007)) (by omega)
  have r2 := rmP (x := rem z 10007 * rem z 10007) (by omega)
  rw [t1] at r1
  rw [t2] at r2
  apply Int32.toInt_inj.mp
  rw [sqs_T h]
  have s : ((rem ((z / 10007) * (z / 10007)) 10007) + (rem ((rem z 10007) * (rem z 10007)) 10007)).toInt = (re z * re z) % 10007 + (im z * im z) % 10007 := by rw [fb_addI (by omega) (by omega), r1, r2]
  rw [rmP (by omega), s]
  omega
theorem movE {w z : Int32} (hw : CN w) (hz : CN z) : mov w z = fX1_over w z := by
  have n := rg_nv hz
  have o := over_ri hw hz
  have oz := other_ri hz
  unfold mov
  rw [sqs2 hz, invE, otherE, byE hw (cn_other z), byE (cn_times _ _) (cn_num _ _)]
  have t1 := times_ri hw (cn_other z)
  have t2 := times_ri (cn_times w (fX1_other z)) (cn_num (fX1_inverted (sqs z)) 0)
  have e0 : (0 : Int32).toInt = 0 := rfl
  rw [re_num, im_num, e0] at t2
  rw [t1.1, t1.2, oz.1, oz.2] at t2
  have nn : (fX1_inverted (sqs z)).toInt = (nv z).toInt := rfl
  have nr : (nv z).toInt % 10007 = (nv z).toInt := by omega
  rw [nn, nr] at t2
  generalize hN : (nv z).toInt = N at *
  generalize re w = a at *
  generalize im w = b at *
  generalize re z = c at *
  generalize im z = d at *
  obtain ⟨k2, e2⟩ := mdk (-d)
  obtain ⟨k1, e1⟩ := mdk (a * c - b * ((-d) % 10007))
  obtain ⟨k5, e5⟩ := mdk (a * ((-d) % 10007) + b * c)
  obtain ⟨k3, e3⟩ := mdk (c * N)
  obtain ⟨k4, e4⟩ := mdk (d * N)
  apply cn_ext
  · rw [t2.1, o.1]
    apply mq (b * k2 * N - k1 * N + a * k3 + b * k4)
    rw [e1, e2, e3, e4]
    grind
  · rw [t2.2, o.2]
    apply mq (-a * k2 * N - k5 * N + b * k3 - a * k4)
    rw [e5, e2, e3, e4]
    grind
theorem re_1 : re 10007 = 1 := by decide
theorem im_1 : im 10007 = 0 := by decide
theorem divE {w z : Int32} (hw : CN w) (hz : CN z) : fX1_times w (fX1_over 10007 z) = fX1_over w z := by
  have o := over_ri hw hz
  have o1 := over_ri cn_1 hz
  rw [re_1, im_1] at o1
  have t := times_ri hw (cn_over 10007 z)
  rw [o1.1, o1.2] at t
  generalize (nv z).toInt = N at *
  generalize re w = a at *
  generalize im w = b at *
  generalize re z = c at *
  generalize im z = d at *
  obtain ⟨k1, e1⟩ := mdk (1 * ((c * N) % 10007) + 0 * ((d * N) % 10007))
  obtain ⟨k2, e2⟩ := mdk (0 * ((c * N) % 10007) - 1 * ((d * N) % 10007))
  generalize (c * N) % 10007 = p at *
  generalize (d * N) % 10007 = q at *
  apply cn_ext
  · rw [t.1, o.1, e1, e2]
    apply mq (-a * k1 + b * k2)
    grind
  · rw [t.2, o.2, e1, e2]
    apply mq (-a * k2 - b * k1)
    grind
theorem re_2 : re 20014 = 2 := by decide
theorem im_2 : im 20014 = 0 := by decide
theorem twiceE {a : Int32} (ha : CN a) : fX1_times 20014 a = fX1_plus a a := by
  have t := times_ri cn_2 ha
  rw [re_2, im_2] at t
  have a1 := ha.d
  have a2 := ha.m
  have ar := ha.r
  have ai := ha.i
  apply cn_ext
  · rw [t.1]
    unfold fX1_plus
    rw [madeE, re_num, fb_addI (by omega) (by omega), a1]
    omega
  · rw [t.2]
    unfold fX1_plus
    rw [madeE, im_num, fb_addI (by omega) (by omega), a2]
    omega
