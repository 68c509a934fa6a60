/-! ===== a state as one row of numbers ===== -/
abbrev Row : Type := Nat → Int32
def HB (f : Row) (b : Int32) : Prop := 0 ≤ b.toInt ∧ b.toInt < (f 0).toInt
def RS (M : Mem) (a : Nat) (f : Row) : Prop := M.1 (16 + 12 * a) 3 = f 0 ∧ M.1 (16 + 12 * a) 4 = f 45 ∧ (∀ b k : Nat, (b : Int) < (f 0).toInt → k < 4 → M.1 (16 + 12 * a + 1 + 3 + b) k = f (1 + 4 * b + k)) ∧ (∀ k, k < 12 → M.1 (16 + 12 * a + 2) k = f (33 + k)) ∧ (∀ k, k < 12 → M.1 (16 + 12 * a + 3) k = f (46 + k))
def RW (f : Row) : Prop := (0 ≤ (f 0).toInt ∧ (f 0).toInt ≤ 8) ∧ (f 45 = 0 ∨ f 45 = 1) ∧ (∀ b k : Nat, (b : Int) < (f 0).toInt → k < 4 → CN (f (1 + 4 * b + k))) ∧ (∀ k, k < 12 → CN (f (33 + k))) ∧ (∀ k, k < 12 → CN (f (46 + k)))
def rwB (f : Row) (b : Int32) : Row := fun k => f (1 + 4 * b.toNatClampNeg + k)
def rwE (f : Row) : Row := fun k => f (33 + k)
def rwL (f : Row) : Row := fun k => f (46 + k)
theorem rwB_M (M : Mem) (b : Int32) : bxR M b = rwB (M.1 101) b := rfl
theorem rwE_M (M : Mem) : eR M = rwE (M.1 101) := rfl
theorem rwL_M (M : Mem) : lR M = rwL (M.1 101) := rfl
theorem HB.n {f : Row} {b : Int32} (h : HB f b) : (b.toNatClampNeg : Int) < (f 0).toInt := by rw [cl_T h.1]; exact h.2
theorem HB.r8 {f : Row} {b : Int32} (w : RW f) (h : HB f b) : 0 ≤ b.toInt ∧ b.toInt < 8 := ⟨h.1, by have := h.2; have := w.1.2; omega⟩
theorem RW.c4 {f : Row} {b : Int32} (w : RW f) (h : HB f b) : C4 (rwB f b) := fun k hk => w.2.2.1 _ k h.n hk
theorem RW.ce {f : Row} (w : RW f) : C12 (rwE f) := w.2.2.2.1
theorem RW.cl {f : Row} (w : RW f) : C12 (rwL f) := w.2.2.2.2
theorem RS.bx {M : Mem} {a : Nat} {f : Row} {b : Int32} (h : RS M a f) (hb : HB f b) : A4 (M.1 (16 + 12 * a + 1 + 3 + b.toNatClampNeg)) (rwB f b) := fun k hk => h.2.2.1 _ k hb.n hk
theorem RS.keep {M M' : Mem} {a : Nat} {f : Row} (h : RS M a f) (k : ∀ j, 16 + 12 * a ≤ j → j < 28 + 12 * a → M'.1 j = M.1 j) (w : RW f) : RS M' a f := by
  refine ⟨?_, ?_, fun b q hb hq => ?_, fun q hq => ?_, fun q hq => ?_⟩
  · rw [k _ (by omega) (by omega)]; exact h.1
  · rw [k _ (by omega) (by omega)]; exact h.2.1
  · have := w.1.2
    rw [k _ (by omega) (by omega)]; exact h.2.2.1 b q hb hq
  · rw [k _ (by omega) (by omega)]; exact h.2.2.2.1 q hq
  · rw [k _ (by omega) (by omega)]; exact h.2.2.2.2 q hq
theorem in_iff (v lo hi : Int32) : fX6_in v lo hi = 0 ↔ ¬ (lo.toInt ≤ v.toInt ∧ v.toInt ≤ hi.toInt) := by
  refine ⟨fun h g => ?_, fun h => Classical.byContradiction fun c => h (in_in c)⟩
  unfold fX6_in at h
  rw [if_neg (by rw [fa_lt]; omega), if_neg (by rw [fa_lt]; omega)] at h
  exact absurd h (by decide)
theorem below_iff (v n : Int32) : fX5_isBelow v n = 0 ↔ ¬ (0 ≤ v.toInt ∧ v.toInt < n.toInt) :=
  ⟨fun h g => below_ne g h, fun h => Classical.byContradiction fun c => h (below_in c)⟩
def PT0 (x : Int32) : Prop := 0 ≤ x.toInt ∧ x.toInt < 10007
theorem part_iff (x : Int32) : fX6_isPart x = 0 ↔ ¬ PT0 x := by
  unfold fX6_isPart PT0
  rw [in_iff]
  have e0 : (0 : Int32).toInt = 0 := rfl
  have e1 : (10006 : Int32).toInt = 10006 := rfl
  rw [e0, e1]
  constructor <;> (intro h g; exact h (by omega))
theorem given_iff (x y : Int32) : fX1_isGiven x y = 0 ↔ ¬ (PT0 x ∧ PT0 y) := by
  unfold fX1_isGiven PT0
  by_cases c1 : fX5_isBelow x 10007 = 0
  · rw [if_pos c1]
    exact ⟨fun _ g => ((below_iff _ _).mp c1) g.1, fun _ => rfl⟩
  · rw [if_neg c1]
    have d1 := below_in c1
    by_cases c2 : fX5_isBelow y 10007 = 0
    · rw [if_pos c2]
      exact ⟨fun _ g => ((below_iff _ _).mp c2) g.2, fun _ => rfl⟩
    · rw [if_neg c2]
      have d2 := below_in c2
      exact ⟨fun h => absurd h (by decide), fun h => absurd ⟨d1, d2⟩ h⟩
theorem err_iff (x : Int32) : fX6_isError x = 0 ↔ ¬ (0 ≤ x.toInt ∧ x.toInt < 12) := by
  unfold fX6_isError
  rw [in_iff]
  have e0 : (0 : Int32).toInt = 0 := rfl
  have e1 : (11 : Int32).toInt = 11 := rfl
  rw [e0, e1]
  constructor <;> (intro h g; exact h (by omega))
theorem hbC {M : Mem} {a : Nat} {f : Row} {b : Int32} (h : RS M a f) (w : RW f) : fX2_hasBox M a b = 0 ↔ ¬ HB f b := by
  refine ⟨fun q g => ?_, fun q => Classical.byContradiction fun c => ?_⟩
  · have g8 := g.r8 w
    unfold fX2_hasBox at q
    rw [h.1, if_neg (below_ne g), if_neg (by rw [fa_le]; show ¬ (8 : Int) ≤ _; omega)] at q
    exact absurd q (by decide)
  · have g := hasBox_8 c
    rw [h.1] at g
    exact q ⟨g.1, g.2.2⟩
theorem hbM {M : Mem} {b : Int32} (w : RW (M.1 101)) : fX6_isBox M b = 0 ↔ ¬ HB (M.1 101) b := by
  refine ⟨fun q g => ?_, fun q => Classical.byContradiction fun c => q (isBox_in w.1 c)⟩
  unfold fX6_isBox at q
  have e1 : (1 : Int32).toInt = 1 := rfl
  have r := w.1
  have e : (M.1 101 0 - 1).toInt = (M.1 101 0).toInt - 1 := by rw [fb_subI (by omega) (by omega), e1]
  rw [in_iff, e] at q
  refine q ⟨g.1, ?_⟩
  have := g.2
  omega
/-- a step of the class on a state: what it answers, what the state is then -/
def COp (a : Nat) (bad no full : Prop) (r : Int32) (f' : Row) (u : Int32 × Mem) : Prop := (bad → u.1 = -2) ∧ (¬ bad → no → u.1 = -3) ∧ (¬ bad → ¬ no → full → u.1 = -4) ∧ (¬ bad → ¬ no → ¬ full → u.1 = r ∧ RS u.2 a f')
theorem co_bad {a : Nat} {bad no full : Prop} {r : Int32} {f' : Row} {M : Mem} (h : bad) : COp a bad no full r f' (-2, M) := ⟨fun _ => rfl, fun n => absurd h n, fun n => absurd h n, fun n => absurd h n⟩
theorem co_no {a : Nat} {bad no full : Prop} {r : Int32} {f' : Row} {M : Mem} (g : ¬ bad) (h : no) : COp a bad no full r f' (-3, M) := ⟨fun n => absurd n g, fun _ _ => rfl, fun _ n => absurd h n, fun _ n => absurd h n⟩
theorem co_of {a : Nat} {bad no full : Prop} {r : Int32} {f' : Row} {u : Int32 × Mem} (g : ¬ bad) (h : ¬ no) (k : COp a False False full r f' u) : COp a bad no full r f' u := ⟨fun n => absurd n g, fun _ n => absurd n h, fun _ _ q => k.2.2.1 id id q, fun _ _ q => k.2.2.2 id id q⟩
theorem co_ok {a : Nat} {bad no full : Prop} {r : Int32} {f' : Row} {M : Mem} (g : ¬ bad) (h : ¬ no) (q : ¬ full) (k : RS M a f') : COp a bad no full r f' (r, M) := ⟨fun n => absurd n g, fun _ n => absurd n h, fun _ _ n => absurd n q, fun _ _ _ => ⟨rfl, k⟩⟩
def addF (f : Row) (v : Row) : Row := fun k => if k = 0 then f 0 + 1 else if 1 + 4 * (f 0).toNatClampNeg ≤ k ∧ k < 5 + 4 * (f 0).toNatClampNeg then v (k - (1 + 4 * (f 0).toNatClampNeg)) else f k
theorem addF_0 (f v : Row) : addF f v 0 = f 0 + 1 := if_pos rfl
theorem addF_in (f v : Row) {k : Nat} (h : k < 4) : addF f v (1 + 4 * (f 0).toNatClampNeg + k) = v k := by
  unfold addF
  rw [if_neg (by omega), if_pos (by omega)]
  congr 1
  omega
theorem addF_out (f v : Row) {k : Nat} (h0 : k ≠ 0) (h : ¬ (1 + 4 * (f 0).toNatClampNeg ≤ k ∧ k < 5 + 4 * (f 0).toNatClampNeg)) : addF f v k = f k := by
  unfold addF
  rw [if_neg h0, if_neg h]
theorem incT_ {x : Int32} (h : 0 ≤ x.toInt ∧ x.toInt ≤ 1000) : (x + 1).toInt = x.toInt + 1 := by
  have e1 : (1 : Int32).toInt = 1 := rfl
  rw [fb_addI (by omega) (by omega), e1]
theorem decT_ {x : Int32} (h : 0 ≤ x.toInt ∧ x.toInt ≤ 1000) : (x - 1).toInt = x.toInt - 1 := by
  have e1 : (1 : Int32).toInt = 1 := rfl
  rw [fb_subI (by omega) (by omega), e1]
theorem inc_dec (x : Int32) : x + 1 - 1 = x := Int32.add_sub_cancel x 1
theorem ne8 {x : Int32} (h : 0 ≤ x.toInt ∧ x.toInt ≤ 8) (n : ¬ x = 8) : x.toInt < 8 := by
  have e : (8 : Int32).toInt = 8 := rfl
  rw [fa_eq, e] at n
  omega
theorem rw_add {f v : Row} (w : RW f) (hv : C4 v) (n : ¬ f 0 = 8) : RW (addF f v) := by
  have l := ne8 w.1 n
  have t := incT_ (x := f 0) (by have := w.1; omega)
  have c := cl_T w.1.1
  refine ⟨?_, ?_, fun b k hb hk => ?_, fun k hk => ?_, fun k hk => ?_⟩
  · rw [addF_0, t]; omega
  · rw [addF_out _ _ (by decide) (by omega)]; exact w.2.1
  · rw [addF_0, t] at hb
    by_cases e : b = (f 0).toNatClampNeg
    · rw [e, addF_in _ _ hk]; exact hv k hk
    · rw [addF_out _ _ (by omega) (by omega)]; exact w.2.2.1 b k (by omega) hk
  · rw [addF_out _ _ (by omega) (by omega)]; exact w.2.2.2.1 k hk
  · rw [addF_out _ _ (by omega) (by omega)]; exact w.2.2.2.2 k hk
theorem cpyV (M : Mem) (j q : Nat) : A4 ((sX0_copyFrom M j q).1 j) (M.1 q) := by
  unfold sX0_copyFrom
  refine tk_ind (P := fun u : Mem => A4 (u.1 j) (M.1 q)) _ _ (fun M1 h1 => ?_)
  rw [h1]
  have e := fillV M j (M.1 q 0) (M.1 q 1) (M.1 q 2) (M.1 q 3)
  exact r4 (e 0 (by decide)) (e 1 (by decide)) (e 2 (by decide)) (e 3 (by decide))
theorem cAdd {M : Mem} {a q : Nat} {f v : Row} (h : RS M a f) (w : RW f) (hv : A4 (M.1 q) v) : COp a False False (f 0 = 8) (f 0) (addF f v) (sX2_addBox M a q) := by
  have e8 : (8 : Int32).toInt = 8 := rfl
  have r := w.1
  unfold sX2_addBox
  rw [h.1]
  refine ite_ind (P := COp a False False (f 0 = 8) (f 0) (addF f v)) (fun c => ?_) (fun c => ?_)
  · rw [below_iff, e8] at c
    have e : f 0 = 8 := by rw [fa_eq, e8]; omega
    exact ⟨fun n => n.elim, fun _ n => n.elim, fun _ _ _ => rfl, fun _ _ n => absurd e n⟩
  · have l := (below_in c).2
    rw [e8] at l
    have cl := cl_T r.1
    refine tk_ind (P := COp a False False (f 0 = 8) (f 0) (addF f v)) _ _ (fun M1 h1 => ?_)
    have k1 := kfX0_copyFrom M (16 + 12 * a + 1 + 3 + (f 0).toNatClampNeg) q
    have v1 := cpyV M (16 + 12 * a + 1 + 3 + (f 0).toNatClampNeg) q
    rw [← h1] at k1 v1
    have s3 : M1.1 (16 + 12 * a) 3 = f 0 := by rw [k1.1 _ (by omega)]; exact h.1
    refine tk_ind (P := COp a False False (f 0 = 8) (f 0) (addF f v)) _ _ (fun M2 h2 => ?_)
    have e2 : M2.1 (16 + 12 * a) 3 - 1 = f 0 := by rw [h2, st_at, s3, inc_dec]
    rw [e2]
    have k2 : ∀ i, i ≠ 16 + 12 * a → M2.1 i = M1.1 i := fun i hi => by rw [h2, st_ne _ _ _ hi]
    have t := incT_ (x := f 0) (by omega)
    refine co_ok id id (fun n => by rw [n, e8] at l; omega) ⟨?_, ?_, fun b k hb hk => ?_, fun k hk => ?_, fun k hk => ?_⟩
    · rw [h2, st_at, s3, addF_0]
    · rw [h2, st_at_ne _ _ _ _ (by decide), k1.1 _ (by omega), addF_out _ _ (by decide) (by omega)]; exact h.2.1
    · rw [addF_0, t] at hb
      rw [k2 _ (by omega)]
      by_cases e : b = (f 0).toNatClampNeg
      · rw [e, addF_in _ _ hk, v1 k hk]; exact hv k hk
      · rw [k1.1 _ (by omega), addF_out _ _ (by omega) (by omega)]; exact h.2.2.1 b k (by omega) hk
    · rw [k2 _ (by omega), k1.1 _ (by omega), addF_out _ _ (by omega) (by omega)]; exact h.2.2.2.1 k hk
    · rw [k2 _ (by omega), k1.1 _ (by omega), addF_out _ _ (by omega) (by omega)]; exact h.2.2.2.2 k hk

theorem cCopy {M : Mem} {a q : Nat} {f : Row} (h : RS M q f) (w : RW f) (hn : a ≠ q) : RS (sX2_copyFrom M a q) a f := by
  unfold sX2_copyFrom
  refine tk_ind (P := fun u : Mem => RS u a f) _ _ (fun M1 h1 => ?_)
  have k1 := kfX0_copyFrom M (16 + 12 * a + 1 + 3 + 0) (16 + 12 * q + 1 + 3 + 0)
  have v1 := cpyV M (16 + 12 * a + 1 + 3 + 0) (16 + 12 * q + 1 + 3 + 0)
  rw [← h1] at k1 v1
  refine tk_ind (P := fun u : Mem => RS u a f) _ _ (fun M2 h2 => ?_)
  have k2 := kfX0_copyFrom M1 (16 + 12 * a + 1 + 3 + 1) (16 + 12 * q + 1 + 3 + 1)
  have v2 := cpyV M1 (16 + 12 * a + 1 + 3 + 1) (16 + 12 * q + 1 + 3 + 1)
  rw [← h2] at k2 v2
  refine tk_ind (P := fun u : Mem => RS u a f) _ _ (fun M3 h3 => ?_)
  have k3 := kfX0_copyFrom M2 (16 + 12 * a + 1 + 3 + 2) (16 + 12 * q + 1 + 3 + 2)
  have v3 := cpyV M2 (16 + 12 * a + 1 + 3 + 2) (16 + 12 * q + 1 + 3 + 2)
  rw [← h3] at k3 v3
  refine tk_ind (P := fun u : Mem => RS u a f) _ _ (fun M4 h4 => ?_)
  have k4 := kfX0_copyFrom M3 (16 + 12 * a + 1 + 3 + 3) (16 + 12 * q + 1 + 3 + 3)
  have v4 := cpyV M3 (16 + 12 * a + 1 + 3 + 3) (16 + 12 * q + 1 + 3 + 3)
  rw [← h4] at k4 v4
  refine tk_ind (P := fun u : Mem => RS u a f) _ _ (fun M5 h5 => ?_)
  have k5 := kfX0_copyFrom M4 (16 + 12 * a + 1 + 3 + 4) (16 + 12 * q + 1 + 3 + 4)
  have v5 := cpyV M4 (16 + 12 * a + 1 + 3 + 4) (16 + 12 * q + 1 + 3 + 4)
  rw [← h5] at k5 v5
  refine tk_ind (P := fun u : Mem => RS u a f) _ _ (fun M6 h6 => ?_)
  have k6 := kfX0_copyFrom M5 (16 + 12 * a + 1 + 3 + 5) (16 + 12 * q + 1 + 3 + 5)
  have v6 := cpyV M5 (16 + 12 * a + 1 + 3 + 5) (16 + 12 * q + 1 + 3 + 5)
  rw [← h6] at k6 v6
  refine tk_ind (P := fun u : Mem => RS u a f) _ _ (fun M7 h7 => ?_)
  have k7 := kfX0_copyFrom M6 (16 + 12 * a + 1 + 3 + 6) (16 + 12 * q + 1 + 3 + 6)
  have v7 := cpyV M6 (16 + 12 * a + 1 + 3 + 6) (16 + 12 * q + 1 + 3 + 6)
  rw [← h7] at k7 v7
  refine tk_ind (P := fun u : Mem => RS u a f) _ _ (fun M8 h8 => ?_)
  have k8 := kfX0_copyFrom M7 (16 + 12 * a + 1 + 3 + 7) (16 + 12 * q + 1 + 3 + 7)
  have v8 := cpyV M7 (16 + 12 * a + 1 + 3 + 7) (16 + 12 * q + 1 + 3 + 7)
  rw [← h8] at k8 v8
  refine tk_ind (P := fun u : Mem => RS u a f) _ _ (fun M9 h9 => ?_)
  refine tk_ind (P := fun u : Mem => RS u a f) _ _ (fun M10 h10 => ?_)
  refine tk_ind (P := fun u : Mem => RS u a f) _ _ (fun M11 h11 => ?_)
  refine tk_ind (P := fun u : Mem => RS u a f) _ _ (fun M12 h12 => ?_)
  have k9 : ∀ i, i ≠ 16 + 12 * a + 2 → M9.1 i = M8.1 i := fun i hi => by rw [h9, sr_ne _ _ hi]
  have k10 : ∀ i, i ≠ 16 + 12 * a + 3 → M10.1 i = M9.1 i := fun i hi => by rw [h10, sr_ne _ _ hi]
  have k11 : ∀ i, i ≠ 16 + 12 * a → M11.1 i = M10.1 i := fun i hi => by rw [h11, st_ne _ _ _ hi]
  have k12 : ∀ i, i ≠ 16 + 12 * a → M12.1 i = M11.1 i := fun i hi => by rw [h12, st_ne _ _ _ hi]
  have kq : ∀ i, (i < 16 + 12 * a ∨ 28 + 12 * a ≤ i) → M8.1 i = M.1 i := fun i hi => by rw [k8.1 i (by omega), k7.1 i (by omega), k6.1 i (by omega), k5.1 i (by omega), k4.1 i (by omega), k3.1 i (by omega), k2.1 i (by omega), k1.1 i (by omega)]
  have r := w.1
  have b0 : A4 (M8.1 (16 + 12 * a + 1 + 3 + 0)) (M.1 (16 + 12 * q + 1 + 3 + 0)) := fun k hk => by rw [k8.1 _ (by omega), k7.1 _ (by omega), k6.1 _ (by omega), k5.1 _ (by omega), k4.1 _ (by omega), k3.1 _ (by omega), k2.1 _ (by omega), v1 k hk]
  have b1 : A4 (M8.1 (16 + 12 * a + 1 + 3 + 1)) (M.1 (16 + 12 * q + 1 + 3 + 1)) := fun k hk => by rw [k8.1 _ (by omega), k7.1 _ (by omega), k6.1 _ (by omega), k5.1 _ (by omega), k4.1 _ (by omega), k3.1 _ (by omega), v2 k hk, k1.1 _ (by omega)]
  have b2 : A4 (M8.1 (16 + 12 * a + 1 + 3 + 2)) (M.1 (16 + 12 * q + 1 + 3 + 2)) := fun k hk => by rw [k8.1 _ (by omega), k7.1 _ (by omega), k6.1 _ (by omega), k5.1 _ (by omega), k4.1 _ (by omega), v3 k hk, k2.1 _ (by omega), k1.1 _ (by omega)]
  have b3 : A4 (M8.1 (16 + 12 * a + 1 + 3 + 3)) (M.1 (16 + 12 * q + 1 + 3 + 3)) := fun k hk => by rw [k8.1 _ (by omega), k7.1 _ (by omega), k6.1 _ (by omega), k5.1 _ (by omega), v4 k hk, k3.1 _ (by omega), k2.1 _ (by omega), k1.1 _ (by omega)]
  have b4 : A4 (M8.1 (16 + 12 * a + 1 + 3 + 4)) (M.1 (16 + 12 * q + 1 + 3 + 4)) := fun k hk => by rw [k8.1 _ (by omega), k7.1 _ (by omega), k6.1 _ (by omega), v5 k hk, k4.1 _ (by omega), k3.1 _ (by omega), k2.1 _ (by omega), k1.1 _ (by omega)]
  have b5 : A4 (M8.1 (16 + 12 * a + 1 + 3 + 5)) (M.1 (16 + 12 * q + 1 + 3 + 5)) := fun k hk => by rw [k8.1 _ (by omega), k7.1 _ (by omega), v6 k hk, k5.1 _ (by omega), k4.1 _ (by omega), k3.1 _ (by omega), k2.1 _ (by omega), k1.1 _ (by omega)]
  have b6 : A4 (M8.1 (16 + 12 * a + 1 + 3 + 6)) (M.1 (16 + 12 * q + 1 + 3 + 6)) := fun k hk => by rw [k8.1 _ (by omega), v7 k hk, k6.1 _ (by omega), k5.1 _ (by omega), k4.1 _ (by omega), k3.1 _ (by omega), k2.1 _ (by omega), k1.1 _ (by omega)]
  have b7 : A4 (M8.1 (16 + 12 * a + 1 + 3 + 7)) (M.1 (16 + 12 * q + 1 + 3 + 7)) := fun k hk => by rw [v8 k hk, k7.1 _ (by omega), k6.1 _ (by omega), k5.1 _ (by omega), k4.1 _ (by omega), k3.1 _ (by omega), k2.1 _ (by omega), k1.1 _ (by omega)]
  have kb : ∀ b, b < 8 → A4 (M8.1 (16 + 12 * a + 1 + 3 + b)) (M.1 (16 + 12 * q + 1 + 3 + b)) := fun b hb => by
    rcases (show b = 0 ∨ b = 1 ∨ b = 2 ∨ b = 3 ∨ b = 4 ∨ b = 5 ∨ b = 6 ∨ b = 7 by omega) with e | e | e | e | e | e | e | e <;> rw [e] <;> assumption
  refine ⟨?_, ?_, fun b k hb hk => ?_, fun k hk => ?_, fun k hk => ?_⟩
  · rw [h12, st_at_ne _ _ _ _ (by decide), h11, st_at, k10 _ (by omega), k9 _ (by omega), kq _ (by omega)]; exact h.1
  · rw [h12, st_at, k11 _ (by omega), k10 _ (by omega), k9 _ (by omega), kq _ (by omega)]; exact h.2.1
  · rw [k12 _ (by omega), k11 _ (by omega), k10 _ (by omega), k9 _ (by omega), kb b (by omega) k hk]; exact h.2.2.1 b k hb hk
  · rw [k12 _ (by omega), k11 _ (by omega), k10 _ (by omega), h9, sr_row]
    unfold va_cpy
    rw [if_pos (by omega), kq _ (by omega), show 0 + (k - 0) = k by omega]; exact h.2.2.2.1 k hk
  · rw [k12 _ (by omega), k11 _ (by omega), h10, sr_row]
    unfold va_cpy
    rw [if_pos (by omega), k9 _ (by omega), kq _ (by omega), show 0 + (k - 0) = k by omega]; exact h.2.2.2.2 k hk
