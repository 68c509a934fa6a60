/-! ===== the class's steps on a state ===== -/
theorem nn {p : Prop} (h : ¬ ¬ p) : p := Classical.byContradiction h
theorem cTf' {M : Mem} {j q : Nat} {s : Row} (hs : A4 (M.1 q) s) (cs : C4 s) : CP j 4 (s 2 = 0) (tfV s) (sX0_becomeTransfer M j q) := (cTf (cs.of hs)).to (by rw [hs 2 (by decide)]) (tf_g hs)
theorem cIv' {M : Mem} {j : Nat} {t : Row} (ht : A4 (M.1 j) t) (ct : C4 t) : CP j 4 (dtV t = 0) (ivV t) (sX0_invert M j) := (cIv (ct.of ht)).to (by rw [dt_g ht]) (iv_g ht)
theorem cPr' {M : Mem} {j p q : Nat} {s t : Row} (hs : A4 (M.1 p) s) (ht : A4 (M.1 q) t) : A4 ((sX0_becomeProduct M j p q).1 j) (prV s t) := cPr.trans (pr_g hs ht)
theorem cGb' {M : Mem} {j q : Nat} {t : Row} (ht : A4 (M.1 q) t) (ct : C4 t) : CP j 4 (t 3 = 0) (gbV t) (sX0_becomeBoxOf M j q) := (cGb (ct.of ht)).to (by rw [ht 3 (by decide)]) (bx_g ht)
theorem cS2' {M : Mem} {j q : Nat} {s : Row} (hs : A4 (M.1 q) s) (cs : C4 s) : CP j 4 (s2D s = 0) (s2V s) (sX0_becomeSecondForm M j q) := (cS2 (cs.of hs)).to (by rw [s2D_g hs]) (s2_g hs)
theorem c4_tr {s : Row} (h : C4 s) : C4 (tr 4 s) := fun k hk => by rw [tr_at _ hk]; exact h k hk
theorem RS.bt {M : Mem} {a : Nat} {f : Row} {b : Int32} (h : RS M a f) (hb : HB f b) : A4 (M.1 (16 + 12 * a + 1 + 3 + b.toNatClampNeg)) (tr 4 (rwB f b)) := (h.bx hb).trans (a4_tr _)
theorem RW.bt {f : Row} {b : Int32} (w : RW f) (hb : HB f b) : C4 (tr 4 (rwB f b)) := c4_tr (w.c4 hb)
theorem RS.et {M : Mem} {a : Nat} {f : Row} (h : RS M a f) : tr 12 (M.1 (16 + 12 * a + 2)) = tr 12 (rwE f) := tr_ext h.2.2.2.1
theorem RS.lt {M : Mem} {a : Nat} {f : Row} (h : RS M a f) : tr 12 (M.1 (16 + 12 * a + 3)) = tr 12 (rwL f) := tr_ext h.2.2.2.2
theorem RS.hi {M M' : Mem} {a : Nat} {f : Row} (h : RS M a f) (k : ∀ j, 16 ≤ j → M'.1 j = M.1 j) (w : RW f) : RS M' a f := h.keep (fun j hj _ => k j (by omega)) w
def tnV (s : Row) : Row := s4 (s 3) (s 2) (s 1) (s 0)
theorem cThrough {M : Mem} {a : Nat} {f : Row} (h : RS M a f) (w : RW f) : COp a False False (f 0 = 8) (f 0) (addF f (s4 0 10007 10007 0)) (sX4_addThrough M a) := by
  unfold sX4_addThrough
  refine tk_ind (P := COp a False False (f 0 = 8) (f 0) (addF f (s4 0 10007 10007 0))) _ _ (fun M1 h1 => ?_)
  have k1 := kfX0_fill M 8 0 10007 10007 0
  have v1 := fillV M 8 0 10007 10007 0
  rw [← h1] at k1 v1
  refine tk_ind (P := COp a False False (f 0 = 8) (f 0) (addF f (s4 0 10007 10007 0))) _ _ (fun x2 h2 => ?_)
  rw [h2]
  exact cAdd (h.hi (fun j hj => k1.1 j (by omega)) w) w v1
theorem cTurn {M : Mem} {a : Nat} {f : Row} {b : Int32} (h : RS M a f) (w : RW f) : COp a (¬ HB f b) False (f 0 = 8) (f 0) (addF f (tnV (rwB f b))) (sX4_addTurned M a b) := by
  unfold sX4_addTurned
  refine ite_ind (P := COp a (¬ HB f b) False (f 0 = 8) (f 0) (addF f (tnV (rwB f b)))) (fun c => co_bad ((hbC h w).mp c)) (fun c => ?_)
  have hb : HB f b := nn (fun n => c ((hbC h w).mpr n))
  have v := h.bx hb
  rw [v 0 (by decide), v 1 (by decide), v 2 (by decide), v 3 (by decide)]
  refine tk_ind (P := COp a (¬ HB f b) False (f 0 = 8) (f 0) (addF f (tnV (rwB f b)))) _ _ (fun M1 h1 => ?_)
  have k1 := kfX0_fill M 8 (rwB f b 3) (rwB f b 2) (rwB f b 1) (rwB f b 0)
  have v1 := fillV M 8 (rwB f b 3) (rwB f b 2) (rwB f b 1) (rwB f b 0)
  rw [← h1] at k1 v1
  refine tk_ind (P := COp a (¬ HB f b) False (f 0 = 8) (f 0) (addF f (tnV (rwB f b)))) _ _ (fun x2 h2 => ?_)
  rw [h2]
  exact co_of (fun n => n hb) id (cAdd (h.hi (fun j hj => k1.1 j (by omega)) w) w v1)

theorem cChain {M : Mem} {c : Nat} {f : Row} {a b : Int32} (h : RS M c f) (w : RW f) : COp c (¬ HB f a ∨ ¬ HB f b) (cbad (tr 4 (rwB f a)) (tr 4 (rwB f b))) (f 0 = 8) (f 0) (addF f (chV (tr 4 (rwB f a)) (tr 4 (rwB f b)))) (sX4_addChain M c a b) := by
  unfold sX4_addChain
  refine ite_ind (P := COp c (¬ HB f a ∨ ¬ HB f b) (cbad (tr 4 (rwB f a)) (tr 4 (rwB f b))) (f 0 = 8) (f 0) (addF f (chV (tr 4 (rwB f a)) (tr 4 (rwB f b))))) (fun q => co_bad (Or.inl ((hbC h w).mp q))) (fun q => ?_)
  have ha : HB f a := nn (fun n => q ((hbC h w).mpr n))
  refine ite_ind (P := COp c (¬ HB f a ∨ ¬ HB f b) (cbad (tr 4 (rwB f a)) (tr 4 (rwB f b))) (f 0 = 8) (f 0) (addF f (chV (tr 4 (rwB f a)) (tr 4 (rwB f b))))) (fun q => co_bad (Or.inr ((hbC h w).mp q))) (fun q => ?_)
  have hb : HB f b := nn (fun n => q ((hbC h w).mpr n))
  have nb : ¬ (¬ HB f a ∨ ¬ HB f b) := fun n => n.elim (fun n => n ha) (fun n => n hb)
  have va := h.bt ha
  have vb := h.bt hb
  have ca := w.bt ha
  have cb := w.bt hb
  generalize tr 4 (rwB f a) = s at *
  generalize tr 4 (rwB f b) = t at *
  refine tk_ind (P := COp c (¬ HB f a ∨ ¬ HB f b) (cbad s t) (f 0 = 8) (f 0) (addF f (chV s t))) _ _ (fun x1 h1 => ?_)
  have k1 := kfX0_becomeTransfer M 5 (16 + 12 * c + 1 + 3 + a.toNatClampNeg)
  have p1 := cTf' (M := M) (j := 5) va ca
  rw [← h1] at k1 p1
  refine ite_ind (P := COp c (¬ HB f a ∨ ¬ HB f b) (cbad s t) (f 0 = 8) (f 0) (addF f (chV s t))) (fun q => co_no nb (Or.inl (p1.1.mp q))) (fun q => ?_)
  have n1 : ¬ s 2 = 0 := fun n => q (p1.1.mpr n)
  have v1 : A4 (x1.2.1 5) (tfV s) := p1.2 n1
  refine tk_ind (P := COp c (¬ HB f a ∨ ¬ HB f b) (cbad s t) (f 0 = 8) (f 0) (addF f (chV s t))) _ _ (fun x2 h2 => ?_)
  have k2 := kfX0_becomeTransfer x1.2 6 (16 + 12 * c + 1 + 3 + b.toNatClampNeg)
  have p2 := cTf' (M := x1.2) (j := 6) (q := 16 + 12 * c + 1 + 3 + b.toNatClampNeg) (s := t) (by rw [k1.1 _ (by omega)]; exact vb) cb
  rw [← h2] at k2 p2
  refine ite_ind (P := COp c (¬ HB f a ∨ ¬ HB f b) (cbad s t) (f 0 = 8) (f 0) (addF f (chV s t))) (fun q => co_no nb (Or.inr (Or.inl (p2.1.mp q)))) (fun q => ?_)
  have n2 : ¬ t 2 = 0 := fun n => q (p2.1.mpr n)
  have v2 : A4 (x2.2.1 6) (tfV t) := p2.2 n2
  refine tk_ind (P := COp c (¬ HB f a ∨ ¬ HB f b) (cbad s t) (f 0 = 8) (f 0) (addF f (chV s t))) _ _ (fun M3 h3 => ?_)
  have k3 := kfX0_becomeProduct x2.2 7 5 6
  have v3 := cPr' (M := x2.2) (j := 7) (p := 5) (q := 6) (s := tfV s) (t := tfV t) (by rw [k2.1 5 (by decide)]; exact v1) v2
  rw [← h3] at k3 v3
  refine tk_ind (P := COp c (¬ HB f a ∨ ¬ HB f b) (cbad s t) (f 0 = 8) (f 0) (addF f (chV s t))) _ _ (fun x4 h4 => ?_)
  have k4 := kfX0_becomeBoxOf M3 8 7
  have p4 := cGb' (M := M3) (j := 8) v3 (c4_pr _ _)
  rw [← h4] at k4 p4
  refine ite_ind (P := COp c (¬ HB f a ∨ ¬ HB f b) (cbad s t) (f 0 = 8) (f 0) (addF f (chV s t))) (fun q => co_no nb (Or.inr (Or.inr (p4.1.mp q)))) (fun q => ?_)
  have n4 : ¬ prV (tfV s) (tfV t) 3 = 0 := fun n => q (p4.1.mpr n)
  refine tk_ind (P := COp c (¬ HB f a ∨ ¬ HB f b) (cbad s t) (f 0 = 8) (f 0) (addF f (chV s t))) _ _ (fun x5 h5 => ?_)
  rw [h5]
  refine co_of nb (fun n => n.elim n1 (fun n => n.elim n2 n4)) (cAdd (h.hi (fun j hj => ?_) w) w (p4.2 n4))
  rw [k4.1 j (by omega), k3.1 j (by omega), k2.1 j (by omega), k1.1 j (by omega)]
theorem cPeel {M : Mem} {c : Nat} {f : Row} {i j k : Int32} (h : RS M c f) (w : RW f) : COp c (¬ HB f i ∨ ¬ HB f j ∨ ¬ HB f k) (pbad (tr 4 (rwB f i)) (tr 4 (rwB f j)) (tr 4 (rwB f k))) (f 0 = 8) (f 0) (addF f (gbV (pP (tr 4 (rwB f i)) (tr 4 (rwB f j)) (tr 4 (rwB f k))))) (sX4_addPeeled M c i j k) := by
  unfold sX4_addPeeled
  refine ite_ind (P := COp c (¬ HB f i ∨ ¬ HB f j ∨ ¬ HB f k) (pbad (tr 4 (rwB f i)) (tr 4 (rwB f j)) (tr 4 (rwB f k))) (f 0 = 8) (f 0) (addF f (gbV (pP (tr 4 (rwB f i)) (tr 4 (rwB f j)) (tr 4 (rwB f k)))))) (fun q => co_bad (Or.inl ((hbC h w).mp q))) (fun q => ?_)
  have hi : HB f i := nn (fun n => q ((hbC h w).mpr n))
  refine ite_ind (P := COp c (¬ HB f i ∨ ¬ HB f j ∨ ¬ HB f k) (pbad (tr 4 (rwB f i)) (tr 4 (rwB f j)) (tr 4 (rwB f k))) (f 0 = 8) (f 0) (addF f (gbV (pP (tr 4 (rwB f i)) (tr 4 (rwB f j)) (tr 4 (rwB f k)))))) (fun q => co_bad (Or.inr (Or.inl ((hbC h w).mp q)))) (fun q => ?_)
  have hj : HB f j := nn (fun n => q ((hbC h w).mpr n))
  refine ite_ind (P := COp c (¬ HB f i ∨ ¬ HB f j ∨ ¬ HB f k) (pbad (tr 4 (rwB f i)) (tr 4 (rwB f j)) (tr 4 (rwB f k))) (f 0 = 8) (f 0) (addF f (gbV (pP (tr 4 (rwB f i)) (tr 4 (rwB f j)) (tr 4 (rwB f k)))))) (fun q => co_bad (Or.inr (Or.inr ((hbC h w).mp q)))) (fun q => ?_)
  have hk : HB f k := nn (fun n => q ((hbC h w).mpr n))
  have nb : ¬ (¬ HB f i ∨ ¬ HB f j ∨ ¬ HB f k) := fun n => n.elim (fun n => n hi) (fun n => n.elim (fun n => n hj) (fun n => n hk))
  have vi := h.bt hi
  have vj := h.bt hj
  have vk := h.bt hk
  have ci := w.bt hi
  have cj := w.bt hj
  have ck := w.bt hk
  generalize tr 4 (rwB f i) = m at *
  generalize tr 4 (rwB f j) = a at *
  generalize tr 4 (rwB f k) = b at *
  refine tk_ind (P := COp c (¬ HB f i ∨ ¬ HB f j ∨ ¬ HB f k) (pbad m a b) (f 0 = 8) (f 0) (addF f (gbV (pP m a b)))) _ _ (fun x1 h1 => ?_)
  have k1 := kfX0_becomeTransfer M 7 (16 + 12 * c + 1 + 3 + i.toNatClampNeg)
  have p1 := cTf' (M := M) (j := 7) vi ci
  rw [← h1] at k1 p1
  refine ite_ind (P := COp c (¬ HB f i ∨ ¬ HB f j ∨ ¬ HB f k) (pbad m a b) (f 0 = 8) (f 0) (addF f (gbV (pP m a b)))) (fun q => co_no nb (Or.inr (Or.inr (Or.inl (p1.1.mp q))))) (fun q => ?_)
  have n1 : ¬ m 2 = 0 := fun n => q (p1.1.mpr n)
  have v1 : A4 (x1.2.1 7) (tfV m) := p1.2 n1
  refine tk_ind (P := COp c (¬ HB f i ∨ ¬ HB f j ∨ ¬ HB f k) (pbad m a b) (f 0 = 8) (f 0) (addF f (gbV (pP m a b)))) _ _ (fun x2 h2 => ?_)
  have k2 := kfX0_becomeTransfer x1.2 5 (16 + 12 * c + 1 + 3 + j.toNatClampNeg)
  have p2 := cTf' (M := x1.2) (j := 5) (q := 16 + 12 * c + 1 + 3 + j.toNatClampNeg) (s := a) (by rw [k1.1 _ (by omega)]; exact vj) cj
  rw [← h2] at k2 p2
  refine ite_ind (P := COp c (¬ HB f i ∨ ¬ HB f j ∨ ¬ HB f k) (pbad m a b) (f 0 = 8) (f 0) (addF f (gbV (pP m a b)))) (fun q => co_no nb (Or.inl (p2.1.mp q))) (fun q => ?_)
  have n2 : ¬ a 2 = 0 := fun n => q (p2.1.mpr n)
  have v2 : A4 (x2.2.1 5) (tfV a) := p2.2 n2
  refine tk_ind (P := COp c (¬ HB f i ∨ ¬ HB f j ∨ ¬ HB f k) (pbad m a b) (f 0 = 8) (f 0) (addF f (gbV (pP m a b)))) _ _ (fun x3 h3 => ?_)
  have k3 := kfX0_becomeTransfer x2.2 6 (16 + 12 * c + 1 + 3 + k.toNatClampNeg)
  have p3 := cTf' (M := x2.2) (j := 6) (q := 16 + 12 * c + 1 + 3 + k.toNatClampNeg) (s := b) (by rw [k2.1 _ (by omega), k1.1 _ (by omega)]; exact vk) ck
  rw [← h3] at k3 p3
  refine ite_ind (P := COp c (¬ HB f i ∨ ¬ HB f j ∨ ¬ HB f k) (pbad m a b) (f 0 = 8) (f 0) (addF f (gbV (pP m a b)))) (fun q => co_no nb (Or.inr (Or.inr (Or.inr (Or.inl (p3.1.mp q)))))) (fun q => ?_)
  have n3 : ¬ b 2 = 0 := fun n => q (p3.1.mpr n)
  have v3 : A4 (x3.2.1 6) (tfV b) := p3.2 n3
  refine tk_ind (P := COp c (¬ HB f i ∨ ¬ HB f j ∨ ¬ HB f k) (pbad m a b) (f 0 = 8) (f 0) (addF f (gbV (pP m a b)))) _ _ (fun x4 h4 => ?_)
  have k4 := kfX0_invert x3.2 5
  have p4 := cIv' (M := x3.2) (j := 5) (t := tfV a) (by rw [k3.1 5 (by decide)]; exact v2) (c4_tf _)
  rw [← h4] at k4 p4
  refine ite_ind (P := COp c (¬ HB f i ∨ ¬ HB f j ∨ ¬ HB f k) (pbad m a b) (f 0 = 8) (f 0) (addF f (gbV (pP m a b)))) (fun q => co_no nb (Or.inr (Or.inl (p4.1.mp q)))) (fun q => ?_)
  have n4 : ¬ dtV (tfV a) = 0 := fun n => q (p4.1.mpr n)
  have v4 : A4 (x4.2.1 5) (ivV (tfV a)) := p4.2 n4
  refine tk_ind (P := COp c (¬ HB f i ∨ ¬ HB f j ∨ ¬ HB f k) (pbad m a b) (f 0 = 8) (f 0) (addF f (gbV (pP m a b)))) _ _ (fun x5 h5 => ?_)
  have k5 := kfX0_invert x4.2 6
  have p5 := cIv' (M := x4.2) (j := 6) (t := tfV b) (by rw [k4.1 6 (by decide)]; exact v3) (c4_tf _)
  rw [← h5] at k5 p5
  refine ite_ind (P := COp c (¬ HB f i ∨ ¬ HB f j ∨ ¬ HB f k) (pbad m a b) (f 0 = 8) (f 0) (addF f (gbV (pP m a b)))) (fun q => co_no nb (Or.inr (Or.inr (Or.inr (Or.inr (Or.inl (p5.1.mp q))))))) (fun q => ?_)
  have n5 : ¬ dtV (tfV b) = 0 := fun n => q (p5.1.mpr n)
  have v5 : A4 (x5.2.1 6) (ivV (tfV b)) := p5.2 n5
  refine tk_ind (P := COp c (¬ HB f i ∨ ¬ HB f j ∨ ¬ HB f k) (pbad m a b) (f 0 = 8) (f 0) (addF f (gbV (pP m a b)))) _ _ (fun M6 h6 => ?_)
  have k6 := kfX0_becomeProduct x5.2 7 5 7
  have v6 := cPr' (M := x5.2) (j := 7) (p := 5) (q := 7) (s := ivV (tfV a)) (t := tfV m) (by rw [k5.1 5 (by decide)]; exact v4) (by rw [k5.1 7 (by decide), k4.1 7 (by decide), k3.1 7 (by decide), k2.1 7 (by decide)]; exact v1)
  rw [← h6] at k6 v6
  refine tk_ind (P := COp c (¬ HB f i ∨ ¬ HB f j ∨ ¬ HB f k) (pbad m a b) (f 0 = 8) (f 0) (addF f (gbV (pP m a b)))) _ _ (fun M7 h7 => ?_)
  have k7 := kfX0_becomeProduct M6 7 7 6
  have v7 := cPr' (M := M6) (j := 7) (p := 7) (q := 6) (s := prV (ivV (tfV a)) (tfV m)) (t := ivV (tfV b)) v6 (by rw [k6.1 6 (by decide)]; exact v5)
  rw [← h7] at k7 v7
  refine tk_ind (P := COp c (¬ HB f i ∨ ¬ HB f j ∨ ¬ HB f k) (pbad m a b) (f 0 = 8) (f 0) (addF f (gbV (pP m a b)))) _ _ (fun x8 h8 => ?_)
  have k8 := kfX0_becomeBoxOf M7 8 7
  have p8 := cGb' (M := M7) (j := 8) v7 (c4_pr _ _)
  rw [← h8] at k8 p8
  refine ite_ind (P := COp c (¬ HB f i ∨ ¬ HB f j ∨ ¬ HB f k) (pbad m a b) (f 0 = 8) (f 0) (addF f (gbV (pP m a b)))) (fun q => co_no nb (Or.inr (Or.inr (Or.inr (Or.inr (Or.inr (p8.1.mp q))))))) (fun q => ?_)
  have n8 : ¬ pP m a b 3 = 0 := fun n => q (p8.1.mpr n)
  refine tk_ind (P := COp c (¬ HB f i ∨ ¬ HB f j ∨ ¬ HB f k) (pbad m a b) (f 0 = 8) (f 0) (addF f (gbV (pP m a b)))) _ _ (fun x9 h9 => ?_)
  rw [h9]
  refine co_of nb (fun n => ?_) (cAdd (h.hi (fun j hj => ?_) w) w (p8.2 n8))
  · rcases n with n | n | n | n | n | n
    · exact n2 n
    · exact n4 n
    · exact n1 n
    · exact n3 n
    · exact n5 n
    · exact n8 n
  · rw [k8.1 j (by omega), k7.1 j (by omega), k6.1 j (by omega), k5.1 j (by omega), k4.1 j (by omega), k3.1 j (by omega), k2.1 j (by omega), k1.1 j (by omega)]
theorem cRead {M : Mem} {a : Nat} {f : Row} {b : Int32} (h : RS M a f) (w : RW f) : COp a (¬ HB f b) (f 45 = 0 ∨ rbad (tr 12 (rwE f)) (tr 4 (rwB f b)) (tr 12 (rwL f))) (f 0 = 8) (f 0) (addF f (rdV (tlV (tr 12 (rwE f)) (tr 4 (rwB f b))) (tr 12 (rwL f)))) (sX4_addReading M a b) := by
  unfold sX4_addReading
  refine ite_ind (P := COp a (¬ HB f b) (f 45 = 0 ∨ rbad (tr 12 (rwE f)) (tr 4 (rwB f b)) (tr 12 (rwL f))) (f 0 = 8) (f 0) (addF f (rdV (tlV (tr 12 (rwE f)) (tr 4 (rwB f b))) (tr 12 (rwL f))))) (fun q => co_bad ((hbC h w).mp q)) (fun q => ?_)
  have hb : HB f b := nn (fun n => q ((hbC h w).mpr n))
  have nb : ¬ ¬ HB f b := fun n => n hb
  rw [h.2.1]
  refine ite_ind (P := COp a (¬ HB f b) (f 45 = 0 ∨ rbad (tr 12 (rwE f)) (tr 4 (rwB f b)) (tr 12 (rwL f))) (f 0 = 8) (f 0) (addF f (rdV (tlV (tr 12 (rwE f)) (tr 4 (rwB f b))) (tr 12 (rwL f))))) (fun q => co_no nb (Or.inl q)) (fun q0 => ?_)
  have vb := h.bt hb
  have ve := h.et
  have vl := h.lt
  generalize tr 4 (rwB f b) = s at *
  generalize tr 12 (rwE f) = e at *
  generalize tr 12 (rwL f) = g at *
  refine tk_ind (P := COp a (¬ HB f b) (f 45 = 0 ∨ rbad e s g) (f 0 = 8) (f 0) (addF f (rdV (tlV e s) g))) _ _ (fun x1 h1 => ?_)
  have k1 := kfX4_tells M (16 + 12 * a + 2) (16 + 12 * a + 1 + 3 + b.toNatClampNeg)
  have p1 := cTl' (M := M) ve vb
  rw [← h1] at k1 p1
  refine ite_ind (P := COp a (¬ HB f b) (f 45 = 0 ∨ rbad e s g) (f 0 = 8) (f 0) (addF f (rdV (tlV e s) g))) (fun q => co_no nb (Or.inr (Or.inl (p1.1.mp q)))) (fun q => ?_)
  have n1 : ¬ TB e s := fun n => q (p1.1.mpr n)
  have v1 : A4 (x1.2.1 3) (tlV e s) := p1.2 n1
  refine tk_ind (P := COp a (¬ HB f b) (f 45 = 0 ∨ rbad e s g) (f 0 = 8) (f 0) (addF f (rdV (tlV e s) g))) _ _ (fun x2 h2 => ?_)
  have k2 := kfX4_strip x1.2 (16 + 12 * a + 3)
  have p2 := cSt (M := x1.2) (q := 16 + 12 * a + 3) (g := g) (by rw [k1.1 _ (by omega)]; exact vl) v1
  rw [← h2] at k2 p2
  refine ite_ind (P := COp a (¬ HB f b) (f 45 = 0 ∨ rbad e s g) (f 0 = 8) (f 0) (addF f (rdV (tlV e s) g))) (fun q => co_no nb (Or.inr (Or.inr ((p2.1.mp q).elim Or.inl (fun n => Or.inr (n.elim Or.inl (fun n => Or.inr (n.elim Or.inl (fun n => Or.inr (Or.inl n)))))))))) (fun q => ?_)
  have n2 : ¬ (g 2 = 0 ∨ g 5 = 0 ∨ g 8 = 0 ∨ g 11 = 0) := fun n => q (p2.1.mpr n)
  have v2 := p2.2 n2
  refine tk_ind (P := COp a (¬ HB f b) (f 45 = 0 ∨ rbad e s g) (f 0 = 8) (f 0) (addF f (rdV (tlV e s) g))) _ _ (fun x3 h3 => ?_)
  have k3 := kfX4_solve x2.2 (16 + 12 * a + 3)
  have p3 := cSo (M := x2.2) (q := 16 + 12 * a + 3) (g := g) (t := tlV e s) (by rw [k2.1 _ (by omega), k1.1 _ (by omega)]; exact vl) v2
  rw [← h3] at k3 p3
  refine ite_ind (P := COp a (¬ HB f b) (f 45 = 0 ∨ rbad e s g) (f 0 = 8) (f 0) (addF f (rdV (tlV e s) g))) (fun q => co_no nb (Or.inr (Or.inr (Or.inr (Or.inr (Or.inr (Or.inr (p3.1.mp q)))))))) (fun q => ?_)
  have n3 : ¬ rqq (tlV e s) g = 0 := fun n => q (p3.1.mpr n)
  refine tk_ind (P := COp a (¬ HB f b) (f 45 = 0 ∨ rbad e s g) (f 0 = 8) (f 0) (addF f (rdV (tlV e s) g))) _ _ (fun x4 h4 => ?_)
  rw [h4]
  refine co_of nb (fun n => ?_) (cAdd (h.hi (fun j hj => ?_) w) w (p3.2 n3))
  · rcases n with n | n | n | n | n | n | n
    · exact q0 n
    · exact n1 n
    · exact n2 (Or.inl n)
    · exact n2 (Or.inr (Or.inl n))
    · exact n2 (Or.inr (Or.inr (Or.inl n)))
    · exact n2 (Or.inr (Or.inr (Or.inr n)))
    · exact n3 n
  · rw [k3.1 j (by omega), k2.1 j (by omega), k1.1 j (by omega)]
theorem four {i : Int32} (h : 0 ≤ i.toInt ∧ i.toInt < 4) : i = 0 ∨ i = 1 ∨ i = 2 ∨ i = 3 := by
  rw [fa_eq, fa_eq, fa_eq, fa_eq]
  show _ = (0 : Int) ∨ _ = (1 : Int) ∨ _ = (2 : Int) ∨ _ = (3 : Int)
  omega
theorem atV {M : Mem} {j : Nat} {i : Int32} (h : 0 ≤ i.toInt ∧ i.toInt < 4) : fX0_at M j i = M.1 j i.toNatClampNeg := by
  rcases four h with e | e | e | e <;> (subst e; rfl)
theorem putV {M : Mem} {j : Nat} {i v : Int32} (h : 0 ≤ i.toInt ∧ i.toInt < 4) : sX0_put M j i v = st M j i.toNatClampNeg v := by
  rcases four h with e | e | e | e <;> (subst e; rfl)
theorem e4 : (4 : Int32).toInt = 4 := rfl
theorem e12 : (12 : Int32).toInt = 12 := rfl
def sBad (f : Row) (b k x y : Int32) : Prop := ¬ HB f b ∨ ¬ (0 ≤ k.toInt ∧ k.toInt < 4) ∨ ¬ (PT0 x ∧ PT0 y)
def eBad (k x y : Int32) : Prop := ¬ (0 ≤ k.toInt ∧ k.toInt < 12) ∨ ¬ (PT0 x ∧ PT0 y)
theorem rs_set {M : Mem} {a b k : Nat} {f : Row} {v : Int32} (h : RS M a f) (w : RW f) (hb : (b : Int) < (f 0).toInt) (hk : k < 4) : RS (st M (16 + 12 * a + 1 + 3 + b) k v) a (upd f (1 + 4 * b + k) v) := by
  have r := w.1
  have u0 : upd f (1 + 4 * b + k) v 0 = f 0 := pk_un (by omega)
  refine ⟨?_, ?_, fun c q hc hq => ?_, fun q hq => ?_, fun q hq => ?_⟩
  · rw [st_ne _ _ _ (by omega), u0]; exact h.1
  · rw [st_ne _ _ _ (by omega), pk_un (by omega)]; exact h.2.1
  · rw [u0] at hc
    by_cases e : c = b
    · subst e
      by_cases e2 : q = k
      · subst e2
        rw [st_at, pk_us]
      · rw [st_at_ne _ _ _ _ e2, pk_un (by omega)]; exact h.2.2.1 c q hc hq
    · rw [st_ne _ _ _ (by omega), pk_un (by omega)]; exact h.2.2.1 c q hc hq
  · rw [st_ne _ _ _ (by omega), pk_un (by omega)]; exact h.2.2.2.1 q hq
  · rw [st_ne _ _ _ (by omega), pk_un (by omega)]; exact h.2.2.2.2 q hq
theorem rs_err {M : Mem} {a k : Nat} {f : Row} {v : Int32} (h : RS M a f) (w : RW f) (hk : k < 12) : RS (st M (16 + 12 * a + 2) k v) a (upd f (33 + k) v) := by
  have r := w.1
  have u0 : upd f (33 + k) v 0 = f 0 := pk_un (by omega)
  refine ⟨?_, ?_, fun c q hc hq => ?_, fun q hq => ?_, fun q hq => ?_⟩
  · rw [st_ne _ _ _ (by omega), u0]; exact h.1
  · rw [st_ne _ _ _ (by omega), pk_un (by omega)]; exact h.2.1
  · rw [u0] at hc
    rw [st_ne _ _ _ (by omega), pk_un (by omega)]; exact h.2.2.1 c q hc hq
  · by_cases e2 : q = k
    · subst e2
      rw [st_at, pk_us]
    · rw [st_at_ne _ _ _ _ e2, pk_un (by omega)]; exact h.2.2.2.1 q hq
  · rw [st_ne _ _ _ (by omega), pk_un (by omega)]; exact h.2.2.2.2 q hq
theorem rw_set {b k : Nat} {f : Row} {v : Int32} (w : RW f) (hb : (b : Int) < (f 0).toInt) (hk : k < 4) (hv : CN v) : RW (upd f (1 + 4 * b + k) v) := by
  have r := w.1
  have u0 : upd f (1 + 4 * b + k) v 0 = f 0 := pk_un (by omega)
  refine ⟨by rw [u0]; exact r, by rw [pk_un (by omega)]; exact w.2.1, fun c q hc hq => ?_, fun q hq => ?_, fun q hq => ?_⟩
  · rw [u0] at hc
    by_cases e : 1 + 4 * c + q = 1 + 4 * b + k
    · rw [e, pk_us]; exact hv
    · rw [pk_un e]; exact w.2.2.1 c q hc hq
  · rw [pk_un (by omega)]; exact w.2.2.2.1 q hq
  · rw [pk_un (by omega)]; exact w.2.2.2.2 q hq
theorem rw_err {k : Nat} {f : Row} {v : Int32} (w : RW f) (hk : k < 12) (hv : CN v) : RW (upd f (33 + k) v) := by
  have r := w.1
  have u0 : upd f (33 + k) v 0 = f 0 := pk_un (by omega)
  refine ⟨by rw [u0]; exact r, by rw [pk_un (by omega)]; exact w.2.1, fun c q hc hq => ?_, fun q hq => ?_, fun q hq => ?_⟩
  · rw [u0] at hc
    rw [pk_un (by omega)]; exact w.2.2.1 c q hc hq
  · by_cases e : q = k
    · rw [e, pk_us]; exact hv
    · rw [pk_un (by omega)]; exact w.2.2.2.1 q hq
  · rw [pk_un (by omega)]; exact w.2.2.2.2 q hq
theorem cSets {M : Mem} {a : Nat} {f : Row} {b k x y : Int32} (h : RS M a f) (w : RW f) : COp a (sBad f b k x y) False False (f (1 + 4 * b.toNatClampNeg + k.toNatClampNeg)) (upd f (1 + 4 * b.toNatClampNeg + k.toNatClampNeg) (fX6_number x y)) (sX2_putNumber M a b k x y) := by
  unfold sX2_putNumber
  refine ite_ind (P := COp a (sBad f b k x y) False False (f (1 + 4 * b.toNatClampNeg + k.toNatClampNeg)) (upd f (1 + 4 * b.toNatClampNeg + k.toNatClampNeg) (fX6_number x y))) (fun q => co_bad (Or.inl ((hbC h w).mp q))) (fun q => ?_)
  have hb : HB f b := nn (fun n => q ((hbC h w).mpr n))
  refine ite_ind (P := COp a (sBad f b k x y) False False (f (1 + 4 * b.toNatClampNeg + k.toNatClampNeg)) (upd f (1 + 4 * b.toNatClampNeg + k.toNatClampNeg) (fX6_number x y))) (fun q => co_bad (Or.inr (Or.inl (by rw [below_iff, e4] at q; exact q)))) (fun q => ?_)
  have hk := below_in q
  rw [e4] at hk
  refine ite_ind (P := COp a (sBad f b k x y) False False (f (1 + 4 * b.toNatClampNeg + k.toNatClampNeg)) (upd f (1 + 4 * b.toNatClampNeg + k.toNatClampNeg) (fX6_number x y))) (fun q => co_bad (Or.inr (Or.inr ((given_iff x y).mp q)))) (fun q => ?_)
  have hp : PT0 x ∧ PT0 y := nn (fun n => q ((given_iff x y).mpr n))
  rw [putV hk, atV hk, madeE]
  have ck := cl_T hk.1
  refine tk_ind (P := COp a (sBad f b k x y) False False (f (1 + 4 * b.toNatClampNeg + k.toNatClampNeg)) (upd f (1 + 4 * b.toNatClampNeg + k.toNatClampNeg) (fX6_number x y))) _ _ (fun M1 h1 => ?_)
  rw [h.2.2.1 _ _ hb.n (by omega), h1]
  refine co_ok (fun n => ?_) id id (rs_set h w hb.n (by omega))
  rcases n with n | n | n
  · exact n hb
  · exact n hk
  · exact n hp
theorem cErrs {M : Mem} {a : Nat} {f : Row} {k x y : Int32} (h : RS M a f) (w : RW f) : COp a (eBad k x y) False False (f (33 + k.toNatClampNeg)) (upd f (33 + k.toNatClampNeg) (fX6_number x y)) (sX2_putError M a k x y) := by
  unfold sX2_putError
  refine ite_ind (P := COp a (eBad k x y) False False (f (33 + k.toNatClampNeg)) (upd f (33 + k.toNatClampNeg) (fX6_number x y))) (fun q => co_bad (Or.inl (by rw [below_iff, e12] at q; exact q))) (fun q => ?_)
  have hk := below_in q
  rw [e12] at hk
  refine ite_ind (P := COp a (eBad k x y) False False (f (33 + k.toNatClampNeg)) (upd f (33 + k.toNatClampNeg) (fX6_number x y))) (fun q => co_bad (Or.inr ((given_iff x y).mp q))) (fun q => ?_)
  have hp : PT0 x ∧ PT0 y := nn (fun n => q ((given_iff x y).mpr n))
  have ck := cl_T hk.1
  rw [madeE]
  refine tk_ind (P := COp a (eBad k x y) False False (f (33 + k.toNatClampNeg)) (upd f (33 + k.toNatClampNeg) (fX6_number x y))) _ _ (fun M1 h1 => ?_)
  rw [h.2.2.2.1 _ (by omega), h1]
  refine co_ok (fun n => ?_) id id (rs_err h w (by omega))
  rcases n with n | n
  · exact n hk
  · exact n hp
def learnF (f g : Row) : Row := fb_put (upd f 45 1) g 46 12
theorem ctK_g {f g F G : Row} : ∀ n, (∀ i, i < n → f i = F i) → (∀ i, i < n → g i = G i) → ctK f g n = ctK F G n
  | 0, _, _ => rfl
  | n + 1, h, k => by
    unfold ctK
    rw [h n (by omega), k n (by omega), ctK_g n (fun i hi => h i (by omega)) (fun i hi => k i (by omega))]
theorem ctE_g {f N F G : Row} : ∀ n, (∀ i, i < n → f i = F i) → (∀ i, i < n → N (33 + i) = G i) → ctE f N n = ctK F G n
  | 0, _, _ => rfl
  | n + 1, h, k => by
    unfold ctK ctE
    rw [h n (by omega), k n (by omega), ctE_g n (fun i hi => h i (by omega)) (fun i hi => k i (by omega)), Int32.add_zero]
theorem ctK_r (f g : Row) : ∀ n : Nat, n ≤ 1000 → 0 ≤ (ctK f g n).toInt ∧ (ctK f g n).toInt ≤ n
  | 0, _ => ⟨(by decide : (0 : Int) ≤ (0 : Int32).toInt), (by decide : (0 : Int32).toInt ≤ ((0 : Nat) : Int))⟩
  | n + 1, h => by
    have r := ctK_r f g n (by omega)
    unfold ctK
    split
    · rw [incT_ (by omega)]; omega
    · omega
theorem rw_learn {f g : Row} (w : RW f) (hg : C12 g) : RW (learnF f g) := by
  unfold learnF
  have r := w.1
  have u0 : fb_put (upd f 45 1) g 46 12 0 = f 0 := by rw [fb_put_out (by omega), pk_un (by decide)]
  refine ⟨by rw [u0]; exact r, ?_, fun c q hc hq => ?_, fun q hq => ?_, fun q hq => ?_⟩
  · rw [fb_put_out (by omega), pk_us]; exact Or.inr rfl
  · rw [u0] at hc
    rw [fb_put_out (by omega), pk_un (by omega)]; exact w.2.2.1 c q hc hq
  · rw [fb_put_out (by omega), pk_un (by omega)]; exact w.2.2.2.1 q hq
  · rw [fb_put_in (by omega) (by omega), show 46 + q - 46 = q by omega]; exact hg q hq
theorem cLearns {M : Mem} {a : Nat} {f : Row} (h : RS M a f) (w : RW f) : COp a False (lbad (tr 12 (rwE f))) False (ctK (lgV (tr 12 (rwE f))) (rwE f) 12) (learnF f (lgV (tr 12 (rwE f)))) (sX4_learnErrors M a) := by
  have q := cLearn h.et
  have r := w.1
  refine ⟨fun n => n.elim, fun _ n => q.1 n, fun _ _ n => n.elim, fun _ n _ => ?_⟩
  obtain ⟨q1, q2, q3, q4⟩ := q.2 n
  have u0 : learnF f (lgV (tr 12 (rwE f))) 0 = f 0 := by unfold learnF; rw [fb_put_out (by omega), pk_un (by decide)]
  refine ⟨?_, ?_, ?_, fun c k hc hk => ?_, fun k hk => ?_, fun k hk => ?_⟩
  · rw [q1]
    exact ctK_g 12 q2 (fun i hi => by rw [q4 _ (by omega) (by omega) (by omega)]; exact h.2.2.2.1 i hi)
  · rw [q3, pk_un (by decide), u0]; exact h.1
  · rw [q3, pk_us]; unfold learnF; rw [fb_put_out (by omega), pk_us]
  · rw [u0] at hc
    rw [q4 _ (by omega) (by omega) (by omega)]; unfold learnF; rw [fb_put_out (by omega), pk_un (by omega)]; exact h.2.2.1 c k hc hk
  · rw [q4 _ (by omega) (by omega) (by omega)]; unfold learnF; rw [fb_put_out (by omega), pk_un (by omega)]; exact h.2.2.2.1 k hk
  · rw [q2 k hk]; unfold learnF; rw [fb_put_in (by omega) (by omega), show 46 + k - 46 = k by omega]
def dropF (f : Row) (b : Int32) : Row := drp (upd f 0 (f 0 - 1)) (1 + 4 * b.toNatClampNeg) (1 + 4 * (f 0 - 1).toNatClampNeg)
theorem rmB_at (M : Mem) (a b : Nat) : ∀ n, b + n < 8 → (∀ i, b ≤ i → i < b + n → A4 ((rmB M a b n).1 (16 + 12 * a + 1 + 3 + i)) (M.1 (16 + 12 * a + 1 + 3 + (i + 1)))) ∧ (∀ j, (j < 16 + 12 * a + 1 + 3 + b ∨ 16 + 12 * a + 1 + 3 + (b + n) ≤ j) → (rmB M a b n).1 j = M.1 j)
  | 0, _ => ⟨fun i h1 h2 => by omega, fun _ _ => rfl⟩
  | n + 1, h => by
    obtain ⟨p, q⟩ := rmB_at M a b n (by omega)
    have k := kfX0_copyFrom (rmB M a b n) (16 + 12 * a + 1 + 3 + (b + n)) (16 + 12 * a + 1 + 3 + (b + n + 1))
    have v := cpyV (rmB M a b n) (16 + 12 * a + 1 + 3 + (b + n)) (16 + 12 * a + 1 + 3 + (b + n + 1))
    refine ⟨fun i h1 h2 => ?_, fun j hj => ?_⟩
    · by_cases e : i = b + n
      · subst e
        rw [q _ (by omega)] at v
        exact v
      · have := p i h1 (by omega)
        intro z hz
        exact (congrFun (k.1 (16 + 12 * a + 1 + 3 + i) (by omega)) z).trans (this z hz)
    · exact (k.1 j (by omega)).trans (q j (by omega))
theorem dropF_0 (f : Row) (b : Int32) : dropF f b 0 = f 0 - 1 := by unfold dropF drp; rw [if_neg (by omega), pk_us]
theorem dropF_in {f : Row} {b : Int32} {k : Nat} (h1 : 1 + 4 * b.toNatClampNeg ≤ k) (h2 : k < 1 + 4 * (f 0 - 1).toNatClampNeg) : dropF f b k = f (k + 4) := by unfold dropF drp; rw [if_pos ⟨h1, h2⟩, pk_un (by omega)]
theorem dropF_out {f : Row} {b : Int32} {k : Nat} (h0 : k ≠ 0) (h : k < 1 + 4 * b.toNatClampNeg ∨ 1 + 4 * (f 0 - 1).toNatClampNeg ≤ k) : dropF f b k = f k := by unfold dropF drp; rw [if_neg (by omega), pk_un h0]
theorem hb_pos {f : Row} {b : Int32} (w : RW f) (hb : HB f b) : (f 0 - 1).toInt = (f 0).toInt - 1 ∧ ((f 0 - 1).toNatClampNeg : Int) = (f 0).toInt - 1 := by
  have r := w.1
  have b1 := hb.1
  have b2 := hb.2
  have t := decT_ (x := f 0) (by omega)
  exact ⟨t, by rw [cl_T (by omega), t]⟩
theorem rw_drop {f : Row} {b : Int32} (w : RW f) (hb : HB f b) : RW (dropF f b) := by
  have r := w.1
  have b1 := hb.1
  have b2 := hb.2
  have cb := cl_T hb.1
  obtain ⟨t, tc⟩ := hb_pos w hb
  refine ⟨by rw [dropF_0, t]; omega, ?_, fun c q hc hq => ?_, fun q hq => ?_, fun q hq => ?_⟩
  · rw [dropF_out (by decide) (by omega)]; exact w.2.1
  · rw [dropF_0, t] at hc
    by_cases e : c < b.toNatClampNeg
    · rw [dropF_out (by omega) (by omega)]; exact w.2.2.1 c q (by omega) hq
    · rw [dropF_in (by omega) (by omega), show 1 + 4 * c + q + 4 = 1 + 4 * (c + 1) + q by omega]; exact w.2.2.1 (c + 1) q (by omega) hq
  · rw [dropF_out (by omega) (by omega)]; exact w.2.2.2.1 q hq
  · rw [dropF_out (by omega) (by omega)]; exact w.2.2.2.2 q hq
theorem cDrops {M : Mem} {a : Nat} {f : Row} {b : Int32} (h : RS M a f) (w : RW f) : COp a (¬ HB f b) False False (f 0 - 1) (dropF f b) (sX2_removeBox M a b) := by
  unfold sX2_removeBox
  refine ite_ind (P := COp a (¬ HB f b) False False (f 0 - 1) (dropF f b)) (fun q => co_bad ((hbC h w).mp q)) (fun q => ?_)
  have hb : HB f b := nn (fun n => q ((hbC h w).mpr n))
  have r := w.1
  have b1 := hb.1
  have b2 := hb.2
  have cb := cl_T hb.1
  obtain ⟨t, tc⟩ := hb_pos w hb
  refine tk_ind (P := COp a (¬ HB f b) False False (f 0 - 1) (dropF f b)) _ _ (fun M1 h1 => ?_)
  obtain ⟨p, k⟩ := rmB_at M a b.toNatClampNeg (8 - (b.toNatClampNeg + 1)) (by omega)
  rw [← h1] at p k
  refine tk_ind (P := COp a (¬ HB f b) False False (f 0 - 1) (dropF f b)) _ _ (fun M2 h2 => ?_)
  have e3 : M2.1 (16 + 12 * a) 3 = f 0 - 1 := by rw [h2, st_at, k _ (by omega), h.1]
  rw [e3]
  have k2 : ∀ i, i ≠ 16 + 12 * a → M2.1 i = M1.1 i := fun i hi => by rw [h2, st_ne _ _ _ hi]
  refine co_ok (fun n => n hb) id id ⟨?_, ?_, fun c i hc hi => ?_, fun i hi => ?_, fun i hi => ?_⟩
  · rw [e3, dropF_0]
  · rw [h2, st_at_ne _ _ _ _ (by decide), k _ (by omega), dropF_out (by decide) (by omega)]; exact h.2.1
  · rw [dropF_0, t] at hc
    rw [k2 _ (by omega)]
    by_cases e : c < b.toNatClampNeg
    · rw [k _ (by omega), dropF_out (by omega) (by omega)]; exact h.2.2.1 c i (by omega) hi
    · rw [p c (by omega) (by omega) i hi, dropF_in (by omega) (by omega), show 1 + 4 * c + i + 4 = 1 + 4 * (c + 1) + i by omega]; exact h.2.2.1 (c + 1) i (by omega) hi
  · rw [k2 _ (by omega), k _ (by omega), dropF_out (by omega) (by omega)]; exact h.2.2.2.1 i hi
  · rw [k2 _ (by omega), k _ (by omega), dropF_out (by omega) (by omega)]; exact h.2.2.2.2 i hi
