theorem sh_ct (M : Mem) (h : Int64) (k : Int32) : fX6_countOf (sh M h) k = fX6_countOf M k := rfl
theorem sh_bD (M : Mem) (h x : Int64) (b : Int32) : bxD (sh M h) b x = bxD M b x := by
  unfold bxD
  rw [sh_dt, sh_ts, sh_ts, sh_ts, sh_ts, sh_lk]
  rfl
theorem bdE {C N : Mem} {b : Int32} {x : Int64} (h : RelC C N) (hb : HB (N.1 101) b) : fX5_boxDigest C x b = bxD N b x := by
  have w := h.2.1.2
  have s := h.2.1.1
  have hb8 := hb.r8 w
  have v := s.bx hb
  have e0 : fX0_at C (16 + 12 * (C.2.1 0) + 1 + 3 + b.toNatClampNeg) 0 = N.1 101 ((fX6_boxAt N b) + 0).toNatClampNeg := by rw [bi00 hb8]; exact v 0 (by decide)
  have e1 : fX0_at C (16 + 12 * (C.2.1 0) + 1 + 3 + b.toNatClampNeg) 1 = N.1 101 ((fX6_boxAt N b) + 1).toNatClampNeg := by rw [bi1 hb8]; exact v 1 (by decide)
  have e2 : fX0_at C (16 + 12 * (C.2.1 0) + 1 + 3 + b.toNatClampNeg) 2 = N.1 101 ((fX6_boxAt N b) + 2).toNatClampNeg := by rw [bi2 hb8]; exact v 2 (by decide)
  have e3 : fX0_at C (16 + 12 * (C.2.1 0) + 1 + 3 + b.toNatClampNeg) 3 = N.1 101 ((fX6_boxAt N b) + 3).toNatClampNeg := by rw [bi3 hb8]; exact v 3 (by decide)
  have ed : fX0_determinant C (16 + 12 * (C.2.1 0) + 1 + 3 + b.toNatClampNeg) = fX6_detBox N b := by rw [detC, dt_g v, detBoxE hb8 (w.c4 hb)]; rfl
  have et : ∀ k, fX5_passed C (16 + 12 * (C.2.1 0) + 1 + 3 + b.toNatClampNeg) k = fX6_testOf N b k := fun k => by rw [passV v, testV hb8 (w.c4 hb)]; rfl
  unfold fX5_boxDigest
  rw [e0, e1, e2, e3, ed, et, et, et, et, likeV h hb]
  rfl
theorem dgBE {C N : Mem} (h : RelC C N) (x : Int64) : ∀ n : Nat, (n : Int) ≤ (N.1 101 0).toInt → dgB (sh N x) n = dcB C x n
  | 0, _ => rfl
  | n + 1, hn => by
    have n8 := h.2.1.2.1.2
    rw [dgB, dcB, sh_bD, dgBE h x n (by omega), bdE h ⟨by rw [nI_T (by omega)]; omega, by rw [nI_T (by omega)]; omega⟩]
theorem dgEE {C N : Mem} (h : RelC C N) (x : Int64) : ∀ n : Nat, n ≤ 12 → dgE (sh N x) n = dcE C x n
  | 0, _ => rfl
  | n + 1, hn => by
    have e : fX5_error_r C (nI n) = N.1 101 (33 + n) := by
      unfold fX5_error_r
      rw [cl_of (nI_T (k := n) (by omega))]
      exact h.2.1.1.2.2.2.1 n (by omega)
    rw [dgE, dcE, dgEE h x n (by omega), e]
    rfl
theorem dgLE {C N : Mem} (h : RelC C N) (x : Int64) (c : N.1 101 45 = 1) : ∀ n : Nat, n ≤ 12 → dgL (sh N x) n = dcL C x n
  | 0, _ => rfl
  | n + 1, hn => by
    have e : fX5_learnt_r C (nI n) = N.1 101 (46 + n) := by
      unfold fX5_learnt_r
      rw [h.2.1.1.2.1, if_neg (by rw [c]; decide), cl_of (nI_T (k := n) (by omega))]
      exact h.2.1.1.2.2.2.2 n (by omega)
    rw [dgL, dcL, dgLE h x c n (by omega), e]
    rfl
theorem dgNE {C N : Mem} (h : RelC C N) (x : Int64) (c : N.1 101 45 = 0) : ∀ n : Nat, n ≤ 12 → dgN (sh N x) n = dcL C x n
  | 0, _ => rfl
  | n + 1, hn => by
    have e : fX5_learnt_r C (nI n) = -1 := by
      unfold fX5_learnt_r
      rw [h.2.1.1.2.1, if_pos c]
    rw [dgN, dcL, dgNE h x c n (by omega), e]
    rfl
theorem cnt1 {C N : Mem} (h : RelC C N) : fX5_count_1 C = fX6_countOf N 1 := by
  show (if C.1 (16 + 12 * (C.2.1 0)) 4 = 0 then (0 : Int32) else 1) = N.1 101 45
  rw [h.2.1.1.2.1]
  exact knowsV h.2.1.2
theorem sim_digest {C N : Mem} (h : RelC C N) : fX5_digest C = (sX6_digest N).1 ∧ RelC C (sX6_digest N).2 := by
  have w := h.2.1.2
  have c0 : fX5_count_0 C = fX6_countOf N 0 := h.2.1.1.1
  have c2 : fX5_count_2 C = fX6_countOf N 2 := h.2.2.2.2.1.1
  have c3 : fX5_count_3 C = fX6_countOf N 3 := h.2.2.2.2.1.2.1
  have c4 : fX5_count_4 C = fX6_countOf N 4 := h.2.2.2.2.1.2.2
  have c5 : fX5_count_5 C = fX6_countOf N 5 := h.2.2.2.2.2.1.1
  have c6 : fX5_count_6 C = fX6_countOf N 6 := h.2.2.1.1
  have e1 : fX5_digest C = dcL C (dcE C (dcB C (31 * (31 * (31 * (31 * (31 * (31 * (31 * 2693 + (fX6_countOf N 0).toInt64) + (fX6_countOf N 1).toInt64) + (fX6_countOf N 2).toInt64) + (fX6_countOf N 3).toInt64) + (fX6_countOf N 4).toInt64) + (fX6_countOf N 5).toInt64) + (fX6_countOf N 6).toInt64) (N.1 101 0).toNatClampNeg) 12) 12 := by
    unfold fX5_digest
    rw [c0, cnt1 h, c2, c3, c4, c5, c6, h.2.1.1.1]
    rfl
  have ms : ∀ q, MSame N (sh N q) := fun q => ⟨rfl, rfl, rfl, rfl, rfl, rfl⟩
  have key : ∀ x : Int64, x = (31 * (31 * (31 * (31 * (31 * (31 * (31 * 2693 + (fX6_countOf N 0).toInt64) + (fX6_countOf N 1).toInt64) + (fX6_countOf N 2).toInt64) + (fX6_countOf N 3).toInt64) + (fX6_countOf N 4).toInt64) + (fX6_countOf N 5).toInt64) + (fX6_countOf N 6).toInt64 : Int64) → sX6_digest N = (if N.1 101 45 = 1 then (dgL (sh N (dgE (sh N (dgB (sh N x) (N.1 101 0).toNatClampNeg)) 12)) 12, sh N (dgL (sh N (dgE (sh N (dgB (sh N x) (N.1 101 0).toNatClampNeg)) 12)) 12)) else (dgN (sh N (dgE (sh N (dgB (sh N x) (N.1 101 0).toNatClampNeg)) 12)) 12, sh N (dgN (sh N (dgE (sh N (dgB (sh N x) (N.1 101 0).toNatClampNeg)) 12)) 12))) := by
    intro x hx
    subst hx
    unfold sX6_digest
    rfl
  generalize hx : (31 * (31 * (31 * (31 * (31 * (31 * (31 * 2693 + (fX6_countOf N 0).toInt64) + (fX6_countOf N 1).toInt64) + (fX6_countOf N 2).toInt64) + (fX6_countOf N 3).toInt64) + (fX6_countOf N 4).toInt64) + (fX6_countOf N 5).toInt64) + (fX6_countOf N 6).toInt64 : Int64) = x at e1 key
  rw [e1, key x rfl, dgBE h x _ (by rw [cl_T w.1.1]; exact Int.le_refl _), dgEE h _ 12 (by decide)]
  generalize dcE C (dcB C x (N.1 101 0).toNatClampNeg) 12 = y
  by_cases c : N.1 101 45 = 1
  · rw [if_pos c, dgLE h y c 12 (by decide)]
    exact ⟨rfl, h.ms (ms _)⟩
  · have c' : N.1 101 45 = 0 := w.2.1.resolve_right c
    rw [if_neg c, dgNE h y c' 12 (by decide)]
    exact ⟨rfl, h.ms (ms _)⟩
