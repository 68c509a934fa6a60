theorem cellq_ext {c0 : ClassId} {n : Nat} {f g : Nat → Option Nat} (h : ∀ i, i < n → f i = g i) : vp_cell c0 (n, .inr (.inr (.inr (.inr f)))) = vp_cell c0 (n, .inr (.inr (.inr (.inr g)))) := by
  rw [vp_cell_q, vp_cell_q]
  unfold arrV
  congr 1
  apply Array.ext
  · simp
  · intro i h1 h2
    simp only [Array.getElem_ofFn]
    rw [h i (by simpa using h1)]
/-- the memory at the beginning -/
def M0c : Mem := (fun j k => if 16 ≤ j ∧ j < 100 ∧ (j - 16) % 12 = 2 then er0 k else 0, fun i => i, 0)
def M0m : Mem := (fun j k => if j = 101 then nw0 k else 0, fun i => i, 0)
def zc (h0 : Nat) (u : PU) (i : Nat) : Nat := if i = 0 then h0 else if i < 10 then u.2.1 (i - 1) else if i < 15 then u.2.2.1 (i - 10) else if i = 15 then u.1 else u.2.2.2 ((i - 16) / 12) ((i - 16) % 12)
theorem zc_st {h0 : Nat} {u : PU} {a i : Nat} (hi : i < 12) : zc h0 u (16 + 12 * a + i) = u.2.2.2 a i := by
  unfold zc
  rw [if_neg (by omega), if_neg (by omega), if_neg (by omega), if_neg (by omega), show (16 + 12 * a + i - 16) / 12 = a by omega, show (16 + 12 * a + i - 16) % 12 = i by omega]
theorem m0_st {a i : Nat} (hi : i < 12) (h : i ≠ 2) (k : Nat) : M0c.1 (16 + 12 * a + i) k = 0 := if_neg (by omega)
theorem m0_er {a : Nat} (ha : a < 7) : M0c.1 (16 + 12 * a + 2) = er0 := funext fun k => if_pos (by omega)
theorem m0_lo {j : Nat} (hj : j < 16) (k : Nat) : M0c.1 j k = 0 := if_neg (by omega)
theorem m0_lo' {j : Nat} (hj : j < 16) : M0c.1 j = fun _ => 0 := funext fun k => m0_lo hj k
theorem pb_st {D : va_G} {cy : Nat → ClassId} {H : Heap} {q z : Nat → Nat} {a : Nat} (ha : a < 7) (hP : ∀ x ∈ stH q :: stI cy q, va_at D vwCl x H) (hz : ∀ i, i < 12 → z (16 + 12 * a + i) = q i) (i : Nat) (hi : i < 12) : va_at D vwCl (z (16 + 12 * a + i), cellE cy z M0c (16 + 12 * a + i)) H := by
  have four : ∀ n, n < 8 → (q (4 + n), (.inr (0, [.int 0, .int 0, .int 0, .int 0]) : va_E)) ∈ stH q :: stI cy q → va_at D vwCl (z (16 + 12 * a + (4 + n)), cellE cy z M0c (16 + 12 * a + (4 + n))) H := by
    intro n hn hm
    have e : cellE cy z M0c (16 + 12 * a + (4 + n)) = .inr (0, [.int 0, .int 0, .int 0, .int 0]) := by
      have k0 : kd (16 + 12 * a + (4 + n)) = 0 := by
        rw [show 16 + 12 * a + (4 + n) = 16 + 12 * a + 1 + 3 + n by omega]
        exact kd_fo ha hn
      rw [ce_0 k0]
      unfold ceF
      rw [m0_st (by omega) (by omega), m0_st (by omega) (by omega), m0_st (by omega) (by omega), m0_st (by omega) (by omega)]
    rw [e, hz (4 + n) (by omega)]
    exact hP _ hm
  have z0 := hz 0 (by omega)
  have z1 := hz 1 (by omega)
  have z2 := hz 2 (by omega)
  have z3 := hz 3 (by omega)
  rw [Nat.add_zero] at z0
  rcases (show i = 0 ∨ i = 1 ∨ i = 2 ∨ i = 3 ∨ i = 4 + 0 ∨ i = 4 + 1 ∨ i = 4 + 2 ∨ i = 4 + 3 ∨ i = 4 + 4 ∨ i = 4 + 5 ∨ i = 4 + 6 ∨ i = 4 + 7 by omega) with e | e | e | e | e | e | e | e | e | e | e | e <;> subst e
  · rw [Nat.add_zero]
    have e : cellE cy z M0c (16 + 12 * a) = .inr (1, [.ref (q 1), .ref (q 2), .ref (q 3), .int 0, .int 0]) := by
      rw [ce_1 (kd_st ha)]
      unfold ceS
      rw [z1, z2, z3]
      have := m0_st (a := a) (i := 0) (by omega) (by omega)
      rw [Nat.add_zero] at this
      rw [this, this]
    rw [e, z0]
    exact hP _ List.mem_cons_self
  · rw [ce_8 (kd_bx ha), z1]
    have h := hP (q 1, .inl (cy 2, 8, .inr (.inr (.inr (.inr (stA q)))))) (by unfold stI; simp)
    have h : H[q 1]? = some (vp_cell (cy 2) (8, .inr (.inr (.inr (.inr (stA q)))))) := h
    show H[q 1]? = some (vp_cell (cy 2) (8, .inr (.inr (.inr (.inr (fun i => some (z (16 + 12 * a + 1 + 3 + i))))))))
    rw [h]
    congr 1
    apply cellq_ext
    intro n hn
    show (if n < 8 then some (q (4 + n)) else none) = _
    rw [if_pos hn, show 16 + 12 * a + 1 + 3 + n = 16 + 12 * a + (4 + n) by omega, hz (4 + n) (by omega)]
  · rw [ce_7 (kd_er ha), z2]
    unfold ceI
    rw [ln_er ha, m0_er ha]
    exact hP _ (by unfold stI; simp)
  · rw [ce_7 (kd_kn ha), z3]
    unfold ceI
    rw [ln_kn ha, show M0c.1 (16 + 12 * a + 3) = (fun _ => 0) from funext fun k => m0_st (by omega) (by omega) k]
    exact hP _ (by unfold stI; simp)
  · exact four 0 (by omega) (by unfold stI; simp)
  · exact four 1 (by omega) (by unfold stI; simp)
  · exact four 2 (by omega) (by unfold stI; simp)
  · exact four 3 (by omega) (by unfold stI; simp)
  · exact four 4 (by omega) (by unfold stI; simp)
  · exact four 5 (by omega) (by unfold stI; simp)
  · exact four 6 (by omega) (by unfold stI; simp)
  · exact four 7 (by omega) (by unfold stI; simp)
theorem wR_mem {cy : Nat → ClassId} {z : Nat → Nat} {a n : Nat} {M : Mem} {q : Nat × va_E} (h : q ∈ wR cy z a n M) : ∃ i, i < n ∧ q = (z (a + i), cellE cy z M (a + i)) := by
  unfold wR at h
  obtain ⟨i, hi, e⟩ := List.mem_map.mp h
  exact ⟨i, List.mem_range.mp hi, e.symm⟩
set_option maxHeartbeats 4000000 in
theorem pb_wR {D : va_G} {cy : Nat → ClassId} {H : Heap} {h0 : Nat} {u : PU} {z : Nat → Nat} (hP : va_P D vwCl (pbB cy h0 u) H) (hz : ∀ i, i < 100 → z i = zc h0 u i) : va_P D vwCl (wR cy z 0 100 M0c) H := by
  have hm := P_mem.mp hP
  unfold pbB at hm
  simp only [List.mem_cons, List.mem_append] at hm
  refine P_mem.mpr fun q hq => ?_
  obtain ⟨i, hi, rfl⟩ := wR_mem hq
  rw [Nat.zero_add]
  have z0 : z 0 = h0 := hz 0 (by decide)
  have z1 : z 1 = u.2.1 0 := hz 1 (by decide)
  have z2 : z 2 = u.2.1 1 := hz 2 (by decide)
  have z3 : z 3 = u.2.1 2 := hz 3 (by decide)
  have z4 : z 4 = u.2.1 3 := hz 4 (by decide)
  have z5 : z 5 = u.2.1 4 := hz 5 (by decide)
  have z6 : z 6 = u.2.1 5 := hz 6 (by decide)
  have z7 : z 7 = u.2.1 6 := hz 7 (by decide)
  have z8 : z 8 = u.2.1 7 := hz 8 (by decide)
  have z9 : z 9 = u.2.1 8 := hz 9 (by decide)
  have z10 : z 10 = u.2.2.1 0 := hz 10 (by decide)
  have z11 : z 11 = u.2.2.1 1 := hz 11 (by decide)
  have z12 : z 12 = u.2.2.1 2 := hz 12 (by decide)
  have z13 : z 13 = u.2.2.1 3 := hz 13 (by decide)
  have z14 : z 14 = u.2.2.1 4 := hz 14 (by decide)
  have z15 : z 15 = u.1 := hz 15 (by decide)
  have zst : ∀ a, a < 7 → ∀ n, n < 12 → z (16 + 12 * a + n) = u.2.2.2 a n := fun a ha n hn => (hz _ (by omega)).trans (zc_st hn)
  have fz : ∀ (j n : Nat), j < 16 → kd j = 0 → z j = u.2.1 n → (u.2.1 n, (.inr (0, [.int 0, .int 0, .int 0, .int 0]) : va_E)) ∈ wkI cy u.2.1 → va_at D vwCl (z j, cellE cy z M0c j) H := by
    intro j n hj hk e hmem
    rw [ce_0 hk, e]
    unfold ceF
    rw [m0_lo hj, m0_lo hj, m0_lo hj, m0_lo hj]
    exact hm _ (by simp only [hmem, true_or, or_true])
  by_cases h16 : i < 16
  · rcases (show i = 0 ∨ i = 1 ∨ i = 2 ∨ i = 3 ∨ i = 4 ∨ i = 5 ∨ i = 6 ∨ i = 7 ∨ i = 8 ∨ i = 9 ∨ i = 10 ∨ i = 11 ∨ i = 12 ∨ i = 13 ∨ i = 14 ∨ i = 15 by omega) with e | e | e | e | e | e | e | e | e | e | e | e | e | e | e | e <;> subst e
    · rw [show cellE cy z M0c 0 = .inr (4, [.ref (z 1), .ref (z 10), .ref (z 15), .ref (z (16 + 12 * 0 + 0)), .ref (z (16 + 12 * 1 + 0)), .int 0, .int 0, .int 0, .int 0]) from rfl, z0, z1, z10, z15, zst 0 (by decide) 0 (by decide), zst 1 (by decide) 0 (by decide)]
      exact hm _ (by simp only [true_or, or_true])
    · rw [show cellE cy z M0c 1 = .inr (3, [.ref (z 2), .ref (z 3), .ref (z 4), .ref (z 5), .ref (z 6), .ref (z 7), .ref (z 8), .ref (z 9)]) from rfl, z1, z2, z3, z4, z5, z6, z7, z8, z9]
      exact hm _ (by simp only [true_or, or_true])
    · exact fz 2 1 (by decide) rfl z2 (by unfold wkI; simp)
    · exact fz 3 2 (by decide) rfl z3 (by unfold wkI; simp)
    · exact fz 4 3 (by decide) rfl z4 (by unfold wkI; simp)
    · exact fz 5 4 (by decide) rfl z5 (by unfold wkI; simp)
    · exact fz 6 5 (by decide) rfl z6 (by unfold wkI; simp)
    · exact fz 7 6 (by decide) rfl z7 (by unfold wkI; simp)
    · exact fz 8 7 (by decide) rfl z8 (by unfold wkI; simp)
    · rw [ce_7 rfl, z9]
      unfold ceI
      rw [m0_lo' (by decide)]
      have hx : (u.2.1 8, (.inl (cy 1, 12, .inl (fun _ => 0)) : va_E)) ∈ wkI cy u.2.1 := by unfold wkI; simp
      exact (show va_at D vwCl (u.2.1 8, (.inl (cy 1, 12, .inl (fun _ => 0)) : va_E)) H from hm _ (by simp only [hx, true_or, or_true]))
    · rw [show cellE cy z M0c 10 = .inr (2, [.ref (z 11), .ref (z 12), .ref (z 13), .ref (z 14), .int 0, .int 0, .int 0, .int 0]) from rfl, z10, z11, z12, z13, z14]
      exact hm _ (by simp only [true_or, or_true])
    · rw [ce_6 rfl, z11]
      unfold ceB
      rw [m0_lo' (by decide)]
      have hx : (u.2.2.1 1, (.inl (cy 0, 120, .inl (fun _ => 0)) : va_E)) ∈ txI cy u.2.2.1 := by unfold txI; simp
      exact (show va_at D vwCl (u.2.2.1 1, (.inl (cy 0, 120, .inl (fun _ => 0)) : va_E)) H from hm _ (by simp only [hx, true_or, or_true]))
    · rw [ce_6 rfl, z12]
      unfold ceB
      rw [m0_lo' (by decide)]
      have hx : (u.2.2.1 2, (.inl (cy 0, 60, .inl (fun _ => 0)) : va_E)) ∈ txI cy u.2.2.1 := by unfold txI; simp
      exact (show va_at D vwCl (u.2.2.1 2, (.inl (cy 0, 60, .inl (fun _ => 0)) : va_E)) H from hm _ (by simp only [hx, true_or, or_true]))
    · rw [ce_7 rfl, z13]
      unfold ceI
      rw [m0_lo' (by decide)]
      have hx : (u.2.2.1 3, (.inl (cy 1, 60, .inl (fun _ => 0)) : va_E)) ∈ txI cy u.2.2.1 := by unfold txI; simp
      exact (show va_at D vwCl (u.2.2.1 3, (.inl (cy 1, 60, .inl (fun _ => 0)) : va_E)) H from hm _ (by simp only [hx, true_or, or_true]))
    · rw [ce_7 rfl, z14]
      unfold ceI
      rw [m0_lo' (by decide)]
      have hx : (u.2.2.1 4, (.inl (cy 1, 120, .inl (fun _ => 0)) : va_E)) ∈ txI cy u.2.2.1 := by unfold txI; simp
      exact (show va_at D vwCl (u.2.2.1 4, (.inl (cy 1, 120, .inl (fun _ => 0)) : va_E)) H from hm _ (by simp only [hx, true_or, or_true]))
    · rw [ce_9 rfl, z15]
      have h := hm (u.1, .inl (cy 3, 5, .inr (.inr (.inr (.inr (pbA u)))))) (by simp only [true_or, or_true])
      have h : H[u.1]? = some (vp_cell (cy 3) (5, .inr (.inr (.inr (.inr (pbA u)))))) := h
      show H[u.1]? = some (vp_cell (cy 3) (5, .inr (.inr (.inr (.inr (fun i => some (z (16 + 12 * (2 + i)))))))))
      rw [h]
      congr 1
      apply cellq_ext
      intro n hn
      show (if n < 5 then some (u.2.2.2 (2 + n) 0) else none) = _
      have := zst (2 + n) (by omega) 0 (by decide)
      rw [Nat.add_zero] at this
      rw [if_pos hn, this]
  · have key : ∀ a, a < 7 → (∀ x ∈ stH (u.2.2.2 a) :: stI cy (u.2.2.2 a), va_at D vwCl x H) := by
      intro a ha x hx
      rw [List.mem_cons] at hx
      rcases (show a = 0 ∨ a = 1 ∨ a = 2 ∨ a = 3 ∨ a = 4 ∨ a = 5 ∨ a = 6 by omega) with e | e | e | e | e | e | e <;> subst e <;> (rcases hx with hx | hx <;> exact hm x (by simp only [hx, true_or, or_true]))
    have ha : (i - 16) / 12 < 7 := by omega
    have e := pb_st ha (key _ ha) (fun n hn => zst _ ha n hn) ((i - 16) % 12) (by omega)
    rw [show 16 + 12 * ((i - 16) / 12) + (i - 16) % 12 = i by omega] at e
    exact e
theorem md_wR {D : va_G} {cy : Nat → ClassId} {H : Heap} {q z : Nat → Nat} (hP : va_P D vwCl (mdB cy q) H) (hz : ∀ i, i < 15 → z (100 + i) = q i) : va_P D vwCl (wR cy z 100 15 M0m) H := by
  have hm := P_mem.mp hP
  unfold mdB at hm
  simp only [List.mem_cons] at hm
  refine P_mem.mpr fun x hx => ?_
  obtain ⟨i, hi, rfl⟩ := wR_mem hx
  have z0 : z 100 = q 0 := hz 0 (by decide)
  have z1 : z 101 = q 1 := hz 1 (by decide)
  have z2 : z 102 = q 2 := hz 2 (by decide)
  have z3 : z 103 = q 3 := hz 3 (by decide)
  have z4 : z 104 = q 4 := hz 4 (by decide)
  have z5 : z 105 = q 5 := hz 5 (by decide)
  have z6 : z 106 = q 6 := hz 6 (by decide)
  have z7 : z 107 = q 7 := hz 7 (by decide)
  have z8 : z 108 = q 8 := hz 8 (by decide)
  have z9 : z 109 = q 9 := hz 9 (by decide)
  have z10 : z 110 = q 10 := hz 10 (by decide)
  have z11 : z 111 = q 11 := hz 11 (by decide)
  have z12 : z 112 = q 12 := hz 12 (by decide)
  have z13 : z 113 = q 13 := hz 13 (by decide)
  have z14 : z 114 = q 14 := hz 14 (by decide)
  rcases (show i = 0 ∨ i = 1 ∨ i = 2 ∨ i = 3 ∨ i = 4 ∨ i = 5 ∨ i = 6 ∨ i = 7 ∨ i = 8 ∨ i = 9 ∨ i = 10 ∨ i = 11 ∨ i = 12 ∨ i = 13 ∨ i = 14 by omega) with e | e | e | e | e | e | e | e | e | e | e | e | e | e | e <;> subst e
  · show va_at D vwCl (z 100, cellE cy z M0m 100) H
    rw [show cellE cy z M0m 100 = .inr (5, [.ref (z 101), .ref (z 102), .ref (z 103), .int 0, .ref (z 104), .ref (z 105), .int 0, .int 0, .ref (z 106), .ref (z 107), .ref (z 108), .ref (z 109), .ref (z 110), .ref (z 111), .ref (z 112), .ref (z 113), .ref (z 114), .int 0, .int 0, .int 0, .long 0]) from rfl, z0, z1, z2, z3, z4, z5, z6, z7, z8, z9, z10, z11, z12, z13, z14]
    exact hm _ (by simp only [true_or, or_true])
  · show va_at D vwCl (z 101, .inl (cy 1, 58, .inl nw0)) H
    rw [z1]
    exact hm _ (by simp only [true_or, or_true])
  · show va_at D vwCl (z 102, .inl (cy 1, 58, .inl (fun _ => 0))) H
    rw [z2]
    exact hm _ (by simp only [true_or, or_true])
  · show va_at D vwCl (z 103, .inl (cy 1, 290, .inl (fun _ => 0))) H
    rw [z3]
    exact hm _ (by simp only [true_or, or_true])
  · show va_at D vwCl (z 104, .inl (cy 1, 3, .inl (fun _ => 0))) H
    rw [z4]
    exact hm _ (by simp only [true_or, or_true])
  · show va_at D vwCl (z 105, .inl (cy 1, 120, .inl (fun _ => 0))) H
    rw [z5]
    exact hm _ (by simp only [true_or, or_true])
  · show va_at D vwCl (z 106, .inl (cy 1, 4, .inl (fun _ => 0))) H
    rw [z6]
    exact hm _ (by simp only [true_or, or_true])
  · show va_at D vwCl (z 107, .inl (cy 1, 12, .inl (fun _ => 0))) H
    rw [z7]
    exact hm _ (by simp only [true_or, or_true])
  · show va_at D vwCl (z 108, .inl (cy 1, 4, .inl (fun _ => 0))) H
    rw [z8]
    exact hm _ (by simp only [true_or, or_true])
  · show va_at D vwCl (z 109, .inl (cy 1, 4, .inl (fun _ => 0))) H
    rw [z9]
    exact hm _ (by simp only [true_or, or_true])
  · show va_at D vwCl (z 110, .inl (cy 1, 4, .inl (fun _ => 0))) H
    rw [z10]
    exact hm _ (by simp only [true_or, or_true])
  · show va_at D vwCl (z 111, .inl (cy 1, 4, .inl (fun _ => 0))) H
    rw [z11]
    exact hm _ (by simp only [true_or, or_true])
  · show va_at D vwCl (z 112, .inl (cy 1, 60, .inl (fun _ => 0))) H
    rw [z12]
    exact hm _ (by simp only [true_or, or_true])
  · show va_at D vwCl (z 113, .inl (cy 1, 61, .inl (fun _ => 0))) H
    rw [z13]
    exact hm _ (by simp only [true_or, or_true])
  · show va_at D vwCl (z 114, .inl (cy 1, 120, .inl (fun _ => 0))) H
    rw [z14]
    exact hm _ (by simp only [true_or, or_true])
