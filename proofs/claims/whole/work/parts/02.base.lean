abbrev vwCl : List vw_C := [(RX0, TX0, 4), (RX2, TX2, 5), (RX3, TX3, 8), (RX4, TX4, 8), (RX5, TX5, 9), (RX6, TX6, 21)]
/-! ===== the memory of the system: a table of ints (cell, place), which state stands where, one long ===== -/
abbrev Mem : Type := (Nat → Nat → Int32) × (Nat → Nat) × Int64
/-- what is left over, as the machine reckons it -/
def rem (x y : Int32) : Int32 := x - x / y * y
theorem vin {i : Int32} {n : Nat} (h : 0 ≤ i.toInt ∧ i.toInt < n) : vp_in i n := vp_in_iff.mpr h
def tk {α β : Type} (v : α) (f : α → β) : β := f v
theorem tk_eq {α β : Type} {v x : α} (h : x = v) (f : α → β) : tk v f = f x := by rw [h]; rfl
/-- kinds: 0 Four, 1 State, 2 Text, 3 Works, 4 PortBench, 5 PortBenchModel, 6 bytes, 7 ints, 8 Four[], 9 State[] -/
def kd (j : Nat) : Nat :=
  if j < 16 then (match j with | 0 => 4 | 1 => 3 | 9 => 7 | 10 => 2 | 11 => 6 | 12 => 6 | 13 => 7 | 14 => 7 | 15 => 9 | _ => 0)
  else if j < 100 then (match (j - 16) % 12 with | 0 => 1 | 1 => 8 | 2 => 7 | 3 => 7 | _ => 0)
  else if j = 100 then 5 else 7
def ln (j : Nat) : Nat :=
  if j < 16 then (match j with | 9 => 12 | 11 => 120 | 12 => 60 | 13 => 60 | 14 => 120 | _ => 0)
  else if j < 100 then 12
  else (match j with | 101 => 58 | 102 => 58 | 103 => 290 | 104 => 3 | 105 => 120 | 106 => 4 | 107 => 12 | 108 => 4 | 109 => 4 | 110 => 4 | 111 => 4 | 112 => 60 | 113 => 61 | 114 => 120 | _ => 0)
def ceF (M : Mem) (j : Nat) : va_E := .inr (0, [.int (M.1 j 0), .int (M.1 j 1), .int (M.1 j 2), .int (M.1 j 3)])
def ceS (z : Nat → Nat) (M : Mem) (j : Nat) : va_E := .inr (1, [.ref (z (j + 1)), .ref (z (j + 2)), .ref (z (j + 3)), .int (M.1 j 3), .int (M.1 j 4)])
def ceT (z : Nat → Nat) (M : Mem) (j : Nat) : va_E := .inr (2, [.ref (z (j + 1)), .ref (z (j + 2)), .ref (z (j + 3)), .ref (z (j + 4)), .int (M.1 j 4), .int (M.1 j 5), .int (M.1 j 6), .int (M.1 j 7)])
def ceW (z : Nat → Nat) (j : Nat) : va_E := .inr (3, [.ref (z (j + 1)), .ref (z (j + 2)), .ref (z (j + 3)), .ref (z (j + 4)), .ref (z (j + 5)), .ref (z (j + 6)), .ref (z (j + 7)), .ref (z (j + 8))])
def ceP (z : Nat → Nat) (M : Mem) (j : Nat) : va_E := .inr (4, [.ref (z 1), .ref (z 10), .ref (z 15), .ref (z (16 + 12 * M.2.1 0)), .ref (z (16 + 12 * M.2.1 1)), .int (M.1 j 5), .int (M.1 j 6), .int (M.1 j 7), .int (M.1 j 8)])
def ceM (z : Nat → Nat) (M : Mem) (j : Nat) : va_E := .inr (5, [.ref (z 101), .ref (z 102), .ref (z 103), .int (M.1 j 3), .ref (z 104), .ref (z 105), .int (M.1 j 6), .int (M.1 j 7), .ref (z 106), .ref (z 107), .ref (z 108), .ref (z 109), .ref (z 110), .ref (z 111), .ref (z 112), .ref (z 113), .ref (z 114), .int (M.1 j 17), .int (M.1 j 18), .int (M.1 j 19), .long M.2.2])
def ceB (cy : Nat → ClassId) (M : Mem) (j : Nat) : va_E := .inl (cy 0, ln j, .inl (M.1 j))
def ceI (cy : Nat → ClassId) (M : Mem) (j : Nat) : va_E := .inl (cy 1, ln j, .inl (M.1 j))
def ceQ (cy : Nat → ClassId) (z : Nat → Nat) (j : Nat) : va_E := .inl (cy 2, 8, .inr (.inr (.inr (.inr (fun i => some (z (j + 3 + i)))))))
def ceR (cy : Nat → ClassId) (z : Nat → Nat) (M : Mem) : va_E := .inl (cy 3, 5, .inr (.inr (.inr (.inr (fun i => some (z (16 + 12 * M.2.1 (2 + i))))))))
def cellE (cy : Nat → ClassId) (z : Nat → Nat) (M : Mem) (j : Nat) : va_E := match kd j with
  | 0 => ceF M j
  | 1 => ceS z M j
  | 2 => ceT z M j
  | 3 => ceW z j
  | 4 => ceP z M j
  | 5 => ceM z M j
  | 6 => ceB cy M j
  | 7 => ceI cy M j
  | 8 => ceQ cy z j
  | _ => ceR cy z M
theorem ce_0 {cy : Nat → ClassId} {z : Nat → Nat} {M : Mem} {j : Nat} (h : kd j = 0) : cellE cy z M j = ceF M j := by unfold cellE; rw [h]; rfl
theorem ce_1 {cy : Nat → ClassId} {z : Nat → Nat} {M : Mem} {j : Nat} (h : kd j = 1) : cellE cy z M j = ceS z M j := by unfold cellE; rw [h]; rfl
theorem ce_2 {cy : Nat → ClassId} {z : Nat → Nat} {M : Mem} {j : Nat} (h : kd j = 2) : cellE cy z M j = ceT z M j := by unfold cellE; rw [h]; rfl
theorem ce_3 {cy : Nat → ClassId} {z : Nat → Nat} {M : Mem} {j : Nat} (h : kd j = 3) : cellE cy z M j = ceW z j := by unfold cellE; rw [h]; rfl
theorem ce_4 {cy : Nat → ClassId} {z : Nat → Nat} {M : Mem} {j : Nat} (h : kd j = 4) : cellE cy z M j = ceP z M j := by unfold cellE; rw [h]; rfl
theorem ce_5 {cy : Nat → ClassId} {z : Nat → Nat} {M : Mem} {j : Nat} (h : kd j = 5) : cellE cy z M j = ceM z M j := by unfold cellE; rw [h]; rfl
theorem ce_6 {cy : Nat → ClassId} {z : Nat → Nat} {M : Mem} {j : Nat} (h : kd j = 6) : cellE cy z M j = ceB cy M j := by unfold cellE; rw [h]; rfl
theorem ce_7 {cy : Nat → ClassId} {z : Nat → Nat} {M : Mem} {j : Nat} (h : kd j = 7) : cellE cy z M j = ceI cy M j := by unfold cellE; rw [h]; rfl
theorem ce_8 {cy : Nat → ClassId} {z : Nat → Nat} {M : Mem} {j : Nat} (h : kd j = 8) : cellE cy z M j = ceQ cy z j := by unfold cellE; rw [h]; rfl
theorem ce_9 {cy : Nat → ClassId} {z : Nat → Nat} {M : Mem} {j : Nat} (h : kd j = 9) : cellE cy z M j = ceR cy z M := by unfold cellE; rw [h]; rfl
theorem kd_st {a : Nat} (h : a < 7) : kd (16 + 12 * a) = 1 := by
  have e1 : ¬ (16 + 12 * a < 16) := by omega
  have e2 : 16 + 12 * a < 100 := by omega
  have e3 : (16 + 12 * a - 16) % 12 = 0 := by omega
  unfold kd; rw [if_neg e1, if_pos e2, e3]; rfl
theorem kd_bx {a : Nat} (h : a < 7) : kd (16 + 12 * a + 1) = 8 := by
  have e1 : ¬ (16 + 12 * a + 1 < 16) := by omega
  have e2 : 16 + 12 * a + 1 < 100 := by omega
  have e3 : (16 + 12 * a + 1 - 16) % 12 = 1 := by omega
  unfold kd; rw [if_neg e1, if_pos e2, e3]; rfl
theorem kd_er {a : Nat} (h : a < 7) : kd (16 + 12 * a + 2) = 7 := by
  have e1 : ¬ (16 + 12 * a + 2 < 16) := by omega
  have e2 : 16 + 12 * a + 2 < 100 := by omega
  have e3 : (16 + 12 * a + 2 - 16) % 12 = 2 := by omega
  unfold kd; rw [if_neg e1, if_pos e2, e3]; rfl
theorem kd_kn {a : Nat} (h : a < 7) : kd (16 + 12 * a + 3) = 7 := by
  have e1 : ¬ (16 + 12 * a + 3 < 16) := by omega
  have e2 : 16 + 12 * a + 3 < 100 := by omega
  have e3 : (16 + 12 * a + 3 - 16) % 12 = 3 := by omega
  unfold kd; rw [if_neg e1, if_pos e2, e3]; rfl
theorem kd_fo {a i : Nat} (h : a < 7) (hi : i < 8) : kd (16 + 12 * a + 1 + 3 + i) = 0 := by
  have e1 : ¬ (16 + 12 * a + 1 + 3 + i < 16) := by omega
  have e2 : 16 + 12 * a + 1 + 3 + i < 100 := by omega
  have e3 : (16 + 12 * a + 1 + 3 + i - 16) % 12 = 4 + i := by omega
  unfold kd; rw [if_neg e1, if_pos e2, e3]
  rcases (show i = 0 ∨ i = 1 ∨ i = 2 ∨ i = 3 ∨ i = 4 ∨ i = 5 ∨ i = 6 ∨ i = 7 by omega) with q | q | q | q | q | q | q | q <;> (rw [q]; rfl)
theorem ln_er {a : Nat} (h : a < 7) : ln (16 + 12 * a + 2) = 12 := by
  have e1 : ¬ (16 + 12 * a + 2 < 16) := by omega
  have e2 : 16 + 12 * a + 2 < 100 := by omega
  unfold ln; rw [if_neg e1, if_pos e2]
theorem ln_kn {a : Nat} (h : a < 7) : ln (16 + 12 * a + 3) = 12 := by
  have e1 : ¬ (16 + 12 * a + 3 < 16) := by omega
  have e2 : 16 + 12 * a + 3 < 100 := by omega
  unfold ln; rw [if_neg e1, if_pos e2]
theorem kd_le (j : Nat) : kd j ≤ 9 := by
  unfold kd
  split
  · split <;> omega
  · split
    · split <;> omega
    · split <;> omega
theorem kd_4 {j : Nat} (h : kd j = 4) : j = 0 := by
  unfold kd at h
  split at h
  · split at h <;> first | omega | rfl
  · split at h
    · split at h <;> omega
    · split at h <;> omega
theorem kd_5 {j : Nat} (h : kd j = 5) : j = 100 := by
  unfold kd at h
  split at h
  · split at h <;> omega
  · split at h
    · split at h <;> omega
    · split at h
      · assumption
      · omega
theorem kd_9 {j : Nat} (h : kd j = 9) : j = 15 := by
  unfold kd at h
  split at h
  · split at h <;> first | omega | rfl
  · split at h
    · split at h <;> omega
    · split at h <;> omega
/-- stores: an int, a whole row, which state stands where, the long -/
def st (M : Mem) (j k : Nat) (v : Int32) : Mem := (va_up M.1 j (upd (M.1 j) k v), M.2)
def sr (M : Mem) (j : Nat) (f : Nat → Int32) : Mem := (va_up M.1 j f, M.2)
def su (M : Mem) (k v : Nat) : Mem := (M.1, va_up M.2.1 k v, M.2.2)
def sh (M : Mem) (v : Int64) : Mem := (M.1, M.2.1, v)
theorem ce_row {cy : Nat → ClassId} {z : Nat → Nat} {M M' : Mem} {i : Nat} (h1 : M'.1 i = M.1 i) (h2 : M'.2 = M.2) : cellE cy z M' i = cellE cy z M i := by
  unfold cellE ceF ceS ceT ceP ceM ceB ceI ceR
  rw [h1, h2]
theorem ce_sr {cy : Nat → ClassId} {z : Nat → Nat} {M : Mem} {i j : Nat} {f : Nat → Int32} (h : i ≠ j) : cellE cy z (sr M j f) i = cellE cy z M i := ce_row (va_up_ne _ _ h) rfl
theorem kd_ten (i : Nat) : kd i = 0 ∨ kd i = 1 ∨ kd i = 2 ∨ kd i = 3 ∨ kd i = 4 ∨ kd i = 5 ∨ kd i = 6 ∨ kd i = 7 ∨ kd i = 8 ∨ kd i = 9 := by
  have := kd_le i
  omega
theorem ce_su0 {cy : Nat → ClassId} {z : Nat → Nat} {M : Mem} {i k v : Nat} (hk : k < 2) (h : i ≠ 0) : cellE cy z (su M k v) i = cellE cy z M i := by
  rcases kd_ten i with q | q | q | q | q | q | q | q | q | q
  · rw [ce_0 q, ce_0 q]; rfl
  · rw [ce_1 q, ce_1 q]; rfl
  · rw [ce_2 q, ce_2 q]; rfl
  · rw [ce_3 q, ce_3 q]
  · exact absurd (kd_4 q) h
  · rw [ce_5 q, ce_5 q]; rfl
  · rw [ce_6 q, ce_6 q]; rfl
  · rw [ce_7 q, ce_7 q]; rfl
  · rw [ce_8 q, ce_8 q]
  · rw [ce_9 q, ce_9 q]
    unfold ceR
    have : (fun i => some (z (16 + 12 * (su M k v).2.1 (2 + i)))) = (fun i => some (z (16 + 12 * M.2.1 (2 + i)))) := by
      funext i
      show some (z (16 + 12 * va_up M.2.1 k v (2 + i))) = _
      rw [va_up_ne _ _ (show 2 + i ≠ k by omega)]
    rw [this]
theorem ce_su2 {cy : Nat → ClassId} {z : Nat → Nat} {M : Mem} {i k v : Nat} (h : i ≠ 15) : cellE cy z (su M (2 + k) v) i = cellE cy z M i := by
  rcases kd_ten i with q | q | q | q | q | q | q | q | q | q
  · rw [ce_0 q, ce_0 q]; rfl
  · rw [ce_1 q, ce_1 q]; rfl
  · rw [ce_2 q, ce_2 q]; rfl
  · rw [ce_3 q, ce_3 q]
  · rw [ce_4 q, ce_4 q]
    unfold ceP
    have h0 : (su M (2 + k) v).2.1 0 = M.2.1 0 := va_up_ne _ _ (by omega)
    have h1 : (su M (2 + k) v).2.1 1 = M.2.1 1 := va_up_ne _ _ (by omega)
    rw [h0, h1]
    rfl
  · rw [ce_5 q, ce_5 q]; rfl
  · rw [ce_6 q, ce_6 q]; rfl
  · rw [ce_7 q, ce_7 q]; rfl
  · rw [ce_8 q, ce_8 q]
  · exact absurd (kd_9 q) h
theorem ce_sh {cy : Nat → ClassId} {z : Nat → Nat} {M : Mem} {i : Nat} {v : Int64} (h : i ≠ 100) : cellE cy z (sh M v) i = cellE cy z M i := by
  rcases kd_ten i with q | q | q | q | q | q | q | q | q | q
  · rw [ce_0 q, ce_0 q]; rfl
  · rw [ce_1 q, ce_1 q]; rfl
  · rw [ce_2 q, ce_2 q]; rfl
  · rw [ce_3 q, ce_3 q]
  · rw [ce_4 q, ce_4 q]; rfl
  · exact absurd (kd_5 q) h
  · rw [ce_6 q, ce_6 q]; rfl
  · rw [ce_7 q, ce_7 q]; rfl
  · rw [ce_8 q, ce_8 q]
  · rw [ce_9 q, ce_9 q]; rfl
/-- the world: n cells from a on -/
def wR (cy : Nat → ClassId) (z : Nat → Nat) (a n : Nat) (M : Mem) : va_W := (List.range n).map (fun i => (z (a + i), cellE cy z M (a + i)))
def AZ (z : Nat → Nat) (a n : Nat) : Nat → Prop := fun q => ∃ i, i < n ∧ q = z (a + i)
def zI (z : Nat → Nat) : Prop := ∀ i j, i < 115 → j < 115 → z i = z j → i = j
theorem wR_at {cy : Nat → ClassId} {z : Nat → Nat} {a n : Nat} {M : Mem} {j : Nat} (h1 : a ≤ j) (h2 : j < a + n) : (wR cy z a n M)[j - a]? = some (z j, cellE cy z M j) := by
  unfold wR
  rw [List.getElem?_map, List.getElem?_range (by omega)]
  show some (z (a + (j - a)), cellE cy z M (a + (j - a))) = _
  rw [show a + (j - a) = j by omega]
theorem wR_set {cy : Nat → ClassId} {z : Nat → Nat} {a n : Nat} {M M' : Mem} {j : Nat} {e : va_E} (h1 : a ≤ j) (h2 : j < a + n) (he : cellE cy z M' j = e) (ho : ∀ i, i ≠ j → cellE cy z M' i = cellE cy z M i) : (wR cy z a n M).set (j - a) (z j, e) = wR cy z a n M' := by
  apply List.ext_getElem?
  intro i
  by_cases hi : i = j - a
  · subst hi
    rw [List.getElem?_set_self (by unfold wR; simp; omega), wR_at h1 h2, he]
  · rw [List.getElem?_set_ne (Ne.symm hi)]
    unfold wR
    rw [List.getElem?_map, List.getElem?_map]
    by_cases hn : i < n
    · rw [List.getElem?_range hn]
      show some (z (a + i), cellE cy z M (a + i)) = some (z (a + i), cellE cy z M' (a + i))
      rw [ho (a + i) (by omega)]
    · rw [List.getElem?_eq_none (by simpa using hn)]
      rfl
theorem wR_D {cy : Nat → ClassId} {z : Nat → Nat} {a n : Nat} {M : Mem} (hz : zI z) (hn : a + n ≤ 115) : va_D (AZ z a n) (wR cy z a n M) := by
  have key : ∀ (k : Nat) (q : Nat × va_E), (wR cy z a n M)[k]? = some q → k < n ∧ q.1 = z (a + k) := by
    intro k q hk
    unfold wR at hk
    rw [List.getElem?_map] at hk
    by_cases h : k < n
    · rw [List.getElem?_range h] at hk
      exact ⟨h, by rw [← Option.some.inj hk]⟩
    · rw [List.getElem?_eq_none (by simpa using h)] at hk
      cases hk
  refine ⟨fun i j x y hi hj hxy => ?_, fun k q hk => ?_⟩
  · obtain ⟨a1, a2⟩ := key i x hi
    obtain ⟨b1, b2⟩ := key j y hj
    have := hz (a + i) (a + j) (by omega) (by omega) (by rw [← a2, ← b2]; exact hxy)
    omega
  · obtain ⟨a1, a2⟩ := key k q hk
    exact ⟨k, a1, a2⟩
def tyl (cy : Nat → ClassId) : List (ClassId × FieldType) := [(cy 0, .byte), (cy 1, .int), (cy 2, .object RX0), (cy 3, .object RX2)]
/-- private members that nest mates reach -/
def NW (U : State) : Prop := va_Nw (.methodLinkNest RX2 43 yX5_isBelow RX5) U ∧ va_Nw (.methodLinkNest RX1 9 yX5_isBelow RX5) U ∧ va_Nw (.methodLinkNest RX4 105 yX5_isBelow RX5) U ∧ va_Nw (.methodLinkNest RX3 25 yX5_isBelow RX5) U ∧ va_Nw (.methodLinkNest RX5 11 yX4_init RX5) U ∧ va_Nw (.methodLinkNest RX4 11 yX0_init RX5) U ∧ va_Nw (.methodLinkNest RX5 18 yX3_init RX5) U ∧ va_Nw (.methodLinkNest RX2 17 yX0_init RX5) U
theorem NW.warm {s U : State} (hW : s.WarmedH U.vm) (h : NW s) : NW U := ⟨h.1.warmM hW, h.2.1.warmM hW, h.2.2.1.warmM hW, h.2.2.2.1.warmM hW, h.2.2.2.2.1.warmM hW, h.2.2.2.2.2.1.warmM hW, h.2.2.2.2.2.2.1.warmM hW, h.2.2.2.2.2.2.2.warmM hW⟩
theorem NW.same {u U : State} (hv : u.vm = U.vm) (h : NW u) : NW U := ⟨h.1.same rfl hv, h.2.1.same rfl hv, h.2.2.1.same rfl hv, h.2.2.2.1.same rfl hv, h.2.2.2.2.1.same rfl hv, h.2.2.2.2.2.1.same rfl hv, h.2.2.2.2.2.2.1.same rfl hv, h.2.2.2.2.2.2.2.same rfl hv⟩
/-- what holds when a method begins: the world, the tables -/
def PC (D : va_G) (cy : Nat → ClassId) (z : Nat → Nat) (a n : Nat) (M : Mem) (U : State) : Prop := va_P D vwCl (wR cy z a n M) U.heap ∧ va_K D vwCl (tyl cy) U ∧ NW U
def PE (D : va_G) (cy : Nat → ClassId) (z : Nat → Nat) (a n : Nat) (M : Mem) (t : State) : Prop := va_P D vwCl (wR cy z a n M) t.heap
abbrev KI (l : Launch) (y : MethodName) (ws : List Cond) (rm : Room) (D : va_G) (cy : Nat → ClassId) (z : Nat → Nat) (a n : Nat) (av : List Value) (M : Mem) (post : Int32 → Mem → Prop) : Prop := Met l y ws rm (va_Pc av (PC D cy z a n M)) (va_Qi post (PE D cy z a n) (AZ z a n)) 0 0 (AZ z a n)
abbrev KL (l : Launch) (y : MethodName) (ws : List Cond) (rm : Room) (D : va_G) (cy : Nat → ClassId) (z : Nat → Nat) (a n : Nat) (av : List Value) (M : Mem) (post : Int64 → Mem → Prop) : Prop := Met l y ws rm (va_Pc av (PC D cy z a n M)) (va_Ql post (PE D cy z a n) (AZ z a n)) 0 0 (AZ z a n)
abbrev KV (l : Launch) (y : MethodName) (ws : List Cond) (rm : Room) (D : va_G) (cy : Nat → ClassId) (z : Nat → Nat) (a n : Nat) (av : List Value) (M : Mem) (post : Mem → Prop) : Prop := Met l y ws rm (va_Pc av (PC D cy z a n M)) (va_Qv post (PE D cy z a n) (AZ z a n)) 0 0 (AZ z a n)
abbrev KR (l : Launch) (y : MethodName) (ws : List Cond) (rm : Room) (D : va_G) (cy : Nat → ClassId) (z : Nat → Nat) (a n : Nat) (av : List Value) (M : Mem) (post : Mem → Prop) (q0 : Nat) : Prop := Met l y ws rm (va_Pc av (PC D cy z a n M)) (va_Qr post (fun u q t => PE D cy z a n u t ∧ q = q0) (AZ z a n)) 0 0 (AZ z a n)
/-- a method of numbers alone -/
abbrev KS (l : Launch) (y : MethodName) (ws : List Cond) (rm : Room) (av : List Value) (post : Int32 → Prop) : Prop := Met l y ws rm (va_Pc av NW) (vp_Si post) 0 0 (fun _ => False)
theorem PC_blind {D : va_G} {cy : Nat → ClassId} {z : Nat → Nat} {a n : Nat} {M : Mem} {av : List Value} : FrameBlind (va_Pc av (PC D cy z a n M)) := fun _ U _ _ q => ⟨q.1, q.2.1, va_K.moved (Vm.Alike.refl U.vm) q.2.2.1, NW.same rfl q.2.2.2⟩
theorem NW_blind {av : List Value} : FrameBlind (va_Pc av NW) := fun _ _ _ _ q => ⟨q.1, NW.same rfl q.2⟩
section
variable {p : Program} {l : Launch} {e : Env} {R : Room} {s : State} {m : MethodId} {args : Array Value} {below : List Frame} {meth : Method} {c : Code} {Q : State → Prop}
variable {Om : Mem → Heap → List Loc → Prop} {nL : Nat} {M : Mem} {lv : List (Nat × Value)} {pc : Nat} {sk : List Value} {cc : ByteArray} {Ts : List Cond} {own : String}
/-- the walk: over all heaps that the memory M tells, all locals that hold lv -/
def WP (p : Program) (l : Launch) (e : Env) (R : Room) (s : State) (m : MethodId) (args : Array Value) (below : List Frame) (meth : Method) (c : Code) (Q : State → Prop) (Om : Mem → Heap → List Loc → Prop) (nL : Nat) (M : Mem) (lv : List (Nat × Value)) (pc : Nat) (sk : List Value) : Prop :=
  ∀ (H : Heap) (locs : List Loc) (ls : Array Slot), Om M H locs → lv_has ls nL lv → W p l e R s m args below meth c H locs 0 0 Q (F0 m pc ls sk)
theorem wp_eqM {M' : Mem} (h : M' = M) (k : WP p l e R s m args below meth c Q Om nL M' lv pc sk) : WP p l e R s m args below meth c Q Om nL M lv pc sk := h ▸ k
theorem wp_nm (k : ∀ M' : Mem, M' = M → WP p l e R s m args below meth c Q Om nL M' lv pc sk) : WP p l e R s m args below meth c Q Om nL M lv pc sk := k M rfl
theorem wp_topi {x : Int32} (k : ∀ y : Int32, y = x → WP p l e R s m args below meth c Q Om nL M lv pc (.int y :: sk)) : WP p l e R s m args below meth c Q Om nL M lv pc (.int x :: sk) := k x rfl
theorem wp_topl {x : Int64} (k : ∀ y : Int64, y = x → WP p l e R s m args below meth c Q Om nL M lv pc (.long y :: sk)) : WP p l e R s m args below meth c Q Om nL M lv pc (.long x :: sk) := k x rfl
theorem wp_cvt {x v : Int32} (h : x = v) (k : WP p l e R s m args below meth c Q Om nL M lv pc (.int v :: sk)) : WP p l e R s m args below meth c Q Om nL M lv pc (.int x :: sk) := h ▸ k
theorem wp_lv {lv' : List (Nat × Value)} (ks : List Nat) (h : lv_pick lv ks = lv') (k : WP p l e R s m args below meth c Q Om nL M lv' pc sk) : WP p l e R s m args below meth c Q Om nL M lv pc sk := fun H locs ls hO hl => k H locs ls hO (lv_sub hl ks h)
theorem wp_iconst (hc : CallFix p m c cc nL s args Ts own) {n : Int} {v : Int32} (d : decode cc pc = .ok (.iconst n, 1)) (hv : Int32.ofInt n = v) (k : WP p l e R s m args below meth c Q Om nL M lv (pc + 1) (.int v :: sk)) : WP p l e R s m args below meth c Q Om nL M lv pc sk := fun H locs ls hO hl => lv_iconst hc.1 hc.2.1 d hv (k H locs ls hO hl)
theorem wp_bipush (hc : CallFix p m c cc nL s args Ts own) {n : Int} {v : Int32} (d : decode cc pc = .ok (.bipush n, 2)) (hv : (Int8.ofInt n).toInt32 = v) (k : WP p l e R s m args below meth c Q Om nL M lv (pc + 2) (.int v :: sk)) : WP p l e R s m args below meth c Q Om nL M lv pc sk := fun H locs ls hO hl => lv_bipush hc.1 hc.2.1 d hv (k H locs ls hO hl)
theorem wp_sipush (hc : CallFix p m c cc nL s args Ts own) {n : Int} {v : Int32} (d : decode cc pc = .ok (.sipush n, 3)) (hv : (Int16.ofInt n).toInt32 = v) (k : WP p l e R s m args below meth c Q Om nL M lv (pc + 3) (.int v :: sk)) : WP p l e R s m args below meth c Q Om nL M lv pc sk := fun H locs ls hO hl => lv_sipush hc.1 hc.2.1 d hv (k H locs ls hO hl)
theorem wp_ldc (hc : CallFix p m c cc nL s args Ts own) {i : Nat} {v : Int32} (hw : Cond.constant own i v ∈ Ts) (d : decode cc pc = .ok (.ldc i, 2)) (k : WP p l e R s m args below meth c Q Om nL M lv (pc + 2) (.int v :: sk)) : WP p l e R s m args below meth c Q Om nL M lv pc sk := fun H locs ls hO hl => lv_ldc hc.1 hc.2.1 hc.2.2.2.1 (hc.2.2.2.2 _ hw) d (k H locs ls hO hl)
theorem wp_ldc2 (hc : CallFix p m c cc nL s args Ts own) {i : Nat} {v : Int64} (hw : Cond.constantLong own i v ∈ Ts) (d : decode cc pc = .ok (.ldc2_w i, 3)) (k : WP p l e R s m args below meth c Q Om nL M lv (pc + 3) (.long v :: sk)) : WP p l e R s m args below meth c Q Om nL M lv pc sk := fun H locs ls hO hl => lv_ldc2 hc.1 hc.2.1 hc.2.2.2.1 (hc.2.2.2.2 _ hw) d (k H locs ls hO hl)
theorem wp_iload_n (hc : CallFix p m c cc nL s args Ts own) (q : Nat) {i : Fin 4} {x : Int32} (d : decode cc pc = .ok (.iload_n i, 1)) (h : lv[q]? = some ((i : Nat), .int x)) (k : WP p l e R s m args below meth c Q Om nL M lv (pc + 1) (.int x :: sk)) : WP p l e R s m args below meth c Q Om nL M lv pc sk := fun H locs ls hO hl => lv_iload_n hc.1 hc.2.1 d rfl (lv_at hl q h) (k H locs ls hO hl)
theorem wp_iload (hc : CallFix p m c cc nL s args Ts own) (q : Nat) {i : Nat} {x : Int32} (d : decode cc pc = .ok (.iload i, 2)) (h : lv[q]? = some (i, .int x)) (k : WP p l e R s m args below meth c Q Om nL M lv (pc + 2) (.int x :: sk)) : WP p l e R s m args below meth c Q Om nL M lv pc sk := fun H locs ls hO hl => lv_iload hc.1 hc.2.1 d (lv_at hl q h) (k H locs ls hO hl)
theorem wp_lload_n (hc : CallFix p m c cc nL s args Ts own) (q : Nat) {i : Fin 4} {x : Int64} (d : decode cc pc = .ok (.lload_n i, 1)) (h : lv[q]? = some ((i : Nat), .long x)) (k : WP p l e R s m args below meth c Q Om nL M lv (pc + 1) (.long x :: sk)) : WP p l e R s m args below meth c Q Om nL M lv pc sk := fun H locs ls hO hl => lv_lload_n hc.1 hc.2.1 d rfl (lv_at hl q h) (k H locs ls hO hl)
theorem wp_lload (hc : CallFix p m c cc nL s args Ts own) (q : Nat) {i : Nat} {x : Int64} (d : decode cc pc = .ok (.lload i, 2)) (h : lv[q]? = some (i, .long x)) (k : WP p l e R s m args below meth c Q Om nL M lv (pc + 2) (.long x :: sk)) : WP p l e R s m args below meth c Q Om nL M lv pc sk := fun H locs ls hO hl => lv_lload hc.1 hc.2.1 d (lv_at hl q h) (k H locs ls hO hl)
theorem wp_aload_n (hc : CallFix p m c cc nL s args Ts own) (q : Nat) {i : Fin 4} {x : Nat} (d : decode cc pc = .ok (.aload_n i, 1)) (h : lv[q]? = some ((i : Nat), .ref x)) (k : WP p l e R s m args below meth c Q Om nL M lv (pc + 1) (.ref x :: sk)) : WP p l e R s m args below meth c Q Om nL M lv pc sk := fun H locs ls hO hl => lv_aload_n hc.1 hc.2.1 d rfl (lv_at hl q h) (k H locs ls hO hl)
theorem wp_aload (hc : CallFix p m c cc nL s args Ts own) (q : Nat) {i x : Nat} (d : decode cc pc = .ok (.aload i, 2)) (h : lv[q]? = some (i, .ref x)) (k : WP p l e R s m args below meth c Q Om nL M lv (pc + 2) (.ref x :: sk)) : WP p l e R s m args below meth c Q Om nL M lv pc sk := fun H locs ls hO hl => lv_aload hc.1 hc.2.1 d (lv_at hl q h) (k H locs ls hO hl)
theorem wp_istore_n (hc : CallFix p m c cc nL s args Ts own) {i : Fin 4} {x : Int32} {lv' : List (Nat × Value)} (d : decode cc pc = .ok (.istore_n i, 1)) (hn : (i : Nat) < nL) (h : ((i : Nat), Value.int x) :: lv.filter (fun q => !(q.1 == (i : Nat)) && !(q.1 + 1 == (i : Nat) && q.2.category == 2)) = lv') (k : WP p l e R s m args below meth c Q Om nL M lv' (pc + 1) sk) : WP p l e R s m args below meth c Q Om nL M lv pc (.int x :: sk) := fun H locs ls hO hl => lv_istore_n hc.1 hc.2.1 d rfl hl hn h (fun ls hl => k H locs ls hO hl)
theorem wp_istore (hc : CallFix p m c cc nL s args Ts own) {i : Nat} {x : Int32} {lv' : List (Nat × Value)} (d : decode cc pc = .ok (.istore i, 2)) (hn : i < nL) (h : (i, Value.int x) :: lv.filter (fun q => !(q.1 == i) && !(q.1 + 1 == i && q.2.category == 2)) = lv') (k : WP p l e R s m args below meth c Q Om nL M lv' (pc + 2) sk) : WP p l e R s m args below meth c Q Om nL M lv pc (.int x :: sk) := fun H locs ls hO hl => lv_istore hc.1 hc.2.1 d hl hn h (fun ls hl => k H locs ls hO hl)
theorem wp_astore_n (hc : CallFix p m c cc nL s args Ts own) {i : Fin 4} {x : Nat} {lv' : List (Nat × Value)} (d : decode cc pc = .ok (.astore_n i, 1)) (hn : (i : Nat) < nL) (h : ((i : Nat), Value.ref x) :: lv.filter (fun q => !(q.1 == (i : Nat)) && !(q.1 + 1 == (i : Nat) && q.2.category == 2)) = lv') (k : WP p l e R s m args below meth c Q Om nL M lv' (pc + 1) sk) : WP p l e R s m args below meth c Q Om nL M lv pc (.ref x :: sk) := fun H locs ls hO hl => lv_astore_n hc.1 hc.2.1 d rfl hl hn h (fun ls hl => k H locs ls hO hl)
theorem wp_astore (hc : CallFix p m c cc nL s args Ts own) {i x : Nat} {lv' : List (Nat × Value)} (d : decode cc pc = .ok (.astore i, 2)) (hn : i < nL) (h : (i, Value.ref x) :: lv.filter (fun q => !(q.1 == i) && !(q.1 + 1 == i && q.2.category == 2)) = lv') (k : WP p l e R s m args below meth c Q Om nL M lv' (pc + 2) sk) : WP p l e R s m args below meth c Q Om nL M lv pc (.ref x :: sk) := fun H locs ls hO hl => lv_astore hc.1 hc.2.1 d hl hn h (fun ls hl => k H locs ls hO hl)
theorem wp_lstore_n (hc : CallFix p m c cc nL s args Ts own) {i : Fin 4} {x : Int64} {lv' : List (Nat × Value)} (d : decode cc pc = .ok (.lstore_n i, 1)) (hn : (i : Nat) + 1 < nL) (h : ((i : Nat), Value.long x) :: lv.filter (fun q => !(q.1 == (i : Nat)) && (!(q.1 == (i : Nat) + 1) && !(q.1 + 1 == (i : Nat) && q.2.category == 2))) = lv') (k : WP p l e R s m args below meth c Q Om nL M lv' (pc + 1) sk) : WP p l e R s m args below meth c Q Om nL M lv pc (.long x :: sk) := fun H locs ls hO hl => lv_lstore_n hc.1 hc.2.1 d rfl hl hn h (fun ls hl => k H locs ls hO hl)
theorem wp_lstore (hc : CallFix p m c cc nL s args Ts own) {i : Nat} {x : Int64} {lv' : List (Nat × Value)} (d : decode cc pc = .ok (.lstore i, 2)) (hn : i + 1 < nL) (h : (i, Value.long x) :: lv.filter (fun q => !(q.1 == i) && (!(q.1 == i + 1) && !(q.1 + 1 == i && q.2.category == 2))) = lv') (k : WP p l e R s m args below meth c Q Om nL M lv' (pc + 2) sk) : WP p l e R s m args below meth c Q Om nL M lv pc (.long x :: sk) := fun H locs ls hO hl => lv_lstore hc.1 hc.2.1 d hl hn h (fun ls hl => k H locs ls hO hl)
theorem wp_iinc (hc : CallFix p m c cc nL s args Ts own) (q : Nat) {i : Nat} {n : Int} {x v : Int32} {lv' : List (Nat × Value)} (d : decode cc pc = .ok (.iinc i n, 3)) (hq : lv[q]? = some (i, .int x)) (hv : x + Int32.ofInt n = v) (hn : i < nL) (h : (i, Value.int v) :: lv.filter (fun q => !(q.1 == i) && !(q.1 + 1 == i && q.2.category == 2)) = lv') (k : WP p l e R s m args below meth c Q Om nL M lv' (pc + 3) sk) : WP p l e R s m args below meth c Q Om nL M lv pc sk := fun H locs ls hO hl => lv_iinc hc.1 hc.2.1 d hl hq hv hn h (fun ls hl => k H locs ls hO hl)
theorem wp_iadd (hc : CallFix p m c cc nL s args Ts own) {x y : Int32} (d : decode cc pc = .ok (.iadd, 1)) (k : WP p l e R s m args below meth c Q Om nL M lv (pc + 1) (.int (x + y) :: sk)) : WP p l e R s m args below meth c Q Om nL M lv pc (.int y :: .int x :: sk) := fun H locs ls hO hl => lv_iadd hc.1 hc.2.1 d (k H locs ls hO hl)
theorem wp_isub (hc : CallFix p m c cc nL s args Ts own) {x y : Int32} (d : decode cc pc = .ok (.isub, 1)) (k : WP p l e R s m args below meth c Q Om nL M lv (pc + 1) (.int (x - y) :: sk)) : WP p l e R s m args below meth c Q Om nL M lv pc (.int y :: .int x :: sk) := fun H locs ls hO hl => lv_isub hc.1 hc.2.1 d (k H locs ls hO hl)
theorem wp_imul (hc : CallFix p m c cc nL s args Ts own) {x y : Int32} (d : decode cc pc = .ok (.imul, 1)) (k : WP p l e R s m args below meth c Q Om nL M lv (pc + 1) (.int (x * y) :: sk)) : WP p l e R s m args below meth c Q Om nL M lv pc (.int y :: .int x :: sk) := fun H locs ls hO hl => lv_imul hc.1 hc.2.1 d (k H locs ls hO hl)
theorem wp_idiv (hc : CallFix p m c cc nL s args Ts own) {x y : Int32} (d : decode cc pc = .ok (.idiv, 1)) (hy : ¬ y = 0) (k : WP p l e R s m args below meth c Q Om nL M lv (pc + 1) (.int (x / y) :: sk)) : WP p l e R s m args below meth c Q Om nL M lv pc (.int y :: .int x :: sk) := fun H locs ls hO hl => lv_idiv hc.1 hc.2.1 d hy (k H locs ls hO hl)
theorem wp_irem (hc : CallFix p m c cc nL s args Ts own) {x y : Int32} (d : decode cc pc = .ok (.irem, 1)) (hy : ¬ y = 0) (k : WP p l e R s m args below meth c Q Om nL M lv (pc + 1) (.int (x - x / y * y) :: sk)) : WP p l e R s m args below meth c Q Om nL M lv pc (.int y :: .int x :: sk) := fun H locs ls hO hl => lv_irem hc.1 hc.2.1 d hy (k H locs ls hO hl)
theorem wp_iremR (hc : CallFix p m c cc nL s args Ts own) {x y : Int32} (d : decode cc pc = .ok (.irem, 1)) (hy : ¬ y = 0) (k : WP p l e R s m args below meth c Q Om nL M lv (pc + 1) (.int (rem x y) :: sk)) : WP p l e R s m args below meth c Q Om nL M lv pc (.int y :: .int x :: sk) := wp_irem hc d hy k
theorem wp_ineg (hc : CallFix p m c cc nL s args Ts own) {x : Int32} (d : decode cc pc = .ok (.ineg, 1)) (k : WP p l e R s m args below meth c Q Om nL M lv (pc + 1) (.int (-x) :: sk)) : WP p l e R s m args below meth c Q Om nL M lv pc (.int x :: sk) := fun H locs ls hO hl => lv_ineg hc.1 hc.2.1 d (k H locs ls hO hl)
theorem wp_ladd (hc : CallFix p m c cc nL s args Ts own) {x y : Int64} (d : decode cc pc = .ok (.ladd, 1)) (k : WP p l e R s m args below meth c Q Om nL M lv (pc + 1) (.long (x + y) :: sk)) : WP p l e R s m args below meth c Q Om nL M lv pc (.long y :: .long x :: sk) := fun H locs ls hO hl => lv_ladd hc.1 hc.2.1 d (k H locs ls hO hl)
theorem wp_lmul (hc : CallFix p m c cc nL s args Ts own) {x y : Int64} (d : decode cc pc = .ok (.lmul, 1)) (k : WP p l e R s m args below meth c Q Om nL M lv (pc + 1) (.long (x * y) :: sk)) : WP p l e R s m args below meth c Q Om nL M lv pc (.long y :: .long x :: sk) := fun H locs ls hO hl => lv_lmul hc.1 hc.2.1 d (k H locs ls hO hl)
theorem wp_i2l (hc : CallFix p m c cc nL s args Ts own) {x : Int32} (d : decode cc pc = .ok (.i2l, 1)) (k : WP p l e R s m args below meth c Q Om nL M lv (pc + 1) (.long x.toInt64 :: sk)) : WP p l e R s m args below meth c Q Om nL M lv pc (.int x :: sk) := fun H locs ls hO hl => lv_i2l hc.1 hc.2.1 d rfl (k H locs ls hO hl)
theorem wp_i2b (hc : CallFix p m c cc nL s args Ts own) {x : Int32} (d : decode cc pc = .ok (.i2b, 1)) (k : WP p l e R s m args below meth c Q Om nL M lv (pc + 1) (.int x.toInt8.toInt32 :: sk)) : WP p l e R s m args below meth c Q Om nL M lv pc (.int x :: sk) := fun H locs ls hO hl => lv_i2b hc.1 hc.2.1 d rfl (k H locs ls hO hl)
theorem wp_dup (hc : CallFix p m c cc nL s args Ts own) {v : Value} (d : decode cc pc = .ok (.dup, 1)) (hv : v.category = 1) (k : WP p l e R s m args below meth c Q Om nL M lv (pc + 1) (v :: v :: sk)) : WP p l e R s m args below meth c Q Om nL M lv pc (v :: sk) := fun H locs ls hO hl => lv_dup hc.1 hc.2.1 d hv (k H locs ls hO hl)
theorem wp_dup2 (hc : CallFix p m c cc nL s args Ts own) {v w : Value} (d : decode cc pc = .ok (.dup2, 1)) (hv : v.category = 1) (hw : w.category = 1) (k : WP p l e R s m args below meth c Q Om nL M lv (pc + 1) (v :: w :: v :: w :: sk)) : WP p l e R s m args below meth c Q Om nL M lv pc (v :: w :: sk) := fun H locs ls hO hl => lv_dup2_11 hc.1 hc.2.1 d hv hw (k H locs ls hO hl)
theorem wp_goto (hc : CallFix p m c cc nL s args Ts own) {off : Int} {tgt : Nat} (d : decode cc pc = .ok (.goto off, 3)) (ht : (pc : Int) + off = (tgt : Int)) (k : WP p l e R s m args below meth c Q Om nL M lv tgt sk) : WP p l e R s m args below meth c Q Om nL M lv pc sk := fun H locs ls hO hl => lv_goto hc.1 hc.2.1 d ht (k H locs ls hO hl)
end
