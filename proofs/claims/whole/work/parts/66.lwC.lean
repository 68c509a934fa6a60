/-! ===== the start: both objects fresh ===== -/
theorem rel0 : RelC M0c M0m := by
  have f101 : M0m.1 101 = nw0 := rfl
  have z45 : nw0 45 = 0 := by decide
  have z0 : nw0 0 = 0 := by decide
  have ce : ∀ k, k < 12 → (0 ≤ (nw0 (33 + k)).toInt ∧ (nw0 (33 + k)).toInt < 100140049) := by decide
  have cl : ∀ k, k < 12 → (0 ≤ (nw0 (46 + k)).toInt ∧ (nw0 (46 + k)).toInt < 100140049) := by decide
  have ee : ∀ k, k < 12 → er0 k = nw0 (33 + k) := by decide
  have el : ∀ k, k < 12 → (0 : Int32) = nw0 (46 + k) := by decide
  have t0 : (0 : Int32).toInt = 0 := rfl
  have m100 : ∀ k, M0m.1 100 k = 0 := fun _ => rfl
  have m104 : ∀ k, M0m.1 104 k = 0 := fun _ => rfl
  refine ⟨⟨fun i hi => hi, fun i j _ _ h => h⟩, ⟨⟨?_, ?_, fun b k hb hk => ?_, fun k hk => ?_, fun k hk => ?_⟩, ?_, ?_, fun b k hb hk => ?_, ce, cl⟩, ⟨?_, ?_, ?_⟩, fun i hi => ?_, ⟨?_, ?_, ?_⟩, ⟨?_, ?_, ?_⟩, fun k hk => ?_⟩
  · rw [f101, z0]; rfl
  · rw [f101, z45]; rfl
  · rw [f101, z0, t0] at hb; omega
  · rw [f101, ← ee k hk]
    show M0c.1 (16 + 12 * 0 + 2) k = _
    rw [m0_er (a := 0) (by decide)]
  · rw [f101, ← el k hk]
    exact m0_st (a := 0) (i := 3) (by decide) (by decide) k
  · rw [f101, z0]; exact ⟨by decide, by decide⟩
  · rw [f101, z45]; exact Or.inl rfl
  · rw [f101, z0, t0] at hb; omega
  · rw [m100]; exact m0_lo (by decide) 5
  · rw [m100]; decide
  · rw [m100]; decide
  · rw [m100, t0] at hi; omega
  · rw [m104]; exact m0_lo (by decide) 6
  · rw [m104]; exact m0_lo (by decide) 7
  · rw [m104]; exact m0_lo (by decide) 8
  · rw [m100]; exact m0_lo (by decide) 4
  · rw [m100]; decide
  · rw [m100]; decide
  · rw [m100, t0] at hk; omega
/-- where the cells lie -/
def zz (h0 : Nat) (u : PU) (q : Nat → Nat) (i : Nat) : Nat := if i < 100 then zc h0 u i else q (i - 100)
/-- at which place of the list a cell stands -/
def sg (i : Nat) : Nat := if i < 100 then 15 + (if i = 0 then 1 else if i = 1 then 2 else if i < 10 then 90 + i else if i = 10 then 3 else if i < 15 then 77 + i else if i = 15 then 0 else if (i - 16) % 12 = 0 then 4 + (i - 16) / 12 else 10 + 11 * (6 - (i - 16) / 12) + (i - 16) % 12) else i - 100
theorem sg_inj {i j : Nat} (hi : i < 115) (hj : j < 115) (h : sg i = sg j) : i = j := by
  have key : ∀ i, i < 115 → ∀ j, j < 115 → sg i = sg j → i = j := by decide +kernel
  exact key i hi j hj h
set_option maxRecDepth 100000 in
theorem at_z0 (cy : Nat → ClassId) (h0 : Nat) (u : PU) (q : Nat → Nat) : ∀ i ∈ [0, 1, 2, 3, 4, 5, 6, 7, 8, 9, 10, 11, 12, 13, 14, 15, 16, 17, 18, 19, 20, 21, 22, 23, 24, 25, 26, 27, 28, 29, 30, 31, 32, 33, 34, 35, 36, 37, 38, 39, 40, 41, 42, 43, 44, 45, 46, 47, 48, 49, 50, 51, 52, 53, 54, 55, 56, 57, 58, 59, 60, 61, 62, 63, 64, 65, 66, 67, 68, 69, 70, 71, 72, 73, 74, 75, 76, 77, 78, 79, 80, 81, 82, 83, 84, 85, 86, 87, 88, 89, 90, 91, 92, 93, 94, 95, 96, 97, 98, 99, 100, 101, 102, 103, 104, 105, 106, 107, 108, 109, 110, 111, 112, 113, 114], ∃ e : va_E, (mdB cy q ++ (pbB cy h0 u ++ []))[sg i]? = some (zz h0 u q i, e) := List.forall_mem_cons.mpr ⟨⟨_, rfl⟩, List.forall_mem_cons.mpr ⟨⟨_, rfl⟩, List.forall_mem_cons.mpr ⟨⟨_, rfl⟩, List.forall_mem_cons.mpr ⟨⟨_, rfl⟩, List.forall_mem_cons.mpr ⟨⟨_, rfl⟩, List.forall_mem_cons.mpr ⟨⟨_, rfl⟩, List.forall_mem_cons.mpr ⟨⟨_, rfl⟩, List.forall_mem_cons.mpr ⟨⟨_, rfl⟩, List.forall_mem_cons.mpr ⟨⟨_, rfl⟩, List.forall_mem_cons.mpr ⟨⟨_, rfl⟩, List.forall_mem_cons.mpr ⟨⟨_, rfl⟩, List.forall_mem_cons.mpr ⟨⟨_, rfl⟩, List.forall_mem_cons.mpr ⟨⟨_, rfl⟩, List.forall_mem_cons.mpr ⟨⟨_, rfl⟩, List.forall_mem_cons.mpr ⟨⟨_, rfl⟩, List.forall_mem_cons.mpr ⟨⟨_, rfl⟩, List.forall_mem_cons.mpr ⟨⟨_, rfl⟩, List.forall_mem_cons.mpr ⟨⟨_, rfl⟩, List.forall_mem_cons.mpr ⟨⟨_, rfl⟩, List.forall_mem_cons.mpr ⟨⟨_, rfl⟩, List.forall_mem_cons.mpr ⟨⟨_, rfl⟩, List.forall_mem_cons.mpr ⟨⟨_, rfl⟩, List.forall_mem_cons.mpr ⟨⟨_, rfl⟩, List.forall_mem_cons.mpr ⟨⟨_, rfl⟩, List.forall_mem_cons.mpr ⟨⟨_, rfl⟩, List.forall_mem_cons.mpr ⟨⟨_, rfl⟩, List.forall_mem_cons.mpr ⟨⟨_, rfl⟩, List.forall_mem_cons.mpr ⟨⟨_, rfl⟩, List.forall_mem_cons.mpr ⟨⟨_, rfl⟩, List.forall_mem_cons.mpr ⟨⟨_, rfl⟩, List.forall_mem_cons.mpr ⟨⟨_, rfl⟩, List.forall_mem_cons.mpr ⟨⟨_, rfl⟩, List.forall_mem_cons.mpr ⟨⟨_, rfl⟩, List.forall_mem_cons.mpr ⟨⟨_, rfl⟩, List.forall_mem_cons.mpr ⟨⟨_, rfl⟩, List.forall_mem_cons.mpr ⟨⟨_, rfl⟩, List.forall_mem_cons.mpr ⟨⟨_, rfl⟩, List.forall_mem_cons.mpr ⟨⟨_, rfl⟩, List.forall_mem_cons.mpr ⟨⟨_, rfl⟩, List.forall_mem_cons.mpr ⟨⟨_, rfl⟩, List.forall_mem_cons.mpr ⟨⟨_, rfl⟩, List.forall_mem_cons.mpr ⟨⟨_, rfl⟩, List.forall_mem_cons.mpr ⟨⟨_, rfl⟩, List.forall_mem_cons.mpr ⟨⟨_, rfl⟩, List.forall_mem_cons.mpr ⟨⟨_, rfl⟩, List.forall_mem_cons.mpr ⟨⟨_, rfl⟩, List.forall_mem_cons.mpr ⟨⟨_, rfl⟩, List.forall_mem_cons.mpr ⟨⟨_, rfl⟩, List.forall_mem_cons.mpr ⟨⟨_, rfl⟩, List.forall_mem_cons.mpr ⟨⟨_, rfl⟩, List.forall_mem_cons.mpr ⟨⟨_, rfl⟩, List.forall_mem_cons.mpr ⟨⟨_, rfl⟩, List.forall_mem_cons.mpr ⟨⟨_, rfl⟩, List.forall_mem_cons.mpr ⟨⟨_, rfl⟩, List.forall_mem_cons.mpr ⟨⟨_, rfl⟩, List.forall_mem_cons.mpr ⟨⟨_, rfl⟩, List.forall_mem_cons.mpr ⟨⟨_, rfl⟩, List.forall_mem_cons.mpr ⟨⟨_, rfl⟩, List.forall_mem_cons.mpr ⟨⟨_, rfl⟩, List.forall_mem_cons.mpr ⟨⟨_, rfl⟩, List.forall_mem_cons.mpr ⟨⟨_, rfl⟩, List.forall_mem_cons.mpr ⟨⟨_, rfl⟩, List.forall_mem_cons.mpr ⟨⟨_, rfl⟩, List.forall_mem_cons.mpr ⟨⟨_, rfl⟩, List.forall_mem_cons.mpr ⟨⟨_, rfl⟩, List.forall_mem_cons.mpr ⟨⟨_, rfl⟩, List.forall_mem_cons.mpr ⟨⟨_, rfl⟩, List.forall_mem_cons.mpr ⟨⟨_, rfl⟩, List.forall_mem_cons.mpr ⟨⟨_, rfl⟩, List.forall_mem_cons.mpr ⟨⟨_, rfl⟩, List.forall_mem_cons.mpr ⟨⟨_, rfl⟩, List.forall_mem_cons.mpr ⟨⟨_, rfl⟩, List.forall_mem_cons.mpr ⟨⟨_, rfl⟩, List.forall_mem_cons.mpr ⟨⟨_, rfl⟩, List.forall_mem_cons.mpr ⟨⟨_, rfl⟩, List.forall_mem_cons.mpr ⟨⟨_, rfl⟩, List.forall_mem_cons.mpr ⟨⟨_, rfl⟩, List.forall_mem_cons.mpr ⟨⟨_, rfl⟩, List.forall_mem_cons.mpr ⟨⟨_, rfl⟩, List.forall_mem_cons.mpr ⟨⟨_, rfl⟩, List.forall_mem_cons.mpr ⟨⟨_, rfl⟩, List.forall_mem_cons.mpr ⟨⟨_, rfl⟩, List.forall_mem_cons.mpr ⟨⟨_, rfl⟩, List.forall_mem_cons.mpr ⟨⟨_, rfl⟩, List.forall_mem_cons.mpr ⟨⟨_, rfl⟩, List.forall_mem_cons.mpr ⟨⟨_, rfl⟩, List.forall_mem_cons.mpr ⟨⟨_, rfl⟩, List.forall_mem_cons.mpr ⟨⟨_, rfl⟩, List.forall_mem_cons.mpr ⟨⟨_, rfl⟩, List.forall_mem_cons.mpr ⟨⟨_, rfl⟩, List.forall_mem_cons.mpr ⟨⟨_, rfl⟩, List.forall_mem_cons.mpr ⟨⟨_, rfl⟩, List.forall_mem_cons.mpr ⟨⟨_, rfl⟩, List.forall_mem_cons.mpr ⟨⟨_, rfl⟩, List.forall_mem_cons.mpr ⟨⟨_, rfl⟩, List.forall_mem_cons.mpr ⟨⟨_, rfl⟩, List.forall_mem_cons.mpr ⟨⟨_, rfl⟩, List.forall_mem_cons.mpr ⟨⟨_, rfl⟩, List.forall_mem_cons.mpr ⟨⟨_, rfl⟩, List.forall_mem_cons.mpr ⟨⟨_, rfl⟩, List.forall_mem_cons.mpr ⟨⟨_, rfl⟩, List.forall_mem_cons.mpr ⟨⟨_, rfl⟩, List.forall_mem_cons.mpr ⟨⟨_, rfl⟩, List.forall_mem_cons.mpr ⟨⟨_, rfl⟩, List.forall_mem_cons.mpr ⟨⟨_, rfl⟩, List.forall_mem_cons.mpr ⟨⟨_, rfl⟩, List.forall_mem_cons.mpr ⟨⟨_, rfl⟩, List.forall_mem_cons.mpr ⟨⟨_, rfl⟩, List.forall_mem_cons.mpr ⟨⟨_, rfl⟩, List.forall_mem_cons.mpr ⟨⟨_, rfl⟩, List.forall_mem_cons.mpr ⟨⟨_, rfl⟩, List.forall_mem_cons.mpr ⟨⟨_, rfl⟩, List.forall_mem_cons.mpr ⟨⟨_, rfl⟩, List.forall_mem_cons.mpr ⟨⟨_, rfl⟩, List.forall_mem_cons.mpr ⟨⟨_, rfl⟩, fun _ h => absurd h List.not_mem_nil⟩⟩⟩⟩⟩⟩⟩⟩⟩⟩⟩⟩⟩⟩⟩⟩⟩⟩⟩⟩⟩⟩⟩⟩⟩⟩⟩⟩⟩⟩⟩⟩⟩⟩⟩⟩⟩⟩⟩⟩⟩⟩⟩⟩⟩⟩⟩⟩⟩⟩⟩⟩⟩⟩⟩⟩⟩⟩⟩⟩⟩⟩⟩⟩⟩⟩⟩⟩⟩⟩⟩⟩⟩⟩⟩⟩⟩⟩⟩⟩⟩⟩⟩⟩⟩⟩⟩⟩⟩⟩⟩⟩⟩⟩⟩⟩⟩⟩⟩⟩⟩⟩⟩⟩⟩⟩⟩⟩⟩⟩⟩⟩⟩⟩⟩
theorem at_z (cy : Nat → ClassId) (h0 : Nat) (u : PU) (q : Nat → Nat) (i : Nat) (hi : i < 115) : ∃ e : va_E, (mdB cy q ++ (pbB cy h0 u ++ []))[sg i]? = some (zz h0 u q i, e) := by
  have e : List.range 115 = [0, 1, 2, 3, 4, 5, 6, 7, 8, 9, 10, 11, 12, 13, 14, 15, 16, 17, 18, 19, 20, 21, 22, 23, 24, 25, 26, 27, 28, 29, 30, 31, 32, 33, 34, 35, 36, 37, 38, 39, 40, 41, 42, 43, 44, 45, 46, 47, 48, 49, 50, 51, 52, 53, 54, 55, 56, 57, 58, 59, 60, 61, 62, 63, 64, 65, 66, 67, 68, 69, 70, 71, 72, 73, 74, 75, 76, 77, 78, 79, 80, 81, 82, 83, 84, 85, 86, 87, 88, 89, 90, 91, 92, 93, 94, 95, 96, 97, 98, 99, 100, 101, 102, 103, 104, 105, 106, 107, 108, 109, 110, 111, 112, 113, 114] := by decide
  exact at_z0 cy h0 u q i (by rw [← e]; exact List.mem_range.mpr hi)
theorem zz_inj {A : Nat → Prop} {cy : Nat → ClassId} {h0 : Nat} {u : PU} {q : Nat → Nat} (hD : va_D A (mdB cy q ++ (pbB cy h0 u ++ []))) : zI (zz h0 u q) ∧ ∀ i, i < 115 → A (zz h0 u q i) := by
  refine ⟨fun i j hi hj h => ?_, fun i hi => ?_⟩
  · obtain ⟨e1, g1⟩ := at_z cy h0 u q i hi
    obtain ⟨e2, g2⟩ := at_z cy h0 u q j hj
    exact sg_inj hi hj (hD.1 _ _ _ _ g1 g2 h)
  · obtain ⟨e1, g1⟩ := at_z cy h0 u q i hi
    exact hD.2 _ _ g1
theorem start_P {D : va_G} {cy : Nat → ClassId} {H : Heap} {h0 : Nat} {u : PU} {q : Nat → Nat} (hP : va_P D vwCl (mdB cy q ++ (pbB cy h0 u ++ [])) H) : va_P D vwCl (wR cy (zz h0 u q) 0 100 M0c) H ∧ va_P D vwCl (wR cy (zz h0 u q) 100 15 M0m) H := by
  have hm := P_mem.mp hP
  refine ⟨pb_wR (h0 := h0) (u := u) (P_mem.mpr fun x hx => hm x (List.mem_append_right _ (List.mem_append_left _ hx))) (fun i hi => if_pos hi), md_wR (q := q) (P_mem.mpr fun x hx => hm x (List.mem_append_left _ hx)) (fun i hi => ?_)⟩
  show (if 100 + i < 100 then _ else q (100 + i - 100)) = q i
  rw [if_neg (by omega), show 100 + i - 100 = i by omega]
