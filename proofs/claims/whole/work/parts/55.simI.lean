/-! ===== the relation between class and reference ===== -/
theorem RW.cg {f g : Row} (w : RW f) (h : ∀ k, k < 58 → g k = f k) : RW g := by
  have r := w.1
  have u0 := h 0 (by decide)
  refine ⟨by rw [u0]; exact r, by rw [h 45 (by decide)]; exact w.2.1, fun b k hb hk => ?_, fun k hk => ?_, fun k hk => ?_⟩
  · rw [u0] at hb
    rw [h _ (by omega)]; exact w.2.2.1 b k hb hk
  · rw [h _ (by omega)]; exact w.2.2.2.1 k hk
  · rw [h _ (by omega)]; exact w.2.2.2.2 k hk
theorem RS.cg {M : Mem} {a : Nat} {f g : Row} (s : RS M a f) (w : RW f) (h : ∀ k, k < 58 → g k = f k) : RS M a g := by
  have r := w.1
  have u0 := h 0 (by decide)
  refine ⟨by rw [u0]; exact s.1, by rw [h 45 (by decide)]; exact s.2.1, fun b k hb hk => ?_, fun k hk => ?_, fun k hk => ?_⟩
  · rw [u0] at hb
    rw [h _ (by omega)]; exact s.2.2.1 b k hb hk
  · rw [h _ (by omega)]; exact s.2.2.2.1 k hk
  · rw [h _ (by omega)]; exact s.2.2.2.2 k hk
def ps (N : Mem) (i : Nat) : Row := fun k => N.1 103 (58 * i + k)
def RelC (C N : Mem) : Prop := RK C ∧ (RS C (C.2.1 0) (N.1 101) ∧ RW (N.1 101)) ∧ (C.1 0 5 = N.1 100 3 ∧ 0 ≤ (N.1 100 3).toInt ∧ (N.1 100 3).toInt ≤ 5) ∧ (∀ i : Nat, (i : Int) < (N.1 100 3).toInt → RS C (C.2.1 (2 + i)) (ps N i) ∧ RW (ps N i)) ∧ (C.1 0 6 = N.1 104 0 ∧ C.1 0 7 = N.1 104 1 ∧ C.1 0 8 = N.1 104 2) ∧ (C.1 10 4 = N.1 100 6 ∧ 0 ≤ (N.1 100 6).toInt ∧ (N.1 100 6).toInt ≤ 120) ∧ (∀ k : Nat, (k : Int) < (N.1 100 6).toInt → C.1 11 k = N.1 105 k ∧ 0 ≤ (N.1 105 k).toInt ∧ (N.1 105 k).toInt < 128)
/-- the class's memory but for its draft and its workings -/
def KD (C C' : Mem) : Prop := C'.2 = C.2 ∧ (∀ j, (j = 0 ∨ j = 11 ∨ (16 ≤ j ∧ (j < 16 + 12 * C.2.1 1 ∨ 28 + 12 * C.2.1 1 ≤ j))) → C'.1 j = C.1 j) ∧ C'.1 10 4 = C.1 10 4
theorem KD.trans {A B C : Mem} (h : KD A B) (g : KD B C) : KD A C := by
  have e : B.2.1 1 = A.2.1 1 := by rw [h.1]
  refine ⟨g.1.trans h.1, fun j hj => (g.2.1 j (by rw [e]; exact hj)).trans (h.2.1 j hj), g.2.2.trans h.2.2⟩
theorem kd_of {S : Nat → Prop} {C C' : Mem} (k : KF S C C') (h : ∀ j, S j → (1 ≤ j ∧ j ≤ 9) ∨ (16 + 12 * C.2.1 1 ≤ j ∧ j < 28 + 12 * C.2.1 1)) : KD C C' := by
  refine ⟨k.2, fun j hj => k.1 j (fun s => ?_), ?_⟩
  · have := h j s
    omega
  · rw [k.1 10 (fun s => ?_)]
    have := h 10 s
    omega
theorem RelC.kd {C C' N : Mem} (h : RelC C N) (k : KD C C') : RelC C' N := by
  obtain ⟨h1, h2, h3, h4, h5, h6, h7⟩ := h
  obtain ⟨k1, k2, k3⟩ := k
  have e1 : C'.2.1 = C.2.1 := by rw [k1]
  have rk := h1
  have keep : ∀ i, i < 7 → i ≠ 1 → ∀ f, RW f → RS C (C.2.1 i) f → RS C' (C'.2.1 i) f := fun i hi n f wf s => by
    rw [e1]
    have n2 : C.2.1 i ≠ C.2.1 1 := fun e => n (rk.2 i 1 hi (by decide) e)
    exact s.keep (fun j j1 j2 => k2 j (Or.inr (Or.inr ⟨by omega, by omega⟩))) wf
  refine ⟨⟨fun i hi => by rw [e1]; exact rk.1 i hi, fun i j hi hj e => rk.2 i j hi hj (by rw [e1] at e; exact e)⟩, ⟨keep 0 (by decide) (by decide) _ h2.2 h2.1, h2.2⟩, ⟨by rw [k2 0 (Or.inl rfl)]; exact h3.1, h3.2⟩, fun i hi => ?_, by rw [k2 0 (Or.inl rfl)]; exact h5, ⟨by rw [k3]; exact h6.1, h6.2⟩, fun q hq => by rw [k2 11 (Or.inr (Or.inl rfl))]; exact h7 q hq⟩
  have q := h4 i hi
  have := h3.2.2
  exact ⟨keep (2 + i) (by omega) (by omega) _ q.2 q.1, q.2⟩
/-- the reference after a call that it has refused: one more of kind i -/
def MRef (N N' : Mem) (i : Nat) : Prop := N'.1 101 = N.1 101 ∧ N'.1 103 = N.1 103 ∧ N'.1 105 = N.1 105 ∧ N'.1 104 = upd (N.1 104) i (N.1 104 i + 1) ∧ N'.1 100 3 = N.1 100 3 ∧ N'.1 100 6 = N.1 100 6
def MSame (N N' : Mem) : Prop := N'.1 101 = N.1 101 ∧ N'.1 103 = N.1 103 ∧ N'.1 105 = N.1 105 ∧ N'.1 104 = N.1 104 ∧ N'.1 100 3 = N.1 100 3 ∧ N'.1 100 6 = N.1 100 6
theorem MSame.rf {N : Mem} : MSame N N := ⟨rfl, rfl, rfl, rfl, rfl, rfl⟩
theorem MSame.kp {N N' : Mem} (k : KP N N') : MSame N N' := ⟨k.1 _ (by decide), k.1 _ (by decide), k.1 _ (by decide), k.1 _ (by decide), k.2.1 _ (by decide), k.2.1 _ (by decide)⟩
theorem MSame.trans {A B C : Mem} (h : MSame A B) (g : MSame B C) : MSame A C := ⟨g.1.trans h.1, g.2.1.trans h.2.1, g.2.2.1.trans h.2.2.1, g.2.2.2.1.trans h.2.2.2.1, g.2.2.2.2.1.trans h.2.2.2.2.1, g.2.2.2.2.2.trans h.2.2.2.2.2⟩
theorem RelC.ms {C N N' : Mem} (h : RelC C N) (k : MSame N N') : RelC C N' := by
  obtain ⟨k1, k2, k3, k4, k5, k6⟩ := k
  have e : ∀ i, ps N' i = ps N i := fun i => by unfold ps; rw [k2]
  unfold RelC
  rw [k1, k3, k4, k5, k6]
  exact ⟨h.1, h.2.1, h.2.2.1, fun i hi => by rw [e]; exact h.2.2.2.1 i hi, h.2.2.2.2.1, h.2.2.2.2.2.1, h.2.2.2.2.2.2⟩
theorem mref {N N1 : Mem} {i : Nat} (s : MSame N N1) : MRef N (st N1 104 i (N1.1 104 i + 1)) i := by
  obtain ⟨k1, k2, k3, k4, k5, k6⟩ := s
  refine ⟨?_, ?_, ?_, ?_, ?_, ?_⟩
  · rw [st_ne _ _ _ (by decide)]; exact k1
  · rw [st_ne _ _ _ (by decide)]; exact k2
  · rw [st_ne _ _ _ (by decide)]; exact k3
  · rw [st_row, k4]
  · rw [st_ne _ _ _ (by decide)]; exact k5
  · rw [st_ne _ _ _ (by decide)]; exact k6
theorem notedV {C : Mem} {i : Nat} (hi : i < 3) {c : Int32} (hc : (i = 0 ∧ c = -2) ∨ (i = 1 ∧ c = -3) ∨ (i = 2 ∧ c = -4)) : sX5_noted C c = (c, st C 0 (6 + i) (C.1 0 (6 + i) + 1)) := by
  rcases hc with ⟨a, b⟩ | ⟨a, b⟩ | ⟨a, b⟩ <;> (subst a; subst b; rfl)
theorem noted0 {C : Mem} {c : Int32} (h : 0 ≤ c.toInt) : sX5_noted C c = (c, C) := by
  have n : ∀ d : Int32, d.toInt < 0 → ¬ c = d := fun d hd e => by rw [e] at h; omega
  unfold sX5_noted
  rw [if_neg (n _ (by decide)), if_neg (n _ (by decide)), if_neg (n _ (by decide))]
theorem RelC.ref {C N N' : Mem} {i : Nat} {c : Int32} (h : RelC C N) (hc : (i = 0 ∧ c = -2) ∨ (i = 1 ∧ c = -3) ∨ (i = 2 ∧ c = -4)) (m : MRef N N' i) : RelC (sX5_noted C c).2 N' := by
  obtain ⟨h1, h2, h3, h4, h5, h6, h7⟩ := h
  obtain ⟨m1, m2, m3, m4, m5, m6⟩ := m
  have i3 : i < 3 := by omega
  rw [notedV i3 hc]
  have e : ∀ i, ps N' i = ps N i := fun i => by unfold ps; rw [m2]
  have k : ∀ j, j ≠ 0 → (st C 0 (6 + i) (C.1 0 (6 + i) + 1)).1 j = C.1 j := fun j hj => st_ne _ _ _ hj
  show RelC (st C 0 (6 + i) (C.1 0 (6 + i) + 1)) N'
  unfold RelC
  rw [m1, m3, m4, m5, m6, k 10 (by decide), k 11 (by decide)]
  refine ⟨h1, ⟨h2.1.keep (fun j hj _ => k j (by omega)) h2.2, h2.2⟩, ⟨by rw [st_at_ne _ _ _ _ (by omega)]; exact h3.1, h3.2⟩, fun q hq => ?_, ?_, h6, h7⟩
  · rw [e]
    exact ⟨(h4 q hq).1.keep (fun j hj _ => k j (by omega)) (h4 q hq).2, (h4 q hq).2⟩
  · rcases hc with ⟨a, _⟩ | ⟨a, _⟩ | ⟨a, _⟩ <;> subst a
    · rw [st_at, st_at_ne _ _ _ _ (by decide), st_at_ne _ _ _ _ (by decide), pk_us, pk_un (by decide), pk_un (by decide), h5.1]
      exact ⟨rfl, h5.2.1, h5.2.2⟩
    · rw [st_at, st_at_ne _ _ _ _ (by decide), st_at_ne _ _ _ _ (by decide), pk_us, pk_un (by decide), pk_un (by decide), h5.2.1]
      exact ⟨h5.1, rfl, h5.2.2⟩
    · rw [st_at, st_at_ne _ _ _ _ (by decide), st_at_ne _ _ _ _ (by decide), pk_us, pk_un (by decide), pk_un (by decide), h5.2.2]
      exact ⟨h5.1, h5.2.1, rfl⟩
/-- what is remembered -/
def MRem (N N' : Mem) : Prop := (N.1 100 3 = 5 → N'.1 100 3 = 5 ∧ (∀ i k, i < 4 → k < 58 → N'.1 103 (58 * i + k) = N.1 103 (58 * (i + 1) + k)) ∧ (∀ k, k < 58 → N'.1 103 (58 * 4 + k) = N.1 101 k)) ∧ (¬ N.1 100 3 = 5 → N'.1 100 3 = N.1 100 3 + 1 ∧ (∀ i k : Nat, (i : Int) < (N.1 100 3).toInt → k < 58 → N'.1 103 (58 * i + k) = N.1 103 (58 * i + k)) ∧ (∀ k, k < 58 → N'.1 103 (58 * (N.1 100 3).toNatClampNeg + k) = N.1 101 k))
def MAcc (N N' : Mem) (f' : Row) : Prop := (∀ k, k < 58 → N'.1 101 k = f' k) ∧ N'.1 104 = N.1 104 ∧ N'.1 105 = N.1 105 ∧ N'.1 100 6 = N.1 100 6 ∧ MRem N N'
theorem e5 : (5 : Int32).toInt = 5 := rfl
theorem remV {N : Mem} (h : 0 ≤ (N.1 100 3).toInt ∧ (N.1 100 3).toInt ≤ 5) : MRem N (sX6_remembers N) ∧ (∀ j, j ≠ 100 → j ≠ 103 → (sX6_remembers N).1 j = N.1 j) ∧ (∀ k, k ≠ 3 → (sX6_remembers N).1 100 k = N.1 100 k) := by
  unfold sX6_remembers
  refine ite_ind (P := fun u : Mem => MRem N u ∧ (∀ j, j ≠ 100 → j ≠ 103 → u.1 j = N.1 j) ∧ (∀ k, k ≠ 3 → u.1 100 k = N.1 100 k)) (fun c => ?_) (fun c => ?_)
  · refine tk_ind (P := fun u : Mem => MRem N u ∧ (∀ j, j ≠ 100 → j ≠ 103 → u.1 j = N.1 j) ∧ (∀ k, k ≠ 3 → u.1 100 k = N.1 100 k)) _ _ (fun A hA => ?_)
    refine tk_ind (P := fun u : Mem => MRem N u ∧ (∀ j, j ≠ 100 → j ≠ 103 → u.1 j = N.1 j) ∧ (∀ k, k ≠ 3 → u.1 100 k = N.1 100 k)) _ _ (fun B hB => ?_)
    refine tk_ind (P := fun u : Mem => MRem N u ∧ (∀ j, j ≠ 100 → j ≠ 103 → u.1 j = N.1 j) ∧ (∀ k, k ≠ 3 → u.1 100 k = N.1 100 k)) _ _ (fun D hD => ?_)
    refine tk_ind (P := fun u : Mem => MRem N u ∧ (∀ j, j ≠ 100 → j ≠ 103 → u.1 j = N.1 j) ∧ (∀ k, k ≠ 3 → u.1 100 k = N.1 100 k)) _ _ (fun E hE => ?_)
    have a3 : A.1 100 3 = 5 := by rw [hA, sr_ne _ _ (by decide)]; exact c
    have b3 : B.1 100 3 = 4 := by rw [hB, st_at, a3]; rfl
    have c4 : (B.1 100 3).toNatClampNeg = 4 := by rw [b3]; rfl
    rw [c4] at hD
    have d3 : D.1 100 3 = 4 := by rw [hD, sr_ne _ _ (by decide)]; exact b3
    have b103 : B.1 103 = fb_put (N.1 103) (fun k => N.1 103 (k + 58)) 0 232 := by rw [hB, st_ne _ _ _ (by decide), hA, sr_row]
    have b101 : B.1 101 = N.1 101 := by rw [hB, st_ne _ _ _ (by decide), hA, sr_ne _ _ (by decide)]
    have e103 : E.1 103 = fb_put (fb_put (N.1 103) (fun k => N.1 103 (k + 58)) 0 232) (N.1 101) 232 58 := by rw [hE, st_ne _ _ _ (by decide), hD, sr_row, b103, b101]
    refine ⟨⟨fun _ => ⟨?_, fun i k hi hk => ?_, fun k hk => ?_⟩, fun n => absurd c n⟩, fun j h1 h2 => ?_, fun k hk => ?_⟩
    · rw [hE, st_at, d3]; rfl
    · rw [e103, fb_put_out (by omega), fb_put_in (by omega) (by omega)]
      show N.1 103 (58 * i + k - 0 + 58) = _
      exact congrArg (N.1 103) (by omega)
    · rw [e103, fb_put_in (by omega) (by omega)]
      exact congrArg (N.1 101) (by omega)
    · rw [hE, st_ne _ _ _ h1, hD, sr_ne _ _ h2, hB, st_ne _ _ _ h1, hA, sr_ne _ _ h2]
    · rw [hE, st_at_ne _ _ _ _ hk, hD, sr_ne _ _ (by decide), hB, st_at_ne _ _ _ _ hk, hA, sr_ne _ _ (by decide)]
  · refine tk_ind (P := fun u : Mem => MRem N u ∧ (∀ j, j ≠ 100 → j ≠ 103 → u.1 j = N.1 j) ∧ (∀ k, k ≠ 3 → u.1 100 k = N.1 100 k)) _ _ (fun A hA => ?_)
    refine tk_ind (P := fun u : Mem => MRem N u ∧ (∀ j, j ≠ 100 → j ≠ 103 → u.1 j = N.1 j) ∧ (∀ k, k ≠ 3 → u.1 100 k = N.1 100 k)) _ _ (fun B hB => ?_)
    have cl := cl_T h.1
    have b103 : B.1 103 = fb_put (N.1 103) (N.1 101) (58 * (N.1 100 3).toNatClampNeg) 58 := by rw [hB, st_ne _ _ _ (by decide), hA, sr_row]
    refine ⟨⟨fun n => absurd n c, fun _ => ⟨?_, fun i k hi hk => ?_, fun k hk => ?_⟩⟩, fun j h1 h2 => ?_, fun k hk => ?_⟩
    · rw [hB, st_at, hA, sr_ne _ _ (by decide)]
    · rw [b103, fb_put_out (by omega)]
    · rw [b103, fb_put_in (by omega) (by omega)]
      exact congrArg (N.1 101) (by omega)
    · rw [hB, st_ne _ _ _ h1, hA, sr_ne _ _ h2]
    · rw [hB, st_at_ne _ _ _ _ hk, hA, sr_ne _ _ (by decide)]
theorem su_at (M : Mem) (k v : Nat) : (su M k v).2.1 k = v := va_up_self _ _ _
theorem su_ne (M : Mem) {k i : Nat} (v : Nat) (h : i ≠ k) : (su M k v).2.1 i = M.2.1 i := va_up_ne _ _ h
/-- keepDraft: the draft is now, what was is the youngest of the past -/
theorem keepV {C : Mem} (hR : RK C) (hp : 0 ≤ (C.1 0 5).toInt ∧ (C.1 0 5).toInt ≤ 5) : RK (sX5_keepDraft C) ∧ (sX5_keepDraft C).2.1 0 = C.2.1 1 ∧ (∀ j, j ≠ 0 → (sX5_keepDraft C).1 j = C.1 j) ∧ (∀ k, k ≠ 5 → (sX5_keepDraft C).1 0 k = C.1 0 k) ∧ (C.1 0 5 = 5 → (sX5_keepDraft C).1 0 5 = 5 ∧ (∀ i, i < 4 → (sX5_keepDraft C).2.1 (2 + i) = C.2.1 (2 + (i + 1))) ∧ (sX5_keepDraft C).2.1 (2 + 4) = C.2.1 0) ∧ (¬ C.1 0 5 = 5 → (sX5_keepDraft C).1 0 5 = C.1 0 5 + 1 ∧ (∀ i : Nat, (i : Int) < (C.1 0 5).toInt → (sX5_keepDraft C).2.1 (2 + i) = C.2.1 (2 + i)) ∧ (sX5_keepDraft C).2.1 (2 + (C.1 0 5).toNatClampNeg) = C.2.1 0) := by
  by_cases c : C.1 0 5 = 5
  · have e : sX5_keepDraft C = su (su (su (su (su (su (su C 2 (C.2.1 3)) 3 (C.2.1 4)) 4 (C.2.1 5)) 5 (C.2.1 6)) 6 (C.2.1 0)) 0 (C.2.1 1)) 1 (C.2.1 2) := by
      unfold sX5_keepDraft
      rw [if_pos (by rw [c]; decide)]
      rfl
    have f0 : (sX5_keepDraft C).2.1 0 = C.2.1 1 := by rw [e, su_ne _ _ (by decide), su_at]
    have f1 : (sX5_keepDraft C).2.1 1 = C.2.1 2 := by rw [e, su_at]
    have f2 : (sX5_keepDraft C).2.1 2 = C.2.1 3 := by rw [e, su_ne _ _ (by decide), su_ne _ _ (by decide), su_ne _ _ (by decide), su_ne _ _ (by decide), su_ne _ _ (by decide), su_ne _ _ (by decide), su_at]
    have f3 : (sX5_keepDraft C).2.1 3 = C.2.1 4 := by rw [e, su_ne _ _ (by decide), su_ne _ _ (by decide), su_ne _ _ (by decide), su_ne _ _ (by decide), su_ne _ _ (by decide), su_at]
    have f4 : (sX5_keepDraft C).2.1 4 = C.2.1 5 := by rw [e, su_ne _ _ (by decide), su_ne _ _ (by decide), su_ne _ _ (by decide), su_ne _ _ (by decide), su_at]
    have f5 : (sX5_keepDraft C).2.1 5 = C.2.1 6 := by rw [e, su_ne _ _ (by decide), su_ne _ _ (by decide), su_ne _ _ (by decide), su_at]
    have f6 : (sX5_keepDraft C).2.1 6 = C.2.1 0 := by rw [e, su_ne _ _ (by decide), su_ne _ _ (by decide), su_at]
    have g : ∀ i, i < 7 → (sX5_keepDraft C).2.1 i = C.2.1 ((i + 1) % 7) := fun i hi => by
      rcases (show i = 0 ∨ i = 1 ∨ i = 2 ∨ i = 3 ∨ i = 4 ∨ i = 5 ∨ i = 6 by omega) with q | q | q | q | q | q | q <;> (rw [q]; assumption)
    have m : (sX5_keepDraft C).1 = C.1 := by rw [e]; rfl
    refine ⟨⟨fun i hi => by rw [g i hi]; exact hR.1 _ (by omega), fun i j hi hj q => ?_⟩, f0, fun j _ => by rw [m], fun k _ => by rw [m], fun _ => ⟨by rw [m]; exact c, fun i hi => ?_, f6⟩, fun n => absurd c n⟩
    · rw [g i hi, g j hj] at q
      have := hR.2 _ _ (by omega) (by omega) q
      omega
    · rw [g _ (by omega)]
      exact congrArg C.2.1 (by omega)
  · have l : ¬ 5 ≤ C.1 0 5 := by rw [fa_le, e5]; rw [fa_eq, e5] at c; omega
    have cl := cl_T hp.1
    have cn : (C.1 0 5).toInt < 5 := by rw [fa_le, e5] at l; omega
    have e : sX5_keepDraft C = su (su (st (su C (2 + (C.1 0 5).toNatClampNeg) (C.2.1 0)) 0 5 (C.1 0 5 + 1)) 0 (C.2.1 1)) 1 (C.2.1 (2 + (C.1 0 5).toNatClampNeg)) := by
      unfold sX5_keepDraft
      rw [if_neg l]
      show su (su _ 0 ((su C (2 + (C.1 0 5).toNatClampNeg) (C.2.1 0)).2.1 1)) 1 _ = _
      rw [su_ne _ _ (by omega)]
      rfl
    generalize hn : (C.1 0 5).toNatClampNeg = n at *
    have f0 : (sX5_keepDraft C).2.1 0 = C.2.1 1 := by rw [e, su_ne _ _ (by decide), su_at]
    have f1 : (sX5_keepDraft C).2.1 1 = C.2.1 (2 + n) := by rw [e, su_at]
    have fn : (sX5_keepDraft C).2.1 (2 + n) = C.2.1 0 := by
      rw [e, su_ne _ _ (by omega), su_ne _ _ (by omega)]
      exact su_at _ _ _
    have fo : ∀ i, i ≠ 0 → i ≠ 1 → i ≠ 2 + n → (sX5_keepDraft C).2.1 i = C.2.1 i := fun i i0 i1 i2 => by
      rw [e, su_ne _ _ i1, su_ne _ _ i0]
      exact su_ne _ _ i2
    have m : (sX5_keepDraft C).1 = (st C 0 5 (C.1 0 5 + 1)).1 := by rw [e]; rfl
    have g : ∀ i, i < 7 → (sX5_keepDraft C).2.1 i = C.2.1 (if i = 0 then 1 else if i = 1 then 2 + n else if i = 2 + n then 0 else i) := fun i hi => by
      by_cases i0 : i = 0
      · rw [if_pos i0, i0]; exact f0
      · rw [if_neg i0]
        by_cases i1 : i = 1
        · rw [if_pos i1, i1]; exact f1
        · rw [if_neg i1]
          by_cases i2 : i = 2 + n
          · rw [if_pos i2, i2]; exact fn
          · rw [if_neg i2]; exact fo i i0 i1 i2
    have gl : ∀ i, i < 7 → (if i = 0 then 1 else if i = 1 then 2 + n else if i = 2 + n then 0 else i) < 7 := fun i hi => by
      split
      · omega
      · split
        · omega
        · split <;> omega
    refine ⟨⟨fun i hi => by rw [g i hi]; exact hR.1 _ (gl i hi), fun i j hi hj q => ?_⟩, f0, fun j hj => by rw [m, st_ne _ _ _ hj], fun k hk => by rw [m, st_at_ne _ _ _ _ hk], fun n => absurd n c, fun _ => ⟨by rw [m, st_at], fun i hi => fo _ (by omega) (by omega) (by omega), fn⟩⟩
    rw [g i hi, g j hj] at q
    have := hR.2 _ _ (gl i hi) (gl j hj) q
    split at this <;> split at this <;> (try split at this) <;> (try split at this) <;> (try split at this) <;> (try split at this) <;> omega
theorem RelC.acc {C N N' : Mem} {f' : Row} (h : RelC C N) (s : RS C (C.2.1 1) f') (w : RW f') (m : MAcc N N' f') : RelC (sX5_keepDraft C) N' := by
  obtain ⟨h1, h2, h3, h4, h5, h6, h7⟩ := h
  obtain ⟨m1, m2, m3, m4, m5⟩ := m
  have cp : 0 ≤ (C.1 0 5).toInt ∧ (C.1 0 5).toInt ≤ 5 := by rw [h3.1]; exact h3.2
  obtain ⟨k1, k2, k3, k4, k5, k6⟩ := keepV h1 cp
  generalize sX5_keepDraft C = C' at *
  have kp : ∀ a f, RW f → RS C a f → RS C' a f := fun a f wf sf => sf.keep (fun j hj _ => k3 j (by omega)) wf
  unfold RelC
  rw [m2, m3, m4, k3 10 (by decide), k3 11 (by decide), k4 6 (by decide), k4 7 (by decide), k4 8 (by decide), k2]
  refine ⟨k1, ⟨(kp _ _ w s).cg w m1, w.cg m1⟩, ?_, ?_, h5, h6, h7⟩
  · by_cases c : N.1 100 3 = 5
    · rw [(k5 (h3.1.trans c)).1, (m5.1 c).1]
      exact ⟨rfl, by decide, by decide⟩
    · have c' : ¬ C.1 0 5 = 5 := by rw [h3.1]; exact c
      rw [(k6 c').1, (m5.2 c).1, h3.1, incT_ (by omega)]
      rw [fa_eq, e5] at c
      exact ⟨rfl, by omega, by omega⟩
  · intro i hi
    by_cases c : N.1 100 3 = 5
    · obtain ⟨a1, a2, a3⟩ := k5 (h3.1.trans c)
      obtain ⟨b1, b2, b3⟩ := m5.1 c
      rw [b1, e5] at hi
      by_cases q : i = 4
      · subst q
        have e : ∀ k, k < 58 → ps N' 4 k = N.1 101 k := b3
        rw [a3]
        exact ⟨(kp _ _ h2.2 h2.1).cg h2.2 e, h2.2.cg e⟩
      · have e : ∀ k, k < 58 → ps N' i k = ps N (i + 1) k := fun k hk => b2 i k (by omega) hk
        have z := h4 (i + 1) (by rw [c, e5]; omega)
        rw [a2 i (by omega)]
        exact ⟨(kp _ _ z.2 z.1).cg z.2 e, z.2.cg e⟩
    · have c' : ¬ C.1 0 5 = 5 := by rw [h3.1]; exact c
      obtain ⟨a1, a2, a3⟩ := k6 c'
      obtain ⟨b1, b2, b3⟩ := m5.2 c
      rw [b1, incT_ (by omega)] at hi
      have cl := cl_T h3.2.1
      rw [h3.1] at a2 a3
      by_cases q : i = (N.1 100 3).toNatClampNeg
      · subst q
        have e : ∀ k, k < 58 → ps N' (N.1 100 3).toNatClampNeg k = N.1 101 k := b3
        rw [a3]
        exact ⟨(kp _ _ h2.2 h2.1).cg h2.2 e, h2.2.cg e⟩
      · have e : ∀ k, k < 58 → ps N' i k = ps N i k := fun k hk => b2 i k (by omega) hk
        have z := h4 i (by omega)
        rw [a2 i (by omega)]
        exact ⟨(kp _ _ z.2 z.1).cg z.2 e, z.2.cg e⟩
/-- a call of the reference that is told S -/
def MOp (N : Mem) (bad no full : Prop) (r : Int32) (f' : Row) (v : Int32 × Mem) : Prop := (bad → v.1 = -2 ∧ MRef N v.2 0) ∧ (¬ bad → no → v.1 = -3 ∧ MRef N v.2 1) ∧ (¬ bad → ¬ no → full → v.1 = -4 ∧ MRef N v.2 2) ∧ (¬ bad → ¬ no → ¬ full → v.1 = r ∧ MAcc N v.2 f')
theorem mo_bad {N : Mem} {bad no full : Prop} {r : Int32} {f' : Row} (h : bad) : MOp N bad no full r f' (sX6_bad N) := ⟨fun _ => ⟨rfl, mref MSame.rf⟩, fun n => absurd h n, fun n => absurd h n, fun n => absurd h n⟩
theorem mo_no {N N1 : Mem} {bad no full : Prop} {r : Int32} {f' : Row} (s : MSame N N1) (g : ¬ bad) (h : no) : MOp N bad no full r f' (sX6_no N1) := ⟨fun n => absurd n g, fun _ _ => ⟨rfl, mref s⟩, fun _ n => absurd h n, fun _ n => absurd h n⟩
theorem mo_full {N N1 : Mem} {bad no full : Prop} {r : Int32} {f' : Row} (s : MSame N N1) (g : ¬ bad) (k : ¬ no) (h : full) : MOp N bad no full r f' (sX6_full N1) := ⟨fun n => absurd n g, fun _ n => absurd n k, fun _ _ _ => ⟨rfl, mref s⟩, fun _ _ n => absurd h n⟩
theorem mo_ok {N N' : Mem} {bad no full : Prop} {r : Int32} {f' : Row} (g : ¬ bad) (k : ¬ no) (h : ¬ full) (m : MAcc N N' f') : MOp N bad no full r f' (r, N') := ⟨fun n => absurd n g, fun _ n => absurd n k, fun _ _ n => absurd n h, fun _ _ _ => ⟨rfl, m⟩⟩
theorem settled_neg {C : Mem} {c : Int32} (h : c.toInt < 0) : sX5_settled C c = sX5_noted C c := by
  unfold sX5_settled
  rw [if_neg (by rw [fa_le]; show ¬ (0 : Int) ≤ _; omega)]
  rfl
theorem settled_pos {C : Mem} {c : Int32} (h : 0 ≤ c.toInt) : sX5_settled C c = (c, sX5_keepDraft C) := by
  unfold sX5_settled
  rw [if_pos (by rw [fa_le]; exact h)]
  rfl
theorem notedA {C : Mem} {c : Int32} : (sX5_noted C c).1 = c := by
  unfold sX5_noted
  split
  · rfl
  · split
    · rfl
    · split <;> rfl
def Sim (u v : Int32 × Mem) : Prop := u.1 = v.1 ∧ RelC u.2 v.2
theorem simS {C N : Mem} {bad no full : Prop} {r : Int32} {f' : Row} {u v : Int32 × Mem} (h : RelC C N) (k : KD C u.2) (co : COp (C.2.1 1) bad no full r f' u) (mo : MOp N bad no full r f' v) (hr : ¬ bad → ¬ no → ¬ full → 0 ≤ r.toInt ∧ RW f') : Sim (sX5_settled u.2 u.1) v := by
  have rel := h.kd k
  have e1 : u.2.2.1 1 = C.2.1 1 := by rw [k.1]
  unfold Sim
  by_cases cb : bad
  · rw [co.1 cb, (mo.1 cb).1, settled_neg (by decide)]
    exact ⟨notedA, rel.ref (Or.inl ⟨rfl, rfl⟩) (mo.1 cb).2⟩
  · by_cases cn : no
    · rw [co.2.1 cb cn, (mo.2.1 cb cn).1, settled_neg (by decide)]
      exact ⟨notedA, rel.ref (Or.inr (Or.inl ⟨rfl, rfl⟩)) (mo.2.1 cb cn).2⟩
    · by_cases cf : full
      · rw [co.2.2.1 cb cn cf, (mo.2.2.1 cb cn cf).1, settled_neg (by decide)]
        exact ⟨notedA, rel.ref (Or.inr (Or.inr ⟨rfl, rfl⟩)) (mo.2.2.1 cb cn cf).2⟩
      · obtain ⟨a1, a2⟩ := co.2.2.2 cb cn cf
        obtain ⟨b1, b2⟩ := mo.2.2.2 cb cn cf
        obtain ⟨r0, w⟩ := hr cb cn cf
        rw [a1, b1, settled_pos r0]
        exact ⟨rfl, rel.acc (by rw [e1]; exact a2) w b2⟩
theorem tk_id (v : Mem) : tk v (fun x => x) = v := rfl
theorem draftE (C : Mem) : sX5_drafted C = sX2_copyFrom C (C.2.1 1) (C.2.1 0) := by
  unfold sX5_drafted
  rw [tk_id]
theorem draftV {C N : Mem} (h : RelC C N) : RS (sX5_drafted C) (C.2.1 1) (N.1 101) ∧ KD C (sX5_drafted C) := by
  have n : C.2.1 1 ≠ C.2.1 0 := fun e => absurd (h.1.2 1 0 (by decide) (by decide) e) (by decide)
  exact ⟨by rw [draftE]; exact cCopy h.2.1.1 h.2.1.2 n, kd_of (kfX5_drafted C) (fun j hj => Or.inr hj)⟩
theorem kd_op {C A : Mem} {u : Int32 × Mem} (k : KD C A) (g : KF2 (fun x => (2 ≤ x ∧ x ≤ 9) ∨ (16 + 12 * C.2.1 1 ≤ x ∧ x < 28 + 12 * C.2.1 1)) A u) : KD C u.2 := by
  have e : A.2.1 1 = C.2.1 1 := by rw [k.1]
  refine k.trans (kd_of g (fun j hj => ?_))
  rw [e]
  omega
theorem kd_op2 {C A : Mem} {u : Int32 × Mem} (k : KD C A) (g : KF2 (fun x => 16 + 12 * C.2.1 1 ≤ x ∧ x < 28 + 12 * C.2.1 1) A u) : KD C u.2 := kd_op k (g.mono (fun _ h => Or.inr h))
