section
variable {p : Program} {l : Launch} {e : Env} {R : Room} {s : State} {m : MethodId} {args : Array Value} {below : List Frame} {meth : Method} {c : Code} {Q : State → Prop}
variable {D : va_G} {A : Nat → Prop} {nL : Nat} {ws : va_W} {cs ss : Nat} {lv : List (Nat × Value)} {pc : Nat} {sk : List Value} {cc : ByteArray} {Ts : List Cond} {own : String}
theorem wl_astore_n (hc : CallFix p m c cc nL s args Ts own) {i : Fin 4} {x : Nat} {lv' : List (Nat × Value)} (d : decode cc pc = .ok (.astore_n i, 1)) (hn : (i : Nat) < nL) (h : ((i : Nat), Value.ref x) :: lv.filter (fun q => !(q.1 == (i : Nat)) && !(q.1 + 1 == (i : Nat) && q.2.category == 2)) = lv') (k : WL p l e R s m args below meth c Q D A nL ws cs ss lv' (pc + 1) sk) : WL p l e R s m args below meth c Q D A nL ws cs ss lv pc (.ref x :: sk) := fun H locs ls hP hD hS hl => lv_astore_n hc.1 hc.2.1 d rfl hl hn h (fun ls hl => k H locs ls hP hD hS hl)
end
def R_law : String := "PortBenchLaw"
def lw_P (b : Addr) (xs : List Int32) (args : Array Value) (s : State) : Prop := args = #[.ref b] ∧ s.IntsAt b xs ∧ xs.length ≤ 2560 ∧ (Jvm.Cond.and given_1 narrow_1).before args s = true
def lw_Q (_ : Array Value) (s : State) (o : Outcome) (t : State) : Prop := o = .returned (some (.int 1)) ∧ Framed s o t [] 600000 7302250
def lw_Z (below : List Frame) (a : Array Value) (s : State) : State → Prop := fun t => ∃ o, t.status = .running ∧ Ended t below o ∧ lw_Q a s o t
/-- the law's own end, with 1 on the stack, nothing written that was there before, its room as the claim has it -/
theorem lw_ret {p : Program} {l : Launch} {e : Env} {s : State} {m : MethodId} {below : List Frame} {meth : Method} {c : Code} {b : Nat} (hx : p.tables.exec = Jvm.exec) (hb : c.code = code) (hr : meth.sig.returnType = ret) (hlocks : meth.locks = false) {pc : Nat} {H : Heap} {ls : Array Slot} (hdg : decode code pc = .ok (.ireturn, 1)) : W p l e room_1 s m #[Value.ref b] below meth c H [] 600000 7302250 (lw_Z below #[Value.ref b] s) (F0 m pc ls [.int 1]) := by
  intro T hT X
  obtain ⟨fs, hret, hrun, hended, hW, hframe⟩ := X.leave (v := some (.int 1)) (hlocks := hlocks) (fun h => by rw [hr] at h; cases h)
  have hmeth' : T.vm.method? m = some meth := X.method'
  refine ⟨T.setFrames fs, ?_, .returned (some (.int 1)), hrun, hended, rfl, ⟨_, rfl⟩, hW, hframe⟩
  jvm_step X.here [X.here.top, hx, hb, hdg, hmeth', hr, ret, narrow_b1]
  (try refine ⟨rfl, ?_⟩); (try refine ⟨rfl, ?_⟩)
  first | (intro acts; rw [hret _ acts rfl rfl rfl]) | rw [hret _ _ rfl rfl rfl]
  exact Steps.refl _
/-- what holds at the law's entry: the machine, the code, the tables' words (any of lw_tbl by 'hts w (by decide +kernel)'), the script of L ints xs at the cell b, what the Statement gives of the start (any of its parts by flat_of_before) -/
def lw_At (p : Program) (s : State) (m : MethodId) (meth : Method) (c : Code) (b L : Nat) (xs : Nat → Int32) : Prop :=
  p.tables.exec = Jvm.exec ∧ c.code = code ∧ meth.sig.returnType = ret ∧ c.maxLocals = 4 ∧ s.vm.findClass R_law = some m.cls ∧ (∀ w ∈ lw_tbl, w.before #[Value.ref b] s = true) ∧ va_X b L xs s s.heap ∧ b < s.heap.size ∧ meth.locks = false ∧ (Jvm.Cond.and given_1 narrow_1).before #[Value.ref b] s = true
/-- the law's loop, from its head -/
theorem law_loop {p : Program} {l : Launch} {e : Env} {s : State} {m : MethodId} {below : List Frame} {meth : Method} {c : Code} {b L : Nat} {xs : Nat → Int32} {D : va_G} {cy : Nat → ClassId} {z : Nat → Nat} (hL : L ≤ 2560) (hc : CallFix p m c cL_law 4 s #[Value.ref b] wsL_law RL) (hr : meth.sig.returnType = ret) (hlocks : meth.locks = false) (hx : LX s D cy z) (hX : va_X b L xs s s.heap) (hbl : b < s.heap.size) : ∀ (f : Nat) (i : Int32) (C N : Mem), RelC C N → 0 ≤ i.toInt ∧ i.toInt ≤ (L : Int) → ((L : Int) - i.toInt).toNat < f → WQ p l e room_1 s m #[Value.ref b] below meth c (lw_Z below #[Value.ref b] s) (OL s D cy z C N) 4 115 1736 (lvL b z i) 18 []
  | 0, i, C, N, _, _, hf => by omega
  | f + 1, i, C, N, rel, hr0, hf => by
    have eL : (Int32.ofNat L).toInt = (L : Int) := nI_T (k := L) (by omega)
    have e5' : (5 : Int32).toInt = 5 := rfl
    have eS : (Int32.ofNat L - 5).toInt = (L : Int) - 5 := by rw [fb_subI (by rw [eL, e5']; omega) (by rw [eL, e5']; omega), eL, e5']
    refine wq_iload_n hc 0 dL_law_18 rfl ?_
    refine wq_aload_n hc 3 dL_law_19 rfl ?_
    refine wq_slen hc hX hbl dL_law_20 ?_
    refine wq_iconst (v := 5) hc dL_law_21 rfl ?_
    refine wq_isub hc dL_law_22 ?_
    refine wq_icmp_gt (tgt := 803) hc dL_law_23 rfl (fun _ => ?_) (fun q => ?_)
    · refine wq_iconst (v := 1) hc dL_law_803 rfl ?_
      intro H locs ls hO hl
      refine va_forget (fun q hq => hO.2.2.2.2 q hq) ?_
      refine W.widen (k := 600000) (n := 7302250) (Nat.le_of_ble_eq_true rfl) (Nat.le_of_ble_eq_true rfl) ?_
      exact lw_ret hc.1 hc.2.1 hr hlocks dL_law_804
    · have hi : 0 ≤ i.toInt ∧ i.toInt + 5 ≤ (L : Int) := by
        rw [fa_lt, eS] at q
        omega
      have next : ∀ C' N' : Mem, RelC C' N' → WQ p l e room_1 s m #[Value.ref b] below meth c (lw_Z below #[Value.ref b] s) (OL s D cy z C' N') 4 115 1736 (lvL b z i) 797 [] := fun C' N' rel' => by
        refine wq_iinc (v := i + 5) (lv' := lvL b z (i + 5)) hc 0 dL_law_797 rfl rfl (by decide) rfl ?_
        refine wq_goto (tgt := 18) hc dL_law_800 rfl ?_
        have e : (i + 5).toInt = i.toInt + 5 := by rw [fb_addI (by rw [e5']; omega) (by rw [e5']; omega), e5']
        exact law_loop hL hc hr hlocks hx hX hbl f (i + 5) C' N' rel' (by omega) (by omega)
      refine wq_aload_n hc 3 dL_law_26 rfl ?_
      refine wq_iload_n hc 0 dL_law_27 rfl ?_
      refine wq_sld hc hX hbl (vin ⟨hi.1, by omega⟩) dL_law_28 ?_
      refine wq_bipush (v := 31) hc dL_law_29 rfl ?_
      refine wq_iand hc dL_law_31 ?_
      generalize (xs i.toNatClampNeg &&& 31) = x
      by_cases out : x.toInt < 0 ∨ 23 < x.toInt
      · exact wq_tableOut (tgt := 797) hc dL_law_32 out rfl (next C N rel)
      · rcases (show x.toInt = 0 ∨ x.toInt = 1 ∨ x.toInt = 2 ∨ x.toInt = 3 ∨ x.toInt = 4 ∨ x.toInt = 5 ∨ x.toInt = 6 ∨ x.toInt = 7 ∨ x.toInt = 8 ∨ x.toInt = 9 ∨ x.toInt = 10 ∨ x.toInt = 11 ∨ x.toInt = 12 ∨ x.toInt = 13 ∨ x.toInt = 14 ∨ x.toInt = 15 ∨ x.toInt = 16 ∨ x.toInt = 17 ∨ x.toInt = 18 ∨ x.toInt = 19 ∨ x.toInt = 20 ∨ x.toInt = 21 ∨ x.toInt = 22 ∨ x.toInt = 23 by omega) with e0 | e1 | e2 | e3 | e4 | e5 | e6 | e7 | e8 | e9 | e10 | e11 | e12 | e13 | e14 | e15 | e16 | e17 | e18 | e19 | e20 | e21 | e22 | e23
        · exact wq_tableIn hc dL_law_32 (by omega) (by omega) (by rw [e0]; rfl) rfl (lc_box hc hx rel hX hbl hi hL (Nat.le_of_ble_eq_true rfl) (Nat.le_of_ble_eq_true rfl) next)
        · exact wq_tableIn hc dL_law_32 (by omega) (by omega) (by rw [e1]; rfl) rfl (lc_sets hc hx rel hX hbl hi hL (Nat.le_of_ble_eq_true rfl) (Nat.le_of_ble_eq_true rfl) next)
        · exact wq_tableIn hc dL_law_32 (by omega) (by omega) (by rw [e2]; rfl) rfl (lc_errs hc hx rel hX hbl hi hL (Nat.le_of_ble_eq_true rfl) (Nat.le_of_ble_eq_true rfl) next)
        · exact wq_tableIn hc dL_law_32 (by omega) (by omega) (by rw [e3]; rfl) rfl (lc_drops hc hx rel hX hbl hi hL (Nat.le_of_ble_eq_true rfl) (Nat.le_of_ble_eq_true rfl) next)
        · exact wq_tableIn hc dL_law_32 (by omega) (by omega) (by rw [e4]; rfl) rfl (lc_of hc hx rel hX hbl hi hL (Nat.le_of_ble_eq_true rfl) (Nat.le_of_ble_eq_true rfl) next)
        · exact wq_tableIn hc dL_law_32 (by omega) (by omega) (by rw [e5]; rfl) rfl (lc_error hc hx rel hX hbl hi hL (Nat.le_of_ble_eq_true rfl) (Nat.le_of_ble_eq_true rfl) next)
        · exact wq_tableIn hc dL_law_32 (by omega) (by omega) (by rw [e6]; rfl) rfl (lc_told hc hx rel hX hbl hi hL (Nat.le_of_ble_eq_true rfl) (Nat.le_of_ble_eq_true rfl) next)
        · exact wq_tableIn hc dL_law_32 (by omega) (by omega) (by rw [e7]; rfl) rfl (lc_learns hc hx rel hX hbl hi hL (Nat.le_of_ble_eq_true rfl) (Nat.le_of_ble_eq_true rfl) next)
        · exact wq_tableIn hc dL_law_32 (by omega) (by omega) (by rw [e8]; rfl) rfl (lc_learnt hc hx rel hX hbl hi hL (Nat.le_of_ble_eq_true rfl) (Nat.le_of_ble_eq_true rfl) next)
        · exact wq_tableIn hc dL_law_32 (by omega) (by omega) (by rw [e9]; rfl) rfl (lc_reads hc hx rel hX hbl hi hL (Nat.le_of_ble_eq_true rfl) (Nat.le_of_ble_eq_true rfl) next)
        · exact wq_tableIn hc dL_law_32 (by omega) (by omega) (by rw [e10]; rfl) rfl (lc_chains hc hx rel hX hbl hi hL (Nat.le_of_ble_eq_true rfl) (Nat.le_of_ble_eq_true rfl) next)
        · exact wq_tableIn hc dL_law_32 (by omega) (by omega) (by rw [e11]; rfl) rfl (lc_peels hc hx rel hX hbl hi hL (Nat.le_of_ble_eq_true rfl) (Nat.le_of_ble_eq_true rfl) next)
        · exact wq_tableIn hc dL_law_32 (by omega) (by omega) (by rw [e12]; rfl) rfl (lc_turns hc hx rel hX hbl hi hL (Nat.le_of_ble_eq_true rfl) (Nat.le_of_ble_eq_true rfl) next)
        · exact wq_tableIn hc dL_law_32 (by omega) (by omega) (by rw [e13]; rfl) rfl (lc_form hc hx rel hX hbl hi hL (Nat.le_of_ble_eq_true rfl) (Nat.le_of_ble_eq_true rfl) next)
        · exact wq_tableIn hc dL_law_32 (by omega) (by omega) (by rw [e14]; rfl) rfl (lc_det hc hx rel hX hbl hi hL (Nat.le_of_ble_eq_true rfl) (Nat.le_of_ble_eq_true rfl) next)
        · exact wq_tableIn hc dL_law_32 (by omega) (by omega) (by rw [e15]; rfl) rfl (lc_ends hc hx rel hX hbl hi hL (Nat.le_of_ble_eq_true rfl) (Nat.le_of_ble_eq_true rfl) next)
        · exact wq_tableIn hc dL_law_32 (by omega) (by omega) (by rw [e16]; rfl) rfl (lc_test hc hx rel hX hbl hi hL (Nat.le_of_ble_eq_true rfl) (Nat.le_of_ble_eq_true rfl) next)
        · exact wq_tableIn hc dL_law_32 (by omega) (by omega) (by rw [e17]; rfl) rfl (lc_like hc hx rel hX hbl hi hL (Nat.le_of_ble_eq_true rfl) (Nat.le_of_ble_eq_true rfl) next)
        · exact wq_tableIn hc dL_law_32 (by omega) (by omega) (by rw [e18]; rfl) rfl (lc_type hc hx rel hX hbl hi hL (Nat.le_of_ble_eq_true rfl) (Nat.le_of_ble_eq_true rfl) next)
        · exact wq_tableIn hc dL_law_32 (by omega) (by omega) (by rw [e19]; rfl) rfl (lc_clear hc hx rel hX hbl hi hL (Nat.le_of_ble_eq_true rfl) (Nat.le_of_ble_eq_true rfl) next)
        · exact wq_tableIn hc dL_law_32 (by omega) (by omega) (by rw [e20]; rfl) rfl (lc_does hc hx rel hX hbl hi hL (Nat.le_of_ble_eq_true rfl) (Nat.le_of_ble_eq_true rfl) next)
        · exact wq_tableIn hc dL_law_32 (by omega) (by omega) (by rw [e21]; rfl) rfl (lc_back hc hx rel hX hbl hi hL (Nat.le_of_ble_eq_true rfl) (Nat.le_of_ble_eq_true rfl) next)
        · exact wq_tableIn hc dL_law_32 (by omega) (by omega) (by rw [e22]; rfl) rfl (lc_count hc hx rel hX hbl hi hL (Nat.le_of_ble_eq_true rfl) (Nat.le_of_ble_eq_true rfl) next)
        · exact wq_tableIn hc dL_law_32 (by omega) (by omega) (by rw [e23]; rfl) rfl (lc_digest hc hx rel hX hbl hi hL (Nat.le_of_ble_eq_true rfl) (Nat.le_of_ble_eq_true rfl) next)
theorem mt (k : Nat) {w : Cond} (h : tables_1[k]? = some w) : w ∈ lw_tbl := List.mem_append_right _ (List.mem_of_getElem? h)
theorem whole_start {p : Program} {e : Env} {s : State} {m : MethodId} {below : List Frame} {meth : Method} {c : Code} (l : Launch) (hflags : l.flags = flags0) {b L : Nat} {xs : Nat → Int32} (hL : L ≤ 2560) (C0 : lw_At p s m meth c b L xs) : W p l e room_1 s m #[Value.ref b] below meth c s.heap [] 0 0 (lw_Z below #[Value.ref b] s) (entryFrame m ([Value.ref b] : List Value).toArray 4) := by
  obtain ⟨hx, hb, hr, hml, hown, hts, hX, hbl, hlocks, hgv⟩ := id C0
  obtain ⟨c0, i0, k0⟩ := u_known (C := RX0) (T := TX0) (N := 4) (n := 4) hts inX0 (hts (.instantiable RX0 4) (by decide +kernel))
  obtain ⟨c2, i2, k2⟩ := u_known (C := RX2) (T := TX2) (N := 5) (n := 5) hts inX2 (hts (.instantiable RX2 5) (by decide +kernel))
  obtain ⟨c3, i3, k3⟩ := u_known (C := RX3) (T := TX3) (N := 8) (n := 8) hts inX3 (hts (.instantiable RX3 8) (by decide +kernel))
  obtain ⟨c4, i4, k4⟩ := u_known (C := RX4) (T := TX4) (N := 8) (n := 8) hts inX4 (hts (.instantiable RX4 8) (by decide +kernel))
  obtain ⟨c5, i5, k5⟩ := u_known (C := RX5) (T := TX5) (N := 9) (n := 9) hts inX5 (hts (.instantiable RX5 9) (by decide +kernel))
  obtain ⟨c6, i6, k6⟩ := u_known (C := RX6) (T := TX6) (N := 21) (n := 21) hts inX6 (hts (.instantiable RX6 21) (by decide +kernel))
  obtain ⟨aB, kB, pB, f1, f2, f3⟩ := Cond.arrayClass_spec (hts (.arrayClass .byte) (mt 109 (by decide +kernel)))
  obtain ⟨aI, kI, pI, g1, g2, g3⟩ := Cond.arrayClass_spec (hts (.arrayClass .int) (mt 75 (by decide +kernel)))
  obtain ⟨pF, aF, kF, o1, o2, o3, o4, o5⟩ := Cond.arrayOver_spec (hts (.arrayOver (.object RX0)) (mt 117 (by decide +kernel)))
  obtain ⟨pS, aS, kS, q1, q2, q3, q4, q5⟩ := Cond.arrayOver_spec (hts (.arrayOver (.object RX2)) (mt 144 (by decide +kernel)))
  obtain ⟨D, cy, hK⟩ : ∃ (D : va_G) (cy : Nat → ClassId), va_K D vwCl (tyl cy) s := by
    refine ⟨(fun k => match k with | 0 => c0 | 1 => c2 | 2 => c3 | 3 => c4 | 4 => c5 | _ => c6, fun k => match k with | 0 => i0 | 1 => i2 | 2 => i3 | 3 => i4 | 4 => i5 | _ => i6), fun k => match k with | 0 => aB | 1 => aI | 2 => aF | _ => aS, ?_, ?_⟩
    · intro k q hq
      match k, hq with
      | 0, hq => cases hq; exact k0
      | 1, hq => cases hq; exact k2
      | 2, hq => cases hq; exact k3
      | 3, hq => cases hq; exact k4
      | 4, hq => cases hq; exact k5
      | 5, hq => cases hq; exact k6
      | k + 6, hq => simp [vwCl] at hq
    · intro k q hq
      match k, hq with
      | 0, hq => cases hq; exact ⟨fun n z => ⟨fun k h => (by cases h), kB, f2, pB, f3⟩, f1⟩
      | 1, hq => cases hq; exact ⟨fun n z => ⟨fun k h => (by cases h), kI, g2, pI, g3⟩, g1⟩
      | 2, hq => cases hq; exact ⟨fun n z => ⟨fun k h => (by cases h), kF, o3, pF, o4⟩, kF, pF, o3, o4, o1, o5⟩
      | 3, hq => cases hq; exact ⟨fun n z => ⟨fun k h => (by cases h), kS, q3, pS, q4⟩, kS, pS, q3, q4, q1, q5⟩
      | k + 4, hq => simp [tyl] at hq
  have hN : NW s := ⟨va_Nw.of rfl (hts _ (mt 205 (by decide +kernel))), va_Nw.of rfl (hts _ (mt 235 (by decide +kernel))), va_Nw.of rfl (hts _ (mt 283 (by decide +kernel))), va_Nw.of rfl (hts _ (mt 482 (by decide +kernel))), va_Nw.of rfl (hts _ (mt 19 (by decide +kernel))), va_Nw.of rfl (hts _ (mt 25 (by decide +kernel))), va_Nw.of rfl (hts _ (mt 78 (by decide +kernel))), va_Nw.of rfl (hts _ (mt 118 (by decide +kernel)))⟩
  have hCK : CC s D cy (AG s) := ⟨⟨hK, hN, va_AO.of (hts (.arrayOver (.object RX0)) (mt 117 (by decide +kernel))), va_AO.of (hts (.arrayOver (.object RX2)) (mt 144 (by decide +kernel)))⟩, fun _ h => h⟩
  have hc : CallFix p m c cL_law 4 s #[Value.ref b] wsL_law RL := ⟨hx, hb, hml, hown, fun w h => hts w (wsL_law_in w h)⟩
  have hl := lv_entry ([.ref b]) (n := 4) (Nat.le_of_ble_eq_true rfl)
  rw [lg_entry_eq]
  generalize (lg_sl ([.ref b]) ++ List.replicate (4 - (lg_sl ([.ref b])).length) Slot.unset).toArray = ls at hl ⊢
  have hl : lv_has ls 4 [(0, .ref b)] := hl
  have K : WL p l e room_1 s m #[Value.ref b] below meth c (lw_Z below #[Value.ref b] s) D (AG s) 4 [] 0 0 [(0, .ref b)] 0 [] := by
    refine wl_new (ci := 4) (fs := [.null, .null, .null, .null, .null, .int 0, .int 0, .int 0, .int 0]) (C := RX5) (T := TX5) (N := 9) hc hCK (fun w h => (gcX5_does_12 w h).1) tyX5 tyX5_ok (by decide +kernel) (by decide +kernel) (by decide +kernel) rfl (fun j hj => by rcases (show j = 0 ∨ j = 1 ∨ j = 2 ∨ j = 3 ∨ j = 4 ∨ j = 5 ∨ j = 6 ∨ j = 7 ∨ j = 8 by omega) with rfl | rfl | rfl | rfl | rfl | rfl | rfl | rfl | rfl <;> rfl) (by exact Nat.le_of_ble_eq_true rfl) (by exact Nat.le_of_ble_eq_true rfl) dL_law_0 (fun h0 => ?_)
    refine wl_dup hc dL_law_3 rfl ?_
    refine wl_eq (ws' := (h0, .inr (4, [.null, .null, .null, .null, .null, .int 0, .int 0, .int 0, .int 0])) :: (([] : va_W) ++ ([] : va_W))) rfl ?_
    refine wl_init (Y := []) (Rs := []) hc hCK (fun sz => kX5_init l D cy h0 sz) (cwI 0 hc.2.2.2.2 gL_law_X5_init rfl rfl rfl (hc.2.2.2.2 _ (show Cond.initialized RX5 ∈ wsL_law by decide +kernel)) (hc.2.2.2.2 _ (show Cond.methodLink RL 9 yX5_init ∈ wsL_law by decide +kernel)) (hc.2.2.2.2 _ (show Cond.instanceMethod yX5_init ∈ wsL_law by decide +kernel)) rfl (by decide +kernel) ⟨Nat.le_of_ble_eq_true rfl, Nat.le_of_ble_eq_true rfl⟩) (by exact Nat.le_of_ble_eq_true rfl) (by exact Nat.le_of_ble_eq_true rfl) (by exact Nat.le_of_ble_eq_true rfl) dL_law_4 (fun u _ => ?_)
    refine wl_astore_n (lv' := [(1, .ref h0), (0, .ref b)]) hc dL_law_7 (by decide) rfl ?_
    refine wl_new (ci := 5) (fs := [.null, .null, .null, .int 0, .null, .null, .int 0, .int 0, .null, .null, .null, .null, .null, .null, .null, .null, .null, .int 0, .int 0, .int 0, .long 0]) (C := RX6) (T := TX6) (N := 21) hc hCK (fun w h => (gcX6_does_11 w h).1) tyX6 tyX6_ok (by decide +kernel) (by decide +kernel) (by decide +kernel) rfl (fun j hj => by rcases (show j = 0 ∨ j = 1 ∨ j = 2 ∨ j = 3 ∨ j = 4 ∨ j = 5 ∨ j = 6 ∨ j = 7 ∨ j = 8 ∨ j = 9 ∨ j = 10 ∨ j = 11 ∨ j = 12 ∨ j = 13 ∨ j = 14 ∨ j = 15 ∨ j = 16 ∨ j = 17 ∨ j = 18 ∨ j = 19 ∨ j = 20 by omega) with rfl | rfl | rfl | rfl | rfl | rfl | rfl | rfl | rfl | rfl | rfl | rfl | rfl | rfl | rfl | rfl | rfl | rfl | rfl | rfl | rfl <;> rfl) (by exact Nat.le_of_ble_eq_true rfl) (by exact Nat.le_of_ble_eq_true rfl) dL_law_8 (fun h1 => ?_)
    refine wl_dup hc dL_law_11 rfl ?_
    refine wl_eq (ws' := (h1, .inr (5, [.null, .null, .null, .int 0, .null, .null, .int 0, .int 0, .null, .null, .null, .null, .null, .null, .null, .null, .null, .int 0, .int 0, .int 0, .long 0])) :: (([] : va_W) ++ ((pbB cy h0 u ++ []) : va_W))) rfl ?_
    refine wl_init (Y := []) (Rs := pbB cy h0 u ++ []) hc hCK (fun sz => kX6_init l D cy h1 sz) (cwI 0 hc.2.2.2.2 gL_law_X6_init rfl rfl rfl (hc.2.2.2.2 _ (show Cond.initialized RX6 ∈ wsL_law by decide +kernel)) (hc.2.2.2.2 _ (show Cond.methodLink RL 12 yX6_init ∈ wsL_law by decide +kernel)) (hc.2.2.2.2 _ (show Cond.instanceMethod yX6_init ∈ wsL_law by decide +kernel)) rfl (by decide +kernel) ⟨Nat.le_of_ble_eq_true rfl, Nat.le_of_ble_eq_true rfl⟩) (by exact Nat.le_of_ble_eq_true rfl) (by exact Nat.le_of_ble_eq_true rfl) (by exact Nat.le_of_ble_eq_true rfl) dL_law_12 (fun q hq => ?_)
    subst hq
    refine wl_astore_n (lv' := [(2, .ref (q 0)), (1, .ref h0), (0, .ref b)]) hc dL_law_15 (by decide) rfl ?_
    refine wl_iconst (v := 0) hc dL_law_16 rfl ?_
    refine wl_istore_n (lv' := [(3, .int 0), (2, .ref (q 0)), (1, .ref h0), (0, .ref b)]) hc dL_law_17 (by decide) rfl ?_
    intro H locs ls hP hD hS hl
    have hD' : va_D (AG s) (mdB cy q ++ (pbB cy h0 u ++ [])) := hD
    have hP' : va_P D vwCl (mdB cy q ++ (pbB cy h0 u ++ [])) H := hP
    obtain ⟨zi, za⟩ := zz_inj hD'
    obtain ⟨p1, p2⟩ := start_P hP'
    have lx : LX s D cy (zz h0 u q) := ⟨hK, hN, zi, za⟩
    exact law_loop hL hc hr hlocks lx hX hbl (L + 1) 0 M0c M0m rel0 ⟨by decide, by show (0 : Int) ≤ _; omega⟩ (by show ((L : Int) - 0).toNat < L + 1; omega) H locs ls ⟨p1, p2, hS⟩ hl
  exact K s.heap [] ls (fun k q h => by simp at h) ⟨fun i j p q h => by simp at h, fun k q h => by simp at h⟩ va_S.rf hl
set_option maxHeartbeats 4000000 in
theorem lw_walk (l : Launch) (hflags : l.flags = flags0) (b : Addr) (xs : List Int32) : MetFree l x (headSpec (Jvm.Cond.code x code maxLocals ret :: tables_1) room_1) (lw_P b xs) (fun _ _ _ _ _ => True) lw_Q := by
  refine MetFree.of_bodyS (code := code) (maxLocals := maxLocals) (ret := ret) (by decide) ?_ ?_
  · intro args s m h hn
    obtain ⟨meth, c, h1, h2, h3, h4, h5, h6, -, -⟩ := Cond.code_spec hn (atoms_spec (ws := Jvm.Cond.code x code maxLocals ret :: tables_1) h _ List.mem_cons_self)
    exact ⟨meth, c, h1, h2, h3, h4, h5, h6⟩
  · intro p e s m args below meth c s₁ B hml0 hP _
    obtain ⟨rfl, hx, hbd, hgv⟩ := hP
    obtain ⟨scr, harrAt, hlist, hof, hsmall⟩ := hx
    obtain ⟨hcb, hkn, -, -⟩ := State.arrayAt?_spec harrAt
    have hown : s.vm.findClass R_law = some m.cls := findClass_of_methodNamed B.named
    have hts0 : ∀ c ∈ (Jvm.Cond.code x code maxLocals ret :: tables_1), c.before #[Value.ref b] s = true := atoms_spec (ws := Jvm.Cond.code x code maxLocals ret :: tables_1) B.pre
    have hts : ∀ w ∈ lw_tbl, w.before #[Value.ref b] s = true := k2_hts_sels lw_privs (fun w hw => hts0 w (List.mem_cons_of_mem _ hw)) lw_privs_ok
    have hml : c.maxLocals = 4 := B.maxLocals_eq (hts0 _ List.mem_cons_self)
    have X₀ : Stand p l e room_1 s m #[Value.ref b] below meth c s₁ [] 0 0 := Stand.of_body B
    have hh0 : s₁.heap = s.heap := by rw [B.state]; rfl
    have hsz : scr.slots.size = xs.length := by rw [← Array.length_toList, hlist, List.length_map]
    have hval : ∀ j : Nat, j < xs.length → scr.slots[j]? = some (.int (xs.getD j 0)) := fun j hj => by
      rw [← Array.getElem?_toList, hlist]
      simp [hj]
    have hbl : b < s.heap.size := (Array.getElem?_eq_some_iff.mp hcb).1
    have hX : va_X b xs.length (fun j => xs.getD j 0) s s.heap := ⟨scr, hcb, hof, hkn, hsz, hval⟩
    have K : W p l e room_1 s m #[Value.ref b] below meth c s₁.heap [] 0 0 (lw_Z below #[Value.ref b] s) (entryFrame m ([Value.ref b] : List Value).toArray 4) := by
      rw [hh0]
      exact whole_start l hflags hbd ⟨B.exec, B.bytes, B.returns, hml, hown, hts, hX, hbl, B.notSynchronized, hgv⟩
    obtain ⟨t, a1, o, b1, b2, b3⟩ := K s₁ rfl X₀
    exact ⟨t, o, a1, b1, b2, b3⟩
theorem lw_pre_spec {args : Array Value} {s : State} (h : (Jvm.Cond.and given_1 narrow_1).before args s = true) (hr : rest_1_c.before args s = true) : ∃ (b : Addr) (xs : List Int32), lw_P b xs args s := by
  have hs := flat_of_before _ h
  have hq := flat_of_before _ hr
  have hc : (Cond.count 1).before args s = true := hs _ (by decide +kernel)
  have harr : (Cond.arrayOf (.arg 0) .int).before args s = true := hs _ (by decide +kernel)
  have hle : (Cond.le (.length (.arg 0)) (.int 2560)).before args s = true := hs _ (by decide +kernel)
  have hlen : (Cond.isInt (.length (.arg 0))).before args s = true := hq _ (by decide +kernel)
  have hall : (Cond.all (.arg 0) (.isInt (.elem (.arg 0) (.index 0)))).before args s = true := hq _ (by decide +kernel)
  obtain ⟨b, xs, hb, hx⟩ := State.ints_of_pre rfl harr hlen hall
  have hsm : xs.length < 2 ^ 31 := hx.choose_spec.2.2.2
  have hev : (Term.length (.arg 0)).eval args s none [] s = some (.int xs.length.toInt32) := hx.length_eval hb
  have hv := Cond.le_ints hev (show (Term.int 2560).eval args s none [] s = some (.int 2560) from rfl)
  have hd : xs.length.toInt32 ≤ 2560 := by
    simpa [Cond.before, Cond.holds, hv] using hle
  have hN : xs.length ≤ 2560 := (Int32.ofNat_le_ofNat hsm (by decide)).mp (show Int32.ofNat xs.length ≤ Int32.ofNat 2560 from hd)
  exact ⟨b, xs, Cond.one_arg hc (show args[0]? = some (.ref b) from hb), hx, hN, h⟩
theorem lw_comes (l : Launch) (hflags : l.flags = flags0) : Comes l x (Jvm.Cond.code x code maxLocals ret :: tables_1) room_1 (fun tb e args s => Calls_1 tb e args s ∧ rest_1 tb e args s ∧ Pre_1 tb e args s)
    (fun _ _ args s o t => lw_Q args s o t) := by
  intro p e ha hc hk s m args below hf hfit hheap happ hpre
  obtain ⟨b, xs, hP⟩ := lw_pre_spec hpre.2.2 hpre.2.1
  obtain ⟨k, o, h1, h2, h3, hQ⟩ := lw_walk l hflags b xs p e ha hc hk s m args below hf ((Spec.applies_iff_loose hf).mp happ).1 hP trivial
  exact ⟨k, o, h1, h2, h3, hQ⟩
theorem lw_frame {s t : State} {o : Outcome} {args : Array Value} (h : Framed s o t [] 600000 7302250) :
    Framed s o t (fieldLocs frame_1_writes args s ++ arrayLocs frame_1_arrays args s ++ staticLocs frame_1_statics s) 600000 7302250 := h
theorem lw_limb (L : Cond) (hL : ∀ (args : Array Value) (s t : State), L.after args s (.returned (some (.int 1))) t = true) :
    ArmFor flags0 classFile x code maxLocals ret World_1 tables_1 room_1 Calls_1 rest_1 Pre_1
      (fun tb e a s o t => postC L tb e a s o t ∧ Framed s o t (fieldLocs frame_1_writes a s ++ arrayLocs frame_1_arrays a s ++ staticLocs frame_1_statics s) 600000 7302250) := by
  intro l hflags _ _ p e ha hc hk s m args below hf hfit hheap happ hpre
  obtain ⟨k, o, h1, h2, h3, rfl, hF⟩ := lw_comes l hflags p e ha hc hk s m args below hf hfit hheap happ hpre
  exact ⟨k, _, h1, h2, h3, hL args s _, lw_frame hF⟩
theorem i_vc : Claimed_1_1 ∧ Claimed_1_2 := ⟨lw_limb limb_1_1 (fun args s t => by simp [limb_1_1, Cond.after, Cond.holds, Cond.value]), lw_limb limb_1_2 (fun args s t => Cond.after_iff.mpr (by
  first | (rw [show limb_1_2 = Cond.eq .result (.int 1) from rfl, Cond.eq_ints (x := 1) (y := 1) rfl rfl]; simp; done) | (simp [limb_1_2, Cond.value, Term.eval]; done)))⟩
