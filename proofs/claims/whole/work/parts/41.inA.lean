/-! ===== constructors: cells as a list ===== -/
theorem P_mem {D : va_G} {cl : List vw_C} {ws : va_W} {H : Heap} : va_P D cl ws H ↔ ∀ q ∈ ws, va_at D cl q H := by
  constructor
  · intro h q hq
    obtain ⟨i, hi⟩ := List.getElem?_of_mem hq
    exact h i q hi
  · intro h k q hk
    exact h q (List.mem_of_getElem? hk)
theorem D_nd {A : Nat → Prop} {ws : va_W} : va_D A ws ↔ (ws.map Prod.fst).Nodup ∧ ∀ q ∈ ws, A q.1 := by
  constructor
  · intro h
    refine ⟨?_, fun q hq => ?_⟩
    · unfold List.Nodup
      rw [List.pairwise_iff_getElem]
      intro i j hi hj hij e
      rw [List.length_map] at hi hj
      rw [List.getElem_map, List.getElem_map] at e
      have := h.1 i j ws[i] ws[j] (List.getElem?_eq_getElem hi) (List.getElem?_eq_getElem hj) e
      omega
    · obtain ⟨i, hi⟩ := List.getElem?_of_mem hq
      exact h.2 i q hi
  · intro ⟨h1, h2⟩
    refine ⟨fun i j x y hx hy e => ?_, fun k q hk => h2 q (List.mem_of_getElem? hk)⟩
    unfold List.Nodup at h1
    rw [List.pairwise_iff_getElem] at h1
    obtain ⟨hi, ex⟩ := List.getElem?_eq_some_iff.mp hx
    obtain ⟨hj, ey⟩ := List.getElem?_eq_some_iff.mp hy
    rcases Nat.lt_trichotomy i j with q | q | q
    · exact absurd (by rw [List.getElem_map, List.getElem_map, ex, ey]; exact e) (h1 i j (by rw [List.length_map]; exact hi) (by rw [List.length_map]; exact hj) q)
    · exact q
    · exact absurd (by rw [List.getElem_map, List.getElem_map, ex, ey]; exact e.symm) (h1 j i (by rw [List.length_map]; exact hj) (by rw [List.length_map]; exact hi) q)
theorem P_perm {D : va_G} {cl : List vw_C} {ws ws' : va_W} {H : Heap} (h : va_P D cl ws H) (p : ws.Perm ws') : va_P D cl ws' H := P_mem.mpr fun q hq => P_mem.mp h q (p.mem_iff.mpr hq)
theorem D_perm {A : Nat → Prop} {ws ws' : va_W} (h : va_D A ws) (p : ws.Perm ws') : va_D A ws' := by
  obtain ⟨h1, h2⟩ := D_nd.mp h
  exact D_nd.mpr ⟨(p.map Prod.fst).nodup_iff.mp h1, fun q hq => h2 q (p.mem_iff.mpr hq)⟩
theorem pushp {ws : va_W} {x : Nat × va_E} : (ws ++ [x]).Perm (x :: ws) := List.perm_append_comm (l₁ := ws) (l₂ := [x])
theorem va_RA.name {U : State} {cA : ClassId} {ty : FieldType} (h : va_RA U cA ty) : U.vm.findClass ("[" ++ ty.toString) = some cA := by
  cases ty with
  | object C => obtain ⟨kA, comp, h1, h2, h3, h4⟩ := h; exact h4
  | _ => exact h
theorem cA_eq {D : va_G} {cy : Nat → ClassId} {s : State} {cA c0 : ClassId} {ty : FieldType} (hK : va_K D vwCl (tyl cy) s) (k : Nat) (ht : (tyl cy)[k]? = some (c0, ty)) (hK1 : va_K D vwCl (tyl cy ++ [(cA, ty)]) s) : cA = c0 := by
  have a := (hK.2 k _ ht).2.name
  have b := (hK1.2 4 (cA, ty) rfl).2.name
  exact Option.some.inj (b.symm.trans a)
def CKs (D : va_G) (cy : Nat → ClassId) (U : State) : Prop := va_K D vwCl (tyl cy) U ∧ NW U ∧ va_AO RX0 U ∧ va_AO RX2 U
def CC (s : State) (D : va_G) (cy : Nat → ClassId) (A : Nat → Prop) : Prop := CKs D cy s ∧ ∀ q, s.heap.size ≤ q → A q
theorem CKs.warm {D : va_G} {cy : Nat → ClassId} {s U : State} (hW : s.WarmedH U.vm) (h : CKs D cy s) : CKs D cy U := ⟨va_K.moved hW.alike h.1, NW.warm hW h.2.1, va_AO.moved hW.alike h.2.2.1, va_AO.moved hW.alike h.2.2.2⟩
theorem CKs.same {D : va_G} {cy : Nat → ClassId} {u U : State} (hv : u.vm = U.vm) (h : CKs D cy u) : CKs D cy U := ⟨va_K.moved (by rw [hv]; exact Vm.Alike.refl _) h.1, NW.same hv h.2.1, va_AO.moved (by rw [hv]; exact Vm.Alike.refl _) h.2.2.1, va_AO.moved (by rw [hv]; exact Vm.Alike.refl _) h.2.2.2⟩
/-- a constructor: from its own cell to a block of cells; q tells where they lie -/
abbrev KN {S : Type} (l : Launch) (y : MethodName) (ws : List Cond) (rm : Room) (D : va_G) (cy : Nat → ClassId) (h0 : Nat) (e0 : va_E) (sz : Nat) (post : S → Prop) (blk : S → va_W) (mc ms : Nat) : Prop :=
  Met l y ws rm (va_Pc [.ref h0] (fun U => U.heap.size = sz ∧ va_P D vwCl [(h0, e0)] U.heap ∧ CKs D cy U)) (va_Qv post (fun q t => va_P D vwCl (blk q) t.heap ∧ va_D (va_A [(h0, e0)] sz) (blk q)) (va_A [(h0, e0)] sz)) mc ms (va_A [(h0, e0)] sz)
theorem joinC {A0 : Nat → Prop} {D : va_G} {cl : List vw_C} {x : Nat × va_E} {Y Rs w1 : va_W} {H H1 : Heap} (hP : va_P D cl (x :: (Y ++ Rs)) H) (hD : va_D A0 (x :: (Y ++ Rs))) (hk : ∀ q : Nat, q < H.size → ¬ va_A [x] H.size q → H1[q]? = H[q]?) (hF : ∀ q, va_A [x] H.size q → A0 q) (hP1 : va_P D cl w1 H1) (hD1 : va_D (va_A [x] H.size) w1) : va_P D cl (Y ++ (w1 ++ Rs)) H1 ∧ va_D A0 (Y ++ (w1 ++ Rs)) := by
  have hp : (w1 ++ (Y ++ Rs)).Perm (Y ++ (w1 ++ Rs)) := by
    rw [← List.append_assoc, ← List.append_assoc]
    exact List.perm_append_comm.append_right Rs
  have hd := D_nd.mp hD
  have hm := P_mem.mp hP
  have apart : ∀ q ∈ Y ++ Rs, q.1 < H.size ∧ ¬ va_A [x] H.size q.1 := by
    intro q hq
    have hl := (hm q (List.mem_cons_of_mem _ hq)).lt
    refine ⟨hl, fun h => ?_⟩
    rcases h with ⟨k, e, h⟩ | h
    · have hx : (q.1, e) = x := by
        have := List.mem_of_getElem? h
        simpa using this
      have hn := hd.1
      rw [List.map_cons, List.nodup_cons] at hn
      exact hn.1 (by rw [← hx]; exact List.mem_map.mpr ⟨q, hq, rfl⟩)
    · omega
  have h1 : va_P D cl (w1 ++ (Y ++ Rs)) H1 := hP1.app (P_mem.mpr fun q hq => (hm q (List.mem_cons_of_mem _ hq)).kept (hk q.1 (apart q hq).1 (apart q hq).2))
  have hn := hd.1
  rw [List.map_cons, List.nodup_cons] at hn
  have h2 : va_D A0 (w1 ++ (Y ++ Rs)) := (hD1.weaken (fun k q _ h => hF q.1 h)).app (D_nd.mpr ⟨hn.2, fun q hq => hd.2 q (List.mem_cons_of_mem _ hq)⟩) (fun i j a b ha hb hab => (apart b (List.mem_of_getElem? hb)).2 (by rw [← hab]; exact hD1.2 i a ha))
  exact ⟨P_perm h1 hp, D_perm h2 hp⟩
section
variable {p : Program} {l : Launch} {e : Env} {R : Room} {s : State} {m : MethodId} {args : Array Value} {below : List Frame} {meth : Method} {c : Code} {Q : State → Prop}
variable {D : va_G} {cy : Nat → ClassId} {A : Nat → Prop} {nL : Nat} {ws ws' : va_W} {cs ss : Nat} {lv : List (Nat × Value)} {pc : Nat} {sk : List Value} {cc : ByteArray} {Ts : List Cond} {own : String}
/-- the walk of a constructor: over the cells ws, cs cells of ss slots made so far -/
def WL (p : Program) (l : Launch) (e : Env) (R : Room) (s : State) (m : MethodId) (args : Array Value) (below : List Frame) (meth : Method) (c : Code) (Q : State → Prop) (D : va_G) (A : Nat → Prop) (nL : Nat) (ws : va_W) (cs ss : Nat) (lv : List (Nat × Value)) (pc : Nat) (sk : List Value) : Prop :=
  ∀ (H : Heap) (locs : List Loc) (ls : Array Slot), va_P D vwCl ws H → va_D A ws → va_S A s.heap H locs → lv_has ls nL lv → W p l e R s m args below meth c H locs cs ss Q (F0 m pc ls sk)
theorem wl_eq (h : ws = ws') (k : WL p l e R s m args below meth c Q D A nL ws' cs ss lv pc sk) : WL p l e R s m args below meth c Q D A nL ws cs ss lv pc sk := h ▸ k
theorem wl_perm (h : ws.Perm ws') (k : WL p l e R s m args below meth c Q D A nL ws' cs ss lv pc sk) : WL p l e R s m args below meth c Q D A nL ws cs ss lv pc sk := fun H locs ls hP hD hS hl => k H locs ls (P_perm hP h) (D_perm hD h) hS hl
theorem wl_iconst (hc : CallFix p m c cc nL s args Ts own) {n : Int} {v : Int32} (d : decode cc pc = .ok (.iconst n, 1)) (hv : Int32.ofInt n = v) (k : WL p l e R s m args below meth c Q D A nL ws cs ss lv (pc + 1) (.int v :: sk)) : WL p l e R s m args below meth c Q D A nL ws cs ss lv pc sk := fun H locs ls hP hD hS hl => lv_iconst hc.1 hc.2.1 d hv (k H locs ls hP hD hS hl)
theorem wl_bipush (hc : CallFix p m c cc nL s args Ts own) {n : Int} {v : Int32} (d : decode cc pc = .ok (.bipush n, 2)) (hv : (Int8.ofInt n).toInt32 = v) (k : WL p l e R s m args below meth c Q D A nL ws cs ss lv (pc + 2) (.int v :: sk)) : WL p l e R s m args below meth c Q D A nL ws cs ss lv pc sk := fun H locs ls hP hD hS hl => lv_bipush hc.1 hc.2.1 d hv (k H locs ls hP hD hS hl)
theorem wl_sipush (hc : CallFix p m c cc nL s args Ts own) {n : Int} {v : Int32} (d : decode cc pc = .ok (.sipush n, 3)) (hv : (Int16.ofInt n).toInt32 = v) (k : WL p l e R s m args below meth c Q D A nL ws cs ss lv (pc + 3) (.int v :: sk)) : WL p l e R s m args below meth c Q D A nL ws cs ss lv pc sk := fun H locs ls hP hD hS hl => lv_sipush hc.1 hc.2.1 d hv (k H locs ls hP hD hS hl)
theorem wl_iload_n (hc : CallFix p m c cc nL s args Ts own) (q : Nat) {i : Fin 4} {x : Int32} (d : decode cc pc = .ok (.iload_n i, 1)) (h : lv[q]? = some ((i : Nat), .int x)) (k : WL p l e R s m args below meth c Q D A nL ws cs ss lv (pc + 1) (.int x :: sk)) : WL p l e R s m args below meth c Q D A nL ws cs ss lv pc sk := fun H locs ls hP hD hS hl => lv_iload_n hc.1 hc.2.1 d rfl (lv_at hl q h) (k H locs ls hP hD hS hl)
theorem wl_aload_n (hc : CallFix p m c cc nL s args Ts own) (q : Nat) {i : Fin 4} {x : Nat} (d : decode cc pc = .ok (.aload_n i, 1)) (h : lv[q]? = some ((i : Nat), .ref x)) (k : WL p l e R s m args below meth c Q D A nL ws cs ss lv (pc + 1) (.ref x :: sk)) : WL p l e R s m args below meth c Q D A nL ws cs ss lv pc sk := fun H locs ls hP hD hS hl => lv_aload_n hc.1 hc.2.1 d rfl (lv_at hl q h) (k H locs ls hP hD hS hl)
theorem wl_istore_n (hc : CallFix p m c cc nL s args Ts own) {i : Fin 4} {x : Int32} {lv' : List (Nat × Value)} (d : decode cc pc = .ok (.istore_n i, 1)) (hn : (i : Nat) < nL) (h : ((i : Nat), Value.int x) :: lv.filter (fun q => !(q.1 == (i : Nat)) && !(q.1 + 1 == (i : Nat) && q.2.category == 2)) = lv') (k : WL p l e R s m args below meth c Q D A nL ws cs ss lv' (pc + 1) sk) : WL p l e R s m args below meth c Q D A nL ws cs ss lv pc (.int x :: sk) := fun H locs ls hP hD hS hl => lv_istore_n hc.1 hc.2.1 d rfl hl hn h (fun ls hl => k H locs ls hP hD hS hl)
theorem wl_iinc (hc : CallFix p m c cc nL s args Ts own) (q : Nat) {i : Nat} {n : Int} {x v : Int32} {lv' : List (Nat × Value)} (d : decode cc pc = .ok (.iinc i n, 3)) (hq : lv[q]? = some (i, .int x)) (hv : x + Int32.ofInt n = v) (hn : i < nL) (h : (i, Value.int v) :: lv.filter (fun q => !(q.1 == i) && !(q.1 + 1 == i && q.2.category == 2)) = lv') (k : WL p l e R s m args below meth c Q D A nL ws cs ss lv' (pc + 3) sk) : WL p l e R s m args below meth c Q D A nL ws cs ss lv pc sk := fun H locs ls hP hD hS hl => lv_iinc hc.1 hc.2.1 d hl hq hv hn h (fun ls hl => k H locs ls hP hD hS hl)
theorem wl_iadd (hc : CallFix p m c cc nL s args Ts own) {x y v : Int32} (hv : x + y = v) (d : decode cc pc = .ok (.iadd, 1)) (k : WL p l e R s m args below meth c Q D A nL ws cs ss lv (pc + 1) (.int v :: sk)) : WL p l e R s m args below meth c Q D A nL ws cs ss lv pc (.int y :: .int x :: sk) := fun H locs ls hP hD hS hl => lv_iadd hc.1 hc.2.1 d (by rw [hv]; exact k H locs ls hP hD hS hl)
theorem wl_dup (hc : CallFix p m c cc nL s args Ts own) {v : Value} (d : decode cc pc = .ok (.dup, 1)) (hv : v.category = 1) (k : WL p l e R s m args below meth c Q D A nL ws cs ss lv (pc + 1) (v :: v :: sk)) : WL p l e R s m args below meth c Q D A nL ws cs ss lv pc (v :: sk) := fun H locs ls hP hD hS hl => lv_dup hc.1 hc.2.1 d hv (k H locs ls hP hD hS hl)
theorem wl_goto (hc : CallFix p m c cc nL s args Ts own) {off : Int} {tgt : Nat} (d : decode cc pc = .ok (.goto off, 3)) (ht : (pc : Int) + off = (tgt : Int)) (k : WL p l e R s m args below meth c Q D A nL ws cs ss lv tgt sk) : WL p l e R s m args below meth c Q D A nL ws cs ss lv pc sk := fun H locs ls hP hD hS hl => lv_goto hc.1 hc.2.1 d ht (k H locs ls hP hD hS hl)
theorem wl_icmp_ge (hc : CallFix p m c cc nL s args Ts own) {x y : Int32} {off : Int} {tgt : Nat} (d : decode cc pc = .ok (.if_icmp .ge off, 3)) (ht : (pc : Int) + off = (tgt : Int)) (kt : y ≤ x → WL p l e R s m args below meth c Q D A nL ws cs ss lv tgt sk) (kf : ¬ y ≤ x → WL p l e R s m args below meth c Q D A nL ws cs ss lv (pc + 3) sk) : WL p l e R s m args below meth c Q D A nL ws cs ss lv pc (.int y :: .int x :: sk) := fun H locs ls hP hD hS hl => lv_icmp_ge hc.1 hc.2.1 d ht (fun q => kt q H locs ls hP hD hS hl) (fun q => kf q H locs ls hP hD hS hl)
theorem wl_obj (hc : CallFix p m c cc nL s args Ts own) {i x : Nat} (h1 : Cond.methodLink own i objectInit ∈ Ts) (h2 : Cond.instanceMethod objectInit ∈ Ts) (h3 : Cond.code objectInit ⟨#[0xb1]⟩ 1 none ∈ Ts) (d : decode cc pc = .ok (.invokespecial i, 3)) (hf : 1 ≤ R.frames) (hlo : 12 ≤ R.locals) (k : WL p l e R s m args below meth c Q D A nL ws cs ss lv (pc + 3) []) : WL p l e R s m args below meth c Q D A nL ws cs ss lv pc [.ref x] := fun H locs ls hP hD hS hl =>
  W.objInit hc.1 hc.2.1 hc.2.2.2.1 (hc.2.2.2.2 _ h1) (hc.2.2.2.2 _ h2) (hc.2.2.2.2 _ h3) rfl (by rw [hc.2.2.1]; exact hl.1) rfl d hf hlo (W.eq (g2 := F0 m (pc + 3) ls []) rfl (k H locs ls hP hD hS hl))
theorem wl_new (hc : CallFix p m c cc nL s args Ts own) (hx : CC s D cy A) {C : String} {T : u_T} {N ci index : Nat} (hin : ∀ w ∈ u_ws C T N, w ∈ Ts) (ty : Nat → FieldType) (hty : ∀ k, k < N → parseFieldDescriptor (T k).2.2.1 = some (ty k)) (hcl : Cond.classLink own index C ∈ Ts) (hinst : Cond.instantiable C N ∈ Ts) (hini : Cond.initialized C ∈ Ts) (hci : vwCl[ci]? = some (C, T, N)) {fs : List Value} (hfs : ∀ j, j < N → defaultValue (ty j) = vp_V fs j) (h1 : cs + 1 ≤ R.cells) (h2 : ss + N ≤ R.slots) (d : decode cc pc = .ok (.new index, 3)) (k : ∀ q : Nat, WL p l e R s m args below meth c Q D A nL ((q, .inr (ci, fs)) :: ws) (cs + 1) (ss + N) lv (pc + 3) (.ref q :: sk)) : WL p l e R s m args below meth c Q D A nL ws cs ss lv pc sk := fun H locs ls hP hD hS hl =>
  va_new hc.1 hc.2.1 hc.2.2.2.2 hin ty hty hc.2.2.2.1 (hc.2.2.2.2 _ hcl) (hc.2.2.2.2 _ hinst) (hc.2.2.2.2 _ hini) hx.1.1 hP hD hS hx.2 hci hfs h1 h2 d (fun q H1 hP1 hD1 hS1 => k q H1 locs ls (P_perm hP1 pushp) (D_perm hD1 pushp) hS1 hl)
theorem wl_newI (hc : CallFix p m c cc nL s args Ts own) (hx : CC s D cy A) {n : Int32} (N : Nat) (ha : Cond.arrayClass .int ∈ Ts) (hn : ¬ n < 0) (hN : n.toNatClampNeg = N) (hb : N * componentBytes .int ≤ 536870912) (h1 : cs + 1 ≤ R.cells) (h2 : ss + N ≤ R.slots) (d : decode cc pc = .ok (.newarray .int, 2)) (k : ∀ q : Nat, WL p l e R s m args below meth c Q D A nL ((q, .inl (cy 1, N, .inl (fun _ => 0))) :: ws) (cs + 1) (ss + N) lv (pc + 2) (.ref q :: sk)) : WL p l e R s m args below meth c Q D A nL ws cs ss lv pc (.int n :: sk) := fun H locs ls hP hD hS hl =>
  va_newa (atype := .int) hc.1 hc.2.1 (hc.2.2.2.2 _ ha) (ty := .int) rfl hx.1.1 hP hD hS hx.2 (a0 := (N, .inl (fun _ => 0))) (fun _ => rfl) hn hN hb h1 h2 d (fun q cA H1 hK1 hP1 hD1 hS1 => by
    have e := cA_eq hx.1.1 1 rfl hK1
    subst e
    exact k q H1 locs ls (P_perm hP1 pushp) (D_perm hD1 pushp) hS1 hl)
theorem wl_newB (hc : CallFix p m c cc nL s args Ts own) (hx : CC s D cy A) {n : Int32} (N : Nat) (ha : Cond.arrayClass .byte ∈ Ts) (hn : ¬ n < 0) (hN : n.toNatClampNeg = N) (hb : N * componentBytes .byte ≤ 536870912) (h1 : cs + 1 ≤ R.cells) (h2 : ss + N ≤ R.slots) (d : decode cc pc = .ok (.newarray .byte, 2)) (k : ∀ q : Nat, WL p l e R s m args below meth c Q D A nL ((q, .inl (cy 0, N, .inl (fun _ => 0))) :: ws) (cs + 1) (ss + N) lv (pc + 2) (.ref q :: sk)) : WL p l e R s m args below meth c Q D A nL ws cs ss lv pc (.int n :: sk) := fun H locs ls hP hD hS hl =>
  va_newa (atype := .byte) hc.1 hc.2.1 (hc.2.2.2.2 _ ha) (ty := .byte) rfl hx.1.1 hP hD hS hx.2 (a0 := (N, .inl (fun _ => 0))) (fun _ => rfl) hn hN hb h1 h2 d (fun q cA H1 hK1 hP1 hD1 hS1 => by
    have e := cA_eq hx.1.1 0 rfl hK1
    subst e
    exact k q H1 locs ls (P_perm hP1 pushp) (D_perm hD1 pushp) hS1 hl)
theorem wl_newq (hc : CallFix p m c cc nL s args Ts own) (hx : CC s D cy A) {C : String} {index : Nat} {n : Int32} (N : Nat) (c0 : ClassId) (t0 : Nat) (ht : (tyl cy)[t0]? = some (c0, .object C)) (hov : va_AO C s) (hcl : Cond.classLink own index C ∈ Ts) (hn : ¬ n < 0) (hN : n.toNatClampNeg = N) (hb : N * 4 ≤ 536870912) (h1 : cs + 1 ≤ R.cells) (h2 : ss + N ≤ R.slots) (d : decode cc pc = .ok (.anewarray index, 3)) (k : ∀ q : Nat, WL p l e R s m args below meth c Q D A nL ((q, .inl (c0, N, .inr (.inr (.inr (.inr (fun _ => none)))))) :: ws) (cs + 1) (ss + N) lv (pc + 3) (.ref q :: sk)) : WL p l e R s m args below meth c Q D A nL ws cs ss lv pc (.int n :: sk) := fun H locs ls hP hD hS hl =>
  va_newq hc.1 hc.2.1 hc.2.2.2.1 (hc.2.2.2.2 _ hcl) hov hx.1.1 hP hD hS hx.2 hn hN hb h1 h2 d (fun q cA H1 hK1 hP1 hD1 hS1 => by
    have e := cA_eq hx.1.1 t0 ht hK1
    subst e
    exact k q H1 locs ls (P_perm hP1 pushp) (D_perm hD1 pushp) hS1 hl)
theorem wl_get (hc : CallFix p m c cc nL s args Ts own) (hx : CC s D cy A) {C : String} {T : u_T} {N ci index : Nat} (hin : ∀ w ∈ u_ws C T N, w ∈ Ts) {a : Nat} (q0 : Nat) {fs : List Value} (he : ws[q0]? = some (a, .inr (ci, fs))) (hcl : vwCl[ci]? = some (C, T, N)) (k : Nat) (hk : k < N) (hlink : Cond.fieldLink own index (T k).1 (T k).2.1 (T k).2.2.1 ∈ Ts) {v : Value} (hv : fs[k]? = some v) (d : decode cc pc = .ok (.getfield index, 3)) (kk : WL p l e R s m args below meth c Q D A nL ws cs ss lv (pc + 3) (v :: sk)) : WL p l e R s m args below meth c Q D A nL ws cs ss lv pc (.ref a :: sk) := fun H locs ls hP hD hS hl =>
  va_get (D := D) (ci := ci) (v := v) (C := C) (T := T) (N := N) hc.1 hc.2.1 hc.2.2.2.2 hin hc.2.2.2.1 hx.1.1 hP q0 he hcl k hk (hc.2.2.2.2 _ hlink) (fun _ h9 => h9) hv d (kk H locs ls hP hD hS hl)
theorem wl_putF (hc : CallFix p m c cc nL s args Ts own) (hx : CC s D cy A) (hin2 : meth.name = "<init>") {C : String} {T : u_T} {N ci index : Nat} (hin : ∀ w ∈ u_ws C T N, w ∈ Ts) (ty0 : Nat → FieldType) (hty : ∀ k, k < N → parseFieldDescriptor (T k).2.2.1 = some (ty0 k)) (hnm : ∀ a, a < N → ∀ b, b < N → a ≠ b → (T a).2.1 ≠ (T b).2.1) {a : Nat} (q0 : Nat) {fs : List Value} (he : ws[q0]? = some (a, .inr (ci, fs))) (hcl : vwCl[ci]? = some (C, T, N)) (k : Nat) (hk : k < N) (hlink : Cond.fieldLink own index (T k).1 (T k).2.1 (T k).2.2.1 ∈ Ts) (hfin : (T k).2.2.2 = true) (hdecl : (T k).1 = own) {v : Value} (hn : narrow (ty0 k) v = v) (hfit : fits (ty0 k) v = true) (hlf : k < fs.length) (d : decode cc pc = .ok (.putfield index, 3)) (hw : ws.set q0 (a, .inr (ci, fs.set k v)) = ws') (kk : WL p l e R s m args below meth c Q D A nL ws' cs ss lv (pc + 3) sk) : WL p l e R s m args below meth c Q D A nL ws cs ss lv pc (v :: .ref a :: sk) := fun H locs ls hP hD hS hl =>
  va_putF (D := D) (ci := ci) (v := v) (C := C) (T := T) (N := N) (ty := ty0 k) hc.1 hc.2.1 hc.2.2.2.2 hin ty0 hty hnm hc.2.2.2.1 hx.1.1 hP hD hS q0 he hcl k hk (hc.2.2.2.2 _ hlink) (fun _ h9 => h9) hfin hin2 hdecl (hty k hk) hn hfit hlf d (fun H1 locs1 hP1 hD1 hS1 => by
    rw [hw] at hP1 hD1
    exact kk H1 locs1 ls hP1 hD1 hS1 hl)
theorem wl_put (hc : CallFix p m c cc nL s args Ts own) (hx : CC s D cy A) {C : String} {T : u_T} {N ci index : Nat} (hin : ∀ w ∈ u_ws C T N, w ∈ Ts) (ty0 : Nat → FieldType) (hty : ∀ k, k < N → parseFieldDescriptor (T k).2.2.1 = some (ty0 k)) (hnm : ∀ a, a < N → ∀ b, b < N → a ≠ b → (T a).2.1 ≠ (T b).2.1) {a : Nat} (q0 : Nat) {fs : List Value} (he : ws[q0]? = some (a, .inr (ci, fs))) (hcl : vwCl[ci]? = some (C, T, N)) (k : Nat) (hk : k < N) (hlink : Cond.fieldLink own index (T k).1 (T k).2.1 (T k).2.2.1 ∈ Ts) (hfin : (T k).2.2.2 = false) {v : Value} (hn : narrow (ty0 k) v = v) (hfit : fits (ty0 k) v = true) (hlf : k < fs.length) (d : decode cc pc = .ok (.putfield index, 3)) (hw : ws.set q0 (a, .inr (ci, fs.set k v)) = ws') (kk : WL p l e R s m args below meth c Q D A nL ws' cs ss lv (pc + 3) sk) : WL p l e R s m args below meth c Q D A nL ws cs ss lv pc (v :: .ref a :: sk) := fun H locs ls hP hD hS hl =>
  va_put (D := D) (ci := ci) (v := v) (C := C) (T := T) (N := N) (ty := ty0 k) hc.1 hc.2.1 hc.2.2.2.2 hin ty0 hty hnm hc.2.2.2.1 hx.1.1 hP hD hS q0 he hcl k hk (hc.2.2.2.2 _ hlink) (fun _ h9 => h9) hfin (hty k hk) hn hfit hlf d (fun H1 locs1 hP1 hD1 hS1 => by
    rw [hw] at hP1 hD1
    exact kk H1 locs1 ls hP1 hD1 hS1 hl)
theorem wl_iast (hc : CallFix p m c cc nL s args Ts own) (hx : CC s D cy A) {a n : Nat} {f : Nat → Int32} (q0 : Nat) (he : ws[q0]? = some (a, .inl (cy 1, n, .inl f))) {i v : Int32} (k : Nat) (hk : i.toNatClampNeg = k) (hi : vp_in i n) (d : decode cc pc = .ok (.iastore, 1)) (hw : ws.set q0 (a, .inl (cy 1, n, .inl (upd f k v))) = ws') (kk : WL p l e R s m args below meth c Q D A nL ws' cs ss lv (pc + 1) sk) : WL p l e R s m args below meth c Q D A nL ws cs ss lv pc (.int v :: .int i :: .ref a :: sk) := fun H locs ls hP hD hS hl =>
  va_iast hc.1 hc.2.1 hx.1.1 hP hD hS q0 1 he rfl hi d (fun H1 locs1 hP1 hD1 hS1 => by
    rw [hk, hw] at hP1 hD1
    exact kk H1 locs1 ls hP1 hD1 hS1 hl)
theorem wl_ast (hc : CallFix p m c cc nL s args Ts own) (hx : CC s D cy A) {a n v : Nat} {c0 : ClassId} {f : Nat → Option Nat} (q0 qk t0 ci : Nat) {r : vw_C} {vs : List Value} (he : ws[q0]? = some (a, .inl (c0, n, .inr (.inr (.inr (.inr f)))))) (ht : (tyl cy)[t0]? = some (c0, .object r.1)) (hv : ws[qk]? = some (v, .inr (ci, vs))) (hcl : vwCl[ci]? = some r) {i : Int32} (k : Nat) (hk : i.toNatClampNeg = k) (hi : vp_in i n) (d : decode cc pc = .ok (.aastore, 1)) (hw : ws.set q0 (a, .inl (c0, n, .inr (.inr (.inr (.inr (va_up f k (some v))))))) = ws') (kk : WL p l e R s m args below meth c Q D A nL ws' cs ss lv (pc + 1) sk) : WL p l e R s m args below meth c Q D A nL ws cs ss lv pc (.ref v :: .int i :: .ref a :: sk) := fun H locs ls hP hD hS hl =>
  va_astq hc.1 hc.2.1 hx.1.1 hP hD hS q0 t0 qk ci he ht hv hcl hi d (fun H1 locs1 hP1 hD1 hS1 => by
    rw [hk, hw] at hP1 hD1
    exact kk H1 locs1 ls hP1 hD1 hS1 hl)
theorem KN_blind {D : va_G} {cy : Nat → ClassId} {av : List Value} {h0 sz : Nat} {e0 : va_E} : FrameBlind (va_Pc av (fun U => U.heap.size = sz ∧ va_P D vwCl [(h0, e0)] U.heap ∧ CKs D cy U)) := fun _ U _ _ q => ⟨q.1, q.2.1, q.2.2.1, CKs.same rfl q.2.2.2⟩
theorem wl_init (hc : CallFix p m c cc nL s args Ts own) (hx : CC s D cy A) {y : MethodName} {bytes : ByteArray} {maxL : Nat} {ws0 : List Cond} {rm : Room} {index mc ms : Nat} {rest : List Value} {x : Nat} {e0 : va_E} {Y Rs : va_W} {S : Type} {post : S → Prop} {blk : S → va_W} (hM : ∀ sz, KN l y ws0 rm D cy x e0 sz post blk mc ms) (cw : CallB R s args own index y bytes maxL none ws0 rm mc ms 0 ∧ y.name = "<init>" ∧ (Cond.instanceMethod y).before args s = true) (hroom : (rest.map fun v => v.category).sum ≤ 8) (h1 : cs + mc ≤ R.cells) (h2 : ss + ms ≤ R.slots) (d : decode cc pc = .ok (.invokespecial index, 3)) (kk : ∀ q : S, post q → WL p l e R s m args below meth c Q D A nL (Y ++ (blk q ++ Rs)) (cs + mc) (ss + ms) lv (pc + 3) rest) : WL p l e R s m args below meth c Q D A nL ((x, e0) :: (Y ++ Rs)) cs ss lv pc (.ref x :: rest) := fun H locs ls hP hD hS hl => by
  have hF : ∀ q, va_A [(x, e0)] H.size q → A q := fun q h => by
    rcases h with ⟨k, e, h⟩ | h
    · have hx : (q, e) = (x, e0) := by simpa using List.mem_of_getElem? h
      cases hx
      exact (D_nd.mp hD).2 (x, e0) List.mem_cons_self
    · exact hx.2 q (Nat.le_trans hS.1 h)
  exact va_callv (va_runI (As := []) (rest := rest) hc (hM H.size) cw ⟨KN_blind, fun U hU hW => ⟨rfl, by rw [hU], by rw [hU]; exact P_mem.mpr (fun q hq => P_mem.mp hP q (by simp at hq; rw [hq]; exact List.mem_cons_self)), CKs.warm hW hx.1⟩⟩ rfl rfl hl.1 rfl (lv_room hroom) d ⟨h1, h2⟩) hS (fun q _ h => hF q h) hF (fun u t H1 locs1 ht hvm hw hB hz1 hk1 hS1 => by
    obtain ⟨hP1, hD1⟩ := hB
    rw [ht] at hP1
    obtain ⟨hP2, hD2⟩ := joinC hP hD hk1 hF hP1 hD1
    exact kk u hw H1 locs1 ls hP2 hD2 hS1 hl)
theorem wl_initN (hc : CallFix p m c cc nL s args Ts own) (hx : CC s D cy A) {y : MethodName} {host : String} {bytes : ByteArray} {maxL : Nat} {ws0 : List Cond} {rm : Room} {index mc ms : Nat} {rest : List Value} {x : Nat} {e0 : va_E} {Y Rs : va_W} {S : Type} {post : S → Prop} {blk : S → va_W} (hM : ∀ sz, KN l y ws0 rm D cy x e0 sz post blk mc ms) (cw : va_CN R s args own index y host bytes maxL none ws0 rm mc ms 0 ∧ y.name = "<init>" ∧ (Cond.instanceMethod y).before args s = true) (hroom : (rest.map fun v => v.category).sum ≤ 8) (h1 : cs + mc ≤ R.cells) (h2 : ss + ms ≤ R.slots) (d : decode cc pc = .ok (.invokespecial index, 3)) (kk : ∀ q : S, post q → WL p l e R s m args below meth c Q D A nL (Y ++ (blk q ++ Rs)) (cs + mc) (ss + ms) lv (pc + 3) rest) : WL p l e R s m args below meth c Q D A nL ((x, e0) :: (Y ++ Rs)) cs ss lv pc (.ref x :: rest) := fun H locs ls hP hD hS hl => by
  have hF : ∀ q, va_A [(x, e0)] H.size q → A q := fun q h => by
    rcases h with ⟨k, e, h⟩ | h
    · have hx : (q, e) = (x, e0) := by simpa using List.mem_of_getElem? h
      cases hx
      exact (D_nd.mp hD).2 (x, e0) List.mem_cons_self
    · exact hx.2 q (Nat.le_trans hS.1 h)
  exact va_callv (va_runIN (As := []) (rest := rest) hc (hM H.size) cw ⟨KN_blind, fun U hU hW => ⟨rfl, by rw [hU], by rw [hU]; exact P_mem.mpr (fun q hq => P_mem.mp hP q (by simp at hq; rw [hq]; exact List.mem_cons_self)), CKs.warm hW hx.1⟩⟩ rfl rfl hl.1 rfl (lv_room hroom) d ⟨h1, h2⟩) hS (fun q _ h => hF q h) hF (fun u t H1 locs1 ht hvm hw hB hz1 hk1 hS1 => by
    obtain ⟨hP1, hD1⟩ := hB
    rw [ht] at hP1
    obtain ⟨hP2, hD2⟩ := joinC hP hD hk1 hF hP1 hD1
    exact kk u hw H1 locs1 ls hP2 hD2 hS1 hl)
theorem wl_fn {a n : Nat} {c0 : ClassId} {f g : Nat → Option Nat} (q0 : Nat) (he : ws[q0]? = some (a, .inl (c0, n, .inr (.inr (.inr (.inr f)))))) (h : ∀ i, i < n → f i = g i) (hw : ws.set q0 (a, .inl (c0, n, .inr (.inr (.inr (.inr g))))) = ws') (kk : WL p l e R s m args below meth c Q D A nL ws' cs ss lv pc sk) : WL p l e R s m args below meth c Q D A nL ws cs ss lv pc sk := fun H locs ls hP hD hS hl => by
  have hcell : vp_cell c0 (n, .inr (.inr (.inr (.inr f)))) = vp_cell c0 (n, .inr (.inr (.inr (.inr g)))) := by
    rw [vp_cell_q, vp_cell_q]
    unfold arrV
    congr 1
    apply Array.ext
    · simp
    · intro i h1 h2
      simp only [Array.getElem_ofFn]
      rw [h i (by simpa using h1)]
  have hP' : va_P D vwCl ws' H := by
    rw [← hw]
    intro k q hk
    by_cases e : q0 = k
    · subst e
      have hlt : q0 < ws.length := (List.getElem?_eq_some_iff.mp he).1
      rw [List.getElem?_set_self hlt] at hk
      cases hk
      have := hP q0 _ he
      show H[a]? = some (vp_cell _ _)
      rw [← hcell]
      exact this
    · rw [List.getElem?_set_ne e] at hk
      exact hP k q hk
  have hD' : va_D A ws' := by
    rw [← hw]
    exact hD.set he
  exact kk H locs ls hP' hD' hS hl
theorem wl_vret (hc : CallFix p m c cc nL s args Ts own) (hr : meth.sig.returnType = none) (hk : meth.locks = false) {S : Type} {post : S → Prop} {blk : S → va_W} (q : S) (hp : post q) (hw : ws.Perm (blk q)) (d : decode cc pc = .ok (.return_, 1)) : WL p l e R s m args below meth c (MQ below (va_Qv post (fun q t => va_P D vwCl (blk q) t.heap ∧ va_D A (blk q)) A) args s cs ss A) D A nL ws cs ss lv pc [] := fun H locs ls hP hD hS hl =>
  W.vret hc.1 hc.2.1 hr (fun t ht hW => ⟨⟨q, rfl, hp, by rw [ht]; exact P_perm hP hw, D_perm hD hw⟩, hS.F ht⟩) hS.2.2 d hk
end
theorem met_in {l : Launch} {y : MethodName} {ws ws' : List Cond} {rm : Room} {cc : ByteArray} {maxL : Nat} {own : String} {D : va_G} {cy : Nat → ClassId} {h0 sz : Nat} {e0 : va_E} {S : Type} {post : S → Prop} {blk : S → va_W} {mc ms : Nat} (hy : plainName y.cls = true) (hw : ws = Cond.code y cc maxL none :: ws') (ho : y.cls = own) (hn : y.name = "<init>") (hlen : 1 ≤ maxL)
    (body : ∀ (p : Program) (e : Env) (s : State) (m : MethodId) (below : List Frame) (meth : Method) (c : Code) (A : Nat → Prop), CallFix p m c cc maxL s [Value.ref h0].toArray ws own → CC s D cy A → meth.name = "<init>" → meth.sig.returnType = none → meth.locks = false → WL p l e rm s m [Value.ref h0].toArray below meth c (MQ below (va_Qv post (fun q t => va_P D vwCl (blk q) t.heap ∧ va_D A (blk q)) A) [Value.ref h0].toArray s mc ms A) D A maxL [(h0, e0)] 0 0 [(0, .ref h0)] 0 []) : KN l y ws rm D cy h0 e0 sz post blk mc ms := by
  refine Met.ofW (cc := cc) (maxL := maxL) (ret := none) hy hw ?_
  intro p e s m args below meth c s₁ B hml hv
  obtain ⟨rfl, hsz, hP, hK⟩ := hv
  subst hsz
  have hts := atoms_spec (ws := ws) B.pre
  have hown : s.vm.findClass own = some m.cls := by rw [← ho]; exact findClass_of_methodNamed B.named
  have hin : meth.name = "<init>" := by rw [← hn]; exact (name_of_methodNamed B.named B.method).1
  have hl := lv_entry [Value.ref h0] (n := maxL) hlen
  rw [lg_entry_eq]
  exact body p e s m below meth c _ ⟨B.exec, B.bytes, hml, hown, hts⟩ ⟨hK, fun q h => Or.inr h⟩ hin B.returns B.notSynchronized s.heap [] _ hP (D_nd.mpr ⟨by simp, fun q hq => by simp at hq; subst hq; exact va_A.in (k := 0) rfl⟩) va_S.rf hl
