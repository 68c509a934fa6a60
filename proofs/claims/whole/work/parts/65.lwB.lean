theorem ixL {i : Int32} {L : Nat} (hi : 0 ≤ i.toInt ∧ i.toInt + 5 ≤ (L : Int)) (hL : L ≤ 2560) {k : Int32} (hk : 0 ≤ k.toInt ∧ k.toInt < 5) : vp_in (i + k) L := by
  have t : (i + k).toInt = i.toInt + k.toInt := by rw [fb_addI (by omega) (by omega)]
  exact vin (by omega)
def lvL (b : Nat) (z : Nat → Nat) (i : Int32) : List (Nat × Value) := [(3, .int i), (2, .ref (z 100)), (1, .ref (z 0)), (0, .ref b)]
section
variable {p : Program} {l : Launch} {e : Env} {s : State} {m : MethodId} {args : Array Value} {below : List Frame} {meth : Method} {c : Code} {Q : State → Prop}
variable {D : va_G} {cy : Nat → ClassId} {z : Nat → Nat} {C N : Mem} {nL cs ss : Nat} {lv : List (Nat × Value)} {pc : Nat} {sk : List Value} {cc : ByteArray} {Ts : List Cond} {own : String} {R : Room}
theorem wq_callCp (hc : CallFix p m c cc nL s args Ts own) (hx : LX s D cy z) {y : MethodName} {bytes : ByteArray} {maxL : Nat} {ret : Option FieldType} {ws : List Cond} {rm : Room} {index k0 : Nat} {As : List Value} {sk0 rest : List Value} {post : Int64 → Mem → Prop} (hM : KL l y ws rm D cy z 0 100 (.ref (z 0) :: As) C post) (cw : CallW R s args own RX5 index y bytes maxL ret ws rm 0 0 k0) (hn : As.length = k0) (hst : sk0 = As.reverse ++ .ref (z 0) :: rest) (hroom : (rest.map fun v => v.category).sum ≤ 8) (h1 : cs ≤ R.cells) (h2 : ss ≤ R.slots) (d : decode cc pc = .ok (.invokevirtual index, 3)) (kk : ∀ (r : Int64) (u : Mem), post r u → WQ p l e R s m args below meth c Q (OL s D cy z u N) nL cs ss lv (pc + 3) (.long r :: rest)) : WQ p l e R s m args below meth c Q (OL s D cy z C N) nL cs ss lv pc sk0 := fun H locs ls hO hl =>
  va_calll (va_runV (As := As) (rest := rest) hc hM cw ⟨PC_blind, va_recv hx.1 hO.1 (q0 := 0 - 0) (ci := 4) rfl (by rw [wR_at (by decide) (by decide), ce_4 rfl]; rfl), (fun U hU hW => ⟨rfl, by rw [hU]; exact hO.1, va_K.moved hW.alike hx.1, NW.warm hW hx.2.1⟩)⟩ rfl hn hl.1 hst (lv_room hroom) d ⟨h1, h2⟩) hO.2.2 (fun q _ h => az_ag hx (by decide) q h) (fun q h => az_ag hx (by decide) q h) (fun r u t H1 locs1 ht hvm hw hB hz1 hk1 hS => kk r u hw H1 locs1 ls ⟨by rw [← ht]; exact hB, wR_kept hx (by decide) (by decide) (by decide) hO.2.1 hk1, hS⟩ hl)
theorem wq_lcmp0 (hc : CallFix p m c cc nL s args Ts own) {x y : Int64} (hxy : x = y) (d : decode cc pc = .ok (.lcmp, 1)) (k : WQ p l e R s m args below meth c Q (OL s D cy z C N) nL cs ss lv (pc + 1) (.int 0 :: sk)) : WQ p l e R s m args below meth c Q (OL s D cy z C N) nL cs ss lv pc (.long y :: .long x :: sk) := fun H locs ls hO hl => by
  subst hxy
  refine W.lcmp hc.1 hc.2.1 d ?_
  have e1 : lg_cmp x x = 0 := by simp [lg_cmp]
  rw [e1]
  exact k H locs ls hO hl
end
section
variable {p : Program} {l : Launch} {e : Env} {s : State} {m : MethodId} {args : Array Value} {below : List Frame} {meth : Method} {c : Code} {Q : State → Prop}
variable {D : va_G} {cy : Nat → ClassId} {z : Nat → Nat} {C N : Mem} {cs ss b L : Nat} {xs : Nat → Int32} {i : Int32}
theorem lc_box (hc : CallFix p m c cL_law 4 s args wsL_law RL) (hx : LX s D cy z) (rel : RelC C N) (hX : va_X b L xs s s.heap) (hbl : b < s.heap.size) (hi : 0 ≤ i.toInt ∧ i.toInt + 5 ≤ (L : Int)) (hL : L ≤ 2560) (hcs : cs ≤ room_1.cells) (hss : ss ≤ room_1.slots) (kk : ∀ C' N' : Mem, RelC C' N' → WQ p l e room_1 s m args below meth c Q (OL s D cy z C' N') 4 cs ss (lvL b z i) 797 []) : WQ p l e room_1 s m args below meth c Q (OL s D cy z C N) 4 cs ss (lvL b z i) 144 [] := by
  refine wq_aload_n hc 2 dL_law_144 rfl ?_
  refine wq_callC (As := []) (rest := []) (w := sX5_box C ) hc hx (kX5_box l D cy z hx.2.2.1 C  rel.1 (rl_p rel) (rl_k rel)) (cwV 0 hc.2.2.2.2 gL_law_X5_box rfl rfl rfl (by decide +kernel) ⟨Nat.le_of_ble_eq_true rfl, Nat.le_of_ble_eq_true rfl⟩) rfl rfl (Nat.le_of_ble_eq_true rfl) hcs hss dL_law_145 (fun x hxx => ?_)
  refine wq_aload_n hc 1 dL_law_148 rfl ?_
  refine wq_callN (As := []) (rest := [.int x.1]) (w := sX6_box N ) hc hx (kX6_box l D cy z hx.2.2.1 N  rel.2.1.2.1 rel.2.2.1.2) (cwV 0 hc.2.2.2.2 gL_law_X6_box rfl rfl rfl (by decide +kernel) ⟨Nat.le_of_ble_eq_true rfl, Nat.le_of_ble_eq_true rfl⟩) rfl rfl (Nat.le_of_ble_eq_true rfl) hcs hss dL_law_149 (fun y hy => ?_)
  have sm : Sim x y := by rw [hxx, hy]; exact sim_box rel
  exact wq_icmp_eq hc dL_law_152 rfl sm.1 (kk x.2 y.2 sm.2)
theorem lc_sets (hc : CallFix p m c cL_law 4 s args wsL_law RL) (hx : LX s D cy z) (rel : RelC C N) (hX : va_X b L xs s s.heap) (hbl : b < s.heap.size) (hi : 0 ≤ i.toInt ∧ i.toInt + 5 ≤ (L : Int)) (hL : L ≤ 2560) (hcs : cs ≤ room_1.cells) (hss : ss ≤ room_1.slots) (kk : ∀ C' N' : Mem, RelC C' N' → WQ p l e room_1 s m args below meth c Q (OL s D cy z C' N') 4 cs ss (lvL b z i) 797 []) : WQ p l e room_1 s m args below meth c Q (OL s D cy z C N) 4 cs ss (lvL b z i) 157 [] := by
  refine wq_aload_n hc 2 dL_law_157 rfl ?_
  refine wq_arg hc hX hbl 3 0 rfl rfl (kv := 1) rfl (ixL hi hL (by decide)) dL_law_158 dL_law_159 dL_law_160 dL_law_161 dL_law_162 ?_
  refine wq_arg hc hX hbl 3 0 rfl rfl (kv := 2) rfl (ixL hi hL (by decide)) dL_law_163 dL_law_164 dL_law_165 dL_law_166 dL_law_167 ?_
  refine wq_arg hc hX hbl 3 0 rfl rfl (kv := 3) rfl (ixL hi hL (by decide)) dL_law_168 dL_law_169 dL_law_170 dL_law_171 dL_law_172 ?_
  refine wq_arg hc hX hbl 3 0 rfl rfl (kv := 4) rfl (ixL hi hL (by decide)) dL_law_173 dL_law_174 dL_law_175 dL_law_176 dL_law_177 ?_
  refine wq_callC (As := [.int (xs (i + 1).toNatClampNeg), .int (xs (i + 2).toNatClampNeg), .int (xs (i + 3).toNatClampNeg), .int (xs (i + 4).toNatClampNeg)]) (rest := []) (w := sX5_sets C (xs (i + 1).toNatClampNeg) (xs (i + 2).toNatClampNeg) (xs (i + 3).toNatClampNeg) (xs (i + 4).toNatClampNeg)) hc hx (kX5_sets l D cy z hx.2.2.1 C (xs (i + 1).toNatClampNeg) (xs (i + 2).toNatClampNeg) (xs (i + 3).toNatClampNeg) (xs (i + 4).toNatClampNeg) rel.1 (rl_p rel) (rl_k rel)) (cwV 4 hc.2.2.2.2 gL_law_X5_sets rfl rfl rfl (by decide +kernel) ⟨Nat.le_of_ble_eq_true rfl, Nat.le_of_ble_eq_true rfl⟩) rfl rfl (Nat.le_of_ble_eq_true rfl) hcs hss dL_law_178 (fun x hxx => ?_)
  refine wq_aload_n hc 1 dL_law_181 rfl ?_
  refine wq_arg hc hX hbl 3 0 rfl rfl (kv := 1) rfl (ixL hi hL (by decide)) dL_law_182 dL_law_183 dL_law_184 dL_law_185 dL_law_186 ?_
  refine wq_arg hc hX hbl 3 0 rfl rfl (kv := 2) rfl (ixL hi hL (by decide)) dL_law_187 dL_law_188 dL_law_189 dL_law_190 dL_law_191 ?_
  refine wq_arg hc hX hbl 3 0 rfl rfl (kv := 3) rfl (ixL hi hL (by decide)) dL_law_192 dL_law_193 dL_law_194 dL_law_195 dL_law_196 ?_
  refine wq_arg hc hX hbl 3 0 rfl rfl (kv := 4) rfl (ixL hi hL (by decide)) dL_law_197 dL_law_198 dL_law_199 dL_law_200 dL_law_201 ?_
  refine wq_callN (As := [.int (xs (i + 1).toNatClampNeg), .int (xs (i + 2).toNatClampNeg), .int (xs (i + 3).toNatClampNeg), .int (xs (i + 4).toNatClampNeg)]) (rest := [.int x.1]) (w := sX6_sets N (xs (i + 1).toNatClampNeg) (xs (i + 2).toNatClampNeg) (xs (i + 3).toNatClampNeg) (xs (i + 4).toNatClampNeg)) hc hx (kX6_sets l D cy z hx.2.2.1 N (xs (i + 1).toNatClampNeg) (xs (i + 2).toNatClampNeg) (xs (i + 3).toNatClampNeg) (xs (i + 4).toNatClampNeg) rel.2.1.2.1 rel.2.2.1.2) (cwV 4 hc.2.2.2.2 gL_law_X6_sets rfl rfl rfl (by decide +kernel) ⟨Nat.le_of_ble_eq_true rfl, Nat.le_of_ble_eq_true rfl⟩) rfl rfl (Nat.le_of_ble_eq_true rfl) hcs hss dL_law_202 (fun y hy => ?_)
  have sm : Sim x y := by rw [hxx, hy]; exact sim_sets rel
  exact wq_icmp_eq hc dL_law_205 rfl sm.1 (kk x.2 y.2 sm.2)
theorem lc_errs (hc : CallFix p m c cL_law 4 s args wsL_law RL) (hx : LX s D cy z) (rel : RelC C N) (hX : va_X b L xs s s.heap) (hbl : b < s.heap.size) (hi : 0 ≤ i.toInt ∧ i.toInt + 5 ≤ (L : Int)) (hL : L ≤ 2560) (hcs : cs ≤ room_1.cells) (hss : ss ≤ room_1.slots) (kk : ∀ C' N' : Mem, RelC C' N' → WQ p l e room_1 s m args below meth c Q (OL s D cy z C' N') 4 cs ss (lvL b z i) 797 []) : WQ p l e room_1 s m args below meth c Q (OL s D cy z C N) 4 cs ss (lvL b z i) 210 [] := by
  refine wq_aload_n hc 2 dL_law_210 rfl ?_
  refine wq_arg hc hX hbl 3 0 rfl rfl (kv := 1) rfl (ixL hi hL (by decide)) dL_law_211 dL_law_212 dL_law_213 dL_law_214 dL_law_215 ?_
  refine wq_arg hc hX hbl 3 0 rfl rfl (kv := 2) rfl (ixL hi hL (by decide)) dL_law_216 dL_law_217 dL_law_218 dL_law_219 dL_law_220 ?_
  refine wq_arg hc hX hbl 3 0 rfl rfl (kv := 3) rfl (ixL hi hL (by decide)) dL_law_221 dL_law_222 dL_law_223 dL_law_224 dL_law_225 ?_
  refine wq_callC (As := [.int (xs (i + 1).toNatClampNeg), .int (xs (i + 2).toNatClampNeg), .int (xs (i + 3).toNatClampNeg)]) (rest := []) (w := sX5_errs C (xs (i + 1).toNatClampNeg) (xs (i + 2).toNatClampNeg) (xs (i + 3).toNatClampNeg)) hc hx (kX5_errs l D cy z hx.2.2.1 C (xs (i + 1).toNatClampNeg) (xs (i + 2).toNatClampNeg) (xs (i + 3).toNatClampNeg) rel.1 (rl_p rel) (rl_k rel)) (cwV 3 hc.2.2.2.2 gL_law_X5_errs rfl rfl rfl (by decide +kernel) ⟨Nat.le_of_ble_eq_true rfl, Nat.le_of_ble_eq_true rfl⟩) rfl rfl (Nat.le_of_ble_eq_true rfl) hcs hss dL_law_226 (fun x hxx => ?_)
  refine wq_aload_n hc 1 dL_law_229 rfl ?_
  refine wq_arg hc hX hbl 3 0 rfl rfl (kv := 1) rfl (ixL hi hL (by decide)) dL_law_230 dL_law_231 dL_law_232 dL_law_233 dL_law_234 ?_
  refine wq_arg hc hX hbl 3 0 rfl rfl (kv := 2) rfl (ixL hi hL (by decide)) dL_law_235 dL_law_236 dL_law_237 dL_law_238 dL_law_239 ?_
  refine wq_arg hc hX hbl 3 0 rfl rfl (kv := 3) rfl (ixL hi hL (by decide)) dL_law_240 dL_law_241 dL_law_242 dL_law_243 dL_law_244 ?_
  refine wq_callN (As := [.int (xs (i + 1).toNatClampNeg), .int (xs (i + 2).toNatClampNeg), .int (xs (i + 3).toNatClampNeg)]) (rest := [.int x.1]) (w := sX6_errs N (xs (i + 1).toNatClampNeg) (xs (i + 2).toNatClampNeg) (xs (i + 3).toNatClampNeg)) hc hx (kX6_errs l D cy z hx.2.2.1 N (xs (i + 1).toNatClampNeg) (xs (i + 2).toNatClampNeg) (xs (i + 3).toNatClampNeg) rel.2.1.2.1 rel.2.2.1.2) (cwV 3 hc.2.2.2.2 gL_law_X6_errs rfl rfl rfl (by decide +kernel) ⟨Nat.le_of_ble_eq_true rfl, Nat.le_of_ble_eq_true rfl⟩) rfl rfl (Nat.le_of_ble_eq_true rfl) hcs hss dL_law_245 (fun y hy => ?_)
  have sm : Sim x y := by rw [hxx, hy]; exact sim_errs rel
  exact wq_icmp_eq hc dL_law_248 rfl sm.1 (kk x.2 y.2 sm.2)
theorem lc_drops (hc : CallFix p m c cL_law 4 s args wsL_law RL) (hx : LX s D cy z) (rel : RelC C N) (hX : va_X b L xs s s.heap) (hbl : b < s.heap.size) (hi : 0 ≤ i.toInt ∧ i.toInt + 5 ≤ (L : Int)) (hL : L ≤ 2560) (hcs : cs ≤ room_1.cells) (hss : ss ≤ room_1.slots) (kk : ∀ C' N' : Mem, RelC C' N' → WQ p l e room_1 s m args below meth c Q (OL s D cy z C' N') 4 cs ss (lvL b z i) 797 []) : WQ p l e room_1 s m args below meth c Q (OL s D cy z C N) 4 cs ss (lvL b z i) 253 [] := by
  refine wq_aload_n hc 2 dL_law_253 rfl ?_
  refine wq_arg hc hX hbl 3 0 rfl rfl (kv := 1) rfl (ixL hi hL (by decide)) dL_law_254 dL_law_255 dL_law_256 dL_law_257 dL_law_258 ?_
  refine wq_callC (As := [.int (xs (i + 1).toNatClampNeg)]) (rest := []) (w := sX5_drops C (xs (i + 1).toNatClampNeg)) hc hx (kX5_drops l D cy z hx.2.2.1 C (xs (i + 1).toNatClampNeg) rel.1 (rl_p rel) (rl_k rel)) (cwV 1 hc.2.2.2.2 gL_law_X5_drops rfl rfl rfl (by decide +kernel) ⟨Nat.le_of_ble_eq_true rfl, Nat.le_of_ble_eq_true rfl⟩) rfl rfl (Nat.le_of_ble_eq_true rfl) hcs hss dL_law_259 (fun x hxx => ?_)
  refine wq_aload_n hc 1 dL_law_262 rfl ?_
  refine wq_arg hc hX hbl 3 0 rfl rfl (kv := 1) rfl (ixL hi hL (by decide)) dL_law_263 dL_law_264 dL_law_265 dL_law_266 dL_law_267 ?_
  refine wq_callN (As := [.int (xs (i + 1).toNatClampNeg)]) (rest := [.int x.1]) (w := sX6_drops N (xs (i + 1).toNatClampNeg)) hc hx (kX6_drops l D cy z hx.2.2.1 N (xs (i + 1).toNatClampNeg) rel.2.1.2.1 rel.2.2.1.2) (cwV 1 hc.2.2.2.2 gL_law_X6_drops rfl rfl rfl (by decide +kernel) ⟨Nat.le_of_ble_eq_true rfl, Nat.le_of_ble_eq_true rfl⟩) rfl rfl (Nat.le_of_ble_eq_true rfl) hcs hss dL_law_268 (fun y hy => ?_)
  have sm : Sim x y := by rw [hxx, hy]; exact sim_drops rel
  exact wq_icmp_eq hc dL_law_271 rfl sm.1 (kk x.2 y.2 sm.2)
theorem lc_of (hc : CallFix p m c cL_law 4 s args wsL_law RL) (hx : LX s D cy z) (rel : RelC C N) (hX : va_X b L xs s s.heap) (hbl : b < s.heap.size) (hi : 0 ≤ i.toInt ∧ i.toInt + 5 ≤ (L : Int)) (hL : L ≤ 2560) (hcs : cs ≤ room_1.cells) (hss : ss ≤ room_1.slots) (kk : ∀ C' N' : Mem, RelC C' N' → WQ p l e room_1 s m args below meth c Q (OL s D cy z C' N') 4 cs ss (lvL b z i) 797 []) : WQ p l e room_1 s m args below meth c Q (OL s D cy z C N) 4 cs ss (lvL b z i) 276 [] := by
  refine wq_aload_n hc 2 dL_law_276 rfl ?_
  refine wq_arg hc hX hbl 3 0 rfl rfl (kv := 1) rfl (ixL hi hL (by decide)) dL_law_277 dL_law_278 dL_law_279 dL_law_280 dL_law_281 ?_
  refine wq_arg hc hX hbl 3 0 rfl rfl (kv := 2) rfl (ixL hi hL (by decide)) dL_law_282 dL_law_283 dL_law_284 dL_law_285 dL_law_286 ?_
  refine wq_callC (As := [.int (xs (i + 1).toNatClampNeg), .int (xs (i + 2).toNatClampNeg)]) (rest := []) (w := sX5_of C (xs (i + 1).toNatClampNeg) (xs (i + 2).toNatClampNeg)) hc hx (kX5_of l D cy z hx.2.2.1 C (xs (i + 1).toNatClampNeg) (xs (i + 2).toNatClampNeg) rel.1) (cwV 2 hc.2.2.2.2 gL_law_X5_of rfl rfl rfl (by decide +kernel) ⟨Nat.le_of_ble_eq_true rfl, Nat.le_of_ble_eq_true rfl⟩) rfl rfl (Nat.le_of_ble_eq_true rfl) hcs hss dL_law_287 (fun x hxx => ?_)
  refine wq_aload_n hc 1 dL_law_290 rfl ?_
  refine wq_arg hc hX hbl 3 0 rfl rfl (kv := 1) rfl (ixL hi hL (by decide)) dL_law_291 dL_law_292 dL_law_293 dL_law_294 dL_law_295 ?_
  refine wq_arg hc hX hbl 3 0 rfl rfl (kv := 2) rfl (ixL hi hL (by decide)) dL_law_296 dL_law_297 dL_law_298 dL_law_299 dL_law_300 ?_
  refine wq_callN (As := [.int (xs (i + 1).toNatClampNeg), .int (xs (i + 2).toNatClampNeg)]) (rest := [.int x.1]) (w := sX6_of N (xs (i + 1).toNatClampNeg) (xs (i + 2).toNatClampNeg)) hc hx (kX6_of l D cy z hx.2.2.1 N (xs (i + 1).toNatClampNeg) (xs (i + 2).toNatClampNeg) rel.2.1.2.1) (cwV 2 hc.2.2.2.2 gL_law_X6_of rfl rfl rfl (by decide +kernel) ⟨Nat.le_of_ble_eq_true rfl, Nat.le_of_ble_eq_true rfl⟩) rfl rfl (Nat.le_of_ble_eq_true rfl) hcs hss dL_law_301 (fun y hy => ?_)
  have sm : Sim x y := by rw [hxx, hy]; exact sim_of rel
  exact wq_icmp_eq hc dL_law_304 rfl sm.1 (kk x.2 y.2 sm.2)
theorem lc_error (hc : CallFix p m c cL_law 4 s args wsL_law RL) (hx : LX s D cy z) (rel : RelC C N) (hX : va_X b L xs s s.heap) (hbl : b < s.heap.size) (hi : 0 ≤ i.toInt ∧ i.toInt + 5 ≤ (L : Int)) (hL : L ≤ 2560) (hcs : cs ≤ room_1.cells) (hss : ss ≤ room_1.slots) (kk : ∀ C' N' : Mem, RelC C' N' → WQ p l e room_1 s m args below meth c Q (OL s D cy z C' N') 4 cs ss (lvL b z i) 797 []) : WQ p l e room_1 s m args below meth c Q (OL s D cy z C N) 4 cs ss (lvL b z i) 309 [] := by
  refine wq_aload_n hc 2 dL_law_309 rfl ?_
  refine wq_arg hc hX hbl 3 0 rfl rfl (kv := 1) rfl (ixL hi hL (by decide)) dL_law_310 dL_law_311 dL_law_312 dL_law_313 dL_law_314 ?_
  refine wq_callC (As := [.int (xs (i + 1).toNatClampNeg)]) (rest := []) (w := sX5_error C (xs (i + 1).toNatClampNeg)) hc hx (kX5_error l D cy z hx.2.2.1 C (xs (i + 1).toNatClampNeg) rel.1) (cwV 1 hc.2.2.2.2 gL_law_X5_error rfl rfl rfl (by decide +kernel) ⟨Nat.le_of_ble_eq_true rfl, Nat.le_of_ble_eq_true rfl⟩) rfl rfl (Nat.le_of_ble_eq_true rfl) hcs hss dL_law_315 (fun x hxx => ?_)
  refine wq_aload_n hc 1 dL_law_318 rfl ?_
  refine wq_arg hc hX hbl 3 0 rfl rfl (kv := 1) rfl (ixL hi hL (by decide)) dL_law_319 dL_law_320 dL_law_321 dL_law_322 dL_law_323 ?_
  refine wq_callN (As := [.int (xs (i + 1).toNatClampNeg)]) (rest := [.int x.1]) (w := sX6_error N (xs (i + 1).toNatClampNeg)) hc hx (kX6_error l D cy z hx.2.2.1 N (xs (i + 1).toNatClampNeg) ) (cwV 1 hc.2.2.2.2 gL_law_X6_error rfl rfl rfl (by decide +kernel) ⟨Nat.le_of_ble_eq_true rfl, Nat.le_of_ble_eq_true rfl⟩) rfl rfl (Nat.le_of_ble_eq_true rfl) hcs hss dL_law_324 (fun y hy => ?_)
  have sm : Sim x y := by rw [hxx, hy]; exact sim_error rel
  exact wq_icmp_eq hc dL_law_327 rfl sm.1 (kk x.2 y.2 sm.2)
theorem lc_told (hc : CallFix p m c cL_law 4 s args wsL_law RL) (hx : LX s D cy z) (rel : RelC C N) (hX : va_X b L xs s s.heap) (hbl : b < s.heap.size) (hi : 0 ≤ i.toInt ∧ i.toInt + 5 ≤ (L : Int)) (hL : L ≤ 2560) (hcs : cs ≤ room_1.cells) (hss : ss ≤ room_1.slots) (kk : ∀ C' N' : Mem, RelC C' N' → WQ p l e room_1 s m args below meth c Q (OL s D cy z C' N') 4 cs ss (lvL b z i) 797 []) : WQ p l e room_1 s m args below meth c Q (OL s D cy z C N) 4 cs ss (lvL b z i) 332 [] := by
  refine wq_aload_n hc 2 dL_law_332 rfl ?_
  refine wq_arg hc hX hbl 3 0 rfl rfl (kv := 1) rfl (ixL hi hL (by decide)) dL_law_333 dL_law_334 dL_law_335 dL_law_336 dL_law_337 ?_
  refine wq_arg hc hX hbl 3 0 rfl rfl (kv := 2) rfl (ixL hi hL (by decide)) dL_law_338 dL_law_339 dL_law_340 dL_law_341 dL_law_342 ?_
  refine wq_callC (As := [.int (xs (i + 1).toNatClampNeg), .int (xs (i + 2).toNatClampNeg)]) (rest := []) (w := sX5_told C (xs (i + 1).toNatClampNeg) (xs (i + 2).toNatClampNeg)) hc hx (kX5_told l D cy z hx.2.2.1 C (xs (i + 1).toNatClampNeg) (xs (i + 2).toNatClampNeg) rel.1) (cwV 2 hc.2.2.2.2 gL_law_X5_told rfl rfl rfl (by decide +kernel) ⟨Nat.le_of_ble_eq_true rfl, Nat.le_of_ble_eq_true rfl⟩) rfl rfl (Nat.le_of_ble_eq_true rfl) hcs hss dL_law_343 (fun x hxx => ?_)
  refine wq_aload_n hc 1 dL_law_346 rfl ?_
  refine wq_arg hc hX hbl 3 0 rfl rfl (kv := 1) rfl (ixL hi hL (by decide)) dL_law_347 dL_law_348 dL_law_349 dL_law_350 dL_law_351 ?_
  refine wq_arg hc hX hbl 3 0 rfl rfl (kv := 2) rfl (ixL hi hL (by decide)) dL_law_352 dL_law_353 dL_law_354 dL_law_355 dL_law_356 ?_
  refine wq_callN (As := [.int (xs (i + 1).toNatClampNeg), .int (xs (i + 2).toNatClampNeg)]) (rest := [.int x.1]) (w := sX6_told N (xs (i + 1).toNatClampNeg) (xs (i + 2).toNatClampNeg)) hc hx (kX6_told l D cy z hx.2.2.1 N (xs (i + 1).toNatClampNeg) (xs (i + 2).toNatClampNeg) rel.2.1.2.1) (cwV 2 hc.2.2.2.2 gL_law_X6_told rfl rfl rfl (by decide +kernel) ⟨Nat.le_of_ble_eq_true rfl, Nat.le_of_ble_eq_true rfl⟩) rfl rfl (Nat.le_of_ble_eq_true rfl) hcs hss dL_law_357 (fun y hy => ?_)
  have sm : Sim x y := by rw [hxx, hy]; exact sim_told rel
  exact wq_icmp_eq hc dL_law_360 rfl sm.1 (kk x.2 y.2 sm.2)
theorem lc_learns (hc : CallFix p m c cL_law 4 s args wsL_law RL) (hx : LX s D cy z) (rel : RelC C N) (hX : va_X b L xs s s.heap) (hbl : b < s.heap.size) (hi : 0 ≤ i.toInt ∧ i.toInt + 5 ≤ (L : Int)) (hL : L ≤ 2560) (hcs : cs ≤ room_1.cells) (hss : ss ≤ room_1.slots) (kk : ∀ C' N' : Mem, RelC C' N' → WQ p l e room_1 s m args below meth c Q (OL s D cy z C' N') 4 cs ss (lvL b z i) 797 []) : WQ p l e room_1 s m args below meth c Q (OL s D cy z C N) 4 cs ss (lvL b z i) 365 [] := by
  refine wq_aload_n hc 2 dL_law_365 rfl ?_
  refine wq_callC (As := []) (rest := []) (w := sX5_learns C ) hc hx (kX5_learns l D cy z hx.2.2.1 C  rel.1 (rl_p rel) (rl_k rel)) (cwV 0 hc.2.2.2.2 gL_law_X5_learns rfl rfl rfl (by decide +kernel) ⟨Nat.le_of_ble_eq_true rfl, Nat.le_of_ble_eq_true rfl⟩) rfl rfl (Nat.le_of_ble_eq_true rfl) hcs hss dL_law_366 (fun x hxx => ?_)
  refine wq_aload_n hc 1 dL_law_369 rfl ?_
  refine wq_callN (As := []) (rest := [.int x.1]) (w := sX6_learns N ) hc hx (kX6_learns l D cy z hx.2.2.1 N  rel.2.2.1.2) (cwV 0 hc.2.2.2.2 gL_law_X6_learns rfl rfl rfl (by decide +kernel) ⟨Nat.le_of_ble_eq_true rfl, Nat.le_of_ble_eq_true rfl⟩) rfl rfl (Nat.le_of_ble_eq_true rfl) hcs hss dL_law_370 (fun y hy => ?_)
  have sm : Sim x y := by rw [hxx, hy]; exact sim_learns rel
  exact wq_icmp_eq hc dL_law_373 rfl sm.1 (kk x.2 y.2 sm.2)
theorem lc_learnt (hc : CallFix p m c cL_law 4 s args wsL_law RL) (hx : LX s D cy z) (rel : RelC C N) (hX : va_X b L xs s s.heap) (hbl : b < s.heap.size) (hi : 0 ≤ i.toInt ∧ i.toInt + 5 ≤ (L : Int)) (hL : L ≤ 2560) (hcs : cs ≤ room_1.cells) (hss : ss ≤ room_1.slots) (kk : ∀ C' N' : Mem, RelC C' N' → WQ p l e room_1 s m args below meth c Q (OL s D cy z C' N') 4 cs ss (lvL b z i) 797 []) : WQ p l e room_1 s m args below meth c Q (OL s D cy z C N) 4 cs ss (lvL b z i) 378 [] := by
  refine wq_aload_n hc 2 dL_law_378 rfl ?_
  refine wq_arg hc hX hbl 3 0 rfl rfl (kv := 1) rfl (ixL hi hL (by decide)) dL_law_379 dL_law_380 dL_law_381 dL_law_382 dL_law_383 ?_
  refine wq_callC (As := [.int (xs (i + 1).toNatClampNeg)]) (rest := []) (w := sX5_learnt C (xs (i + 1).toNatClampNeg)) hc hx (kX5_learnt l D cy z hx.2.2.1 C (xs (i + 1).toNatClampNeg) rel.1) (cwV 1 hc.2.2.2.2 gL_law_X5_learnt rfl rfl rfl (by decide +kernel) ⟨Nat.le_of_ble_eq_true rfl, Nat.le_of_ble_eq_true rfl⟩) rfl rfl (Nat.le_of_ble_eq_true rfl) hcs hss dL_law_384 (fun x hxx => ?_)
  refine wq_aload_n hc 1 dL_law_387 rfl ?_
  refine wq_arg hc hX hbl 3 0 rfl rfl (kv := 1) rfl (ixL hi hL (by decide)) dL_law_388 dL_law_389 dL_law_390 dL_law_391 dL_law_392 ?_
  refine wq_callN (As := [.int (xs (i + 1).toNatClampNeg)]) (rest := [.int x.1]) (w := sX6_learnt N (xs (i + 1).toNatClampNeg)) hc hx (kX6_learnt l D cy z hx.2.2.1 N (xs (i + 1).toNatClampNeg) ) (cwV 1 hc.2.2.2.2 gL_law_X6_learnt rfl rfl rfl (by decide +kernel) ⟨Nat.le_of_ble_eq_true rfl, Nat.le_of_ble_eq_true rfl⟩) rfl rfl (Nat.le_of_ble_eq_true rfl) hcs hss dL_law_393 (fun y hy => ?_)
  have sm : Sim x y := by rw [hxx, hy]; exact sim_learnt rel
  exact wq_icmp_eq hc dL_law_396 rfl sm.1 (kk x.2 y.2 sm.2)
theorem lc_reads (hc : CallFix p m c cL_law 4 s args wsL_law RL) (hx : LX s D cy z) (rel : RelC C N) (hX : va_X b L xs s s.heap) (hbl : b < s.heap.size) (hi : 0 ≤ i.toInt ∧ i.toInt + 5 ≤ (L : Int)) (hL : L ≤ 2560) (hcs : cs ≤ room_1.cells) (hss : ss ≤ room_1.slots) (kk : ∀ C' N' : Mem, RelC C' N' → WQ p l e room_1 s m args below meth c Q (OL s D cy z C' N') 4 cs ss (lvL b z i) 797 []) : WQ p l e room_1 s m args below meth c Q (OL s D cy z C N) 4 cs ss (lvL b z i) 401 [] := by
  refine wq_aload_n hc 2 dL_law_401 rfl ?_
  refine wq_arg hc hX hbl 3 0 rfl rfl (kv := 1) rfl (ixL hi hL (by decide)) dL_law_402 dL_law_403 dL_law_404 dL_law_405 dL_law_406 ?_
  refine wq_callC (As := [.int (xs (i + 1).toNatClampNeg)]) (rest := []) (w := sX5_reads C (xs (i + 1).toNatClampNeg)) hc hx (kX5_reads l D cy z hx.2.2.1 C (xs (i + 1).toNatClampNeg) rel.1 (rl_p rel) (rl_k rel)) (cwV 1 hc.2.2.2.2 gL_law_X5_reads rfl rfl rfl (by decide +kernel) ⟨Nat.le_of_ble_eq_true rfl, Nat.le_of_ble_eq_true rfl⟩) rfl rfl (Nat.le_of_ble_eq_true rfl) hcs hss dL_law_407 (fun x hxx => ?_)
  refine wq_aload_n hc 1 dL_law_410 rfl ?_
  refine wq_arg hc hX hbl 3 0 rfl rfl (kv := 1) rfl (ixL hi hL (by decide)) dL_law_411 dL_law_412 dL_law_413 dL_law_414 dL_law_415 ?_
  refine wq_callN (As := [.int (xs (i + 1).toNatClampNeg)]) (rest := [.int x.1]) (w := sX6_reads N (xs (i + 1).toNatClampNeg)) hc hx (kX6_reads l D cy z hx.2.2.1 N (xs (i + 1).toNatClampNeg) rel.2.1.2.1 rel.2.2.1.2) (cwV 1 hc.2.2.2.2 gL_law_X6_reads rfl rfl rfl (by decide +kernel) ⟨Nat.le_of_ble_eq_true rfl, Nat.le_of_ble_eq_true rfl⟩) rfl rfl (Nat.le_of_ble_eq_true rfl) hcs hss dL_law_416 (fun y hy => ?_)
  have sm : Sim x y := by rw [hxx, hy]; exact sim_reads rel
  exact wq_icmp_eq hc dL_law_419 rfl sm.1 (kk x.2 y.2 sm.2)
theorem lc_chains (hc : CallFix p m c cL_law 4 s args wsL_law RL) (hx : LX s D cy z) (rel : RelC C N) (hX : va_X b L xs s s.heap) (hbl : b < s.heap.size) (hi : 0 ≤ i.toInt ∧ i.toInt + 5 ≤ (L : Int)) (hL : L ≤ 2560) (hcs : cs ≤ room_1.cells) (hss : ss ≤ room_1.slots) (kk : ∀ C' N' : Mem, RelC C' N' → WQ p l e room_1 s m args below meth c Q (OL s D cy z C' N') 4 cs ss (lvL b z i) 797 []) : WQ p l e room_1 s m args below meth c Q (OL s D cy z C N) 4 cs ss (lvL b z i) 424 [] := by
  refine wq_aload_n hc 2 dL_law_424 rfl ?_
  refine wq_arg hc hX hbl 3 0 rfl rfl (kv := 1) rfl (ixL hi hL (by decide)) dL_law_425 dL_law_426 dL_law_427 dL_law_428 dL_law_429 ?_
  refine wq_arg hc hX hbl 3 0 rfl rfl (kv := 2) rfl (ixL hi hL (by decide)) dL_law_430 dL_law_431 dL_law_432 dL_law_433 dL_law_434 ?_
  refine wq_callC (As := [.int (xs (i + 1).toNatClampNeg), .int (xs (i + 2).toNatClampNeg)]) (rest := []) (w := sX5_chains C (xs (i + 1).toNatClampNeg) (xs (i + 2).toNatClampNeg)) hc hx (kX5_chains l D cy z hx.2.2.1 C (xs (i + 1).toNatClampNeg) (xs (i + 2).toNatClampNeg) rel.1 (rl_p rel) (rl_k rel)) (cwV 2 hc.2.2.2.2 gL_law_X5_chains rfl rfl rfl (by decide +kernel) ⟨Nat.le_of_ble_eq_true rfl, Nat.le_of_ble_eq_true rfl⟩) rfl rfl (Nat.le_of_ble_eq_true rfl) hcs hss dL_law_435 (fun x hxx => ?_)
  refine wq_aload_n hc 1 dL_law_438 rfl ?_
  refine wq_arg hc hX hbl 3 0 rfl rfl (kv := 1) rfl (ixL hi hL (by decide)) dL_law_439 dL_law_440 dL_law_441 dL_law_442 dL_law_443 ?_
  refine wq_arg hc hX hbl 3 0 rfl rfl (kv := 2) rfl (ixL hi hL (by decide)) dL_law_444 dL_law_445 dL_law_446 dL_law_447 dL_law_448 ?_
  refine wq_callN (As := [.int (xs (i + 1).toNatClampNeg), .int (xs (i + 2).toNatClampNeg)]) (rest := [.int x.1]) (w := sX6_chains N (xs (i + 1).toNatClampNeg) (xs (i + 2).toNatClampNeg)) hc hx (kX6_chains l D cy z hx.2.2.1 N (xs (i + 1).toNatClampNeg) (xs (i + 2).toNatClampNeg) rel.2.1.2.1 rel.2.2.1.2) (cwV 2 hc.2.2.2.2 gL_law_X6_chains rfl rfl rfl (by decide +kernel) ⟨Nat.le_of_ble_eq_true rfl, Nat.le_of_ble_eq_true rfl⟩) rfl rfl (Nat.le_of_ble_eq_true rfl) hcs hss dL_law_449 (fun y hy => ?_)
  have sm : Sim x y := by rw [hxx, hy]; exact sim_chains rel
  exact wq_icmp_eq hc dL_law_452 rfl sm.1 (kk x.2 y.2 sm.2)
theorem lc_peels (hc : CallFix p m c cL_law 4 s args wsL_law RL) (hx : LX s D cy z) (rel : RelC C N) (hX : va_X b L xs s s.heap) (hbl : b < s.heap.size) (hi : 0 ≤ i.toInt ∧ i.toInt + 5 ≤ (L : Int)) (hL : L ≤ 2560) (hcs : cs ≤ room_1.cells) (hss : ss ≤ room_1.slots) (kk : ∀ C' N' : Mem, RelC C' N' → WQ p l e room_1 s m args below meth c Q (OL s D cy z C' N') 4 cs ss (lvL b z i) 797 []) : WQ p l e room_1 s m args below meth c Q (OL s D cy z C N) 4 cs ss (lvL b z i) 457 [] := by
  refine wq_aload_n hc 2 dL_law_457 rfl ?_
  refine wq_arg hc hX hbl 3 0 rfl rfl (kv := 1) rfl (ixL hi hL (by decide)) dL_law_458 dL_law_459 dL_law_460 dL_law_461 dL_law_462 ?_
  refine wq_arg hc hX hbl 3 0 rfl rfl (kv := 2) rfl (ixL hi hL (by decide)) dL_law_463 dL_law_464 dL_law_465 dL_law_466 dL_law_467 ?_
  refine wq_arg hc hX hbl 3 0 rfl rfl (kv := 3) rfl (ixL hi hL (by decide)) dL_law_468 dL_law_469 dL_law_470 dL_law_471 dL_law_472 ?_
  refine wq_callC (As := [.int (xs (i + 1).toNatClampNeg), .int (xs (i + 2).toNatClampNeg), .int (xs (i + 3).toNatClampNeg)]) (rest := []) (w := sX5_peels C (xs (i + 1).toNatClampNeg) (xs (i + 2).toNatClampNeg) (xs (i + 3).toNatClampNeg)) hc hx (kX5_peels l D cy z hx.2.2.1 C (xs (i + 1).toNatClampNeg) (xs (i + 2).toNatClampNeg) (xs (i + 3).toNatClampNeg) rel.1 (rl_p rel) (rl_k rel)) (cwV 3 hc.2.2.2.2 gL_law_X5_peels rfl rfl rfl (by decide +kernel) ⟨Nat.le_of_ble_eq_true rfl, Nat.le_of_ble_eq_true rfl⟩) rfl rfl (Nat.le_of_ble_eq_true rfl) hcs hss dL_law_473 (fun x hxx => ?_)
  refine wq_aload_n hc 1 dL_law_476 rfl ?_
  refine wq_arg hc hX hbl 3 0 rfl rfl (kv := 1) rfl (ixL hi hL (by decide)) dL_law_477 dL_law_478 dL_law_479 dL_law_480 dL_law_481 ?_
  refine wq_arg hc hX hbl 3 0 rfl rfl (kv := 2) rfl (ixL hi hL (by decide)) dL_law_482 dL_law_483 dL_law_484 dL_law_485 dL_law_486 ?_
  refine wq_arg hc hX hbl 3 0 rfl rfl (kv := 3) rfl (ixL hi hL (by decide)) dL_law_487 dL_law_488 dL_law_489 dL_law_490 dL_law_491 ?_
  refine wq_callN (As := [.int (xs (i + 1).toNatClampNeg), .int (xs (i + 2).toNatClampNeg), .int (xs (i + 3).toNatClampNeg)]) (rest := [.int x.1]) (w := sX6_peels N (xs (i + 1).toNatClampNeg) (xs (i + 2).toNatClampNeg) (xs (i + 3).toNatClampNeg)) hc hx (kX6_peels l D cy z hx.2.2.1 N (xs (i + 1).toNatClampNeg) (xs (i + 2).toNatClampNeg) (xs (i + 3).toNatClampNeg) rel.2.1.2.1 rel.2.2.1.2) (cwV 3 hc.2.2.2.2 gL_law_X6_peels rfl rfl rfl (by decide +kernel) ⟨Nat.le_of_ble_eq_true rfl, Nat.le_of_ble_eq_true rfl⟩) rfl rfl (Nat.le_of_ble_eq_true rfl) hcs hss dL_law_492 (fun y hy => ?_)
  have sm : Sim x y := by rw [hxx, hy]; exact sim_peels rel
  exact wq_icmp_eq hc dL_law_495 rfl sm.1 (kk x.2 y.2 sm.2)
theorem lc_turns (hc : CallFix p m c cL_law 4 s args wsL_law RL) (hx : LX s D cy z) (rel : RelC C N) (hX : va_X b L xs s s.heap) (hbl : b < s.heap.size) (hi : 0 ≤ i.toInt ∧ i.toInt + 5 ≤ (L : Int)) (hL : L ≤ 2560) (hcs : cs ≤ room_1.cells) (hss : ss ≤ room_1.slots) (kk : ∀ C' N' : Mem, RelC C' N' → WQ p l e room_1 s m args below meth c Q (OL s D cy z C' N') 4 cs ss (lvL b z i) 797 []) : WQ p l e room_1 s m args below meth c Q (OL s D cy z C N) 4 cs ss (lvL b z i) 500 [] := by
  refine wq_aload_n hc 2 dL_law_500 rfl ?_
  refine wq_arg hc hX hbl 3 0 rfl rfl (kv := 1) rfl (ixL hi hL (by decide)) dL_law_501 dL_law_502 dL_law_503 dL_law_504 dL_law_505 ?_
  refine wq_callC (As := [.int (xs (i + 1).toNatClampNeg)]) (rest := []) (w := sX5_turns C (xs (i + 1).toNatClampNeg)) hc hx (kX5_turns l D cy z hx.2.2.1 C (xs (i + 1).toNatClampNeg) rel.1 (rl_p rel) (rl_k rel)) (cwV 1 hc.2.2.2.2 gL_law_X5_turns rfl rfl rfl (by decide +kernel) ⟨Nat.le_of_ble_eq_true rfl, Nat.le_of_ble_eq_true rfl⟩) rfl rfl (Nat.le_of_ble_eq_true rfl) hcs hss dL_law_506 (fun x hxx => ?_)
  refine wq_aload_n hc 1 dL_law_509 rfl ?_
  refine wq_arg hc hX hbl 3 0 rfl rfl (kv := 1) rfl (ixL hi hL (by decide)) dL_law_510 dL_law_511 dL_law_512 dL_law_513 dL_law_514 ?_
  refine wq_callN (As := [.int (xs (i + 1).toNatClampNeg)]) (rest := [.int x.1]) (w := sX6_turns N (xs (i + 1).toNatClampNeg)) hc hx (kX6_turns l D cy z hx.2.2.1 N (xs (i + 1).toNatClampNeg) rel.2.1.2.1 rel.2.2.1.2) (cwV 1 hc.2.2.2.2 gL_law_X6_turns rfl rfl rfl (by decide +kernel) ⟨Nat.le_of_ble_eq_true rfl, Nat.le_of_ble_eq_true rfl⟩) rfl rfl (Nat.le_of_ble_eq_true rfl) hcs hss dL_law_515 (fun y hy => ?_)
  have sm : Sim x y := by rw [hxx, hy]; exact sim_turns rel
  exact wq_icmp_eq hc dL_law_518 rfl sm.1 (kk x.2 y.2 sm.2)
theorem lc_form (hc : CallFix p m c cL_law 4 s args wsL_law RL) (hx : LX s D cy z) (rel : RelC C N) (hX : va_X b L xs s s.heap) (hbl : b < s.heap.size) (hi : 0 ≤ i.toInt ∧ i.toInt + 5 ≤ (L : Int)) (hL : L ≤ 2560) (hcs : cs ≤ room_1.cells) (hss : ss ≤ room_1.slots) (kk : ∀ C' N' : Mem, RelC C' N' → WQ p l e room_1 s m args below meth c Q (OL s D cy z C' N') 4 cs ss (lvL b z i) 797 []) : WQ p l e room_1 s m args below meth c Q (OL s D cy z C N) 4 cs ss (lvL b z i) 523 [] := by
  refine wq_aload_n hc 2 dL_law_523 rfl ?_
  refine wq_arg hc hX hbl 3 0 rfl rfl (kv := 1) rfl (ixL hi hL (by decide)) dL_law_524 dL_law_525 dL_law_526 dL_law_527 dL_law_528 ?_
  refine wq_arg hc hX hbl 3 0 rfl rfl (kv := 2) rfl (ixL hi hL (by decide)) dL_law_529 dL_law_530 dL_law_531 dL_law_532 dL_law_533 ?_
  refine wq_arg hc hX hbl 3 0 rfl rfl (kv := 3) rfl (ixL hi hL (by decide)) dL_law_534 dL_law_535 dL_law_536 dL_law_537 dL_law_538 ?_
  refine wq_callC (As := [.int (xs (i + 1).toNatClampNeg), .int (xs (i + 2).toNatClampNeg), .int (xs (i + 3).toNatClampNeg)]) (rest := []) (w := sX5_form C (xs (i + 1).toNatClampNeg) (xs (i + 2).toNatClampNeg) (xs (i + 3).toNatClampNeg)) hc hx (kX5_form l D cy z hx.2.2.1 C (xs (i + 1).toNatClampNeg) (xs (i + 2).toNatClampNeg) (xs (i + 3).toNatClampNeg) rel.1) (cwV 3 hc.2.2.2.2 gL_law_X5_form rfl rfl rfl (by decide +kernel) ⟨Nat.le_of_ble_eq_true rfl, Nat.le_of_ble_eq_true rfl⟩) rfl rfl (Nat.le_of_ble_eq_true rfl) hcs hss dL_law_539 (fun x hxx => ?_)
  refine wq_aload_n hc 1 dL_law_542 rfl ?_
  refine wq_arg hc hX hbl 3 0 rfl rfl (kv := 1) rfl (ixL hi hL (by decide)) dL_law_543 dL_law_544 dL_law_545 dL_law_546 dL_law_547 ?_
  refine wq_arg hc hX hbl 3 0 rfl rfl (kv := 2) rfl (ixL hi hL (by decide)) dL_law_548 dL_law_549 dL_law_550 dL_law_551 dL_law_552 ?_
  refine wq_arg hc hX hbl 3 0 rfl rfl (kv := 3) rfl (ixL hi hL (by decide)) dL_law_553 dL_law_554 dL_law_555 dL_law_556 dL_law_557 ?_
  refine wq_callN (As := [.int (xs (i + 1).toNatClampNeg), .int (xs (i + 2).toNatClampNeg), .int (xs (i + 3).toNatClampNeg)]) (rest := [.int x.1]) (w := sX6_form N (xs (i + 1).toNatClampNeg) (xs (i + 2).toNatClampNeg) (xs (i + 3).toNatClampNeg)) hc hx (kX6_form l D cy z hx.2.2.1 N (xs (i + 1).toNatClampNeg) (xs (i + 2).toNatClampNeg) (xs (i + 3).toNatClampNeg) rel.2.1.2.1) (cwV 3 hc.2.2.2.2 gL_law_X6_form rfl rfl rfl (by decide +kernel) ⟨Nat.le_of_ble_eq_true rfl, Nat.le_of_ble_eq_true rfl⟩) rfl rfl (Nat.le_of_ble_eq_true rfl) hcs hss dL_law_558 (fun y hy => ?_)
  have sm : Sim x y := by rw [hxx, hy]; exact sim_form rel
  exact wq_icmp_eq hc dL_law_561 rfl sm.1 (kk x.2 y.2 sm.2)
theorem lc_det (hc : CallFix p m c cL_law 4 s args wsL_law RL) (hx : LX s D cy z) (rel : RelC C N) (hX : va_X b L xs s s.heap) (hbl : b < s.heap.size) (hi : 0 ≤ i.toInt ∧ i.toInt + 5 ≤ (L : Int)) (hL : L ≤ 2560) (hcs : cs ≤ room_1.cells) (hss : ss ≤ room_1.slots) (kk : ∀ C' N' : Mem, RelC C' N' → WQ p l e room_1 s m args below meth c Q (OL s D cy z C' N') 4 cs ss (lvL b z i) 797 []) : WQ p l e room_1 s m args below meth c Q (OL s D cy z C N) 4 cs ss (lvL b z i) 566 [] := by
  refine wq_aload_n hc 2 dL_law_566 rfl ?_
  refine wq_arg hc hX hbl 3 0 rfl rfl (kv := 1) rfl (ixL hi hL (by decide)) dL_law_567 dL_law_568 dL_law_569 dL_law_570 dL_law_571 ?_
  refine wq_callC (As := [.int (xs (i + 1).toNatClampNeg)]) (rest := []) (w := sX5_det C (xs (i + 1).toNatClampNeg)) hc hx (kX5_det l D cy z hx.2.2.1 C (xs (i + 1).toNatClampNeg) rel.1) (cwV 1 hc.2.2.2.2 gL_law_X5_det rfl rfl rfl (by decide +kernel) ⟨Nat.le_of_ble_eq_true rfl, Nat.le_of_ble_eq_true rfl⟩) rfl rfl (Nat.le_of_ble_eq_true rfl) hcs hss dL_law_572 (fun x hxx => ?_)
  refine wq_aload_n hc 1 dL_law_575 rfl ?_
  refine wq_arg hc hX hbl 3 0 rfl rfl (kv := 1) rfl (ixL hi hL (by decide)) dL_law_576 dL_law_577 dL_law_578 dL_law_579 dL_law_580 ?_
  refine wq_callN (As := [.int (xs (i + 1).toNatClampNeg)]) (rest := [.int x.1]) (w := sX6_det N (xs (i + 1).toNatClampNeg)) hc hx (kX6_det l D cy z hx.2.2.1 N (xs (i + 1).toNatClampNeg) rel.2.1.2.1) (cwV 1 hc.2.2.2.2 gL_law_X6_det rfl rfl rfl (by decide +kernel) ⟨Nat.le_of_ble_eq_true rfl, Nat.le_of_ble_eq_true rfl⟩) rfl rfl (Nat.le_of_ble_eq_true rfl) hcs hss dL_law_581 (fun y hy => ?_)
  have sm : Sim x y := by rw [hxx, hy]; exact sim_det rel
  exact wq_icmp_eq hc dL_law_584 rfl sm.1 (kk x.2 y.2 sm.2)
theorem lc_ends (hc : CallFix p m c cL_law 4 s args wsL_law RL) (hx : LX s D cy z) (rel : RelC C N) (hX : va_X b L xs s s.heap) (hbl : b < s.heap.size) (hi : 0 ≤ i.toInt ∧ i.toInt + 5 ≤ (L : Int)) (hL : L ≤ 2560) (hcs : cs ≤ room_1.cells) (hss : ss ≤ room_1.slots) (kk : ∀ C' N' : Mem, RelC C' N' → WQ p l e room_1 s m args below meth c Q (OL s D cy z C' N') 4 cs ss (lvL b z i) 797 []) : WQ p l e room_1 s m args below meth c Q (OL s D cy z C N) 4 cs ss (lvL b z i) 589 [] := by
  refine wq_aload_n hc 2 dL_law_589 rfl ?_
  refine wq_arg hc hX hbl 3 0 rfl rfl (kv := 1) rfl (ixL hi hL (by decide)) dL_law_590 dL_law_591 dL_law_592 dL_law_593 dL_law_594 ?_
  refine wq_arg hc hX hbl 3 0 rfl rfl (kv := 2) rfl (ixL hi hL (by decide)) dL_law_595 dL_law_596 dL_law_597 dL_law_598 dL_law_599 ?_
  refine wq_arg hc hX hbl 3 0 rfl rfl (kv := 3) rfl (ixL hi hL (by decide)) dL_law_600 dL_law_601 dL_law_602 dL_law_603 dL_law_604 ?_
  refine wq_arg hc hX hbl 3 0 rfl rfl (kv := 4) rfl (ixL hi hL (by decide)) dL_law_605 dL_law_606 dL_law_607 dL_law_608 dL_law_609 ?_
  refine wq_callC (As := [.int (xs (i + 1).toNatClampNeg), .int (xs (i + 2).toNatClampNeg), .int (xs (i + 3).toNatClampNeg), .int (xs (i + 4).toNatClampNeg)]) (rest := []) (w := sX5_ends C (xs (i + 1).toNatClampNeg) (xs (i + 2).toNatClampNeg) (xs (i + 3).toNatClampNeg) (xs (i + 4).toNatClampNeg)) hc hx (kX5_ends l D cy z hx.2.2.1 C (xs (i + 1).toNatClampNeg) (xs (i + 2).toNatClampNeg) (xs (i + 3).toNatClampNeg) (xs (i + 4).toNatClampNeg) rel.1) (cwV 4 hc.2.2.2.2 gL_law_X5_ends rfl rfl rfl (by decide +kernel) ⟨Nat.le_of_ble_eq_true rfl, Nat.le_of_ble_eq_true rfl⟩) rfl rfl (Nat.le_of_ble_eq_true rfl) hcs hss dL_law_610 (fun x hxx => ?_)
  refine wq_aload_n hc 1 dL_law_613 rfl ?_
  refine wq_arg hc hX hbl 3 0 rfl rfl (kv := 1) rfl (ixL hi hL (by decide)) dL_law_614 dL_law_615 dL_law_616 dL_law_617 dL_law_618 ?_
  refine wq_arg hc hX hbl 3 0 rfl rfl (kv := 2) rfl (ixL hi hL (by decide)) dL_law_619 dL_law_620 dL_law_621 dL_law_622 dL_law_623 ?_
  refine wq_arg hc hX hbl 3 0 rfl rfl (kv := 3) rfl (ixL hi hL (by decide)) dL_law_624 dL_law_625 dL_law_626 dL_law_627 dL_law_628 ?_
  refine wq_arg hc hX hbl 3 0 rfl rfl (kv := 4) rfl (ixL hi hL (by decide)) dL_law_629 dL_law_630 dL_law_631 dL_law_632 dL_law_633 ?_
  refine wq_callN (As := [.int (xs (i + 1).toNatClampNeg), .int (xs (i + 2).toNatClampNeg), .int (xs (i + 3).toNatClampNeg), .int (xs (i + 4).toNatClampNeg)]) (rest := [.int x.1]) (w := sX6_ends N (xs (i + 1).toNatClampNeg) (xs (i + 2).toNatClampNeg) (xs (i + 3).toNatClampNeg) (xs (i + 4).toNatClampNeg)) hc hx (kX6_ends l D cy z hx.2.2.1 N (xs (i + 1).toNatClampNeg) (xs (i + 2).toNatClampNeg) (xs (i + 3).toNatClampNeg) (xs (i + 4).toNatClampNeg) rel.2.1.2.1) (cwV 4 hc.2.2.2.2 gL_law_X6_ends rfl rfl rfl (by decide +kernel) ⟨Nat.le_of_ble_eq_true rfl, Nat.le_of_ble_eq_true rfl⟩) rfl rfl (Nat.le_of_ble_eq_true rfl) hcs hss dL_law_634 (fun y hy => ?_)
  have sm : Sim x y := by rw [hxx, hy]; exact sim_ends rel
  exact wq_icmp_eq hc dL_law_637 rfl sm.1 (kk x.2 y.2 sm.2)
theorem lc_test (hc : CallFix p m c cL_law 4 s args wsL_law RL) (hx : LX s D cy z) (rel : RelC C N) (hX : va_X b L xs s s.heap) (hbl : b < s.heap.size) (hi : 0 ≤ i.toInt ∧ i.toInt + 5 ≤ (L : Int)) (hL : L ≤ 2560) (hcs : cs ≤ room_1.cells) (hss : ss ≤ room_1.slots) (kk : ∀ C' N' : Mem, RelC C' N' → WQ p l e room_1 s m args below meth c Q (OL s D cy z C' N') 4 cs ss (lvL b z i) 797 []) : WQ p l e room_1 s m args below meth c Q (OL s D cy z C N) 4 cs ss (lvL b z i) 642 [] := by
  refine wq_aload_n hc 2 dL_law_642 rfl ?_
  refine wq_arg hc hX hbl 3 0 rfl rfl (kv := 1) rfl (ixL hi hL (by decide)) dL_law_643 dL_law_644 dL_law_645 dL_law_646 dL_law_647 ?_
  refine wq_arg hc hX hbl 3 0 rfl rfl (kv := 2) rfl (ixL hi hL (by decide)) dL_law_648 dL_law_649 dL_law_650 dL_law_651 dL_law_652 ?_
  refine wq_callC (As := [.int (xs (i + 1).toNatClampNeg), .int (xs (i + 2).toNatClampNeg)]) (rest := []) (w := sX5_test C (xs (i + 1).toNatClampNeg) (xs (i + 2).toNatClampNeg)) hc hx (kX5_test l D cy z hx.2.2.1 C (xs (i + 1).toNatClampNeg) (xs (i + 2).toNatClampNeg) rel.1) (cwV 2 hc.2.2.2.2 gL_law_X5_test rfl rfl rfl (by decide +kernel) ⟨Nat.le_of_ble_eq_true rfl, Nat.le_of_ble_eq_true rfl⟩) rfl rfl (Nat.le_of_ble_eq_true rfl) hcs hss dL_law_653 (fun x hxx => ?_)
  refine wq_aload_n hc 1 dL_law_656 rfl ?_
  refine wq_arg hc hX hbl 3 0 rfl rfl (kv := 1) rfl (ixL hi hL (by decide)) dL_law_657 dL_law_658 dL_law_659 dL_law_660 dL_law_661 ?_
  refine wq_arg hc hX hbl 3 0 rfl rfl (kv := 2) rfl (ixL hi hL (by decide)) dL_law_662 dL_law_663 dL_law_664 dL_law_665 dL_law_666 ?_
  refine wq_callN (As := [.int (xs (i + 1).toNatClampNeg), .int (xs (i + 2).toNatClampNeg)]) (rest := [.int x.1]) (w := sX6_test N (xs (i + 1).toNatClampNeg) (xs (i + 2).toNatClampNeg)) hc hx (kX6_test l D cy z hx.2.2.1 N (xs (i + 1).toNatClampNeg) (xs (i + 2).toNatClampNeg) rel.2.1.2.1) (cwV 2 hc.2.2.2.2 gL_law_X6_test rfl rfl rfl (by decide +kernel) ⟨Nat.le_of_ble_eq_true rfl, Nat.le_of_ble_eq_true rfl⟩) rfl rfl (Nat.le_of_ble_eq_true rfl) hcs hss dL_law_667 (fun y hy => ?_)
  have sm : Sim x y := by rw [hxx, hy]; exact sim_test rel
  exact wq_icmp_eq hc dL_law_670 rfl sm.1 (kk x.2 y.2 sm.2)
theorem lc_like (hc : CallFix p m c cL_law 4 s args wsL_law RL) (hx : LX s D cy z) (rel : RelC C N) (hX : va_X b L xs s s.heap) (hbl : b < s.heap.size) (hi : 0 ≤ i.toInt ∧ i.toInt + 5 ≤ (L : Int)) (hL : L ≤ 2560) (hcs : cs ≤ room_1.cells) (hss : ss ≤ room_1.slots) (kk : ∀ C' N' : Mem, RelC C' N' → WQ p l e room_1 s m args below meth c Q (OL s D cy z C' N') 4 cs ss (lvL b z i) 797 []) : WQ p l e room_1 s m args below meth c Q (OL s D cy z C N) 4 cs ss (lvL b z i) 675 [] := by
  refine wq_aload_n hc 2 dL_law_675 rfl ?_
  refine wq_arg hc hX hbl 3 0 rfl rfl (kv := 1) rfl (ixL hi hL (by decide)) dL_law_676 dL_law_677 dL_law_678 dL_law_679 dL_law_680 ?_
  refine wq_callC (As := [.int (xs (i + 1).toNatClampNeg)]) (rest := []) (w := sX5_like C (xs (i + 1).toNatClampNeg)) hc hx (kX5_like l D cy z hx.2.2.1 C (xs (i + 1).toNatClampNeg) rel.1) (cwV 1 hc.2.2.2.2 gL_law_X5_like rfl rfl rfl (by decide +kernel) ⟨Nat.le_of_ble_eq_true rfl, Nat.le_of_ble_eq_true rfl⟩) rfl rfl (Nat.le_of_ble_eq_true rfl) hcs hss dL_law_681 (fun x hxx => ?_)
  refine wq_aload_n hc 1 dL_law_684 rfl ?_
  refine wq_arg hc hX hbl 3 0 rfl rfl (kv := 1) rfl (ixL hi hL (by decide)) dL_law_685 dL_law_686 dL_law_687 dL_law_688 dL_law_689 ?_
  refine wq_callN (As := [.int (xs (i + 1).toNatClampNeg)]) (rest := [.int x.1]) (w := sX6_like N (xs (i + 1).toNatClampNeg)) hc hx (kX6_like l D cy z hx.2.2.1 N (xs (i + 1).toNatClampNeg) rel.2.1.2.1) (cwV 1 hc.2.2.2.2 gL_law_X6_like rfl rfl rfl (by decide +kernel) ⟨Nat.le_of_ble_eq_true rfl, Nat.le_of_ble_eq_true rfl⟩) rfl rfl (Nat.le_of_ble_eq_true rfl) hcs hss dL_law_690 (fun y hy => ?_)
  have sm : Sim x y := by rw [hxx, hy]; exact sim_like rel
  exact wq_icmp_eq hc dL_law_693 rfl sm.1 (kk x.2 y.2 sm.2)
theorem lc_type (hc : CallFix p m c cL_law 4 s args wsL_law RL) (hx : LX s D cy z) (rel : RelC C N) (hX : va_X b L xs s s.heap) (hbl : b < s.heap.size) (hi : 0 ≤ i.toInt ∧ i.toInt + 5 ≤ (L : Int)) (hL : L ≤ 2560) (hcs : cs ≤ room_1.cells) (hss : ss ≤ room_1.slots) (kk : ∀ C' N' : Mem, RelC C' N' → WQ p l e room_1 s m args below meth c Q (OL s D cy z C' N') 4 cs ss (lvL b z i) 797 []) : WQ p l e room_1 s m args below meth c Q (OL s D cy z C N) 4 cs ss (lvL b z i) 698 [] := by
  refine wq_aload_n hc 2 dL_law_698 rfl ?_
  refine wq_arg hc hX hbl 3 0 rfl rfl (kv := 1) rfl (ixL hi hL (by decide)) dL_law_699 dL_law_700 dL_law_701 dL_law_702 dL_law_703 ?_
  refine wq_callC (As := [.int (xs (i + 1).toNatClampNeg)]) (rest := []) (w := sX5_type C (xs (i + 1).toNatClampNeg)) hc hx (kX5_type l D cy z hx.2.2.1 C (xs (i + 1).toNatClampNeg) ) (cwV 1 hc.2.2.2.2 gL_law_X5_type rfl rfl rfl (by decide +kernel) ⟨Nat.le_of_ble_eq_true rfl, Nat.le_of_ble_eq_true rfl⟩) rfl rfl (Nat.le_of_ble_eq_true rfl) hcs hss dL_law_704 (fun x hxx => ?_)
  refine wq_aload_n hc 1 dL_law_707 rfl ?_
  refine wq_arg hc hX hbl 3 0 rfl rfl (kv := 1) rfl (ixL hi hL (by decide)) dL_law_708 dL_law_709 dL_law_710 dL_law_711 dL_law_712 ?_
  refine wq_callN (As := [.int (xs (i + 1).toNatClampNeg)]) (rest := [.int x.1]) (w := sX6_type N (xs (i + 1).toNatClampNeg)) hc hx (kX6_type l D cy z hx.2.2.1 N (xs (i + 1).toNatClampNeg) rel.2.2.2.2.2.1.2) (cwV 1 hc.2.2.2.2 gL_law_X6_type rfl rfl rfl (by decide +kernel) ⟨Nat.le_of_ble_eq_true rfl, Nat.le_of_ble_eq_true rfl⟩) rfl rfl (Nat.le_of_ble_eq_true rfl) hcs hss dL_law_713 (fun y hy => ?_)
  have sm : Sim x y := by rw [hxx, hy]; exact sim_type rel
  exact wq_icmp_eq hc dL_law_716 rfl sm.1 (kk x.2 y.2 sm.2)
theorem lc_clear (hc : CallFix p m c cL_law 4 s args wsL_law RL) (hx : LX s D cy z) (rel : RelC C N) (hX : va_X b L xs s s.heap) (hbl : b < s.heap.size) (hi : 0 ≤ i.toInt ∧ i.toInt + 5 ≤ (L : Int)) (hL : L ≤ 2560) (hcs : cs ≤ room_1.cells) (hss : ss ≤ room_1.slots) (kk : ∀ C' N' : Mem, RelC C' N' → WQ p l e room_1 s m args below meth c Q (OL s D cy z C' N') 4 cs ss (lvL b z i) 797 []) : WQ p l e room_1 s m args below meth c Q (OL s D cy z C N) 4 cs ss (lvL b z i) 721 [] := by
  refine wq_aload_n hc 2 dL_law_721 rfl ?_
  refine wq_callC (As := []) (rest := []) (w := sX5_clear C ) hc hx (kX5_clear l D cy z hx.2.2.1 C  ) (cwV 0 hc.2.2.2.2 gL_law_X5_clear rfl rfl rfl (by decide +kernel) ⟨Nat.le_of_ble_eq_true rfl, Nat.le_of_ble_eq_true rfl⟩) rfl rfl (Nat.le_of_ble_eq_true rfl) hcs hss dL_law_722 (fun x hxx => ?_)
  refine wq_aload_n hc 1 dL_law_725 rfl ?_
  refine wq_callN (As := []) (rest := [.int x.1]) (w := sX6_clear N ) hc hx (kX6_clear l D cy z hx.2.2.1 N  ) (cwV 0 hc.2.2.2.2 gL_law_X6_clear rfl rfl rfl (by decide +kernel) ⟨Nat.le_of_ble_eq_true rfl, Nat.le_of_ble_eq_true rfl⟩) rfl rfl (Nat.le_of_ble_eq_true rfl) hcs hss dL_law_726 (fun y hy => ?_)
  have sm : Sim x y := by rw [hxx, hy]; exact sim_clear rel
  exact wq_icmp_eq hc dL_law_729 rfl sm.1 (kk x.2 y.2 sm.2)
theorem lc_does (hc : CallFix p m c cL_law 4 s args wsL_law RL) (hx : LX s D cy z) (rel : RelC C N) (hX : va_X b L xs s s.heap) (hbl : b < s.heap.size) (hi : 0 ≤ i.toInt ∧ i.toInt + 5 ≤ (L : Int)) (hL : L ≤ 2560) (hcs : cs ≤ room_1.cells) (hss : ss ≤ room_1.slots) (kk : ∀ C' N' : Mem, RelC C' N' → WQ p l e room_1 s m args below meth c Q (OL s D cy z C' N') 4 cs ss (lvL b z i) 797 []) : WQ p l e room_1 s m args below meth c Q (OL s D cy z C N) 4 cs ss (lvL b z i) 734 [] := by
  refine wq_aload_n hc 2 dL_law_734 rfl ?_
  refine wq_callC (As := []) (rest := []) (w := sX5_does C ) hc hx (kX5_does l D cy z hx.2.2.1 C  rel.1 (rl_p rel) (rl_k rel) (rl_y rel)) (cwV 0 hc.2.2.2.2 gL_law_X5_does rfl rfl rfl (by decide +kernel) ⟨Nat.le_of_ble_eq_true rfl, Nat.le_of_ble_eq_true rfl⟩) rfl rfl (Nat.le_of_ble_eq_true rfl) hcs hss dL_law_735 (fun x hxx => ?_)
  refine wq_aload_n hc 1 dL_law_738 rfl ?_
  refine wq_callN (As := []) (rest := [.int x.1]) (w := sX6_does N ) hc hx (kX6_does l D cy z hx.2.2.1 N  rel.2.1.2.1 rel.2.2.1.2 rel.2.2.2.2.2.1.2) (cwV 0 hc.2.2.2.2 gL_law_X6_does rfl rfl rfl (by decide +kernel) ⟨Nat.le_of_ble_eq_true rfl, Nat.le_of_ble_eq_true rfl⟩) rfl rfl (Nat.le_of_ble_eq_true rfl) hcs hss dL_law_739 (fun y hy => ?_)
  have sm : Sim x y := by rw [hxx, hy]; exact sim_does rel
  exact wq_icmp_eq hc dL_law_742 rfl sm.1 (kk x.2 y.2 sm.2)
theorem lc_back (hc : CallFix p m c cL_law 4 s args wsL_law RL) (hx : LX s D cy z) (rel : RelC C N) (hX : va_X b L xs s s.heap) (hbl : b < s.heap.size) (hi : 0 ≤ i.toInt ∧ i.toInt + 5 ≤ (L : Int)) (hL : L ≤ 2560) (hcs : cs ≤ room_1.cells) (hss : ss ≤ room_1.slots) (kk : ∀ C' N' : Mem, RelC C' N' → WQ p l e room_1 s m args below meth c Q (OL s D cy z C' N') 4 cs ss (lvL b z i) 797 []) : WQ p l e room_1 s m args below meth c Q (OL s D cy z C N) 4 cs ss (lvL b z i) 747 [] := by
  refine wq_aload_n hc 2 dL_law_747 rfl ?_
  refine wq_callC (As := []) (rest := []) (w := sX5_back C ) hc hx (kX5_back l D cy z hx.2.2.1 C  rel.1 (rl_p rel)) (cwV 0 hc.2.2.2.2 gL_law_X5_back rfl rfl rfl (by decide +kernel) ⟨Nat.le_of_ble_eq_true rfl, Nat.le_of_ble_eq_true rfl⟩) rfl rfl (Nat.le_of_ble_eq_true rfl) hcs hss dL_law_748 (fun x hxx => ?_)
  refine wq_aload_n hc 1 dL_law_751 rfl ?_
  refine wq_callN (As := []) (rest := [.int x.1]) (w := sX6_back N ) hc hx (kX6_back l D cy z hx.2.2.1 N  rel.2.2.1.2) (cwV 0 hc.2.2.2.2 gL_law_X6_back rfl rfl rfl (by decide +kernel) ⟨Nat.le_of_ble_eq_true rfl, Nat.le_of_ble_eq_true rfl⟩) rfl rfl (Nat.le_of_ble_eq_true rfl) hcs hss dL_law_752 (fun y hy => ?_)
  have sm : Sim x y := by rw [hxx, hy]; exact sim_back rel
  exact wq_icmp_eq hc dL_law_755 rfl sm.1 (kk x.2 y.2 sm.2)
theorem lc_count (hc : CallFix p m c cL_law 4 s args wsL_law RL) (hx : LX s D cy z) (rel : RelC C N) (hX : va_X b L xs s s.heap) (hbl : b < s.heap.size) (hi : 0 ≤ i.toInt ∧ i.toInt + 5 ≤ (L : Int)) (hL : L ≤ 2560) (hcs : cs ≤ room_1.cells) (hss : ss ≤ room_1.slots) (kk : ∀ C' N' : Mem, RelC C' N' → WQ p l e room_1 s m args below meth c Q (OL s D cy z C' N') 4 cs ss (lvL b z i) 797 []) : WQ p l e room_1 s m args below meth c Q (OL s D cy z C N) 4 cs ss (lvL b z i) 760 [] := by
  refine wq_aload_n hc 2 dL_law_760 rfl ?_
  refine wq_arg hc hX hbl 3 0 rfl rfl (kv := 1) rfl (ixL hi hL (by decide)) dL_law_761 dL_law_762 dL_law_763 dL_law_764 dL_law_765 ?_
  refine wq_callC (As := [.int (xs (i + 1).toNatClampNeg)]) (rest := []) (w := sX5_count C (xs (i + 1).toNatClampNeg)) hc hx (kX5_count l D cy z hx.2.2.1 C (xs (i + 1).toNatClampNeg) rel.1) (cwV 1 hc.2.2.2.2 gL_law_X5_count rfl rfl rfl (by decide +kernel) ⟨Nat.le_of_ble_eq_true rfl, Nat.le_of_ble_eq_true rfl⟩) rfl rfl (Nat.le_of_ble_eq_true rfl) hcs hss dL_law_766 (fun x hxx => ?_)
  refine wq_aload_n hc 1 dL_law_769 rfl ?_
  refine wq_arg hc hX hbl 3 0 rfl rfl (kv := 1) rfl (ixL hi hL (by decide)) dL_law_770 dL_law_771 dL_law_772 dL_law_773 dL_law_774 ?_
  refine wq_callN (As := [.int (xs (i + 1).toNatClampNeg)]) (rest := [.int x.1]) (w := sX6_count N (xs (i + 1).toNatClampNeg)) hc hx (kX6_count l D cy z hx.2.2.1 N (xs (i + 1).toNatClampNeg) ) (cwV 1 hc.2.2.2.2 gL_law_X6_count rfl rfl rfl (by decide +kernel) ⟨Nat.le_of_ble_eq_true rfl, Nat.le_of_ble_eq_true rfl⟩) rfl rfl (Nat.le_of_ble_eq_true rfl) hcs hss dL_law_775 (fun y hy => ?_)
  have sm : Sim x y := by rw [hxx, hy]; exact sim_count rel
  exact wq_icmp_eq hc dL_law_778 rfl sm.1 (kk x.2 y.2 sm.2)
theorem lc_digest (hc : CallFix p m c cL_law 4 s args wsL_law RL) (hx : LX s D cy z) (rel : RelC C N) (hX : va_X b L xs s s.heap) (hbl : b < s.heap.size) (hi : 0 ≤ i.toInt ∧ i.toInt + 5 ≤ (L : Int)) (hL : L ≤ 2560) (hcs : cs ≤ room_1.cells) (hss : ss ≤ room_1.slots) (kk : ∀ C' N' : Mem, RelC C' N' → WQ p l e room_1 s m args below meth c Q (OL s D cy z C' N') 4 cs ss (lvL b z i) 797 []) : WQ p l e room_1 s m args below meth c Q (OL s D cy z C N) 4 cs ss (lvL b z i) 783 [] := by
  refine wq_aload_n hc 2 dL_law_783 rfl ?_
  refine wq_callCp (As := []) (rest := []) hc hx (kX5_digest l D cy z hx.2.2.1 C rel.1 (rl_b rel)) (cwV 0 hc.2.2.2.2 gL_law_X5_digest rfl rfl rfl (by decide +kernel) ⟨Nat.le_of_ble_eq_true rfl, Nat.le_of_ble_eq_true rfl⟩) rfl rfl (Nat.le_of_ble_eq_true rfl) hcs hss dL_law_784 (fun r u hru => ?_)
  obtain ⟨hr, hu⟩ := hru
  subst hu
  refine wq_aload_n hc 1 dL_law_787 rfl ?_
  refine wq_callNl (As := []) (rest := [.long r]) (w := sX6_digest N) hc hx (kX6_digest l D cy z hx.2.2.1 N rel.2.1.2.1) (cwV 0 hc.2.2.2.2 gL_law_X6_digest rfl rfl rfl (by decide +kernel) ⟨Nat.le_of_ble_eq_true rfl, Nat.le_of_ble_eq_true rfl⟩) rfl rfl (Nat.le_of_ble_eq_true rfl) hcs hss dL_law_788 (fun y hy => ?_)
  have sm := sim_digest rel
  rw [← hy] at sm
  exact wq_lcmp0 hc (hr.trans sm.1) dL_law_791 (wq_if_eq hc dL_law_792 rfl rfl (kk _ y.2 sm.2))
end
