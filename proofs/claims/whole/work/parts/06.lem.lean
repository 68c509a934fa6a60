/-! rows of the kit (laws/COUNTS, laws/NUMBERS), pasted -/
theorem fa_lt (a b : Int32) : a < b ↔ a.toInt < b.toInt := Int32.lt_iff_toInt_lt
theorem fa_le (a b : Int32) : a ≤ b ↔ a.toInt ≤ b.toInt := Int32.le_iff_toInt_le
theorem fa_eq (a b : Int32) : a = b ↔ a.toInt = b.toInt := Int32.toInt_inj.symm
def fb_put {α : Type} (f g : Nat → α) (a n : Nat) : Nat → α := fun k => if a ≤ k ∧ k < a + n then g (k - a) else f k
theorem fb_put_0 {α : Type} (f g : Nat → α) (a : Nat) : fb_put f g a 0 = f := funext fun k => if_neg (by omega)
theorem fb_put_in {α : Type} {f g : Nat → α} {a n k : Nat} (h1 : a ≤ k) (h2 : k < a + n) : fb_put f g a n k = g (k - a) := if_pos ⟨h1, h2⟩
theorem fb_put_out {α : Type} {f g : Nat → α} {a n k : Nat} (h : k < a ∨ a + n ≤ k) : fb_put f g a n k = f k := if_neg (by omega)
theorem fb_put_succ (f g : Nat → Int32) (a n : Nat) : upd (fb_put f g a n) (a + n) (g n) = fb_put f g a (n + 1) := by
  funext k
  by_cases h : k = a + n
  · subst h
    simp [upd, fb_put]
  · by_cases h1 : a ≤ k ∧ k < a + n
    · have h2 : a ≤ k ∧ k < a + (n + 1) := by omega
      simp only [upd, fb_put, if_neg h, if_pos h1, if_pos h2]
    · have h2 : ¬ (a ≤ k ∧ k < a + (n + 1)) := by omega
      simp only [upd, fb_put, if_neg h, if_neg h1, if_neg h2]
theorem fb_rng (x : Int32) : -2147483648 ≤ x.toInt ∧ x.toInt < 2147483648 := by
  have h1 := Int32.le_toInt x
  have h2 := Int32.toInt_lt x
  omega
theorem fb_bmod {z : Int} (h1 : -2147483648 ≤ z) (h2 : z < 2147483648) : z.bmod (2 ^ 32) = z := by
  rw [Int.bmod_eq_of_le (by omega) (by omega)]
theorem fb_addI {x y : Int32} (h1 : -2147483648 ≤ x.toInt + y.toInt) (h2 : x.toInt + y.toInt < 2147483648) : (x + y).toInt = x.toInt + y.toInt := by
  rw [Int32.toInt_add, fb_bmod h1 h2]
theorem fb_subI {x y : Int32} (h1 : -2147483648 ≤ x.toInt - y.toInt) (h2 : x.toInt - y.toInt < 2147483648) : (x - y).toInt = x.toInt - y.toInt := by
  rw [Int32.toInt_sub, fb_bmod h1 h2]
theorem fb_mulI {x y : Int32} (h1 : -2147483648 ≤ x.toInt * y.toInt) (h2 : x.toInt * y.toInt < 2147483648) : (x * y).toInt = x.toInt * y.toInt := by
  rw [Int32.toInt_mul, fb_bmod h1 h2]
theorem fb_negI {x : Int32} (h : x.toInt ≠ -2147483648) : (-x).toInt = -x.toInt := by
  have := fb_rng x
  rw [Int32.toInt_neg, fb_bmod (by omega) (by omega)]
theorem fb_ofI {z : Int} (h1 : -2147483648 ≤ z) (h2 : z < 2147483648) : (Int32.ofInt z).toInt = z := by
  rw [Int32.toInt_ofInt, fb_bmod h1 h2]
theorem fb_asI (x : Int32) : Int32.ofInt x.toInt = x := Int32.ofInt_toInt x
theorem fb_byte {x : Int32} (h1 : -128 ≤ x.toInt) (h2 : x.toInt < 128) : x.toInt8.toInt32 = x := by
  apply Int32.toInt_inj.1
  rw [Int8.toInt_toInt32, Int32.toInt_toInt8, Int.bmod_eq_of_le (by omega) (by omega)]
theorem nI_T {k : Nat} (h : k < 2147483648) : (nI k).toInt = (k : Int) := nI_toInt (by omega)
theorem cl_of {x : Int32} {k : Nat} (h : x.toInt = (k : Int)) : x.toNatClampNeg = k := by
  show x.toInt.toNat = k
  rw [h]; rfl
theorem nI_ofT {x : Int32} {k : Nat} (h : x.toInt = (k : Int)) (hk : k < 2147483648) : x = nI k := Int32.toInt_inj.mp (by rw [nI_T hk]; exact h)
theorem nI_cl {x : Int32} (h : 0 ≤ x.toInt) : x = nI x.toNatClampNeg := by
  have h2 := (fb_rng x).2
  have e : x.toInt = (x.toNatClampNeg : Int) := by
    show x.toInt = ((x.toInt.toNat : Nat) : Int)
    omega
  exact nI_ofT e (by omega)
theorem cl_T {x : Int32} (h : 0 ≤ x.toInt) : (x.toNatClampNeg : Int) = x.toInt := by
  show ((x.toInt.toNat : Nat) : Int) = x.toInt
  omega
theorem ln101 : ln 101 = 58 := rfl
theorem ln103 : ln 103 = 290 := rfl
theorem wp_loop {p : Program} {l : Launch} {e : Env} {R : Room} {s : State} {m : MethodId} {args : Array Value} {below : List Frame} {meth : Method} {c : Code} {Q : State → Prop} {Om : Mem → Heap → List Loc → Prop} {nL : Nat} {pc : Nat} (N : Nat) (Mi : Nat → Mem) (Li : Nat → List (Nat × Value)) (ex : WP p l e R s m args below meth c Q Om nL (Mi N) (Li N) pc []) (bo : ∀ i, i < N → WP p l e R s m args below meth c Q Om nL (Mi (i + 1)) (Li (i + 1)) pc [] → WP p l e R s m args below meth c Q Om nL (Mi i) (Li i) pc []) (i : Nat) (hi : i ≤ N) : WP p l e R s m args below meth c Q Om nL (Mi i) (Li i) pc [] := by
  have key : ∀ n i, i + n = N → WP p l e R s m args below meth c Q Om nL (Mi i) (Li i) pc [] := by
    intro n
    induction n with
    | zero => intro i h; have e : i = N := by omega
              rw [e]; exact ex
    | succ n ih => intro i h; exact bo i (by omega) (ih (i + 1) (by omega))
  exact key (N - i) i (by omega)
theorem sr_self (M : Mem) (j : Nat) : sr M j (M.1 j) = M := by
  have : va_up M.1 j (M.1 j) = M.1 := by
    funext i
    by_cases h : i = j
    · subst h; rw [va_up_self]
    · rw [va_up_ne _ _ h]
  unfold sr; rw [this]
theorem sr_row (M : Mem) (j : Nat) (f : Nat → Int32) : (sr M j f).1 j = f := va_up_self _ _ _
theorem sr_ne (M : Mem) {j i : Nat} (f : Nat → Int32) (h : i ≠ j) : (sr M j f).1 i = M.1 i := va_up_ne _ _ h
theorem st_ne (M : Mem) {j i : Nat} (k : Nat) (v : Int32) (h : i ≠ j) : (st M j k v).1 i = M.1 i := va_up_ne _ _ h
theorem st_sr (M : Mem) (j k : Nat) (f : Nat → Int32) (v : Int32) : st (sr M j f) j k v = sr M j (upd f k v) := by
  unfold st
  rw [sr_row]
  have : va_up (sr M j f).1 j (upd f k v) = va_up M.1 j (upd f k v) := bx_uu _ _ _ _
  rw [this]
  rfl
theorem st_put (M : Mem) (j a i k : Nat) (f g : Nat → Int32) (v : Int32) (hk : k = a + i) (hv : v = g i) : st (sr M j (fb_put f g a i)) j k v = sr M j (fb_put f g a (i + 1)) := by
  subst hk; subst hv
  rw [st_sr, fb_put_succ]
theorem sr_put0 (M : Mem) (j a : Nat) (g : Nat → Int32) : sr M j (fb_put (M.1 j) g a 0) = M := by rw [fb_put_0, sr_self]
