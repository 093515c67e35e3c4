/-! ints by their numbers; arrays as functions of Int -/
def iI (z : Int) : Int32 := Int32.ofInt z
theorem iI_toInt {z : Int} (h1 : -2147483648 ≤ z) (h2 : z < 2147483648) : (iI z).toInt = z := Int32.toInt_ofInt_of_le (by omega) (by omega)
theorem iI_of (x : Int32) : x = iI x.toInt := (Int32.ofInt_toInt x).symm
theorem iI_rng (x : Int32) : -2147483648 ≤ x.toInt ∧ x.toInt < 2147483648 := ⟨by have := Int32.le_toInt x; omega, by have := Int32.toInt_lt x; omega⟩
theorem iI_ex (x : Int32) : ∃ z : Int, x = iI z ∧ -2147483648 ≤ z ∧ z < 2147483648 := ⟨x.toInt, iI_of x, iI_rng x⟩
theorem iI_add (a b : Int) : iI a + iI b = iI (a + b) := (Int32.ofInt_add a b).symm
theorem iI_sub (a b : Int) : iI a - iI b = iI (a - b) := (Int32.ofInt_sub a b).symm
theorem iI_mul (a b : Int) : iI a * iI b = iI (a * b) := (Int32.ofInt_mul a b).symm
abbrev iR (a : Int) : Prop := -2147483648 ≤ a ∧ a < 2147483648
theorem iI_lt {a b : Int} (ha : iR a) (hb : iR b) : iI a < iI b ↔ a < b := by
  rw [Int32.lt_iff_toInt_lt, iI_toInt ha.1 ha.2, iI_toInt hb.1 hb.2]
theorem iI_le {a b : Int} (ha : iR a) (hb : iR b) : iI a ≤ iI b ↔ a ≤ b := by
  rw [Int32.le_iff_toInt_le, iI_toInt ha.1 ha.2, iI_toInt hb.1 hb.2]
theorem iI_eq {a b : Int} (ha : iR a) (hb : iR b) : iI a = iI b ↔ a = b := by
  rw [← Int32.toInt_inj, iI_toInt ha.1 ha.2, iI_toInt hb.1 hb.2]
theorem iI_cl {a : Int} (h1 : 0 ≤ a) (h2 : a < 2147483648) : (iI a).toNatClampNeg = a.toNat := Int32.toNatClampNeg_ofInt_of_le (by omega) (by omega)
theorem iI_in {a : Int} {n : Nat} (h1 : 0 ≤ a) (h2 : a < n) (hn : n < 2147483648) : vp_in (iI a) n := vp_in_iff.mpr (by rw [iI_toInt (by omega) (by omega)]; omega)
theorem iI_zero : (0 : Int32) = iI 0 := by decide
def aI (g : Int → Int) : Nat → Int32 := fun j => iI (g (j : Int))
def iup (g : Int → Int) (k x : Int) : Int → Int := fun j => if j = k then x else g j
def icpy (f g : Int → Int) (sp dp n : Int) : Int → Int := fun j => if dp ≤ j ∧ j < dp + n then f (sp + (j - dp)) else g j
theorem iup_eq {g : Int → Int} {k x j : Int} (h : j = k) : iup g k x j = x := by simp [iup, h]
theorem iup_ne {g : Int → Int} {k x j : Int} (h : j ≠ k) : iup g k x j = g j := by simp [iup, h]
theorem aI_up {g : Int → Int} {k x : Int} (h0 : 0 ≤ k) (h1 : k < 2147483648) : upd (aI g) (iI k).toNatClampNeg (iI x) = aI (iup g k x) := by
  rw [iI_cl h0 h1]
  funext j
  by_cases hj : j = k.toNat
  · subst hj
    have e : ((k.toNat : Nat) : Int) = k := Int.toNat_of_nonneg h0
    simp only [upd, aI, iup, if_pos e, if_true]
  · have e : ¬ ((j : Nat) : Int) = k := fun z => hj (by omega)
    simp only [upd, aI, iup, if_neg e, if_neg hj]
theorem aI_cpy {f g : Int → Int} {sp dp n : Int} (h1 : 0 ≤ sp) (h2 : 0 ≤ dp) (h3 : 0 ≤ n) : va_cpy (aI f) (aI g) sp.toNat dp.toNat n.toNat = aI (icpy f g sp dp n) := by
  funext j
  simp only [va_cpy, aI, icpy]
  by_cases hj : dp.toNat ≤ j ∧ j < dp.toNat + n.toNat
  · have e : dp ≤ (j : Int) ∧ (j : Int) < dp + n := by omega
    rw [if_pos hj, if_pos e]
    have e2 : ((sp.toNat + (j - dp.toNat) : Nat) : Int) = sp + ((j : Int) - dp) := by omega
    rw [e2]
  · have e : ¬ (dp ≤ (j : Int) ∧ (j : Int) < dp + n) := by omega
    rw [if_neg hj, if_neg e]
theorem aI_zero : (fun _ : Nat => (0 : Int32)) = aI (fun _ => 0) := by
  funext j
  exact iI_zero
theorem x_fm {α β : Type} {f : α → Option β} : ∀ {is : List α} {w : List β}, is.map f = w.map some → is.filterMap f = w
  | [], w, h => by
    cases w with
    | nil => rfl
    | cons a t => simp at h
  | i :: is, w, h => by
    cases w with
    | nil => simp at h
    | cons a t =>
      simp only [List.map_cons, List.cons.injEq] at h
      rw [List.filterMap_cons, h.1, x_fm h.2]
/-! the judgement over lists -/
def xC (p : Program) (s : State) (m : MethodId) (args : Array Value) (c : Code) (cc : ByteArray) (nL : Nat) (own : String) (Ts : List Cond) (D : va_G) (cl : List vw_C) (tys : List (ClassId × FieldType)) (A : Nat → Prop) : Prop :=
  p.tables.exec = Jvm.exec ∧ c.code = cc ∧ c.maxLocals = nL ∧ s.vm.findClass own = some m.cls ∧ (∀ w ∈ Ts, w.before args s = true) ∧ va_K D cl tys s ∧ (∀ q, s.heap.size ≤ q → A q)
def xG (p : Program) (l : Launch) (e : Env) (R : Room) (s : State) (m : MethodId) (args : Array Value) (below : List Frame) (meth : Method) (c : Code) (Q : State → Prop) (nL : Nat) (D : va_G) (cl : List vw_C) (A : Nat → Prop) (cells slots : Nat) (ws : va_W) (pc : Nat) (lv : List (Nat × Value)) (st : List Value) : Prop :=
  ∀ (H : Heap) (locs : List Loc) (ls : Array Slot), va_P D cl ws H → va_D A ws → va_S A s.heap H locs → lv_has ls nL lv → W p l e R s m args below meth c H locs cells slots Q (F0 m pc ls st)
section XG
variable {p : Program} {l : Launch} {e : Env} {R : Room} {s : State} {m : MethodId} {args : Array Value} {below : List Frame} {meth : Method} {c : Code} {Q : State → Prop}
variable {cc : ByteArray} {nL : Nat} {own : String} {Ts : List Cond} {D : va_G} {cl : List vw_C} {tys : List (ClassId × FieldType)} {A : Nat → Prop} {cells slots : Nat} {ws : va_W} {pc : Nat} {lv : List (Nat × Value)} {st : List Value}
theorem g_iconst (X : xC p s m args c cc nL own Ts D cl tys A) {n : Int} (hd : decode cc pc = .ok (.iconst n, 1)) (k : xG p l e R s m args below meth c Q nL D cl A cells slots ws (pc + 1) lv (.int (iI n) :: st)) : xG p l e R s m args below meth c Q nL D cl A cells slots ws pc lv st :=
  fun H locs ls hP hD hS hl => lv_iconst X.1 X.2.1 hd rfl (k H locs ls hP hD hS hl)
theorem g_bipush (X : xC p s m args c cc nL own Ts D cl tys A) {n v : Int} (hd : decode cc pc = .ok (.bipush n, 2)) (hv : (Int8.ofInt n).toInt32 = iI v) (k : xG p l e R s m args below meth c Q nL D cl A cells slots ws (pc + 2) lv (.int (iI v) :: st)) : xG p l e R s m args below meth c Q nL D cl A cells slots ws pc lv st :=
  fun H locs ls hP hD hS hl => lv_bipush X.1 X.2.1 hd hv (k H locs ls hP hD hS hl)
theorem g_sipush (X : xC p s m args c cc nL own Ts D cl tys A) {n v : Int} (hd : decode cc pc = .ok (.sipush n, 3)) (hv : (Int16.ofInt n).toInt32 = iI v) (k : xG p l e R s m args below meth c Q nL D cl A cells slots ws (pc + 3) lv (.int (iI v) :: st)) : xG p l e R s m args below meth c Q nL D cl A cells slots ws pc lv st :=
  fun H locs ls hP hD hS hl => lv_sipush X.1 X.2.1 hd hv (k H locs ls hP hD hS hl)
theorem g_ldc2 (X : xC p s m args c cc nL own Ts D cl tys A) {index : Nat} {v : Int64} (hw : Cond.constantLong own index v ∈ Ts) (hd : decode cc pc = .ok (.ldc2_w index, 3)) (k : xG p l e R s m args below meth c Q nL D cl A cells slots ws (pc + 3) lv (.long v :: st)) : xG p l e R s m args below meth c Q nL D cl A cells slots ws pc lv st :=
  fun H locs ls hP hD hS hl => lv_ldc2 X.1 X.2.1 X.2.2.2.1 (X.2.2.2.2.1 _ hw) hd (k H locs ls hP hD hS hl)
theorem g_iload_n (X : xC p s m args c cc nL own Ts D cl tys A) {k0 : Fin 4} {i : Nat} {x : Int32} (hd : decode cc pc = .ok (.iload_n k0, 1)) (hi : (k0 : Nat) = i) (j : Nat) (hj : lv[j]? = some (i, .int x)) (k : xG p l e R s m args below meth c Q nL D cl A cells slots ws (pc + 1) lv (.int x :: st)) : xG p l e R s m args below meth c Q nL D cl A cells slots ws pc lv st :=
  fun H locs ls hP hD hS hl => lv_iload_n X.1 X.2.1 hd hi (lv_at hl j hj) (k H locs ls hP hD hS hl)
theorem g_iload (X : xC p s m args c cc nL own Ts D cl tys A) {i : Nat} {x : Int32} (hd : decode cc pc = .ok (.iload i, 2)) (j : Nat) (hj : lv[j]? = some (i, .int x)) (k : xG p l e R s m args below meth c Q nL D cl A cells slots ws (pc + 2) lv (.int x :: st)) : xG p l e R s m args below meth c Q nL D cl A cells slots ws pc lv st :=
  fun H locs ls hP hD hS hl => lv_iload X.1 X.2.1 hd (lv_at hl j hj) (k H locs ls hP hD hS hl)
theorem g_lload_n (X : xC p s m args c cc nL own Ts D cl tys A) {k0 : Fin 4} {i : Nat} {x : Int64} (hd : decode cc pc = .ok (.lload_n k0, 1)) (hi : (k0 : Nat) = i) (j : Nat) (hj : lv[j]? = some (i, .long x)) (k : xG p l e R s m args below meth c Q nL D cl A cells slots ws (pc + 1) lv (.long x :: st)) : xG p l e R s m args below meth c Q nL D cl A cells slots ws pc lv st :=
  fun H locs ls hP hD hS hl => lv_lload_n X.1 X.2.1 hd hi (lv_at hl j hj) (k H locs ls hP hD hS hl)
theorem g_lload (X : xC p s m args c cc nL own Ts D cl tys A) {i : Nat} {x : Int64} (hd : decode cc pc = .ok (.lload i, 2)) (j : Nat) (hj : lv[j]? = some (i, .long x)) (k : xG p l e R s m args below meth c Q nL D cl A cells slots ws (pc + 2) lv (.long x :: st)) : xG p l e R s m args below meth c Q nL D cl A cells slots ws pc lv st :=
  fun H locs ls hP hD hS hl => lv_lload X.1 X.2.1 hd (lv_at hl j hj) (k H locs ls hP hD hS hl)
theorem g_aload_n (X : xC p s m args c cc nL own Ts D cl tys A) {k0 : Fin 4} {i : Nat} {x : Nat} (hd : decode cc pc = .ok (.aload_n k0, 1)) (hi : (k0 : Nat) = i) (j : Nat) (hj : lv[j]? = some (i, .ref x)) (k : xG p l e R s m args below meth c Q nL D cl A cells slots ws (pc + 1) lv (.ref x :: st)) : xG p l e R s m args below meth c Q nL D cl A cells slots ws pc lv st :=
  fun H locs ls hP hD hS hl => lv_aload_n X.1 X.2.1 hd hi (lv_at hl j hj) (k H locs ls hP hD hS hl)
theorem g_aload (X : xC p s m args c cc nL own Ts D cl tys A) {i : Nat} {x : Nat} (hd : decode cc pc = .ok (.aload i, 2)) (j : Nat) (hj : lv[j]? = some (i, .ref x)) (k : xG p l e R s m args below meth c Q nL D cl A cells slots ws (pc + 2) lv (.ref x :: st)) : xG p l e R s m args below meth c Q nL D cl A cells slots ws pc lv st :=
  fun H locs ls hP hD hS hl => lv_aload X.1 X.2.1 hd (lv_at hl j hj) (k H locs ls hP hD hS hl)
theorem g_istore_n (X : xC p s m args c cc nL own Ts D cl tys A) {k0 : Fin 4} {i : Nat} {x : Int32} {lv' : List (Nat × Value)} (hd : decode cc pc = .ok (.istore_n k0, 1)) (hi : (k0 : Nat) = i) (hn : i < nL) (hl' : (i, Value.int x) :: lv.filter (fun q => !(q.1 == i) && !(q.1 + 1 == i && q.2.category == 2)) = lv') (k : xG p l e R s m args below meth c Q nL D cl A cells slots ws (pc + 1) lv' st) : xG p l e R s m args below meth c Q nL D cl A cells slots ws pc lv (.int x :: st) :=
  fun H locs ls hP hD hS hl => lv_istore_n X.1 X.2.1 hd hi hl hn hl' (fun ls' h' => k H locs ls' hP hD hS h')
theorem g_istore (X : xC p s m args c cc nL own Ts D cl tys A) {i : Nat} {x : Int32} {lv' : List (Nat × Value)} (hd : decode cc pc = .ok (.istore i, 2)) (hn : i < nL) (hl' : (i, Value.int x) :: lv.filter (fun q => !(q.1 == i) && !(q.1 + 1 == i && q.2.category == 2)) = lv') (k : xG p l e R s m args below meth c Q nL D cl A cells slots ws (pc + 2) lv' st) : xG p l e R s m args below meth c Q nL D cl A cells slots ws pc lv (.int x :: st) :=
  fun H locs ls hP hD hS hl => lv_istore X.1 X.2.1 hd hl hn hl' (fun ls' h' => k H locs ls' hP hD hS h')
theorem g_astore_n (X : xC p s m args c cc nL own Ts D cl tys A) {k0 : Fin 4} {i : Nat} {x : Nat} {lv' : List (Nat × Value)} (hd : decode cc pc = .ok (.astore_n k0, 1)) (hi : (k0 : Nat) = i) (hn : i < nL) (hl' : (i, Value.ref x) :: lv.filter (fun q => !(q.1 == i) && !(q.1 + 1 == i && q.2.category == 2)) = lv') (k : xG p l e R s m args below meth c Q nL D cl A cells slots ws (pc + 1) lv' st) : xG p l e R s m args below meth c Q nL D cl A cells slots ws pc lv (.ref x :: st) :=
  fun H locs ls hP hD hS hl => lv_astore_n X.1 X.2.1 hd hi hl hn hl' (fun ls' h' => k H locs ls' hP hD hS h')
theorem g_astore (X : xC p s m args c cc nL own Ts D cl tys A) {i : Nat} {x : Nat} {lv' : List (Nat × Value)} (hd : decode cc pc = .ok (.astore i, 2)) (hn : i < nL) (hl' : (i, Value.ref x) :: lv.filter (fun q => !(q.1 == i) && !(q.1 + 1 == i && q.2.category == 2)) = lv') (k : xG p l e R s m args below meth c Q nL D cl A cells slots ws (pc + 2) lv' st) : xG p l e R s m args below meth c Q nL D cl A cells slots ws pc lv (.ref x :: st) :=
  fun H locs ls hP hD hS hl => lv_astore X.1 X.2.1 hd hl hn hl' (fun ls' h' => k H locs ls' hP hD hS h')
theorem g_iinc (X : xC p s m args c cc nL own Ts D cl tys A) {i : Nat} {n x : Int} {lv' : List (Nat × Value)} (hd : decode cc pc = .ok (.iinc i n, 3)) (j : Nat) (hj : lv[j]? = some (i, .int (iI x))) (hn : i < nL) (hl' : (i, Value.int (iI (x + n))) :: lv.filter (fun q => !(q.1 == i) && !(q.1 + 1 == i && q.2.category == 2)) = lv') (k : xG p l e R s m args below meth c Q nL D cl A cells slots ws (pc + 3) lv' st) : xG p l e R s m args below meth c Q nL D cl A cells slots ws pc lv st :=
  fun H locs ls hP hD hS hl => lv_iinc X.1 X.2.1 hd hl hj (iI_add x n) hn hl' (fun ls' h' => k H locs ls' hP hD hS h')
theorem g_iadd (X : xC p s m args c cc nL own Ts D cl tys A) {a b : Int} (hd : decode cc pc = .ok (.iadd, 1)) (k : xG p l e R s m args below meth c Q nL D cl A cells slots ws (pc + 1) lv (.int (iI (a + b)) :: st)) : xG p l e R s m args below meth c Q nL D cl A cells slots ws pc lv (.int (iI b) :: .int (iI a) :: st) :=
  fun H locs ls hP hD hS hl => lv_iadd X.1 X.2.1 hd (by rw [iI_add]; exact k H locs ls hP hD hS hl)
theorem g_isub (X : xC p s m args c cc nL own Ts D cl tys A) {a b : Int} (hd : decode cc pc = .ok (.isub, 1)) (k : xG p l e R s m args below meth c Q nL D cl A cells slots ws (pc + 1) lv (.int (iI (a - b)) :: st)) : xG p l e R s m args below meth c Q nL D cl A cells slots ws pc lv (.int (iI b) :: .int (iI a) :: st) :=
  fun H locs ls hP hD hS hl => lv_isub X.1 X.2.1 hd (by rw [iI_sub]; exact k H locs ls hP hD hS hl)
theorem g_imul (X : xC p s m args c cc nL own Ts D cl tys A) {a b : Int} (hd : decode cc pc = .ok (.imul, 1)) (k : xG p l e R s m args below meth c Q nL D cl A cells slots ws (pc + 1) lv (.int (iI (a * b)) :: st)) : xG p l e R s m args below meth c Q nL D cl A cells slots ws pc lv (.int (iI b) :: .int (iI a) :: st) :=
  fun H locs ls hP hD hS hl => lv_imul X.1 X.2.1 hd (by rw [iI_mul]; exact k H locs ls hP hD hS hl)
theorem g_iand (X : xC p s m args c cc nL own Ts D cl tys A) {x y z : Int32} (hd : decode cc pc = .ok (.iand, 1)) (hz : x &&& y = z) (k : xG p l e R s m args below meth c Q nL D cl A cells slots ws (pc + 1) lv (.int z :: st)) : xG p l e R s m args below meth c Q nL D cl A cells slots ws pc lv (.int y :: .int x :: st) :=
  fun H locs ls hP hD hS hl => lv_iand X.1 X.2.1 hd (by rw [hz]; exact k H locs ls hP hD hS hl)
theorem g_land (X : xC p s m args c cc nL own Ts D cl tys A) {x y z : Int64} (hd : decode cc pc = .ok (.land, 1)) (hz : x &&& y = z) (k : xG p l e R s m args below meth c Q nL D cl A cells slots ws (pc + 1) lv (.long z :: st)) : xG p l e R s m args below meth c Q nL D cl A cells slots ws pc lv (.long y :: .long x :: st) :=
  fun H locs ls hP hD hS hl => lv_land X.1 X.2.1 hd (by rw [hz]; exact k H locs ls hP hD hS hl)
theorem g_lor (X : xC p s m args c cc nL own Ts D cl tys A) {x y z : Int64} (hd : decode cc pc = .ok (.lor, 1)) (hz : x ||| y = z) (k : xG p l e R s m args below meth c Q nL D cl A cells slots ws (pc + 1) lv (.long z :: st)) : xG p l e R s m args below meth c Q nL D cl A cells slots ws pc lv (.long y :: .long x :: st) :=
  fun H locs ls hP hD hS hl => lv_lor X.1 X.2.1 hd (by rw [hz]; exact k H locs ls hP hD hS hl)
theorem g_lushr (X : xC p s m args c cc nL own Ts D cl tys A) {x v : Int64} {y : Int32} (hd : decode cc pc = .ok (.lushr, 1)) (hv : (x.toUInt64 >>> (y.toInt64.toUInt64 &&& Int64.toUInt64 63)).toInt64 = v) (k : xG p l e R s m args below meth c Q nL D cl A cells slots ws (pc + 1) lv (.long v :: st)) : xG p l e R s m args below meth c Q nL D cl A cells slots ws pc lv (.int y :: .long x :: st) :=
  fun H locs ls hP hD hS hl => lv_lushr X.1 X.2.1 hd hv (k H locs ls hP hD hS hl)
theorem g_lshr (X : xC p s m args c cc nL own Ts D cl tys A) {x v : Int64} {y : Int32} (hd : decode cc pc = .ok (.lshr, 1)) (hv : x >>> (y.toInt64 &&& 63) = v) (k : xG p l e R s m args below meth c Q nL D cl A cells slots ws (pc + 1) lv (.long v :: st)) : xG p l e R s m args below meth c Q nL D cl A cells slots ws pc lv (.int y :: .long x :: st) :=
  fun H locs ls hP hD hS hl => lv_lshr X.1 X.2.1 hd hv (k H locs ls hP hD hS hl)
theorem g_lshl (X : xC p s m args c cc nL own Ts D cl tys A) {x v : Int64} {y : Int32} (hd : decode cc pc = .ok (.lshl, 1)) (hv : x <<< (y.toInt64 &&& 63) = v) (k : xG p l e R s m args below meth c Q nL D cl A cells slots ws (pc + 1) lv (.long v :: st)) : xG p l e R s m args below meth c Q nL D cl A cells slots ws pc lv (.int y :: .long x :: st) :=
  fun H locs ls hP hD hS hl => lv_lshl X.1 X.2.1 hd hv (k H locs ls hP hD hS hl)
theorem g_i2l (X : xC p s m args c cc nL own Ts D cl tys A) {x : Int32} {v : Int64} (hd : decode cc pc = .ok (.i2l, 1)) (hv : x.toInt64 = v) (k : xG p l e R s m args below meth c Q nL D cl A cells slots ws (pc + 1) lv (.long v :: st)) : xG p l e R s m args below meth c Q nL D cl A cells slots ws pc lv (.int x :: st) :=
  fun H locs ls hP hD hS hl => lv_i2l X.1 X.2.1 hd hv (k H locs ls hP hD hS hl)
theorem g_l2i (X : xC p s m args c cc nL own Ts D cl tys A) {x : Int64} {v : Int32} (hd : decode cc pc = .ok (.l2i, 1)) (hv : x.toInt32 = v) (k : xG p l e R s m args below meth c Q nL D cl A cells slots ws (pc + 1) lv (.int v :: st)) : xG p l e R s m args below meth c Q nL D cl A cells slots ws pc lv (.long x :: st) :=
  fun H locs ls hP hD hS hl => lv_l2i X.1 X.2.1 hd hv (k H locs ls hP hD hS hl)
theorem g_dup (X : xC p s m args c cc nL own Ts D cl tys A) {v : Value} (hd : decode cc pc = .ok (.dup, 1)) (hv : v.category = 1) (k : xG p l e R s m args below meth c Q nL D cl A cells slots ws (pc + 1) lv (v :: v :: st)) : xG p l e R s m args below meth c Q nL D cl A cells slots ws pc lv (v :: st) :=
  fun H locs ls hP hD hS hl => lv_dup X.1 X.2.1 hd hv (k H locs ls hP hD hS hl)
theorem g_pop (X : xC p s m args c cc nL own Ts D cl tys A) {v : Value} (hd : decode cc pc = .ok (.pop, 1)) (hv : v.category = 1) (k : xG p l e R s m args below meth c Q nL D cl A cells slots ws (pc + 1) lv st) : xG p l e R s m args below meth c Q nL D cl A cells slots ws pc lv (v :: st) :=
  fun H locs ls hP hD hS hl => lv_pop X.1 X.2.1 hd hv (k H locs ls hP hD hS hl)
theorem g_dup2 (X : xC p s m args c cc nL own Ts D cl tys A) {v w : Value} (hd : decode cc pc = .ok (.dup2, 1)) (hv : v.category = 1) (hw : w.category = 1) (k : xG p l e R s m args below meth c Q nL D cl A cells slots ws (pc + 1) lv (v :: w :: v :: w :: st)) : xG p l e R s m args below meth c Q nL D cl A cells slots ws pc lv (v :: w :: st) :=
  fun H locs ls hP hD hS hl => lv_dup2_11 X.1 X.2.1 hd hv hw (k H locs ls hP hD hS hl)
theorem g_icmp_eq (X : xC p s m args c cc nL own Ts D cl tys A) {a b off : Int} {tgt : Nat} (hd : decode cc pc = .ok (.if_icmp .eq off, 3)) (ht : (pc : Int) + off = (tgt : Int)) (ha : iR a) (hb : iR b) (kt : a = b → xG p l e R s m args below meth c Q nL D cl A cells slots ws tgt lv st) (kf : a ≠ b → xG p l e R s m args below meth c Q nL D cl A cells slots ws (pc + 3) lv st) : xG p l e R s m args below meth c Q nL D cl A cells slots ws pc lv (.int (iI b) :: .int (iI a) :: st) :=
  fun H locs ls hP hD hS hl => lv_icmp_eq X.1 X.2.1 hd ht (fun h => kt ((iI_eq ha hb).mp h) H locs ls hP hD hS hl) (fun h => kf (fun z => h ((iI_eq ha hb).mpr z)) H locs ls hP hD hS hl)
theorem g_if_eq (X : xC p s m args c cc nL own Ts D cl tys A) {a off : Int} {tgt : Nat} (hd : decode cc pc = .ok (.ifCond .eq off, 3)) (ht : (pc : Int) + off = (tgt : Int)) (ha : iR a) (kt : a = 0 → xG p l e R s m args below meth c Q nL D cl A cells slots ws tgt lv st) (kf : a ≠ 0 → xG p l e R s m args below meth c Q nL D cl A cells slots ws (pc + 3) lv st) : xG p l e R s m args below meth c Q nL D cl A cells slots ws pc lv (.int (iI a) :: st) :=
  fun H locs ls hP hD hS hl => lv_if_eq X.1 X.2.1 hd ht (fun h => by rw [iI_zero] at h; exact kt ((iI_eq ha (show iR 0 by omega)).mp h) H locs ls hP hD hS hl) (fun h => by rw [iI_zero] at h; exact kf (fun z => h ((iI_eq ha (show iR 0 by omega)).mpr z)) H locs ls hP hD hS hl)
theorem g_icmp_ne (X : xC p s m args c cc nL own Ts D cl tys A) {a b off : Int} {tgt : Nat} (hd : decode cc pc = .ok (.if_icmp .ne off, 3)) (ht : (pc : Int) + off = (tgt : Int)) (ha : iR a) (hb : iR b) (kt : a ≠ b → xG p l e R s m args below meth c Q nL D cl A cells slots ws tgt lv st) (kf : a = b → xG p l e R s m args below meth c Q nL D cl A cells slots ws (pc + 3) lv st) : xG p l e R s m args below meth c Q nL D cl A cells slots ws pc lv (.int (iI b) :: .int (iI a) :: st) :=
  fun H locs ls hP hD hS hl => lv_icmp_ne X.1 X.2.1 hd ht (fun h => kt (fun z => h ((iI_eq ha hb).mpr z)) H locs ls hP hD hS hl) (fun h => kf ((iI_eq ha hb).mp h) H locs ls hP hD hS hl)
theorem g_if_ne (X : xC p s m args c cc nL own Ts D cl tys A) {a off : Int} {tgt : Nat} (hd : decode cc pc = .ok (.ifCond .ne off, 3)) (ht : (pc : Int) + off = (tgt : Int)) (ha : iR a) (kt : a ≠ 0 → xG p l e R s m args below meth c Q nL D cl A cells slots ws tgt lv st) (kf : a = 0 → xG p l e R s m args below meth c Q nL D cl A cells slots ws (pc + 3) lv st) : xG p l e R s m args below meth c Q nL D cl A cells slots ws pc lv (.int (iI a) :: st) :=
  fun H locs ls hP hD hS hl => lv_if_ne X.1 X.2.1 hd ht (fun h => by rw [iI_zero] at h; exact kt (fun z => h ((iI_eq ha (show iR 0 by omega)).mpr z)) H locs ls hP hD hS hl) (fun h => by rw [iI_zero] at h; exact kf ((iI_eq ha (show iR 0 by omega)).mp h) H locs ls hP hD hS hl)
theorem g_icmp_lt (X : xC p s m args c cc nL own Ts D cl tys A) {a b off : Int} {tgt : Nat} (hd : decode cc pc = .ok (.if_icmp .lt off, 3)) (ht : (pc : Int) + off = (tgt : Int)) (ha : iR a) (hb : iR b) (kt : a < b → xG p l e R s m args below meth c Q nL D cl A cells slots ws tgt lv st) (kf : b ≤ a → xG p l e R s m args below meth c Q nL D cl A cells slots ws (pc + 3) lv st) : xG p l e R s m args below meth c Q nL D cl A cells slots ws pc lv (.int (iI b) :: .int (iI a) :: st) :=
  fun H locs ls hP hD hS hl => lv_icmp_lt X.1 X.2.1 hd ht (fun h => kt ((iI_lt ha hb).mp h) H locs ls hP hD hS hl) (fun h => kf (Int.not_lt.mp (fun z => h ((iI_lt ha hb).mpr z))) H locs ls hP hD hS hl)
theorem g_if_lt (X : xC p s m args c cc nL own Ts D cl tys A) {a off : Int} {tgt : Nat} (hd : decode cc pc = .ok (.ifCond .lt off, 3)) (ht : (pc : Int) + off = (tgt : Int)) (ha : iR a) (kt : a < 0 → xG p l e R s m args below meth c Q nL D cl A cells slots ws tgt lv st) (kf : 0 ≤ a → xG p l e R s m args below meth c Q nL D cl A cells slots ws (pc + 3) lv st) : xG p l e R s m args below meth c Q nL D cl A cells slots ws pc lv (.int (iI a) :: st) :=
  fun H locs ls hP hD hS hl => lv_if_lt X.1 X.2.1 hd ht (fun h => by rw [iI_zero] at h; exact kt ((iI_lt ha (show iR 0 by omega)).mp h) H locs ls hP hD hS hl) (fun h => by rw [iI_zero] at h; exact kf (Int.not_lt.mp (fun z => h ((iI_lt ha (show iR 0 by omega)).mpr z))) H locs ls hP hD hS hl)
theorem g_icmp_ge (X : xC p s m args c cc nL own Ts D cl tys A) {a b off : Int} {tgt : Nat} (hd : decode cc pc = .ok (.if_icmp .ge off, 3)) (ht : (pc : Int) + off = (tgt : Int)) (ha : iR a) (hb : iR b) (kt : b ≤ a → xG p l e R s m args below meth c Q nL D cl A cells slots ws tgt lv st) (kf : a < b → xG p l e R s m args below meth c Q nL D cl A cells slots ws (pc + 3) lv st) : xG p l e R s m args below meth c Q nL D cl A cells slots ws pc lv (.int (iI b) :: .int (iI a) :: st) :=
  fun H locs ls hP hD hS hl => lv_icmp_ge X.1 X.2.1 hd ht (fun h => kt ((iI_le hb ha).mp h) H locs ls hP hD hS hl) (fun h => kf (Int.not_le.mp (fun z => h ((iI_le hb ha).mpr z))) H locs ls hP hD hS hl)
theorem g_if_ge (X : xC p s m args c cc nL own Ts D cl tys A) {a off : Int} {tgt : Nat} (hd : decode cc pc = .ok (.ifCond .ge off, 3)) (ht : (pc : Int) + off = (tgt : Int)) (ha : iR a) (kt : 0 ≤ a → xG p l e R s m args below meth c Q nL D cl A cells slots ws tgt lv st) (kf : a < 0 → xG p l e R s m args below meth c Q nL D cl A cells slots ws (pc + 3) lv st) : xG p l e R s m args below meth c Q nL D cl A cells slots ws pc lv (.int (iI a) :: st) :=
  fun H locs ls hP hD hS hl => lv_if_ge X.1 X.2.1 hd ht (fun h => by rw [iI_zero] at h; exact kt ((iI_le (show iR 0 by omega) ha).mp h) H locs ls hP hD hS hl) (fun h => by rw [iI_zero] at h; exact kf (Int.not_le.mp (fun z => h ((iI_le (show iR 0 by omega) ha).mpr z))) H locs ls hP hD hS hl)
theorem g_icmp_gt (X : xC p s m args c cc nL own Ts D cl tys A) {a b off : Int} {tgt : Nat} (hd : decode cc pc = .ok (.if_icmp .gt off, 3)) (ht : (pc : Int) + off = (tgt : Int)) (ha : iR a) (hb : iR b) (kt : b < a → xG p l e R s m args below meth c Q nL D cl A cells slots ws tgt lv st) (kf : a ≤ b → xG p l e R s m args below meth c Q nL D cl A cells slots ws (pc + 3) lv st) : xG p l e R s m args below meth c Q nL D cl A cells slots ws pc lv (.int (iI b) :: .int (iI a) :: st) :=
  fun H locs ls hP hD hS hl => lv_icmp_gt X.1 X.2.1 hd ht (fun h => kt ((iI_lt hb ha).mp h) H locs ls hP hD hS hl) (fun h => kf (Int.not_lt.mp (fun z => h ((iI_lt hb ha).mpr z))) H locs ls hP hD hS hl)
theorem g_if_gt (X : xC p s m args c cc nL own Ts D cl tys A) {a off : Int} {tgt : Nat} (hd : decode cc pc = .ok (.ifCond .gt off, 3)) (ht : (pc : Int) + off = (tgt : Int)) (ha : iR a) (kt : 0 < a → xG p l e R s m args below meth c Q nL D cl A cells slots ws tgt lv st) (kf : a ≤ 0 → xG p l e R s m args below meth c Q nL D cl A cells slots ws (pc + 3) lv st) : xG p l e R s m args below meth c Q nL D cl A cells slots ws pc lv (.int (iI a) :: st) :=
  fun H locs ls hP hD hS hl => lv_if_gt X.1 X.2.1 hd ht (fun h => by rw [iI_zero] at h; exact kt ((iI_lt (show iR 0 by omega) ha).mp h) H locs ls hP hD hS hl) (fun h => by rw [iI_zero] at h; exact kf (Int.not_lt.mp (fun z => h ((iI_lt (show iR 0 by omega) ha).mpr z))) H locs ls hP hD hS hl)
theorem g_icmp_le (X : xC p s m args c cc nL own Ts D cl tys A) {a b off : Int} {tgt : Nat} (hd : decode cc pc = .ok (.if_icmp .le off, 3)) (ht : (pc : Int) + off = (tgt : Int)) (ha : iR a) (hb : iR b) (kt : a ≤ b → xG p l e R s m args below meth c Q nL D cl A cells slots ws tgt lv st) (kf : b < a → xG p l e R s m args below meth c Q nL D cl A cells slots ws (pc + 3) lv st) : xG p l e R s m args below meth c Q nL D cl A cells slots ws pc lv (.int (iI b) :: .int (iI a) :: st) :=
  fun H locs ls hP hD hS hl => lv_icmp_le X.1 X.2.1 hd ht (fun h => kt ((iI_le ha hb).mp h) H locs ls hP hD hS hl) (fun h => kf (Int.not_le.mp (fun z => h ((iI_le ha hb).mpr z))) H locs ls hP hD hS hl)
theorem g_if_le (X : xC p s m args c cc nL own Ts D cl tys A) {a off : Int} {tgt : Nat} (hd : decode cc pc = .ok (.ifCond .le off, 3)) (ht : (pc : Int) + off = (tgt : Int)) (ha : iR a) (kt : a ≤ 0 → xG p l e R s m args below meth c Q nL D cl A cells slots ws tgt lv st) (kf : 0 < a → xG p l e R s m args below meth c Q nL D cl A cells slots ws (pc + 3) lv st) : xG p l e R s m args below meth c Q nL D cl A cells slots ws pc lv (.int (iI a) :: st) :=
  fun H locs ls hP hD hS hl => lv_if_le X.1 X.2.1 hd ht (fun h => by rw [iI_zero] at h; exact kt ((iI_le ha (show iR 0 by omega)).mp h) H locs ls hP hD hS hl) (fun h => by rw [iI_zero] at h; exact kf (Int.not_le.mp (fun z => h ((iI_le ha (show iR 0 by omega)).mpr z))) H locs ls hP hD hS hl)
theorem g_goto (X : xC p s m args c cc nL own Ts D cl tys A) {off : Int} {tgt : Nat} (hd : decode cc pc = .ok (.goto off, 3)) (ht : (pc : Int) + off = (tgt : Int)) (k : xG p l e R s m args below meth c Q nL D cl A cells slots ws tgt lv st) : xG p l e R s m args below meth c Q nL D cl A cells slots ws pc lv st :=
  fun H locs ls hP hD hS hl => lv_goto X.1 X.2.1 hd ht (k H locs ls hP hD hS hl)
theorem g_lv {lv' : List (Nat × Value)} (ks : List Nat) (hk : lv_pick lv ks = lv') (k : xG p l e R s m args below meth c Q nL D cl A cells slots ws pc lv' st) : xG p l e R s m args below meth c Q nL D cl A cells slots ws pc lv st :=
  fun H locs ls hP hD hS hl => k H locs ls hP hD hS (lv_sub hl ks hk)
theorem g_ws {ws' : va_W} (is : List Nat) (hn : va_nd is = true) (hs : is.map (fun i => ws[i]?) = ws'.map some) (k : xG p l e R s m args below meth c Q nL D cl A cells slots ws' pc lv st) : xG p l e R s m args below meth c Q nL D cl A cells slots ws pc lv st :=
  fun H locs ls hP hD hS hl => k H locs ls (hP.sub is (x_fm hs)) (hD.sub is hn hs) hS hl
theorem g_widen {k0 n0 : Nat} (h1 : cells ≤ k0) (h2 : slots ≤ n0) (k : xG p l e R s m args below meth c Q nL D cl A k0 n0 ws pc lv st) : xG p l e R s m args below meth c Q nL D cl A cells slots ws pc lv st :=
  fun H locs ls hP hD hS hl => W.widen h1 h2 (k H locs ls hP hD hS hl)
theorem g_get (X : xC p s m args c cc nL own Ts D cl tys A) {ref C : String} {T : u_T} {N ci index a : Nat} (hin : ∀ w ∈ u_ws C T N, w ∈ Ts) (q0 : Nat) {fs : List Value} (he : ws[q0]? = some (a, .inr (ci, fs))) (hc : cl[ci]? = some (C, T, N)) (k0 : Nat) (hk : k0 < N) (hlink : Cond.fieldLink own index ref (T k0).2.1 (T k0).2.2.1 ∈ Ts) (href : (T k0).1 = ref) {v : Value} (hv : fs[k0]? = some v) (hd : decode cc pc = .ok (.getfield index, 3)) (k : xG p l e R s m args below meth c Q nL D cl A cells slots ws (pc + 3) lv (v :: st)) : xG p l e R s m args below meth c Q nL D cl A cells slots ws pc lv (.ref a :: st) :=
  fun H locs ls hP hD hS hl => va_get X.1 X.2.1 X.2.2.2.2.1 hin X.2.2.2.1 X.2.2.2.2.2.1 hP q0 he hc k0 hk (X.2.2.2.2.1 _ hlink) (fun x h => by rw [← href]; exact h) hv hd (k H locs ls hP hD hS hl)
theorem g_put (X : xC p s m args c cc nL own Ts D cl tys A) {ref C : String} {T : u_T} {N ci index a : Nat} (hin : ∀ w ∈ u_ws C T N, w ∈ Ts) (ty0 : Nat → FieldType) (hty : ∀ k, k < N → parseFieldDescriptor (T k).2.2.1 = some (ty0 k)) (hnm : ∀ a, a < N → ∀ b, b < N → a ≠ b → (T a).2.1 ≠ (T b).2.1) (q0 : Nat) {fs : List Value} (he : ws[q0]? = some (a, .inr (ci, fs))) (hc : cl[ci]? = some (C, T, N)) (k0 : Nat) (hk : k0 < N) (hlink : Cond.fieldLink own index ref (T k0).2.1 (T k0).2.2.1 ∈ Ts) (href : (T k0).1 = ref) (hfin : (T k0).2.2.2 = false) {ty : FieldType} {v : Value} (hdd : parseFieldDescriptor (T k0).2.2.1 = some ty) (hn : narrow ty v = v) (hfit : fits ty v = true) (hl0 : k0 < fs.length) {ws' : va_W} (hw : ws.set q0 (a, .inr (ci, fs.set k0 v)) = ws') (hd : decode cc pc = .ok (.putfield index, 3)) (k : xG p l e R s m args below meth c Q nL D cl A cells slots ws' (pc + 3) lv st) : xG p l e R s m args below meth c Q nL D cl A cells slots ws pc lv (v :: .ref a :: st) :=
  fun H locs ls hP hD hS hl => va_put X.1 X.2.1 X.2.2.2.2.1 hin ty0 hty hnm X.2.2.2.1 X.2.2.2.2.2.1 hP hD hS q0 he hc k0 hk (X.2.2.2.2.1 _ hlink) (fun x h => by rw [← href]; exact h) hfin hdd hn hfit hl0 hd (fun H1 locs1 hP1 hD1 hS1 => k H1 locs1 ls (hw ▸ hP1) (hw ▸ hD1) hS1 hl)
theorem g_putF (X : xC p s m args c cc nL own Ts D cl tys A) {ref C : String} {T : u_T} {N ci index a : Nat} (hin : ∀ w ∈ u_ws C T N, w ∈ Ts) (ty0 : Nat → FieldType) (hty : ∀ k, k < N → parseFieldDescriptor (T k).2.2.1 = some (ty0 k)) (hnm : ∀ a, a < N → ∀ b, b < N → a ≠ b → (T a).2.1 ≠ (T b).2.1) (q0 : Nat) {fs : List Value} (he : ws[q0]? = some (a, .inr (ci, fs))) (hc : cl[ci]? = some (C, T, N)) (k0 : Nat) (hk : k0 < N) (hlink : Cond.fieldLink own index ref (T k0).2.1 (T k0).2.2.1 ∈ Ts) (href : (T k0).1 = ref) (hfin : (T k0).2.2.2 = true) (hin2 : meth.name = "<init>") (hdecl : (T k0).1 = own) {ty : FieldType} {v : Value} (hdd : parseFieldDescriptor (T k0).2.2.1 = some ty) (hn : narrow ty v = v) (hfit : fits ty v = true) (hl0 : k0 < fs.length) {ws' : va_W} (hw : ws.set q0 (a, .inr (ci, fs.set k0 v)) = ws') (hd : decode cc pc = .ok (.putfield index, 3)) (k : xG p l e R s m args below meth c Q nL D cl A cells slots ws' (pc + 3) lv st) : xG p l e R s m args below meth c Q nL D cl A cells slots ws pc lv (v :: .ref a :: st) :=
  fun H locs ls hP hD hS hl => va_putF X.1 X.2.1 X.2.2.2.2.1 hin ty0 hty hnm X.2.2.2.1 X.2.2.2.2.2.1 hP hD hS q0 he hc k0 hk (X.2.2.2.2.1 _ hlink) (fun x h => by rw [← href]; exact h) hfin hin2 hdecl hdd hn hfit hl0 hd (fun H1 locs1 hP1 hD1 hS1 => k H1 locs1 ls (hw ▸ hP1) (hw ▸ hD1) hS1 hl)
theorem g_iald (X : xC p s m args c cc nL own Ts D cl tys A) (q0 t0 : Nat) {cA : ClassId} {n a : Nat} {f : Int → Int} {i : Int} (ha : ws[q0]? = some (a, .inl (cA, n, .inl (aI f)))) (ht : tys[t0]? = some (cA, .int)) (h : 0 ≤ i ∧ i < (n : Int) ∧ n < 2147483648) (hd : decode cc pc = .ok (.iaload, 1)) (k : xG p l e R s m args below meth c Q nL D cl A cells slots ws (pc + 1) lv (.int (iI (f i)) :: st)) : xG p l e R s m args below meth c Q nL D cl A cells slots ws pc lv (.int (iI i) :: .ref a :: st) :=
  fun H locs ls hP hD hS hl => va_iald X.1 X.2.1 X.2.2.2.2.2.1 hP q0 t0 ha ht (iI_in h.1 h.2.1 h.2.2) hd (by
    rw [iI_cl h.1 (by omega)]
    have e1 : aI f i.toNat = iI (f i) := by
      show iI (f ((i.toNat : Nat) : Int)) = _
      rw [Int.toNat_of_nonneg h.1]
    rw [e1]
    exact k H locs ls hP hD hS hl)
theorem g_iast (X : xC p s m args c cc nL own Ts D cl tys A) (q0 t0 : Nat) {cA : ClassId} {n a : Nat} {f : Int → Int} {i x : Int} (ha : ws[q0]? = some (a, .inl (cA, n, .inl (aI f)))) (ht : tys[t0]? = some (cA, .int)) (h : 0 ≤ i ∧ i < (n : Int) ∧ n < 2147483648) {ws' : va_W} (hw : ws.set q0 (a, .inl (cA, n, .inl (aI (iup f i x)))) = ws') (hd : decode cc pc = .ok (.iastore, 1)) (k : xG p l e R s m args below meth c Q nL D cl A cells slots ws' (pc + 1) lv st) : xG p l e R s m args below meth c Q nL D cl A cells slots ws pc lv (.int (iI x) :: .int (iI i) :: .ref a :: st) :=
  fun H locs ls hP hD hS hl => va_iast X.1 X.2.1 X.2.2.2.2.2.1 hP hD hS q0 t0 ha ht (iI_in h.1 h.2.1 h.2.2) hd (by
    rw [aI_up h.1 (by omega), hw]
    exact fun H1 locs1 hP1 hD1 hS1 => k H1 locs1 ls hP1 hD1 hS1 hl)
theorem g_copy (X : xC p s m args c cc nL own Ts D cl tys A) {index : Nat} (hlink : Cond.methodLink own index arraycopyName ∈ Ts) (hnat : Cond.native arraycopyName ∈ Ts) (hstat : Cond.static arraycopyName ∈ Ts) (hini : Cond.initialized "java/lang/System" ∈ Ts) (q0 q1 t0 t1 : Nat) {a0 a1 n0 n1 : Nat} {c0 c1 : ClassId} {f g : Int → Int} {sp dp n : Int} (ha0 : ws[q0]? = some (a0, .inl (c0, n0, .inl (aI f)))) (ha1 : ws[q1]? = some (a1, .inl (c1, n1, .inl (aI g)))) (ht0 : tys[t0]? = some (c0, .int)) (ht1 : tys[t1]? = some (c1, .int)) (h : 0 ≤ sp ∧ 0 ≤ dp ∧ 0 ≤ n ∧ sp + n ≤ n0 ∧ dp + n ≤ n1 ∧ n0 < 2147483648 ∧ n1 < 2147483648) (hfr : 1 ≤ R.frames) (hlo : (st.map fun v => v.category).sum + (nativeFrameWords "java/lang/System" "arraycopy" 5 + 11) ≤ R.locals) {ws' : va_W} (hw : ws.set q1 (a1, .inl (c1, n1, .inl (aI (icpy f g sp dp n)))) = ws') (hd : decode cc pc = .ok (.invokestatic index, 3)) (k : xG p l e R s m args below meth c Q nL D cl A cells slots ws' (pc + 3) lv st) : xG p l e R s m args below meth c Q nL D cl A cells slots ws pc lv (.int (iI n) :: .int (iI dp) :: .ref a1 :: .int (iI sp) :: .ref a0 :: st) :=
  fun H locs ls hP hD hS hl => by
    have z : ∀ {x : Int}, 0 ≤ x → x < 2147483648 → ¬ iI x < 0 := fun h0 h1 => by
      rw [iI_zero, iI_lt ⟨by omega, h1⟩ ⟨by omega, by omega⟩]; omega
    obtain ⟨h1, h2, h3, h4, h5, h6, h7⟩ := h
    refine va_copyi X.1 X.2.1 (X.2.2.1.trans hl.1.symm) X.2.2.2.1 (X.2.2.2.2.1 _ hlink) (X.2.2.2.2.1 _ hnat) (X.2.2.2.2.1 _ hstat) (X.2.2.2.2.1 _ hini) X.2.2.2.2.2.1 hP hD hS q0 q1 t0 t1 ha0 ha1 ht0 ht1 rfl (z h1 (by omega)) (z h2 (by omega)) (z h3 (by omega)) ?_ ?_ (fun _ _ => rfl) hfr hlo hd ?_
    · rw [iI_cl h1 (by omega), iI_cl h3 (by omega)]; omega
    · rw [iI_cl h2 (by omega), iI_cl h3 (by omega)]; omega
    · rw [iI_cl h1 (by omega), iI_cl h2 (by omega), iI_cl h3 (by omega), aI_cpy h1 h2 h3, hw]
      exact fun H1 locs1 hP1 hD1 hS1 => k H1 locs1 ls hP1 hD1 hS1 hl
theorem g_mmin (X : xC p s m args c cc nL own Ts D cl tys A) {index : Nat} {a b : Int} (hlink : Cond.methodLink own index Lib.Math.min.name ∈ Ts) (hstat : Cond.static Lib.Math.min.name ∈ Ts) (hini : Cond.initialized "java/lang/Math" ∈ Ts) (hcode : Cond.code Lib.Math.min.name Lib.Math.min.code 2 (some .int) ∈ Ts) (hfr : 1 ≤ R.frames) (hlo : (st.map fun v => v.category).sum + 13 ≤ R.locals) (hc : cells ≤ R.cells) (hs : slots ≤ R.slots) (ha : iR a) (hb : iR b) (hd : decode cc pc = .ok (.invokestatic index, 3)) (k : xG p l e R s m args below meth c Q nL D cl A cells slots ws (pc + 3) lv (.int (iI (min a b)) :: st)) : xG p l e R s m args below meth c Q nL D cl A cells slots ws pc lv (.int (iI b) :: .int (iI a) :: st) :=
  fun H locs ls hP hD hS hl => by
    have e : (if iI b < iI a then iI b else iI a) = iI (min a b) := by
      by_cases h : b < a
      · rw [if_pos ((iI_lt hb ha).mpr h), Int.min_eq_right (by omega)]
      · rw [if_neg (fun z => h ((iI_lt hb ha).mp z)), Int.min_eq_left (by omega)]
    refine va_mmin X.1 X.2.1 (X.2.2.1.trans hl.1.symm) X.2.2.2.1 (X.2.2.2.2.1 _ hlink) (X.2.2.2.2.1 _ hstat) (X.2.2.2.2.1 _ hini) (X.2.2.2.2.1 _ hcode) hfr hlo hc hs hd ?_
    rw [e]
    exact k H locs ls hP hD hS hl
theorem g_mmax (X : xC p s m args c cc nL own Ts D cl tys A) {index : Nat} {a b : Int} (hlink : Cond.methodLink own index Lib.Math.max.name ∈ Ts) (hstat : Cond.static Lib.Math.max.name ∈ Ts) (hini : Cond.initialized "java/lang/Math" ∈ Ts) (hcode : Cond.code Lib.Math.max.name Lib.Math.max.code 2 (some .int) ∈ Ts) (hfr : 1 ≤ R.frames) (hlo : (st.map fun v => v.category).sum + 13 ≤ R.locals) (hc : cells ≤ R.cells) (hs : slots ≤ R.slots) (ha : iR a) (hb : iR b) (hd : decode cc pc = .ok (.invokestatic index, 3)) (k : xG p l e R s m args below meth c Q nL D cl A cells slots ws (pc + 3) lv (.int (iI (max a b)) :: st)) : xG p l e R s m args below meth c Q nL D cl A cells slots ws pc lv (.int (iI b) :: .int (iI a) :: st) :=
  fun H locs ls hP hD hS hl => by
    have e : (if iI a < iI b then iI b else iI a) = iI (max a b) := by
      by_cases h : a < b
      · rw [if_pos ((iI_lt ha hb).mpr h), Int.max_eq_right (by omega)]
      · rw [if_neg (fun z => h ((iI_lt ha hb).mp z)), Int.max_eq_left (by omega)]
    refine va_mmax X.1 X.2.1 (X.2.2.1.trans hl.1.symm) X.2.2.2.1 (X.2.2.2.2.1 _ hlink) (X.2.2.2.2.1 _ hstat) (X.2.2.2.2.1 _ hini) (X.2.2.2.2.1 _ hcode) hfr hlo hc hs hd ?_
    rw [e]
    exact k H locs ls hP hD hS hl
end XG
/-! contracts: 'from the cells wc, the method with the arguments av returns r and leaves cells w with Qy r w'; no other old cell changes -/
def xM (l : Launch) (y : MethodName) (wy : List Cond) (rm : Room) (D : va_G) (cl : List vw_C) (tys : List (ClassId × FieldType)) (av : List Value) (wc : va_W) (Qy : Int32 → va_W → Prop) (mc ms : Nat) : Prop :=
  ∀ sz : Nat, Met l y wy rm (va_Pc av (fun U => U.heap.size = sz ∧ va_P D cl wc U.heap ∧ va_K D cl tys U ∧ va_D (fun _ => True) wc)) (va_Qi Qy (fun u t => va_P D cl u t.heap ∧ va_D (va_A wc sz) u) (va_A wc sz)) mc ms (va_A wc sz)
def xV (l : Launch) (y : MethodName) (wy : List Cond) (rm : Room) (D : va_G) (cl : List vw_C) (tys : List (ClassId × FieldType)) (av : List Value) (wc : va_W) (Qy : va_W → Prop) (mc ms : Nat) : Prop :=
  ∀ sz : Nat, Met l y wy rm (va_Pc av (fun U => U.heap.size = sz ∧ va_P D cl wc U.heap ∧ va_K D cl tys U ∧ va_D (fun _ => True) wc)) (va_Qv Qy (fun u t => va_P D cl u t.heap ∧ va_D (va_A wc sz) u) (va_A wc sz)) mc ms (va_A wc sz)
section XR
variable {p : Program} {l : Launch} {e : Env} {R : Room} {s : State} {m : MethodId} {args : Array Value} {below : List Frame} {meth : Method} {c : Code} {Q : State → Prop}
variable {cc : ByteArray} {nL : Nat} {own : String} {Ts : List Cond} {D : va_G} {cl : List vw_C} {tys : List (ClassId × FieldType)} {A : Nat → Prop} {cells slots : Nat} {ws : va_W} {pc : Nat} {lv : List (Nat × Value)} {st : List Value}
theorem g_iret (X : xC p s m args c cc nL own Ts D cl tys A) (hr : meth.sig.returnType = some .int) (hlk : meth.locks = false) {Qy : Int32 → va_W → Prop} {r : Int32} (hd : decode cc pc = .ok (.ireturn, 1)) {w : va_W} (is : List Nat) (hn : va_nd is = true) (hs : is.map (fun i => ws[i]?) = w.map some) (hq : Qy r w) : xG p l e R s m args below meth c (MQ below (va_Qi Qy (fun u t => va_P D cl u t.heap ∧ va_D A u) A) args s cells slots A) nL D cl A cells slots ws pc lv [.int r] :=
  fun H locs ls hP hD hS hl => W.iret X.1 X.2.1 hr (fun t ht _ => ⟨⟨r, w, rfl, hq, by rw [ht]; exact hP.sub is (x_fm hs), hD.sub is hn hs⟩, hS.F ht⟩) hS.2.2 hd hlk
theorem g_zret (X : xC p s m args c cc nL own Ts D cl tys A) (hr : meth.sig.returnType = some .boolean) (hlk : meth.locks = false) {Qy : Int32 → va_W → Prop} {r : Int32} (hb : r = iI 0 ∨ r = iI 1) (hd : decode cc pc = .ok (.ireturn, 1)) {w : va_W} (is : List Nat) (hn : va_nd is = true) (hs : is.map (fun i => ws[i]?) = w.map some) (hq : Qy r w) : xG p l e R s m args below meth c (MQ below (va_Qi Qy (fun u t => va_P D cl u t.heap ∧ va_D A u) A) args s cells slots A) nL D cl A cells slots ws pc lv [.int r] :=
  fun H locs ls hP hD hS hl => W.zret X.1 X.2.1 hr (by rcases hb with rfl | rfl <;> decide) (fun t ht _ => ⟨⟨r, w, rfl, hq, by rw [ht]; exact hP.sub is (x_fm hs), hD.sub is hn hs⟩, hS.F ht⟩) hS.2.2 hd hlk
theorem g_vret (X : xC p s m args c cc nL own Ts D cl tys A) (hr : meth.sig.returnType = none) (hlk : meth.locks = false) {Qy : va_W → Prop} (hd : decode cc pc = .ok (.return_, 1)) {w : va_W} (is : List Nat) (hn : va_nd is = true) (hs : is.map (fun i => ws[i]?) = w.map some) (hq : Qy w) : xG p l e R s m args below meth c (MQ below (va_Qv Qy (fun u t => va_P D cl u t.heap ∧ va_D A u) A) args s cells slots A) nL D cl A cells slots ws pc lv [] :=
  fun H locs ls hP hD hS hl => W.vret X.1 X.2.1 hr (fun t ht _ => ⟨⟨w, rfl, hq, by rw [ht]; exact hP.sub is (x_fm hs), hD.sub is hn hs⟩, hS.F ht⟩) hS.2.2 hd hlk
theorem g_calli (X : xC p s m args c cc nL own Ts D cl tys A) {y : MethodName} {wy : List Cond} {rm : Room} {b : Nat} {As : List Value} {wc : va_W} {Qy : Int32 → va_W → Prop} {mc ms index n maxL : Nat} {bytes : ByteArray} {ty : FieldType} {C : String} {stk : List Value} {wr : va_W} (hM : xM l y wy rm D cl tys (.ref b :: As) wc Qy mc ms) (cw : CallW R s args own C index y bytes maxL (some ty) wy rm mc ms n) (isC isR : List Nat) (hC : isC.map (fun i => ws[i]?) = wc.map some) (hR : isR.map (fun i => ws[i]?) = wr.map some) (hnC : va_nd isC = true) (hn : va_nd isR = true) (hdis : ∀ i ∈ isR, i ∉ isC) (q0 ci : Nat) {fs : List Value} (hrec : ws[q0]? = some (b, .inr (ci, fs))) {T : u_T} {N : Nat} (hcl : cl[ci]? = some (C, T, N)) (hAs : As.length = n) (hst : stk = As.reverse ++ .ref b :: st) (hrm : (st.map fun v => v.category).sum ≤ 8) (hd : decode cc pc = .ok (.invokevirtual index, 3)) (hf : cells + mc ≤ R.cells ∧ slots + ms ≤ R.slots) (kk : ∀ (r : Int32) (w : va_W), Qy r w → xG p l e R s m args below meth c Q nL D cl A (cells + mc) (slots + ms) (wr ++ w) (pc + 3) lv (.int r :: st)) : xG p l e R s m args below meth c Q nL D cl A cells slots ws pc lv stk := by
  intro H locs ls hP hD hS hl
  have hPc := hP.sub isC (x_fm hC)
  have hDc := hD.sub isC hnC hC
  have hF := va_free (wc := wc) hD hS X.2.2.2.2.2.2 isC hC
  refine va_calli (va_runV ⟨X.1, X.2.1, X.2.2.1, X.2.2.2.1, X.2.2.2.2.1⟩ (hM H.size) cw ⟨fun a U g mk q => ⟨q.1, q.2.1, q.2.2.1, va_K.moved (u := U) (U := U.calling g mk a) (Vm.Alike.refl U.vm) q.2.2.2.1, q.2.2.2.2⟩, va_recv X.2.2.2.2.2.1 hP hcl hrec, fun U hU hW => ⟨rfl, by rw [hU], by rw [hU]; exact hPc, va_K.moved hW.alike X.2.2.2.2.2.1, hDc.weaken (fun _ _ _ _ => trivial)⟩⟩ rfl hAs hl.1 hst (lv_room hrm) hd hf) hS (fun q _ h => hF q h) hF (fun r u t H1 locs1 ht hvm hq hB hz1 hk1 hS1 => ?_)
  obtain ⟨hP1, hD1⟩ := hB
  rw [ht] at hP1
  obtain ⟨hP2, hD2⟩ := va_join (wr := wr) hP hD isC isR hC hR hn hdis hk1 hF hP1 hD1
  exact kk r u hq H1 locs1 ls hP2 hD2 hS1 hl
theorem g_callNi (X : xC p s m args c cc nL own Ts D cl tys A) {y : MethodName} {wy : List Cond} {rm : Room} {b : Nat} {As : List Value} {wc : va_W} {Qy : Int32 → va_W → Prop} {mc ms index n maxL : Nat} {bytes : ByteArray} {ty : FieldType} {C : String} {host : String} {stk : List Value} {wr : va_W} (hM : xM l y wy rm D cl tys (.ref b :: As) wc Qy mc ms) (cw : va_CN R s args own index y host bytes maxL (some ty) wy rm mc ms n ∧ (Cond.instanceMethod y).before args s = true ∧ (Cond.selects C y y).before args s = true) (isC isR : List Nat) (hC : isC.map (fun i => ws[i]?) = wc.map some) (hR : isR.map (fun i => ws[i]?) = wr.map some) (hnC : va_nd isC = true) (hn : va_nd isR = true) (hdis : ∀ i ∈ isR, i ∉ isC) (q0 ci : Nat) {fs : List Value} (hrec : ws[q0]? = some (b, .inr (ci, fs))) {T : u_T} {N : Nat} (hcl : cl[ci]? = some (C, T, N)) (hAs : As.length = n) (hst : stk = As.reverse ++ .ref b :: st) (hrm : (st.map fun v => v.category).sum ≤ 8) (hd : decode cc pc = .ok (.invokevirtual index, 3)) (hf : cells + mc ≤ R.cells ∧ slots + ms ≤ R.slots) (kk : ∀ (r : Int32) (w : va_W), Qy r w → xG p l e R s m args below meth c Q nL D cl A (cells + mc) (slots + ms) (wr ++ w) (pc + 3) lv (.int r :: st)) : xG p l e R s m args below meth c Q nL D cl A cells slots ws pc lv stk := by
  intro H locs ls hP hD hS hl
  have hPc := hP.sub isC (x_fm hC)
  have hDc := hD.sub isC hnC hC
  have hF := va_free (wc := wc) hD hS X.2.2.2.2.2.2 isC hC
  refine va_calli (va_runVN ⟨X.1, X.2.1, X.2.2.1, X.2.2.2.1, X.2.2.2.2.1⟩ (hM H.size) cw ⟨fun a U g mk q => ⟨q.1, q.2.1, q.2.2.1, va_K.moved (u := U) (U := U.calling g mk a) (Vm.Alike.refl U.vm) q.2.2.2.1, q.2.2.2.2⟩, va_recv X.2.2.2.2.2.1 hP hcl hrec, fun U hU hW => ⟨rfl, by rw [hU], by rw [hU]; exact hPc, va_K.moved hW.alike X.2.2.2.2.2.1, hDc.weaken (fun _ _ _ _ => trivial)⟩⟩ rfl hAs hl.1 hst (lv_room hrm) hd hf) hS (fun q _ h => hF q h) hF (fun r u t H1 locs1 ht hvm hq hB hz1 hk1 hS1 => ?_)
  obtain ⟨hP1, hD1⟩ := hB
  rw [ht] at hP1
  obtain ⟨hP2, hD2⟩ := va_join (wr := wr) hP hD isC isR hC hR hn hdis hk1 hF hP1 hD1
  exact kk r u hq H1 locs1 ls hP2 hD2 hS1 hl
theorem g_callv (X : xC p s m args c cc nL own Ts D cl tys A) {y : MethodName} {wy : List Cond} {rm : Room} {b : Nat} {As : List Value} {wc : va_W} {Qy : va_W → Prop} {mc ms index n maxL : Nat} {bytes : ByteArray} {C : String} {stk : List Value} {wr : va_W} (hM : xV l y wy rm D cl tys (.ref b :: As) wc Qy mc ms) (cw : CallW R s args own C index y bytes maxL none wy rm mc ms n) (isC isR : List Nat) (hC : isC.map (fun i => ws[i]?) = wc.map some) (hR : isR.map (fun i => ws[i]?) = wr.map some) (hnC : va_nd isC = true) (hn : va_nd isR = true) (hdis : ∀ i ∈ isR, i ∉ isC) (q0 ci : Nat) {fs : List Value} (hrec : ws[q0]? = some (b, .inr (ci, fs))) {T : u_T} {N : Nat} (hcl : cl[ci]? = some (C, T, N)) (hAs : As.length = n) (hst : stk = As.reverse ++ .ref b :: st) (hrm : (st.map fun v => v.category).sum ≤ 8) (hd : decode cc pc = .ok (.invokevirtual index, 3)) (hf : cells + mc ≤ R.cells ∧ slots + ms ≤ R.slots) (kk : ∀ w : va_W, Qy w → xG p l e R s m args below meth c Q nL D cl A (cells + mc) (slots + ms) (wr ++ w) (pc + 3) lv st) : xG p l e R s m args below meth c Q nL D cl A cells slots ws pc lv stk := by
  intro H locs ls hP hD hS hl
  have hPc := hP.sub isC (x_fm hC)
  have hDc := hD.sub isC hnC hC
  have hF := va_free (wc := wc) hD hS X.2.2.2.2.2.2 isC hC
  refine va_callv (va_runV ⟨X.1, X.2.1, X.2.2.1, X.2.2.2.1, X.2.2.2.2.1⟩ (hM H.size) cw ⟨fun a U g mk q => ⟨q.1, q.2.1, q.2.2.1, va_K.moved (u := U) (U := U.calling g mk a) (Vm.Alike.refl U.vm) q.2.2.2.1, q.2.2.2.2⟩, va_recv X.2.2.2.2.2.1 hP hcl hrec, fun U hU hW => ⟨rfl, by rw [hU], by rw [hU]; exact hPc, va_K.moved hW.alike X.2.2.2.2.2.1, hDc.weaken (fun _ _ _ _ => trivial)⟩⟩ rfl hAs hl.1 hst (lv_room hrm) hd hf) hS (fun q _ h => hF q h) hF (fun u t H1 locs1 ht hvm hq hB hz1 hk1 hS1 => ?_)
  obtain ⟨hP1, hD1⟩ := hB
  rw [ht] at hP1
  obtain ⟨hP2, hD2⟩ := va_join (wr := wr) hP hD isC isR hC hR hn hdis hk1 hF hP1 hD1
  exact kk u hq H1 locs1 ls hP2 hD2 hS1 hl
theorem g_callNv (X : xC p s m args c cc nL own Ts D cl tys A) {y : MethodName} {wy : List Cond} {rm : Room} {b : Nat} {As : List Value} {wc : va_W} {Qy : va_W → Prop} {mc ms index n maxL : Nat} {bytes : ByteArray} {C : String} {host : String} {stk : List Value} {wr : va_W} (hM : xV l y wy rm D cl tys (.ref b :: As) wc Qy mc ms) (cw : va_CN R s args own index y host bytes maxL none wy rm mc ms n ∧ (Cond.instanceMethod y).before args s = true ∧ (Cond.selects C y y).before args s = true) (isC isR : List Nat) (hC : isC.map (fun i => ws[i]?) = wc.map some) (hR : isR.map (fun i => ws[i]?) = wr.map some) (hnC : va_nd isC = true) (hn : va_nd isR = true) (hdis : ∀ i ∈ isR, i ∉ isC) (q0 ci : Nat) {fs : List Value} (hrec : ws[q0]? = some (b, .inr (ci, fs))) {T : u_T} {N : Nat} (hcl : cl[ci]? = some (C, T, N)) (hAs : As.length = n) (hst : stk = As.reverse ++ .ref b :: st) (hrm : (st.map fun v => v.category).sum ≤ 8) (hd : decode cc pc = .ok (.invokevirtual index, 3)) (hf : cells + mc ≤ R.cells ∧ slots + ms ≤ R.slots) (kk : ∀ w : va_W, Qy w → xG p l e R s m args below meth c Q nL D cl A (cells + mc) (slots + ms) (wr ++ w) (pc + 3) lv st) : xG p l e R s m args below meth c Q nL D cl A cells slots ws pc lv stk := by
  intro H locs ls hP hD hS hl
  have hPc := hP.sub isC (x_fm hC)
  have hDc := hD.sub isC hnC hC
  have hF := va_free (wc := wc) hD hS X.2.2.2.2.2.2 isC hC
  refine va_callv (va_runVN ⟨X.1, X.2.1, X.2.2.1, X.2.2.2.1, X.2.2.2.2.1⟩ (hM H.size) cw ⟨fun a U g mk q => ⟨q.1, q.2.1, q.2.2.1, va_K.moved (u := U) (U := U.calling g mk a) (Vm.Alike.refl U.vm) q.2.2.2.1, q.2.2.2.2⟩, va_recv X.2.2.2.2.2.1 hP hcl hrec, fun U hU hW => ⟨rfl, by rw [hU], by rw [hU]; exact hPc, va_K.moved hW.alike X.2.2.2.2.2.1, hDc.weaken (fun _ _ _ _ => trivial)⟩⟩ rfl hAs hl.1 hst (lv_room hrm) hd hf) hS (fun q _ h => hF q h) hF (fun u t H1 locs1 ht hvm hq hB hz1 hk1 hS1 => ?_)
  obtain ⟨hP1, hD1⟩ := hB
  rw [ht] at hP1
  obtain ⟨hP2, hD2⟩ := va_join (wr := wr) hP hD isC isR hC hR hn hdis hk1 hF hP1 hD1
  exact kk u hq H1 locs1 ls hP2 hD2 hS1 hl
theorem g_callIv (X : xC p s m args c cc nL own Ts D cl tys A) {y : MethodName} {wy : List Cond} {rm : Room} {b : Nat} {As : List Value} {wc : va_W} {Qy : va_W → Prop} {mc ms index n maxL : Nat} {bytes : ByteArray} {stk : List Value} {wr : va_W} (hM : xV l y wy rm D cl tys (.ref b :: As) wc Qy mc ms) (cw : CallB R s args own index y bytes maxL none wy rm mc ms n ∧ y.name = "<init>" ∧ (Cond.instanceMethod y).before args s = true) (isC isR : List Nat) (hC : isC.map (fun i => ws[i]?) = wc.map some) (hR : isR.map (fun i => ws[i]?) = wr.map some) (hnC : va_nd isC = true) (hn : va_nd isR = true) (hdis : ∀ i ∈ isR, i ∉ isC) (hAs : As.length = n) (hst : stk = As.reverse ++ .ref b :: st) (hrm : (st.map fun v => v.category).sum ≤ 8) (hd : decode cc pc = .ok (.invokespecial index, 3)) (hf : cells + mc ≤ R.cells ∧ slots + ms ≤ R.slots) (kk : ∀ w : va_W, Qy w → xG p l e R s m args below meth c Q nL D cl A (cells + mc) (slots + ms) (wr ++ w) (pc + 3) lv st) : xG p l e R s m args below meth c Q nL D cl A cells slots ws pc lv stk := by
  intro H locs ls hP hD hS hl
  have hPc := hP.sub isC (x_fm hC)
  have hDc := hD.sub isC hnC hC
  have hF := va_free (wc := wc) hD hS X.2.2.2.2.2.2 isC hC
  refine va_callv (va_runI ⟨X.1, X.2.1, X.2.2.1, X.2.2.2.1, X.2.2.2.2.1⟩ (hM H.size) cw ⟨fun a U g mk q => ⟨q.1, q.2.1, q.2.2.1, va_K.moved (u := U) (U := U.calling g mk a) (Vm.Alike.refl U.vm) q.2.2.2.1, q.2.2.2.2⟩, fun U hU hW => ⟨rfl, by rw [hU], by rw [hU]; exact hPc, va_K.moved hW.alike X.2.2.2.2.2.1, hDc.weaken (fun _ _ _ _ => trivial)⟩⟩ rfl hAs hl.1 hst (lv_room hrm) hd hf) hS (fun q _ h => hF q h) hF (fun u t H1 locs1 ht hvm hq hB hz1 hk1 hS1 => ?_)
  obtain ⟨hP1, hD1⟩ := hB
  rw [ht] at hP1
  obtain ⟨hP2, hD2⟩ := va_join (wr := wr) hP hD isC isR hC hR hn hdis hk1 hF hP1 hD1
  exact kk u hq H1 locs1 ls hP2 hD2 hS1 hl
theorem g_objInit (X : xC p s m args c cc nL own Ts D cl tys A) {idx a : Nat} (hlink : Cond.methodLink own idx Lib.objectInit ∈ Ts) (hinst : Cond.instanceMethod Lib.objectInit ∈ Ts) (hcode : Cond.code Lib.objectInit ⟨#[0xb1]⟩ 1 none ∈ Ts) (hd : decode cc pc = .ok (.invokespecial idx, 3)) (hfr : 1 ≤ R.frames) (hlo : (st.map fun v => v.category).sum + 12 ≤ R.locals) (k : xG p l e R s m args below meth c Q nL D cl A cells slots ws (pc + 3) lv st) : xG p l e R s m args below meth c Q nL D cl A cells slots ws pc lv (.ref a :: st) :=
  fun H locs ls hP hD hS hl => W.objInit X.1 X.2.1 X.2.2.2.1 (X.2.2.2.2.1 _ hlink) (X.2.2.2.2.1 _ hinst) (X.2.2.2.2.1 _ hcode) rfl (hl.1.trans X.2.2.1.symm) rfl hd hfr (by show 2 * 0 + _ + 12 ≤ _; omega) (k H locs ls hP hD hS hl)
theorem g_new (X : xC p s m args c cc nL own Ts D cl tys A) {C : String} {T : u_T} {N ci index : Nat} (hin : ∀ w ∈ u_ws C T N, w ∈ Ts) (ty : Nat → FieldType) (hty : ∀ k, k < N → parseFieldDescriptor (T k).2.2.1 = some (ty k)) (hcl : Cond.classLink own index C ∈ Ts) (hinst : Cond.instantiable C N ∈ Ts) (hini : Cond.initialized C ∈ Ts) (hc : cl[ci]? = some (C, T, N)) {fs : List Value} (hfs : ∀ j, j < N → defaultValue (ty j) = vp_V fs j) (hcells : cells + 1 ≤ R.cells) (hslots : slots + N ≤ R.slots) (hd : decode cc pc = .ok (.new index, 3)) (k : ∀ q : Nat, xG p l e R s m args below meth c Q nL D cl A (cells + 1) (slots + N) (ws ++ [(q, .inr (ci, fs))]) (pc + 3) lv (.ref q :: st)) : xG p l e R s m args below meth c Q nL D cl A cells slots ws pc lv st :=
  fun H locs ls hP hD hS hl => va_new X.1 X.2.1 X.2.2.2.2.1 hin ty hty X.2.2.2.1 (X.2.2.2.2.1 _ hcl) (X.2.2.2.2.1 _ hinst) (X.2.2.2.2.1 _ hini) X.2.2.2.2.2.1 hP hD hS X.2.2.2.2.2.2 hc hfs hcells hslots hd (fun q H1 hP1 hD1 hS1 => k q H1 locs ls hP1 hD1 hS1 hl)
theorem g_newa (X : xC p s m args c cc nL own Ts D cl tys A) {cA : ClassId} (t0 : Nat) (ht : tys[t0]? = some (cA, .int)) (harr : Cond.arrayClass .int ∈ Ts) {n : Int} {N' : Nat} (hN : n = N') (hb : N' ≤ 1000000) (hcells : cells + 1 ≤ R.cells) (hslots : slots + N' ≤ R.slots) (hd : decode cc pc = .ok (.newarray .int, 2)) (k : ∀ q : Nat, xG p l e R s m args below meth c Q nL D cl A (cells + 1) (slots + N') (ws ++ [(q, .inl (cA, N', .inl (aI (fun _ => 0))))]) (pc + 2) lv (.ref q :: st)) : xG p l e R s m args below meth c Q nL D cl A cells slots ws pc lv (.int (iI n) :: st) :=
  fun H locs ls hP hD hS hl => by
    subst hN
    refine va_newa (a0 := (N', .inl (aI (fun _ => 0)))) X.1 X.2.1 (atype := .int) (X.2.2.2.2.1 _ harr) rfl X.2.2.2.2.2.1 hP hD hS X.2.2.2.2.2.2 ?_ ?_ ?_ ?_ hcells hslots hd (fun q cA' H1 hK1 hP1 hD1 hS1 => ?_)
    · intro cB
      rw [← aI_zero]
      rfl
    · rw [iI_zero, iI_lt ⟨by omega, by omega⟩ ⟨by omega, by omega⟩]; omega
    · rw [iI_cl (by omega) (by omega)]; omega
    · show N' * componentBytes FieldType.int ≤ _
      have : componentBytes FieldType.int = 4 := rfl
      rw [this]; omega
    · have e1 : va_RA s cA .int := (X.2.2.2.2.2.1.2 t0 _ ht).2
      have e2 : va_RA s cA' .int := (hK1.2 tys.length (cA', .int) (by simp; rfl)).2
      have e3 : cA' = cA := Option.some.inj (Eq.trans (Eq.symm e2) e1)
      subst e3
      exact k q H1 locs ls hP1 hD1 hS1 hl
end XR
theorem xM.ofI {l : Launch} {y : MethodName} {wy wy' : List Cond} {rm : Room} {D : va_G} {cl : List vw_C} {tys : List (ClassId × FieldType)} {av : List Value} {wc : va_W} {Qy : Int32 → va_W → Prop} {mc ms : Nat} {cc : ByteArray} {maxL : Nat} (hy : plainName y.cls = true) (hw : wy = Cond.code y cc maxL (some .int) :: wy') (hent : (lg_sl av).length ≤ maxL)
    (body : ∀ (p : Program) (e : Env) (s : State) (m : MethodId) (args : Array Value) (below : List Frame) (meth : Method) (c : Code) (A : Nat → Prop) (Q : State → Prop), xC p s m args c cc maxL y.cls wy D cl tys A → meth.name = y.name →
      (∀ (ws : va_W) (pc : Nat) (lv : List (Nat × Value)) (r : Int32) (w : va_W) (is : List Nat), decode cc pc = .ok (.ireturn, 1) → va_nd is = true → is.map (fun i => ws[i]?) = w.map some → Qy r w → xG p l e rm s m args below meth c Q maxL D cl A mc ms ws pc lv [.int r]) →
      xG p l e rm s m args below meth c Q maxL D cl A 0 0 wc 0 (lv_args 0 av) []) : xM l y wy rm D cl tys av wc Qy mc ms := by
  intro sz
  refine Met.ofW (cc := cc) (maxL := maxL) (ret := some .int) hy hw ?_
  intro p e s m args below meth c s₁ B hml hv
  obtain ⟨rfl, hsz, hP, hK, hD0⟩ := hv
  subst hsz
  have hD := hD0.self (sz := s.heap.size)
  have hl := lv_entry av (n := maxL) hent
  rw [lg_entry_eq]
  have X : xC p s m av.toArray c cc maxL y.cls wy D cl tys (va_A wc s.heap.size) := ⟨B.exec, B.bytes, hml, findClass_of_methodNamed B.named, atoms_spec (ws := wy) B.pre, hK, fun q h => Or.inr h⟩
  exact body p e s m av.toArray below meth c (va_A wc s.heap.size) _ X (name_of_methodNamed B.named B.method).1 (fun ws pc lv r w is hd hn hs hq => g_iret X B.returns B.notSynchronized hd is hn hs hq) s.heap [] _ hP hD va_S.rf hl
theorem xM.ofZ {l : Launch} {y : MethodName} {wy wy' : List Cond} {rm : Room} {D : va_G} {cl : List vw_C} {tys : List (ClassId × FieldType)} {av : List Value} {wc : va_W} {Qy : Int32 → va_W → Prop} {mc ms : Nat} {cc : ByteArray} {maxL : Nat} (hy : plainName y.cls = true) (hw : wy = Cond.code y cc maxL (some .boolean) :: wy') (hent : (lg_sl av).length ≤ maxL)
    (body : ∀ (p : Program) (e : Env) (s : State) (m : MethodId) (args : Array Value) (below : List Frame) (meth : Method) (c : Code) (A : Nat → Prop) (Q : State → Prop), xC p s m args c cc maxL y.cls wy D cl tys A → meth.name = y.name →
      (∀ (ws : va_W) (pc : Nat) (lv : List (Nat × Value)) (r : Int32) (w : va_W) (is : List Nat), r = iI 0 ∨ r = iI 1 → decode cc pc = .ok (.ireturn, 1) → va_nd is = true → is.map (fun i => ws[i]?) = w.map some → Qy r w → xG p l e rm s m args below meth c Q maxL D cl A mc ms ws pc lv [.int r]) →
      xG p l e rm s m args below meth c Q maxL D cl A 0 0 wc 0 (lv_args 0 av) []) : xM l y wy rm D cl tys av wc Qy mc ms := by
  intro sz
  refine Met.ofW (cc := cc) (maxL := maxL) (ret := some .boolean) hy hw ?_
  intro p e s m args below meth c s₁ B hml hv
  obtain ⟨rfl, hsz, hP, hK, hD0⟩ := hv
  subst hsz
  have hD := hD0.self (sz := s.heap.size)
  have hl := lv_entry av (n := maxL) hent
  rw [lg_entry_eq]
  have X : xC p s m av.toArray c cc maxL y.cls wy D cl tys (va_A wc s.heap.size) := ⟨B.exec, B.bytes, hml, findClass_of_methodNamed B.named, atoms_spec (ws := wy) B.pre, hK, fun q h => Or.inr h⟩
  exact body p e s m av.toArray below meth c (va_A wc s.heap.size) _ X (name_of_methodNamed B.named B.method).1 (fun ws pc lv r w is hz hd hn hs hq => g_zret X B.returns B.notSynchronized hz hd is hn hs hq) s.heap [] _ hP hD va_S.rf hl
theorem xV.of {l : Launch} {y : MethodName} {wy wy' : List Cond} {rm : Room} {D : va_G} {cl : List vw_C} {tys : List (ClassId × FieldType)} {av : List Value} {wc : va_W} {Qy : va_W → Prop} {mc ms : Nat} {cc : ByteArray} {maxL : Nat} (hy : plainName y.cls = true) (hw : wy = Cond.code y cc maxL (none) :: wy') (hent : (lg_sl av).length ≤ maxL)
    (body : ∀ (p : Program) (e : Env) (s : State) (m : MethodId) (args : Array Value) (below : List Frame) (meth : Method) (c : Code) (A : Nat → Prop) (Q : State → Prop), xC p s m args c cc maxL y.cls wy D cl tys A → meth.name = y.name →
      (∀ (ws : va_W) (pc : Nat) (lv : List (Nat × Value)) (w : va_W) (is : List Nat), decode cc pc = .ok (.return_, 1) → va_nd is = true → is.map (fun i => ws[i]?) = w.map some → Qy w → xG p l e rm s m args below meth c Q maxL D cl A mc ms ws pc lv []) →
      xG p l e rm s m args below meth c Q maxL D cl A 0 0 wc 0 (lv_args 0 av) []) : xV l y wy rm D cl tys av wc Qy mc ms := by
  intro sz
  refine Met.ofW (cc := cc) (maxL := maxL) (ret := none) hy hw ?_
  intro p e s m args below meth c s₁ B hml hv
  obtain ⟨rfl, hsz, hP, hK, hD0⟩ := hv
  subst hsz
  have hD := hD0.self (sz := s.heap.size)
  have hl := lv_entry av (n := maxL) hent
  rw [lg_entry_eq]
  have X : xC p s m av.toArray c cc maxL y.cls wy D cl tys (va_A wc s.heap.size) := ⟨B.exec, B.bytes, hml, findClass_of_methodNamed B.named, atoms_spec (ws := wy) B.pre, hK, fun q h => Or.inr h⟩
  exact body p e s m av.toArray below meth c (va_A wc s.heap.size) _ X (name_of_methodNamed B.named B.method).1 (fun ws pc lv w is hd hn hs hq => g_vret X B.returns B.notSynchronized hd is hn hs hq) s.heap [] _ hP hD va_S.rf hl
theorem x_ind {C : Nat → Prop} (h : ∀ k, (∀ j, j < k → C j) → C k) : ∀ k, C k := fun k => Nat.strongRecOn k h
abbrev cO (a ci : Nat) (fs : List Value) : Nat × va_E := (a, .inr (ci, fs))
abbrev cR (a : Nat) (cA : ClassId) (N : Nat) (g : Int → Int) : Nat × va_E := (a, .inl (cA, N, .inl (aI g)))
section XL
variable {p : Program} {l : Launch} {e : Env} {R : Room} {s : State} {m : MethodId} {args : Array Value} {below : List Frame} {meth : Method} {c : Code} {Q : State → Prop}
variable {cc : ByteArray} {nL : Nat} {own : String} {Ts : List Cond} {D : va_G} {cl : List vw_C} {tys : List (ClassId × FieldType)} {A : Nat → Prop} {cells slots : Nat} {ws : va_W} {pc : Nat} {lv : List (Nat × Value)} {st : List Value}
def sx (xs : Nat → Int32) (i : Int) : Int := (xs i.toNat).toInt
theorem sx_rng (xs : Nat → Int32) (i : Int) : iR (sx xs i) := iI_rng _
theorem g_sld (X : xC p s m args c cc nL own Ts D cl tys A) {b L : Nat} {xs : Nat → Int32} (hX : va_X b L xs s s.heap) (hbl : b < s.heap.size) (hbA : ¬ A b) {i : Int} (h : 0 ≤ i ∧ i < (L : Int) ∧ L < 2147483648) (hd : decode cc pc = .ok (.iaload, 1)) (k : xG p l e R s m args below meth c Q nL D cl A cells slots ws (pc + 1) lv (.int (iI (sx xs i)) :: st)) : xG p l e R s m args below meth c Q nL D cl A cells slots ws pc lv (.int (iI i) :: .ref b :: st) :=
  fun H locs ls hP hD hS hl => va_sld X.1 X.2.1 hX hbl hbA hS (iI_in h.1 h.2.1 h.2.2) hd (by
    rw [iI_cl h.1 (by omega)]
    have e1 : xs i.toNat = iI (sx xs i) := iI_of _
    rw [e1]
    exact k H locs ls hP hD hS hl)
theorem g_slen (X : xC p s m args c cc nL own Ts D cl tys A) {b L : Nat} {xs : Nat → Int32} (hX : va_X b L xs s s.heap) (hbl : b < s.heap.size) (hbA : ¬ A b) (hd : decode cc pc = .ok (.arraylength, 1)) (k : xG p l e R s m args below meth c Q nL D cl A cells slots ws (pc + 1) lv (.int (iI (L : Int)) :: st)) : xG p l e R s m args below meth c Q nL D cl A cells slots ws pc lv (.ref b :: st) :=
  fun H locs ls hP hD hS hl => va_slen X.1 X.2.1 hX hbl hbA hS hd (by
    have e1 : Int32.ofNat L = iI (L : Int) := Int32.ofInt_eq_ofNat.symm
    rw [e1]
    exact k H locs ls hP hD hS hl)
theorem g_tableIn (X : xC p s m args c cc nL own Ts D cl tys A) {dflt lo hi a off : Int} {offs : Array Int} {len tgt : Nat} (hd : decode cc pc = .ok (.tableswitch dflt lo hi offs, len)) (ha : iR a) (h1 : lo ≤ a) (h2 : a ≤ hi) (ho : offs[(a - lo).toNat]? = some off) (ht : (pc : Int) + off = (tgt : Int)) (k : xG p l e R s m args below meth c Q nL D cl A cells slots ws tgt lv st) : xG p l e R s m args below meth c Q nL D cl A cells slots ws pc lv (.int (iI a) :: st) :=
  fun H locs ls hP hD hS hl => lv_tableIn X.1 X.2.1 hd (by rw [iI_toInt ha.1 ha.2]; omega) (by rw [iI_toInt ha.1 ha.2]; omega) (by rw [iI_toInt ha.1 ha.2]; exact ho) ht (k H locs ls hP hD hS hl)
theorem g_tableOut (X : xC p s m args c cc nL own Ts D cl tys A) {dflt lo hi a : Int} {offs : Array Int} {len tgt : Nat} (hd : decode cc pc = .ok (.tableswitch dflt lo hi offs, len)) (ha : iR a) (h : a < lo ∨ hi < a) (ht : (pc : Int) + dflt = (tgt : Int)) (k : xG p l e R s m args below meth c Q nL D cl A cells slots ws tgt lv st) : xG p l e R s m args below meth c Q nL D cl A cells slots ws pc lv (.int (iI a) :: st) :=
  fun H locs ls hP hD hS hl => lv_tableOut X.1 X.2.1 hd (by rw [iI_toInt ha.1 ha.2]; exact h) ht (k H locs ls hP hD hS hl)
theorem g_same (X : xC p s m args c cc nL own Ts D cl tys A) {x : Int32} {off : Int} {tgt : Nat} (hd : decode cc pc = .ok (.if_icmp .eq off, 3)) (ht : (pc : Int) + off = (tgt : Int)) (k : xG p l e R s m args below meth c Q nL D cl A cells slots ws tgt lv st) : xG p l e R s m args below meth c Q nL D cl A cells slots ws pc lv (.int x :: .int x :: st) :=
  fun H locs ls hP hD hS hl => lv_icmp_eq X.1 X.2.1 hd ht (fun _ => k H locs ls hP hD hS hl) (fun h => absurd rfl h)
end XL
