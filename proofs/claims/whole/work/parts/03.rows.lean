/-! One row an instruction, over the layer. -/
section GO
variable {obj : Nat → Lay} {N : Nat} {cc : ByteArray} {nL : Nat} {own : String} {fr lo : Nat} {X : GX} {pc : Nat} {lv : List (Option Value)} {st : List Value} {σ : Mem}
theorem go_iload_n (C : OkX obj N cc nL own fr lo X) {x : Int32} {k : Fin 4} (d : decode cc pc = .ok (.iload_n k, 1)) (hv : lv[(k : Nat)]? = some (some (.int x))) (kk : Go obj N X (pc + 1) lv (.int x :: st) σ) : Go obj N X pc lv st σ := by
  obtain ⟨p, l, e, R, s, m, args, below, meth, c, nL', ad, D, cy, A, Q⟩ := X
  obtain ⟨hx, hb, hml, rfl, hown, hts, ⟨hK, hN⟩, hA, hlk, rfl⟩ := C
  intro H locs ls hP hD hS hl
  exact lv_iload_n hx hb d rfl (LH_at hl hv) (kk H locs ls hP hD hS hl)
theorem go_iload (C : OkX obj N cc nL own fr lo X) {x : Int32} {i : Nat} (d : decode cc pc = .ok (.iload i, 2)) (hv : lv[i]? = some (some (.int x))) (kk : Go obj N X (pc + 2) lv (.int x :: st) σ) : Go obj N X pc lv st σ := by
  obtain ⟨p, l, e, R, s, m, args, below, meth, c, nL', ad, D, cy, A, Q⟩ := X
  obtain ⟨hx, hb, hml, rfl, hown, hts, ⟨hK, hN⟩, hA, hlk, rfl⟩ := C
  intro H locs ls hP hD hS hl
  exact lv_iload hx hb d (LH_at hl hv) (kk H locs ls hP hD hS hl)
theorem go_aload_n (C : OkX obj N cc nL own fr lo X) {x : Nat} {k : Fin 4} (d : decode cc pc = .ok (.aload_n k, 1)) (hv : lv[(k : Nat)]? = some (some (.ref x))) (kk : Go obj N X (pc + 1) lv (.ref x :: st) σ) : Go obj N X pc lv st σ := by
  obtain ⟨p, l, e, R, s, m, args, below, meth, c, nL', ad, D, cy, A, Q⟩ := X
  obtain ⟨hx, hb, hml, rfl, hown, hts, ⟨hK, hN⟩, hA, hlk, rfl⟩ := C
  intro H locs ls hP hD hS hl
  exact lv_aload_n hx hb d rfl (LH_at hl hv) (kk H locs ls hP hD hS hl)
theorem go_aload (C : OkX obj N cc nL own fr lo X) {x : Nat} {i : Nat} (d : decode cc pc = .ok (.aload i, 2)) (hv : lv[i]? = some (some (.ref x))) (kk : Go obj N X (pc + 2) lv (.ref x :: st) σ) : Go obj N X pc lv st σ := by
  obtain ⟨p, l, e, R, s, m, args, below, meth, c, nL', ad, D, cy, A, Q⟩ := X
  obtain ⟨hx, hb, hml, rfl, hown, hts, ⟨hK, hN⟩, hA, hlk, rfl⟩ := C
  intro H locs ls hP hD hS hl
  exact lv_aload hx hb d (LH_at hl hv) (kk H locs ls hP hD hS hl)
theorem go_lload_n (C : OkX obj N cc nL own fr lo X) {x : Int64} {k : Fin 4} (d : decode cc pc = .ok (.lload_n k, 1)) (hv : lv[(k : Nat)]? = some (some (.long x))) (kk : Go obj N X (pc + 1) lv (.long x :: st) σ) : Go obj N X pc lv st σ := by
  obtain ⟨p, l, e, R, s, m, args, below, meth, c, nL', ad, D, cy, A, Q⟩ := X
  obtain ⟨hx, hb, hml, rfl, hown, hts, ⟨hK, hN⟩, hA, hlk, rfl⟩ := C
  intro H locs ls hP hD hS hl
  exact lv_lload_n hx hb d rfl (LH_at hl hv) (kk H locs ls hP hD hS hl)
theorem go_iconst (C : OkX obj N cc nL own fr lo X) (x : Int32) {n : Int} (d : decode cc pc = .ok (.iconst n, 1)) (hv : Int32.ofInt n = x) (kk : Go obj N X (pc + 1) lv (.int x :: st) σ) : Go obj N X pc lv st σ := by
  obtain ⟨p, l, e, R, s, m, args, below, meth, c, nL', ad, D, cy, A, Q⟩ := X
  obtain ⟨hx, hb, hml, rfl, hown, hts, ⟨hK, hN⟩, hA, hlk, rfl⟩ := C
  intro H locs ls hP hD hS hl
  exact lv_iconst hx hb d hv (kk H locs ls hP hD hS hl)
theorem go_bipush (C : OkX obj N cc nL own fr lo X) (x : Int32) {n : Int} (d : decode cc pc = .ok (.bipush n, 2)) (hv : (Int8.ofInt n).toInt32 = x) (kk : Go obj N X (pc + 2) lv (.int x :: st) σ) : Go obj N X pc lv st σ := by
  obtain ⟨p, l, e, R, s, m, args, below, meth, c, nL', ad, D, cy, A, Q⟩ := X
  obtain ⟨hx, hb, hml, rfl, hown, hts, ⟨hK, hN⟩, hA, hlk, rfl⟩ := C
  intro H locs ls hP hD hS hl
  exact lv_bipush hx hb d hv (kk H locs ls hP hD hS hl)
theorem go_sipush (C : OkX obj N cc nL own fr lo X) (x : Int32) {n : Int} (d : decode cc pc = .ok (.sipush n, 3)) (hv : (Int16.ofInt n).toInt32 = x) (kk : Go obj N X (pc + 3) lv (.int x :: st) σ) : Go obj N X pc lv st σ := by
  obtain ⟨p, l, e, R, s, m, args, below, meth, c, nL', ad, D, cy, A, Q⟩ := X
  obtain ⟨hx, hb, hml, rfl, hown, hts, ⟨hK, hN⟩, hA, hlk, rfl⟩ := C
  intro H locs ls hP hD hS hl
  exact lv_sipush hx hb d hv (kk H locs ls hP hD hS hl)
theorem go_ldc2 (C : OkX obj N cc nL own fr lo X) (x : Int64) {index : Nat} (hw : Cond.constantLong own index x ∈ gw) (d : decode cc pc = .ok (.ldc2_w index, 3)) (kk : Go obj N X (pc + 3) lv (.long x :: st) σ) : Go obj N X pc lv st σ := by
  obtain ⟨p, l, e, R, s, m, args, below, meth, c, nL', ad, D, cy, A, Q⟩ := X
  obtain ⟨hx, hb, hml, rfl, hown, hts, ⟨hK, hN⟩, hA, hlk, rfl⟩ := C
  intro H locs ls hP hD hS hl
  exact lv_ldc2 hx hb hown (hts _ hw) d (kk H locs ls hP hD hS hl)
theorem go_istore_n (C : OkX obj N cc nL own fr lo X) {x : Int32} {k : Fin 4} {lv1 : List (Option Value)} (d : decode cc pc = .ok (.istore_n k, 1)) (hn : (k : Nat) < nL) (hg : nlong lv (k : Nat) = true) (hlv : lv.set (k : Nat) (some (.int x)) = lv1) (kk : Go obj N X (pc + 1) lv1 st σ) : Go obj N X pc lv (.int x :: st) σ := by
  obtain ⟨p, l, e, R, s, m, args, below, meth, c, nL', ad, D, cy, A, Q⟩ := X
  obtain ⟨hx, hb, hml, rfl, hown, hts, ⟨hK, hN⟩, hA, hlk, rfl⟩ := C
  intro H locs ls hP hD hS hl
  exact lv_istore_n hx hb d rfl hl hn rfl (fun ls hl => kk H locs ls hP hD hS (LH_set hg hlv hl))
theorem go_istore (C : OkX obj N cc nL own fr lo X) {x : Int32} {i : Nat} {lv1 : List (Option Value)} (d : decode cc pc = .ok (.istore i, 2)) (hn : i < nL) (hg : nlong lv i = true) (hlv : lv.set i (some (.int x)) = lv1) (kk : Go obj N X (pc + 2) lv1 st σ) : Go obj N X pc lv (.int x :: st) σ := by
  obtain ⟨p, l, e, R, s, m, args, below, meth, c, nL', ad, D, cy, A, Q⟩ := X
  obtain ⟨hx, hb, hml, rfl, hown, hts, ⟨hK, hN⟩, hA, hlk, rfl⟩ := C
  intro H locs ls hP hD hS hl
  exact lv_istore hx hb d hl hn rfl (fun ls hl => kk H locs ls hP hD hS (LH_set hg hlv hl))
theorem go_astore_n (C : OkX obj N cc nL own fr lo X) {x : Nat} {k : Fin 4} {lv1 : List (Option Value)} (d : decode cc pc = .ok (.astore_n k, 1)) (hn : (k : Nat) < nL) (hg : nlong lv (k : Nat) = true) (hlv : lv.set (k : Nat) (some (.ref x)) = lv1) (kk : Go obj N X (pc + 1) lv1 st σ) : Go obj N X pc lv (.ref x :: st) σ := by
  obtain ⟨p, l, e, R, s, m, args, below, meth, c, nL', ad, D, cy, A, Q⟩ := X
  obtain ⟨hx, hb, hml, rfl, hown, hts, ⟨hK, hN⟩, hA, hlk, rfl⟩ := C
  intro H locs ls hP hD hS hl
  exact lv_astore_n hx hb d rfl hl hn rfl (fun ls hl => kk H locs ls hP hD hS (LH_set hg hlv hl))
theorem go_astore (C : OkX obj N cc nL own fr lo X) {x : Nat} {i : Nat} {lv1 : List (Option Value)} (d : decode cc pc = .ok (.astore i, 2)) (hn : i < nL) (hg : nlong lv i = true) (hlv : lv.set i (some (.ref x)) = lv1) (kk : Go obj N X (pc + 2) lv1 st σ) : Go obj N X pc lv (.ref x :: st) σ := by
  obtain ⟨p, l, e, R, s, m, args, below, meth, c, nL', ad, D, cy, A, Q⟩ := X
  obtain ⟨hx, hb, hml, rfl, hown, hts, ⟨hK, hN⟩, hA, hlk, rfl⟩ := C
  intro H locs ls hP hD hS hl
  exact lv_astore hx hb d hl hn rfl (fun ls hl => kk H locs ls hP hD hS (LH_set hg hlv hl))
theorem go_iinc (C : OkX obj N cc nL own fr lo X) {i : Nat} {n : Int} {x : Int32} (v : Int32) {lv1 : List (Option Value)} (d : decode cc pc = .ok (.iinc i n, 3)) (hi : lv[i]? = some (some (.int x))) (hv : x + Int32.ofInt n = v) (hn : i < nL) (hg : nlong lv i = true) (hlv : lv.set i (some (.int v)) = lv1) (kk : Go obj N X (pc + 3) lv1 st σ) : Go obj N X pc lv st σ := by
  obtain ⟨p, l, e, R, s, m, args, below, meth, c, nL', ad, D, cy, A, Q⟩ := X
  obtain ⟨hx, hb, hml, rfl, hown, hts, ⟨hK, hN⟩, hA, hlk, rfl⟩ := C
  intro H locs ls hP hD hS hl
  have hm : (i, Value.int x) ∈ asc ad lv := asc_mem.mpr ⟨.int x, hi, rfl⟩
  obtain ⟨k, hk⟩ := List.getElem?_of_mem hm
  exact lv_iinc hx hb d hl hk hv hn rfl (fun ls hl => kk H locs ls hP hD hS (LH_set hg hlv hl))
theorem go_iadd (C : OkX obj N cc nL own fr lo X) {x y : Int32} (d : decode cc pc = .ok (.iadd, 1)) (kk : Go obj N X (pc + 1) lv (.int (x + y) :: st) σ) : Go obj N X pc lv (.int y :: .int x :: st) σ := by
  obtain ⟨p, l, e, R, s, m, args, below, meth, c, nL', ad, D, cy, A, Q⟩ := X
  obtain ⟨hx, hb, hml, rfl, hown, hts, ⟨hK, hN⟩, hA, hlk, rfl⟩ := C
  intro H locs ls hP hD hS hl
  exact lv_iadd hx hb d (kk H locs ls hP hD hS hl)
theorem go_isub (C : OkX obj N cc nL own fr lo X) {x y : Int32} (d : decode cc pc = .ok (.isub, 1)) (kk : Go obj N X (pc + 1) lv (.int (x - y) :: st) σ) : Go obj N X pc lv (.int y :: .int x :: st) σ := by
  obtain ⟨p, l, e, R, s, m, args, below, meth, c, nL', ad, D, cy, A, Q⟩ := X
  obtain ⟨hx, hb, hml, rfl, hown, hts, ⟨hK, hN⟩, hA, hlk, rfl⟩ := C
  intro H locs ls hP hD hS hl
  exact lv_isub hx hb d (kk H locs ls hP hD hS hl)
theorem go_imul (C : OkX obj N cc nL own fr lo X) {x y : Int32} (d : decode cc pc = .ok (.imul, 1)) (kk : Go obj N X (pc + 1) lv (.int (x * y) :: st) σ) : Go obj N X pc lv (.int y :: .int x :: st) σ := by
  obtain ⟨p, l, e, R, s, m, args, below, meth, c, nL', ad, D, cy, A, Q⟩ := X
  obtain ⟨hx, hb, hml, rfl, hown, hts, ⟨hK, hN⟩, hA, hlk, rfl⟩ := C
  intro H locs ls hP hD hS hl
  exact lv_imul hx hb d (kk H locs ls hP hD hS hl)
theorem go_iand (C : OkX obj N cc nL own fr lo X) {x y : Int32} (d : decode cc pc = .ok (.iand, 1)) (kk : Go obj N X (pc + 1) lv (.int (x &&& y) :: st) σ) : Go obj N X pc lv (.int y :: .int x :: st) σ := by
  obtain ⟨p, l, e, R, s, m, args, below, meth, c, nL', ad, D, cy, A, Q⟩ := X
  obtain ⟨hx, hb, hml, rfl, hown, hts, ⟨hK, hN⟩, hA, hlk, rfl⟩ := C
  intro H locs ls hP hD hS hl
  exact lv_iand hx hb d (kk H locs ls hP hD hS hl)
theorem go_ior (C : OkX obj N cc nL own fr lo X) {x y : Int32} (d : decode cc pc = .ok (.ior, 1)) (kk : Go obj N X (pc + 1) lv (.int (x ||| y) :: st) σ) : Go obj N X pc lv (.int y :: .int x :: st) σ := by
  obtain ⟨p, l, e, R, s, m, args, below, meth, c, nL', ad, D, cy, A, Q⟩ := X
  obtain ⟨hx, hb, hml, rfl, hown, hts, ⟨hK, hN⟩, hA, hlk, rfl⟩ := C
  intro H locs ls hP hD hS hl
  exact lv_ior hx hb d (kk H locs ls hP hD hS hl)
theorem go_ishl (C : OkX obj N cc nL own fr lo X) {x y : Int32} (d : decode cc pc = .ok (.ishl, 1)) (kk : Go obj N X (pc + 1) lv (.int (x <<< (y &&& 31)) :: st) σ) : Go obj N X pc lv (.int y :: .int x :: st) σ := by
  obtain ⟨p, l, e, R, s, m, args, below, meth, c, nL', ad, D, cy, A, Q⟩ := X
  obtain ⟨hx, hb, hml, rfl, hown, hts, ⟨hK, hN⟩, hA, hlk, rfl⟩ := C
  intro H locs ls hP hD hS hl
  exact lv_ishl hx hb d (kk H locs ls hP hD hS hl)
theorem go_idiv (C : OkX obj N cc nL own fr lo X) {x y : Int32} (d : decode cc pc = .ok (.idiv, 1)) (hne : ¬ y = 0) (kk : Go obj N X (pc + 1) lv (.int (x / y) :: st) σ) : Go obj N X pc lv (.int y :: .int x :: st) σ := by
  obtain ⟨p, l, e, R, s, m, args, below, meth, c, nL', ad, D, cy, A, Q⟩ := X
  obtain ⟨hx, hb, hml, rfl, hown, hts, ⟨hK, hN⟩, hA, hlk, rfl⟩ := C
  intro H locs ls hP hD hS hl
  exact lv_idiv hx hb d hne (kk H locs ls hP hD hS hl)
theorem go_irem (C : OkX obj N cc nL own fr lo X) {x y : Int32} (d : decode cc pc = .ok (.irem, 1)) (hne : ¬ y = 0) (kk : Go obj N X (pc + 1) lv (.int (x - x / y * y) :: st) σ) : Go obj N X pc lv (.int y :: .int x :: st) σ := by
  obtain ⟨p, l, e, R, s, m, args, below, meth, c, nL', ad, D, cy, A, Q⟩ := X
  obtain ⟨hx, hb, hml, rfl, hown, hts, ⟨hK, hN⟩, hA, hlk, rfl⟩ := C
  intro H locs ls hP hD hS hl
  exact lv_irem hx hb d hne (kk H locs ls hP hD hS hl)
theorem go_iushr (C : OkX obj N cc nL own fr lo X) {x y : Int32} (v : Int32) (d : decode cc pc = .ok (.iushr, 1)) (hv : (x.toUInt32 >>> (y.toUInt32 &&& Int32.toUInt32 31)).toInt32 = v) (kk : Go obj N X (pc + 1) lv (.int v :: st) σ) : Go obj N X pc lv (.int y :: .int x :: st) σ := by
  obtain ⟨p, l, e, R, s, m, args, below, meth, c, nL', ad, D, cy, A, Q⟩ := X
  obtain ⟨hx, hb, hml, rfl, hown, hts, ⟨hK, hN⟩, hA, hlk, rfl⟩ := C
  intro H locs ls hP hD hS hl
  exact lv_iushr hx hb d hv (kk H locs ls hP hD hS hl)
theorem go_i2l (C : OkX obj N cc nL own fr lo X) {x : Int32} (v : Int64) (d : decode cc pc = .ok (.i2l, 1)) (hv : x.toInt64 = v) (kk : Go obj N X (pc + 1) lv (.long v :: st) σ) : Go obj N X pc lv (.int x :: st) σ := by
  obtain ⟨p, l, e, R, s, m, args, below, meth, c, nL', ad, D, cy, A, Q⟩ := X
  obtain ⟨hx, hb, hml, rfl, hown, hts, ⟨hK, hN⟩, hA, hlk, rfl⟩ := C
  intro H locs ls hP hD hS hl
  exact lv_i2l hx hb d hv (kk H locs ls hP hD hS hl)
theorem go_i2c (C : OkX obj N cc nL own fr lo X) {x : Int32} (v : Int32) (d : decode cc pc = .ok (.i2c, 1)) (hv : (x.toUInt32 % 65536).toInt32 = v) (kk : Go obj N X (pc + 1) lv (.int v :: st) σ) : Go obj N X pc lv (.int x :: st) σ := by
  obtain ⟨p, l, e, R, s, m, args, below, meth, c, nL', ad, D, cy, A, Q⟩ := X
  obtain ⟨hx, hb, hml, rfl, hown, hts, ⟨hK, hN⟩, hA, hlk, rfl⟩ := C
  intro H locs ls hP hD hS hl
  exact lv_i2c hx hb d hv (kk H locs ls hP hD hS hl)
theorem go_ladd (C : OkX obj N cc nL own fr lo X) {x y : Int64} (d : decode cc pc = .ok (.ladd, 1)) (kk : Go obj N X (pc + 1) lv (.long (x + y) :: st) σ) : Go obj N X pc lv (.long y :: .long x :: st) σ := by
  obtain ⟨p, l, e, R, s, m, args, below, meth, c, nL', ad, D, cy, A, Q⟩ := X
  obtain ⟨hx, hb, hml, rfl, hown, hts, ⟨hK, hN⟩, hA, hlk, rfl⟩ := C
  intro H locs ls hP hD hS hl
  exact lv_ladd hx hb d (kk H locs ls hP hD hS hl)
theorem go_lmul (C : OkX obj N cc nL own fr lo X) {x y : Int64} (d : decode cc pc = .ok (.lmul, 1)) (kk : Go obj N X (pc + 1) lv (.long (x * y) :: st) σ) : Go obj N X pc lv (.long y :: .long x :: st) σ := by
  obtain ⟨p, l, e, R, s, m, args, below, meth, c, nL', ad, D, cy, A, Q⟩ := X
  obtain ⟨hx, hb, hml, rfl, hown, hts, ⟨hK, hN⟩, hA, hlk, rfl⟩ := C
  intro H locs ls hP hD hS hl
  exact lv_lmul hx hb d (kk H locs ls hP hD hS hl)
theorem go_iaddN (C : OkX obj N cc nL own fr lo X) {a b : Nat} (d : decode cc pc = .ok (.iadd, 1)) (kk : Go obj N X (pc + 1) lv (.int (nI (a + b)) :: st) σ) : Go obj N X pc lv (.int (nI b) :: .int (nI a) :: st) σ := go_iadd C d (by rw [nI_add]; exact kk)
theorem go_imulN (C : OkX obj N cc nL own fr lo X) {a b : Nat} (d : decode cc pc = .ok (.imul, 1)) (kk : Go obj N X (pc + 1) lv (.int (nI (a * b)) :: st) σ) : Go obj N X pc lv (.int (nI b) :: .int (nI a) :: st) σ := go_imul C d (by rw [pk_mul]; exact kk)
theorem go_isubN (C : OkX obj N cc nL own fr lo X) {a b : Nat} (d : decode cc pc = .ok (.isub, 1)) (h : b ≤ a) (kk : Go obj N X (pc + 1) lv (.int (nI (a - b)) :: st) σ) : Go obj N X pc lv (.int (nI b) :: .int (nI a) :: st) σ := go_isub C d (by rw [pk_sub h]; exact kk)
theorem go_idivN (C : OkX obj N cc nL own fr lo X) {a b : Nat} (d : decode cc pc = .ok (.idiv, 1)) (ha : a < 2 ^ 31) (h0 : 0 < b) (hb : b < 2 ^ 31) (kk : Go obj N X (pc + 1) lv (.int (nI (a / b)) :: st) σ) : Go obj N X pc lv (.int (nI b) :: .int (nI a) :: st) σ := go_idiv C d (nI_ne0 h0 hb) (by rw [pk_div ha h0 hb]; exact kk)
theorem go_iremN (C : OkX obj N cc nL own fr lo X) {a b : Nat} (d : decode cc pc = .ok (.irem, 1)) (ha : a < 2 ^ 31) (h0 : 0 < b) (hb : b < 2 ^ 31) (kk : Go obj N X (pc + 1) lv (.int (nI (a % b)) :: st) σ) : Go obj N X pc lv (.int (nI b) :: .int (nI a) :: st) σ := go_irem C d (nI_ne0 h0 hb) (by rw [pk_rem ha h0 hb]; exact kk)
theorem go_iincN (C : OkX obj N cc nL own fr lo X) {i : Nat} {n : Int} {a : Nat} (k : Nat) {lv1 : List (Option Value)} (d : decode cc pc = .ok (.iinc i n, 3)) (hi : lv[i]? = some (some (.int (nI a)))) (hk : Int32.ofInt n = nI k) (hn : i < nL) (hg : nlong lv i = true) (hlv : lv.set i (some (.int (nI (a + k)))) = lv1) (kk : Go obj N X (pc + 3) lv1 st σ) : Go obj N X pc lv st σ := go_iinc C (nI (a + k)) d hi (by rw [hk, nI_add]) hn hg hlv kk
theorem go_dup (C : OkX obj N cc nL own fr lo X) {v : Value} (d : decode cc pc = .ok (.dup, 1)) (hv : v.category = 1) (kk : Go obj N X (pc + 1) lv (v :: v :: st) σ) : Go obj N X pc lv (v :: st) σ := by
  obtain ⟨p, l, e, R, s, m, args, below, meth, c, nL', ad, D, cy, A, Q⟩ := X
  obtain ⟨hx, hb, hml, rfl, hown, hts, ⟨hK, hN⟩, hA, hlk, rfl⟩ := C
  intro H locs ls hP hD hS hl
  exact lv_dup hx hb d ((cv_cat v).trans hv) (kk H locs ls hP hD hS hl)
theorem go_pop (C : OkX obj N cc nL own fr lo X) {v : Value} (d : decode cc pc = .ok (.pop, 1)) (hv : v.category = 1) (kk : Go obj N X (pc + 1) lv st σ) : Go obj N X pc lv (v :: st) σ := by
  obtain ⟨p, l, e, R, s, m, args, below, meth, c, nL', ad, D, cy, A, Q⟩ := X
  obtain ⟨hx, hb, hml, rfl, hown, hts, ⟨hK, hN⟩, hA, hlk, rfl⟩ := C
  intro H locs ls hP hD hS hl
  exact lv_pop hx hb d ((cv_cat v).trans hv) (kk H locs ls hP hD hS hl)
theorem go_dup2 (C : OkX obj N cc nL own fr lo X) {v u : Value} (d : decode cc pc = .ok (.dup2, 1)) (hv : v.category = 1) (hu : u.category = 1) (kk : Go obj N X (pc + 1) lv (v :: u :: v :: u :: st) σ) : Go obj N X pc lv (v :: u :: st) σ := by
  obtain ⟨p, l, e, R, s, m, args, below, meth, c, nL', ad, D, cy, A, Q⟩ := X
  obtain ⟨hx, hb, hml, rfl, hown, hts, ⟨hK, hN⟩, hA, hlk, rfl⟩ := C
  intro H locs ls hP hD hS hl
  exact lv_dup2_11 hx hb d ((cv_cat v).trans hv) ((cv_cat u).trans hu) (kk H locs ls hP hD hS hl)
theorem go_if_eq (C : OkX obj N cc nL own fr lo X) {x : Int32} {off : Int} (tgt : Nat) (d : decode cc pc = .ok (.ifCond .eq off, 3)) (ht : (pc : Int) + off = (tgt : Int)) (kt : x = 0 → Go obj N X tgt lv st σ) (kf : ¬ x = 0 → Go obj N X (pc + 3) lv st σ) : Go obj N X pc lv (.int x :: st) σ := by
  obtain ⟨p, l, e, R, s, m, args, below, meth, c, nL', ad, D, cy, A, Q⟩ := X
  obtain ⟨hx, hb, hml, rfl, hown, hts, ⟨hK, hN⟩, hA, hlk, rfl⟩ := C
  intro H locs ls hP hD hS hl
  exact lv_if_eq hx hb d ht (fun h => kt h H locs ls hP hD hS hl) (fun h => kf h H locs ls hP hD hS hl)
theorem go_if_ne (C : OkX obj N cc nL own fr lo X) {x : Int32} {off : Int} (tgt : Nat) (d : decode cc pc = .ok (.ifCond .ne off, 3)) (ht : (pc : Int) + off = (tgt : Int)) (kt : ¬ x = 0 → Go obj N X tgt lv st σ) (kf : x = 0 → Go obj N X (pc + 3) lv st σ) : Go obj N X pc lv (.int x :: st) σ := by
  obtain ⟨p, l, e, R, s, m, args, below, meth, c, nL', ad, D, cy, A, Q⟩ := X
  obtain ⟨hx, hb, hml, rfl, hown, hts, ⟨hK, hN⟩, hA, hlk, rfl⟩ := C
  intro H locs ls hP hD hS hl
  exact lv_if_ne hx hb d ht (fun h => kt h H locs ls hP hD hS hl) (fun h => kf h H locs ls hP hD hS hl)
theorem go_if_lt (C : OkX obj N cc nL own fr lo X) {x : Int32} {off : Int} (tgt : Nat) (d : decode cc pc = .ok (.ifCond .lt off, 3)) (ht : (pc : Int) + off = (tgt : Int)) (kt : x < 0 → Go obj N X tgt lv st σ) (kf : ¬ x < 0 → Go obj N X (pc + 3) lv st σ) : Go obj N X pc lv (.int x :: st) σ := by
  obtain ⟨p, l, e, R, s, m, args, below, meth, c, nL', ad, D, cy, A, Q⟩ := X
  obtain ⟨hx, hb, hml, rfl, hown, hts, ⟨hK, hN⟩, hA, hlk, rfl⟩ := C
  intro H locs ls hP hD hS hl
  exact lv_if_lt hx hb d ht (fun h => kt h H locs ls hP hD hS hl) (fun h => kf h H locs ls hP hD hS hl)
theorem go_if_ge (C : OkX obj N cc nL own fr lo X) {x : Int32} {off : Int} (tgt : Nat) (d : decode cc pc = .ok (.ifCond .ge off, 3)) (ht : (pc : Int) + off = (tgt : Int)) (kt : 0 ≤ x → Go obj N X tgt lv st σ) (kf : ¬ 0 ≤ x → Go obj N X (pc + 3) lv st σ) : Go obj N X pc lv (.int x :: st) σ := by
  obtain ⟨p, l, e, R, s, m, args, below, meth, c, nL', ad, D, cy, A, Q⟩ := X
  obtain ⟨hx, hb, hml, rfl, hown, hts, ⟨hK, hN⟩, hA, hlk, rfl⟩ := C
  intro H locs ls hP hD hS hl
  exact lv_if_ge hx hb d ht (fun h => kt h H locs ls hP hD hS hl) (fun h => kf h H locs ls hP hD hS hl)
theorem go_if_gt (C : OkX obj N cc nL own fr lo X) {x : Int32} {off : Int} (tgt : Nat) (d : decode cc pc = .ok (.ifCond .gt off, 3)) (ht : (pc : Int) + off = (tgt : Int)) (kt : 0 < x → Go obj N X tgt lv st σ) (kf : ¬ 0 < x → Go obj N X (pc + 3) lv st σ) : Go obj N X pc lv (.int x :: st) σ := by
  obtain ⟨p, l, e, R, s, m, args, below, meth, c, nL', ad, D, cy, A, Q⟩ := X
  obtain ⟨hx, hb, hml, rfl, hown, hts, ⟨hK, hN⟩, hA, hlk, rfl⟩ := C
  intro H locs ls hP hD hS hl
  exact lv_if_gt hx hb d ht (fun h => kt h H locs ls hP hD hS hl) (fun h => kf h H locs ls hP hD hS hl)
theorem go_if_le (C : OkX obj N cc nL own fr lo X) {x : Int32} {off : Int} (tgt : Nat) (d : decode cc pc = .ok (.ifCond .le off, 3)) (ht : (pc : Int) + off = (tgt : Int)) (kt : x ≤ 0 → Go obj N X tgt lv st σ) (kf : ¬ x ≤ 0 → Go obj N X (pc + 3) lv st σ) : Go obj N X pc lv (.int x :: st) σ := by
  obtain ⟨p, l, e, R, s, m, args, below, meth, c, nL', ad, D, cy, A, Q⟩ := X
  obtain ⟨hx, hb, hml, rfl, hown, hts, ⟨hK, hN⟩, hA, hlk, rfl⟩ := C
  intro H locs ls hP hD hS hl
  exact lv_if_le hx hb d ht (fun h => kt h H locs ls hP hD hS hl) (fun h => kf h H locs ls hP hD hS hl)
theorem go_icmp_eq (C : OkX obj N cc nL own fr lo X) {x y : Int32} {off : Int} (tgt : Nat) (d : decode cc pc = .ok (.if_icmp .eq off, 3)) (ht : (pc : Int) + off = (tgt : Int)) (kt : x = y → Go obj N X tgt lv st σ) (kf : ¬ x = y → Go obj N X (pc + 3) lv st σ) : Go obj N X pc lv (.int y :: .int x :: st) σ := by
  obtain ⟨p, l, e, R, s, m, args, below, meth, c, nL', ad, D, cy, A, Q⟩ := X
  obtain ⟨hx, hb, hml, rfl, hown, hts, ⟨hK, hN⟩, hA, hlk, rfl⟩ := C
  intro H locs ls hP hD hS hl
  exact lv_icmp_eq hx hb d ht (fun h => kt h H locs ls hP hD hS hl) (fun h => kf h H locs ls hP hD hS hl)
theorem go_icmp_ne (C : OkX obj N cc nL own fr lo X) {x y : Int32} {off : Int} (tgt : Nat) (d : decode cc pc = .ok (.if_icmp .ne off, 3)) (ht : (pc : Int) + off = (tgt : Int)) (kt : ¬ x = y → Go obj N X tgt lv st σ) (kf : x = y → Go obj N X (pc + 3) lv st σ) : Go obj N X pc lv (.int y :: .int x :: st) σ := by
  obtain ⟨p, l, e, R, s, m, args, below, meth, c, nL', ad, D, cy, A, Q⟩ := X
  obtain ⟨hx, hb, hml, rfl, hown, hts, ⟨hK, hN⟩, hA, hlk, rfl⟩ := C
  intro H locs ls hP hD hS hl
  exact lv_icmp_ne hx hb d ht (fun h => kt h H locs ls hP hD hS hl) (fun h => kf h H locs ls hP hD hS hl)
theorem go_icmp_lt (C : OkX obj N cc nL own fr lo X) {x y : Int32} {off : Int} (tgt : Nat) (d : decode cc pc = .ok (.if_icmp .lt off, 3)) (ht : (pc : Int) + off = (tgt : Int)) (kt : x < y → Go obj N X tgt lv st σ) (kf : ¬ x < y → Go obj N X (pc + 3) lv st σ) : Go obj N X pc lv (.int y :: .int x :: st) σ := by
  obtain ⟨p, l, e, R, s, m, args, below, meth, c, nL', ad, D, cy, A, Q⟩ := X
  obtain ⟨hx, hb, hml, rfl, hown, hts, ⟨hK, hN⟩, hA, hlk, rfl⟩ := C
  intro H locs ls hP hD hS hl
  exact lv_icmp_lt hx hb d ht (fun h => kt h H locs ls hP hD hS hl) (fun h => kf h H locs ls hP hD hS hl)
theorem go_icmp_ge (C : OkX obj N cc nL own fr lo X) {x y : Int32} {off : Int} (tgt : Nat) (d : decode cc pc = .ok (.if_icmp .ge off, 3)) (ht : (pc : Int) + off = (tgt : Int)) (kt : y ≤ x → Go obj N X tgt lv st σ) (kf : ¬ y ≤ x → Go obj N X (pc + 3) lv st σ) : Go obj N X pc lv (.int y :: .int x :: st) σ := by
  obtain ⟨p, l, e, R, s, m, args, below, meth, c, nL', ad, D, cy, A, Q⟩ := X
  obtain ⟨hx, hb, hml, rfl, hown, hts, ⟨hK, hN⟩, hA, hlk, rfl⟩ := C
  intro H locs ls hP hD hS hl
  exact lv_icmp_ge hx hb d ht (fun h => kt h H locs ls hP hD hS hl) (fun h => kf h H locs ls hP hD hS hl)
theorem go_icmp_gt (C : OkX obj N cc nL own fr lo X) {x y : Int32} {off : Int} (tgt : Nat) (d : decode cc pc = .ok (.if_icmp .gt off, 3)) (ht : (pc : Int) + off = (tgt : Int)) (kt : y < x → Go obj N X tgt lv st σ) (kf : ¬ y < x → Go obj N X (pc + 3) lv st σ) : Go obj N X pc lv (.int y :: .int x :: st) σ := by
  obtain ⟨p, l, e, R, s, m, args, below, meth, c, nL', ad, D, cy, A, Q⟩ := X
  obtain ⟨hx, hb, hml, rfl, hown, hts, ⟨hK, hN⟩, hA, hlk, rfl⟩ := C
  intro H locs ls hP hD hS hl
  exact lv_icmp_gt hx hb d ht (fun h => kt h H locs ls hP hD hS hl) (fun h => kf h H locs ls hP hD hS hl)
theorem go_icmp_le (C : OkX obj N cc nL own fr lo X) {x y : Int32} {off : Int} (tgt : Nat) (d : decode cc pc = .ok (.if_icmp .le off, 3)) (ht : (pc : Int) + off = (tgt : Int)) (kt : x ≤ y → Go obj N X tgt lv st σ) (kf : ¬ x ≤ y → Go obj N X (pc + 3) lv st σ) : Go obj N X pc lv (.int y :: .int x :: st) σ := by
  obtain ⟨p, l, e, R, s, m, args, below, meth, c, nL', ad, D, cy, A, Q⟩ := X
  obtain ⟨hx, hb, hml, rfl, hown, hts, ⟨hK, hN⟩, hA, hlk, rfl⟩ := C
  intro H locs ls hP hD hS hl
  exact lv_icmp_le hx hb d ht (fun h => kt h H locs ls hP hD hS hl) (fun h => kf h H locs ls hP hD hS hl)
theorem go_icmp_eqN (C : OkX obj N cc nL own fr lo X) {a b : Nat} {off : Int} (tgt : Nat) (d : decode cc pc = .ok (.if_icmp .eq off, 3)) (ht : (pc : Int) + off = (tgt : Int)) (ha : a < 2 ^ 31) (hb : b < 2 ^ 31) (kt : a = b → Go obj N X tgt lv st σ) (kf : a ≠ b → Go obj N X (pc + 3) lv st σ) : Go obj N X pc lv (.int (nI b) :: .int (nI a) :: st) σ := go_icmp_eq C tgt d ht (fun h => kt ((nI_eq ha hb).mp h)) (fun h => kf (fun e => h ((nI_eq ha hb).mpr e)))
theorem go_if_eqN (C : OkX obj N cc nL own fr lo X) {a : Nat} {off : Int} (tgt : Nat) (d : decode cc pc = .ok (.ifCond .eq off, 3)) (ht : (pc : Int) + off = (tgt : Int)) (ha : a < 2 ^ 31) (kt : a = 0 → Go obj N X tgt lv st σ) (kf : a ≠ 0 → Go obj N X (pc + 3) lv st σ) : Go obj N X pc lv (.int (nI a) :: st) σ := by
  have hb : 0 < 2 ^ 31 := by decide
  exact go_if_eq C tgt d ht (fun h => kt ((nI_eq ha hb).mp (nI_0 ▸ h))) (fun h => kf (fun e => (nI_0 ▸ h) ((nI_eq ha hb).mpr e)))
theorem go_icmp_neN (C : OkX obj N cc nL own fr lo X) {a b : Nat} {off : Int} (tgt : Nat) (d : decode cc pc = .ok (.if_icmp .ne off, 3)) (ht : (pc : Int) + off = (tgt : Int)) (ha : a < 2 ^ 31) (hb : b < 2 ^ 31) (kt : a ≠ b → Go obj N X tgt lv st σ) (kf : a = b → Go obj N X (pc + 3) lv st σ) : Go obj N X pc lv (.int (nI b) :: .int (nI a) :: st) σ := go_icmp_ne C tgt d ht (fun h => kt (fun e => h ((nI_eq ha hb).mpr e))) (fun h => kf ((nI_eq ha hb).mp h))
theorem go_if_neN (C : OkX obj N cc nL own fr lo X) {a : Nat} {off : Int} (tgt : Nat) (d : decode cc pc = .ok (.ifCond .ne off, 3)) (ht : (pc : Int) + off = (tgt : Int)) (ha : a < 2 ^ 31) (kt : a ≠ 0 → Go obj N X tgt lv st σ) (kf : a = 0 → Go obj N X (pc + 3) lv st σ) : Go obj N X pc lv (.int (nI a) :: st) σ := by
  have hb : 0 < 2 ^ 31 := by decide
  exact go_if_ne C tgt d ht (fun h => kt (fun e => (nI_0 ▸ h) ((nI_eq ha hb).mpr e))) (fun h => kf ((nI_eq ha hb).mp (nI_0 ▸ h)))
theorem go_icmp_ltN (C : OkX obj N cc nL own fr lo X) {a b : Nat} {off : Int} (tgt : Nat) (d : decode cc pc = .ok (.if_icmp .lt off, 3)) (ht : (pc : Int) + off = (tgt : Int)) (ha : a < 2 ^ 31) (hb : b < 2 ^ 31) (kt : a < b → Go obj N X tgt lv st σ) (kf : b ≤ a → Go obj N X (pc + 3) lv st σ) : Go obj N X pc lv (.int (nI b) :: .int (nI a) :: st) σ := go_icmp_lt C tgt d ht (fun h => kt ((nI_ltI ha hb).mp h)) (fun h => kf (Nat.le_of_not_lt (fun e => h ((nI_ltI ha hb).mpr e))))
theorem go_if_ltN (C : OkX obj N cc nL own fr lo X) {a : Nat} {off : Int} (tgt : Nat) (d : decode cc pc = .ok (.ifCond .lt off, 3)) (ht : (pc : Int) + off = (tgt : Int)) (ha : a < 2 ^ 31) (kt : a < 0 → Go obj N X tgt lv st σ) (kf : 0 ≤ a → Go obj N X (pc + 3) lv st σ) : Go obj N X pc lv (.int (nI a) :: st) σ := by
  have hb : 0 < 2 ^ 31 := by decide
  exact go_if_lt C tgt d ht (fun h => kt ((nI_ltI ha hb).mp (nI_0 ▸ h))) (fun h => kf (Nat.le_of_not_lt (fun e => (nI_0 ▸ h) ((nI_ltI ha hb).mpr e))))
theorem go_icmp_geN (C : OkX obj N cc nL own fr lo X) {a b : Nat} {off : Int} (tgt : Nat) (d : decode cc pc = .ok (.if_icmp .ge off, 3)) (ht : (pc : Int) + off = (tgt : Int)) (ha : a < 2 ^ 31) (hb : b < 2 ^ 31) (kt : b ≤ a → Go obj N X tgt lv st σ) (kf : a < b → Go obj N X (pc + 3) lv st σ) : Go obj N X pc lv (.int (nI b) :: .int (nI a) :: st) σ := go_icmp_ge C tgt d ht (fun h => kt ((nI_leI hb ha).mp h)) (fun h => kf (Nat.lt_of_not_le (fun e => h ((nI_leI hb ha).mpr e))))
theorem go_if_geN (C : OkX obj N cc nL own fr lo X) {a : Nat} {off : Int} (tgt : Nat) (d : decode cc pc = .ok (.ifCond .ge off, 3)) (ht : (pc : Int) + off = (tgt : Int)) (ha : a < 2 ^ 31) (kt : 0 ≤ a → Go obj N X tgt lv st σ) (kf : a < 0 → Go obj N X (pc + 3) lv st σ) : Go obj N X pc lv (.int (nI a) :: st) σ := by
  have hb : 0 < 2 ^ 31 := by decide
  exact go_if_ge C tgt d ht (fun h => kt ((nI_leI hb ha).mp (nI_0 ▸ h))) (fun h => kf (Nat.lt_of_not_le (fun e => (nI_0 ▸ h) ((nI_leI hb ha).mpr e))))
theorem go_icmp_gtN (C : OkX obj N cc nL own fr lo X) {a b : Nat} {off : Int} (tgt : Nat) (d : decode cc pc = .ok (.if_icmp .gt off, 3)) (ht : (pc : Int) + off = (tgt : Int)) (ha : a < 2 ^ 31) (hb : b < 2 ^ 31) (kt : b < a → Go obj N X tgt lv st σ) (kf : a ≤ b → Go obj N X (pc + 3) lv st σ) : Go obj N X pc lv (.int (nI b) :: .int (nI a) :: st) σ := go_icmp_gt C tgt d ht (fun h => kt ((nI_ltI hb ha).mp h)) (fun h => kf (Nat.le_of_not_lt (fun e => h ((nI_ltI hb ha).mpr e))))
theorem go_if_gtN (C : OkX obj N cc nL own fr lo X) {a : Nat} {off : Int} (tgt : Nat) (d : decode cc pc = .ok (.ifCond .gt off, 3)) (ht : (pc : Int) + off = (tgt : Int)) (ha : a < 2 ^ 31) (kt : 0 < a → Go obj N X tgt lv st σ) (kf : a ≤ 0 → Go obj N X (pc + 3) lv st σ) : Go obj N X pc lv (.int (nI a) :: st) σ := by
  have hb : 0 < 2 ^ 31 := by decide
  exact go_if_gt C tgt d ht (fun h => kt ((nI_ltI hb ha).mp (nI_0 ▸ h))) (fun h => kf (Nat.le_of_not_lt (fun e => (nI_0 ▸ h) ((nI_ltI hb ha).mpr e))))
theorem go_icmp_leN (C : OkX obj N cc nL own fr lo X) {a b : Nat} {off : Int} (tgt : Nat) (d : decode cc pc = .ok (.if_icmp .le off, 3)) (ht : (pc : Int) + off = (tgt : Int)) (ha : a < 2 ^ 31) (hb : b < 2 ^ 31) (kt : a ≤ b → Go obj N X tgt lv st σ) (kf : b < a → Go obj N X (pc + 3) lv st σ) : Go obj N X pc lv (.int (nI b) :: .int (nI a) :: st) σ := go_icmp_le C tgt d ht (fun h => kt ((nI_leI ha hb).mp h)) (fun h => kf (Nat.lt_of_not_le (fun e => h ((nI_leI ha hb).mpr e))))
theorem go_if_leN (C : OkX obj N cc nL own fr lo X) {a : Nat} {off : Int} (tgt : Nat) (d : decode cc pc = .ok (.ifCond .le off, 3)) (ht : (pc : Int) + off = (tgt : Int)) (ha : a < 2 ^ 31) (kt : a ≤ 0 → Go obj N X tgt lv st σ) (kf : 0 < a → Go obj N X (pc + 3) lv st σ) : Go obj N X pc lv (.int (nI a) :: st) σ := by
  have hb : 0 < 2 ^ 31 := by decide
  exact go_if_le C tgt d ht (fun h => kt ((nI_leI ha hb).mp (nI_0 ▸ h))) (fun h => kf (Nat.lt_of_not_le (fun e => (nI_0 ▸ h) ((nI_leI ha hb).mpr e))))
theorem go_goto (C : OkX obj N cc nL own fr lo X) {off : Int} (tgt : Nat) (d : decode cc pc = .ok (.goto off, 3)) (ht : (pc : Int) + off = (tgt : Int)) (kk : Go obj N X tgt lv st σ) : Go obj N X pc lv st σ := by
  obtain ⟨p, l, e, R, s, m, args, below, meth, c, nL', ad, D, cy, A, Q⟩ := X
  obtain ⟨hx, hb, hml, rfl, hown, hts, ⟨hK, hN⟩, hA, hlk, rfl⟩ := C
  intro H locs ls hP hD hS hl
  exact lv_goto hx hb d ht (kk H locs ls hP hD hS hl)
theorem go_lookup (C : OkX obj N cc nL own fr lo X) {x : Int32} {dflt : Int} {ps : Array (Int × Int)} {len : Nat} (tgt : Nat) (off : Int) (d : decode cc pc = .ok (.lookupswitch dflt ps, len)) (hp : (ps.toList.zip (ps.toList.drop 1)).all (fun (a, next) => a.1 < next.1) = true) (ho : Op.lookupswitch.offset ps.toList dflt x.toInt = off) (ht : (pc : Int) + off = (tgt : Int)) (kk : Go obj N X tgt lv st σ) : Go obj N X pc lv (.int x :: st) σ := by
  obtain ⟨p, l, e, R, s, m, args, below, meth, c, nL', ad, D, cy, A, Q⟩ := X
  obtain ⟨hx, hb, hml, rfl, hown, hts, ⟨hK, hN⟩, hA, hlk, rfl⟩ := C
  intro H locs ls hP hD hS hl
  exact lv_lookup hx hb d hp ho ht (kk H locs ls hP hD hS hl)
theorem go_tableIn (C : OkX obj N cc nL own fr lo X) {x : Int32} {dflt lo hi : Int} {offs : Array Int} {len : Nat} (tgt : Nat) (off : Int) (d : decode cc pc = .ok (.tableswitch dflt lo hi offs, len)) (h1 : ¬ x.toInt < lo) (h2 : ¬ hi < x.toInt) (ho : offs[(x.toInt - lo).toNat]? = some off) (ht : (pc : Int) + off = (tgt : Int)) (kk : Go obj N X tgt lv st σ) : Go obj N X pc lv (.int x :: st) σ := by
  obtain ⟨p, l, e, R, s, m, args, below, meth, c, nL', ad, D, cy, A, Q⟩ := X
  obtain ⟨hx, hb, hml, rfl, hown, hts, ⟨hK, hN⟩, hA, hlk, rfl⟩ := C
  intro H locs ls hP hD hS hl
  exact lv_tableIn hx hb d h1 h2 ho ht (kk H locs ls hP hD hS hl)
theorem go_tableOut (C : OkX obj N cc nL own fr lo X) {x : Int32} {dflt lo hi : Int} {offs : Array Int} {len : Nat} (tgt : Nat) (d : decode cc pc = .ok (.tableswitch dflt lo hi offs, len)) (h : x.toInt < lo ∨ hi < x.toInt) (ht : (pc : Int) + dflt = (tgt : Int)) (kk : Go obj N X tgt lv st σ) : Go obj N X pc lv (.int x :: st) σ := by
  obtain ⟨p, l, e, R, s, m, args, below, meth, c, nL', ad, D, cy, A, Q⟩ := X
  obtain ⟨hx, hb, hml, rfl, hown, hts, ⟨hK, hN⟩, hA, hlk, rfl⟩ := C
  intro H locs ls hP hD hS hl
  exact lv_tableOut hx hb d h ht (kk H locs ls hP hD hS hl)
/-- a field of an own class as an instruction links it -/
def GF (own : String) (idx ci f : Nat) (C0 : String) (T : u_T) (Nf : Nat) (ty : Nat → FieldType) : Prop :=
  vwCl[ci]? = some (C0, T, Nf) ∧ (∀ w ∈ u_ws C0 T Nf, w ∈ gw) ∧ f < Nf ∧ Cond.fieldLink own idx (T f).1 (T f).2.1 (T f).2.2.1 ∈ gw ∧ (∀ k, k < Nf → parseFieldDescriptor (T k).2.2.1 = some (ty k)) ∧ (∀ a, a < Nf → ∀ b, b < Nf → a ≠ b → (T a).2.1 ≠ (T b).2.1)
theorem go_getI (C : OkX obj N cc nL own fr lo X) {idx ci f : Nat} {C0 : String} {T : u_T} {Nf : Nat} {ty : Nat → FieldType} (F : GF own idx ci f C0 T Nf ty) (d : decode cc pc = .ok (.getfield idx, 3)) {k : Nat} {fl : List (Option Nat)} (hk : k < N) (ho : obj k = .inl (ci, fl)) (hf : fl[f]? = some none) (kk : Go obj N X (pc + 3) lv (.int (σ k f) :: st) σ) : Go obj N X pc lv (.ref k :: st) σ := by
  obtain ⟨p, l, e, R, s, m, args, below, meth, c, nL', ad, D, cy, A, Q⟩ := X
  obtain ⟨hx, hb, hml, rfl, hown, hts, ⟨hK, hN⟩, hA, hlk, rfl⟩ := C
  intro H locs ls hP hD hS hl
  obtain ⟨f1, f2, f3, f4, f5, f6⟩ := F
  exact va_get hx hb hts f2 hown hK hP k (fs := fsV ad (σ k) fl) (ci := ci) (by rw [WS_get hk, ho]; rfl) f1 f f3 (hts _ f4) (fun _ h => h) (v := .int (σ k f)) (fsV_get hf) d (kk H locs ls hP hD hS hl)
theorem go_getR (C : OkX obj N cc nL own fr lo X) {idx ci f : Nat} {C0 : String} {T : u_T} {Nf : Nat} {ty : Nat → FieldType} (F : GF own idx ci f C0 T Nf ty) (d : decode cc pc = .ok (.getfield idx, 3)) {k : Nat} {fl : List (Option Nat)} (hk : k < N) (ho : obj k = .inl (ci, fl)) {j : Nat} (hf : fl[f]? = some (some j)) (kk : Go obj N X (pc + 3) lv (.ref j :: st) σ) : Go obj N X pc lv (.ref k :: st) σ := by
  obtain ⟨p, l, e, R, s, m, args, below, meth, c, nL', ad, D, cy, A, Q⟩ := X
  obtain ⟨hx, hb, hml, rfl, hown, hts, ⟨hK, hN⟩, hA, hlk, rfl⟩ := C
  intro H locs ls hP hD hS hl
  obtain ⟨f1, f2, f3, f4, f5, f6⟩ := F
  exact va_get hx hb hts f2 hown hK hP k (fs := fsV ad (σ k) fl) (ci := ci) (by rw [WS_get hk, ho]; rfl) f1 f f3 (hts _ f4) (fun _ h => h) (v := .ref (ad j)) (fsV_get hf) d (kk H locs ls hP hD hS hl)
theorem go_putI (C : OkX obj N cc nL own fr lo X) {idx ci f : Nat} {C0 : String} {T : u_T} {Nf : Nat} {ty : Nat → FieldType} (F : GF own idx ci f C0 T Nf ty) (d : decode cc pc = .ok (.putfield idx, 3)) {k : Nat} {fl : List (Option Nat)} (hk : k < N) (ho : obj k = .inl (ci, fl)) (hf : fl[f]? = some none) (hfin : (T f).2.2.2 = false) {x : Int32} (hn : narrow (ty f) (.int x) = .int x) (hfit : fits (ty f) (.int x) = true) (kk : Go obj N X (pc + 3) lv st (updR σ k (upd (σ k) f x))) : Go obj N X pc lv (.int x :: .ref k :: st) σ := by
  obtain ⟨p, l, e, R, s, m, args, below, meth, c, nL', ad, D, cy, A, Q⟩ := X
  obtain ⟨hx, hb, hml, rfl, hown, hts, ⟨hK, hN⟩, hA, hlk, rfl⟩ := C
  intro H locs ls hP hD hS hl
  obtain ⟨f1, f2, f3, f4, f5, f6⟩ := F
  have hl2 : f < fl.length := (List.getElem?_eq_some_iff.mp hf).1
  refine va_put hx hb hts f2 ty f5 f6 hown hK hP hD hS k (fs := fsV ad (σ k) fl) (ci := ci) (by rw [WS_get hk, ho]; rfl) f1 f f3 (hts _ f4) (fun _ h => h) hfin (f5 f f3) hn hfit (by rw [fsV_len]; exact hl2) d (fun H1 locs1 hP1 hD1 hS1 => ?_)
  have e0 : (fsV ad (σ k) fl).set f (cv ad (Value.int x)) = fsV ad (upd (σ k) f x) fl := fsV_set x hf
  rw [e0] at hP1 hD1
  have e : (ad k, (Sum.inr (ci, fsV ad (upd (σ k) f x) fl) : va_E)) = (ad k, ce ad cy (upd (σ k) f x) (obj k)) := by rw [ho]; rfl
  rw [e, WS_set _ hk] at hP1 hD1
  exact kk H1 locs1 ls hP1 hD1 hS1 hl
theorem go_iald (C : OkX obj N cc nL own fr lo X) {k n : Nat} (d : decode cc pc = .ok (.iaload, 1)) (hk : k < N) (ho : obj k = .inr (.inl (0, n))) {i : Int32} (hin : vp_in i n) (kk : Go obj N X (pc + 1) lv (.int (σ k i.toNatClampNeg) :: st) σ) : Go obj N X pc lv (.int i :: .ref k :: st) σ := by
  obtain ⟨p, l, e, R, s, m, args, below, meth, c, nL', ad, D, cy, A, Q⟩ := X
  obtain ⟨hx, hb, hml, rfl, hown, hts, ⟨hK, hN⟩, hA, hlk, rfl⟩ := C
  intro H locs ls hP hD hS hl
  exact va_iald hx hb hK hP k 0 (f := σ k) (n := n) (cA := cy 0) (by rw [WS_get hk, ho]; rfl) rfl hin d (kk H locs ls hP hD hS hl)
theorem go_ialdN (C : OkX obj N cc nL own fr lo X) {k n : Nat} (d : decode cc pc = .ok (.iaload, 1)) (hk : k < N) (ho : obj k = .inr (.inl (0, n))) (hn : n < 2 ^ 31) {i : Nat} (hin : i < n) (kk : Go obj N X (pc + 1) lv (.int (σ k i) :: st) σ) : Go obj N X pc lv (.int (nI i) :: .ref k :: st) σ := go_iald C d hk ho (vp_in_nI hin hn) (by rw [nI_clamp (Nat.lt_trans hin hn)]; exact kk)
theorem go_zald (C : OkX obj N cc nL own fr lo X) {k n : Nat} (d : decode cc pc = .ok (.baload, 1)) (hk : k < N) (ho : obj k = .inr (.inl (1, n))) {i : Int32} (hin : vp_in i n) (kk : Go obj N X (pc + 1) lv (.int (σ k i.toNatClampNeg) :: st) σ) : Go obj N X pc lv (.int i :: .ref k :: st) σ := by
  obtain ⟨p, l, e, R, s, m, args, below, meth, c, nL', ad, D, cy, A, Q⟩ := X
  obtain ⟨hx, hb, hml, rfl, hown, hts, ⟨hK, hN⟩, hA, hlk, rfl⟩ := C
  intro H locs ls hP hD hS hl
  exact va_zald hx hb hK hP k 1 (f := σ k) (n := n) (cA := cy 1) (by rw [WS_get hk, ho]; rfl) rfl hin d (kk H locs ls hP hD hS hl)
theorem go_zaldN (C : OkX obj N cc nL own fr lo X) {k n : Nat} (d : decode cc pc = .ok (.baload, 1)) (hk : k < N) (ho : obj k = .inr (.inl (1, n))) (hn : n < 2 ^ 31) {i : Nat} (hin : i < n) (kk : Go obj N X (pc + 1) lv (.int (σ k i) :: st) σ) : Go obj N X pc lv (.int (nI i) :: .ref k :: st) σ := go_zald C d hk ho (vp_in_nI hin hn) (by rw [nI_clamp (Nat.lt_trans hin hn)]; exact kk)
theorem go_cald (C : OkX obj N cc nL own fr lo X) {k n : Nat} (d : decode cc pc = .ok (.caload, 1)) (hk : k < N) (ho : obj k = .inr (.inl (2, n))) {i : Int32} (hin : vp_in i n) (kk : Go obj N X (pc + 1) lv (.int (σ k i.toNatClampNeg) :: st) σ) : Go obj N X pc lv (.int i :: .ref k :: st) σ := by
  obtain ⟨p, l, e, R, s, m, args, below, meth, c, nL', ad, D, cy, A, Q⟩ := X
  obtain ⟨hx, hb, hml, rfl, hown, hts, ⟨hK, hN⟩, hA, hlk, rfl⟩ := C
  intro H locs ls hP hD hS hl
  exact va_cald hx hb hK hP k 2 (f := σ k) (n := n) (cA := cy 2) (by rw [WS_get hk, ho]; rfl) rfl hin d (kk H locs ls hP hD hS hl)
theorem go_caldN (C : OkX obj N cc nL own fr lo X) {k n : Nat} (d : decode cc pc = .ok (.caload, 1)) (hk : k < N) (ho : obj k = .inr (.inl (2, n))) (hn : n < 2 ^ 31) {i : Nat} (hin : i < n) (kk : Go obj N X (pc + 1) lv (.int (σ k i) :: st) σ) : Go obj N X pc lv (.int (nI i) :: .ref k :: st) σ := go_cald C d hk ho (vp_in_nI hin hn) (by rw [nI_clamp (Nat.lt_trans hin hn)]; exact kk)
theorem go_iast (C : OkX obj N cc nL own fr lo X) {k n : Nat} (d : decode cc pc = .ok (.iastore, 1)) (hk : k < N) (ho : obj k = .inr (.inl (0, n))) {i x : Int32} (hin : vp_in i n) (kk : Go obj N X (pc + 1) lv st (updR σ k (upd (σ k) i.toNatClampNeg x))) : Go obj N X pc lv (.int x :: .int i :: .ref k :: st) σ := by
  obtain ⟨p, l, e, R, s, m, args, below, meth, c, nL', ad, D, cy, A, Q⟩ := X
  obtain ⟨hx, hb, hml, rfl, hown, hts, ⟨hK, hN⟩, hA, hlk, rfl⟩ := C
  intro H locs ls hP hD hS hl
  refine va_iast hx hb hK hP hD hS k 0 (f := σ k) (n := n) (cA := cy 0) (by rw [WS_get hk, ho]; rfl) rfl hin d (fun H1 locs1 hP1 hD1 hS1 => ?_)
  have e : ∀ g : Nat → Int32, (ad k, (Sum.inl (cy 0, n, .inl g) : va_E)) = (ad k, ce ad cy g (obj k)) := fun g => by rw [ho]; rfl
  rw [e, WS_set _ hk] at hP1 hD1
  exact kk H1 locs1 ls hP1 hD1 hS1 hl
theorem go_iastN (C : OkX obj N cc nL own fr lo X) {k n : Nat} (d : decode cc pc = .ok (.iastore, 1)) (hk : k < N) (ho : obj k = .inr (.inl (0, n))) (hn : n < 2 ^ 31) {i : Nat} {x : Int32} (hin : i < n) (kk : Go obj N X (pc + 1) lv st (updR σ k (upd (σ k) i x))) : Go obj N X pc lv (.int x :: .int (nI i) :: .ref k :: st) σ := go_iast C d hk ho (vp_in_nI hin hn) (by rw [nI_clamp (Nat.lt_trans hin hn)]; exact kk)
theorem go_zast (C : OkX obj N cc nL own fr lo X) {k n : Nat} (d : decode cc pc = .ok (.bastore, 1)) (hk : k < N) (ho : obj k = .inr (.inl (1, n))) {i x : Int32} (hin : vp_in i n) (kk : Go obj N X (pc + 1) lv st (updR σ k (upd (σ k) i.toNatClampNeg (vp_nar .boolean x)))) : Go obj N X pc lv (.int x :: .int i :: .ref k :: st) σ := by
  obtain ⟨p, l, e, R, s, m, args, below, meth, c, nL', ad, D, cy, A, Q⟩ := X
  obtain ⟨hx, hb, hml, rfl, hown, hts, ⟨hK, hN⟩, hA, hlk, rfl⟩ := C
  intro H locs ls hP hD hS hl
  refine va_zast hx hb hK hP hD hS k 1 (f := σ k) (n := n) (cA := cy 1) (by rw [WS_get hk, ho]; rfl) rfl hin d (fun H1 locs1 hP1 hD1 hS1 => ?_)
  have e : ∀ g : Nat → Int32, (ad k, (Sum.inl (cy 1, n, .inl g) : va_E)) = (ad k, ce ad cy g (obj k)) := fun g => by rw [ho]; rfl
  rw [e, WS_set _ hk] at hP1 hD1
  exact kk H1 locs1 ls hP1 hD1 hS1 hl
theorem go_zastN (C : OkX obj N cc nL own fr lo X) {k n : Nat} (d : decode cc pc = .ok (.bastore, 1)) (hk : k < N) (ho : obj k = .inr (.inl (1, n))) (hn : n < 2 ^ 31) {i : Nat} {x : Int32} (hin : i < n) (kk : Go obj N X (pc + 1) lv st (updR σ k (upd (σ k) i (vp_nar .boolean x)))) : Go obj N X pc lv (.int x :: .int (nI i) :: .ref k :: st) σ := go_zast C d hk ho (vp_in_nI hin hn) (by rw [nI_clamp (Nat.lt_trans hin hn)]; exact kk)
theorem go_cast (C : OkX obj N cc nL own fr lo X) {k n : Nat} (d : decode cc pc = .ok (.castore, 1)) (hk : k < N) (ho : obj k = .inr (.inl (2, n))) {i x : Int32} (hin : vp_in i n) (kk : Go obj N X (pc + 1) lv st (updR σ k (upd (σ k) i.toNatClampNeg (vp_nar .char x)))) : Go obj N X pc lv (.int x :: .int i :: .ref k :: st) σ := by
  obtain ⟨p, l, e, R, s, m, args, below, meth, c, nL', ad, D, cy, A, Q⟩ := X
  obtain ⟨hx, hb, hml, rfl, hown, hts, ⟨hK, hN⟩, hA, hlk, rfl⟩ := C
  intro H locs ls hP hD hS hl
  refine va_cast hx hb hK hP hD hS k 2 (f := σ k) (n := n) (cA := cy 2) (by rw [WS_get hk, ho]; rfl) rfl hin d (fun H1 locs1 hP1 hD1 hS1 => ?_)
  have e : ∀ g : Nat → Int32, (ad k, (Sum.inl (cy 2, n, .inl g) : va_E)) = (ad k, ce ad cy g (obj k)) := fun g => by rw [ho]; rfl
  rw [e, WS_set _ hk] at hP1 hD1
  exact kk H1 locs1 ls hP1 hD1 hS1 hl
theorem go_castN (C : OkX obj N cc nL own fr lo X) {k n : Nat} (d : decode cc pc = .ok (.castore, 1)) (hk : k < N) (ho : obj k = .inr (.inl (2, n))) (hn : n < 2 ^ 31) {i : Nat} {x : Int32} (hin : i < n) (kk : Go obj N X (pc + 1) lv st (updR σ k (upd (σ k) i (vp_nar .char x)))) : Go obj N X pc lv (.int x :: .int (nI i) :: .ref k :: st) σ := go_cast C d hk ho (vp_in_nI hin hn) (by rw [nI_clamp (Nat.lt_trans hin hn)]; exact kk)
theorem go_aald (C : OkX obj N cc nL own fr lo X) {k t : Nat} {js : List Nat} (d : decode cc pc = .ok (.aaload, 1)) (hk : k < N) (ho : obj k = .inr (.inr (t, js))) (ht : t = 3 ∨ t = 4) (hn : js.length < 2 ^ 31) {i j : Nat} (hj : js[i]? = some j) (kk : Go obj N X (pc + 1) lv (.ref j :: st) σ) : Go obj N X pc lv (.int (nI i) :: .ref k :: st) σ := by
  obtain ⟨p, l, e, R, s, m, args, below, meth, c, nL', ad, D, cy, A, Q⟩ := X
  obtain ⟨hx, hb, hml, rfl, hown, hts, ⟨hK, hN⟩, hA, hlk, rfl⟩ := C
  intro H locs ls hP hD hS hl
  have hi := (List.getElem?_eq_some_iff.mp hj).1
  have h31 : i < 2 ^ 31 := Nat.lt_trans hi hn
  have hin : vp_in (nI i) js.length := vp_in_nI hi hn
  have hlt : (nI i).toNatClampNeg < js.length := by rw [nI_clamp h31]; exact hi
  obtain ⟨ty, hty, hrk⟩ : ∃ ty : FieldType, (tyL cy)[t]? = some (cy t, ty) ∧ (ty = .array .int ∨ ty = .object RX5) := by
    rcases ht with rfl | rfl
    · exact ⟨_, rfl, Or.inl rfl⟩
    · exact ⟨_, rfl, Or.inr rfl⟩
  have hws : (WS obj N ad cy σ)[k]? = some (ad k, .inl (cy t, js.length, .inr (.inr (.inr (.inr (fun i => js[i]?.map ad)))))) := by rw [WS_get hk, ho]; rfl
  have hv : va_rf ((fun i => js[i]?.map ad) (nI i).toNatClampNeg) = .ref (ad j) := by
    show va_rf (js[(nI i).toNatClampNeg]?.map ad) = _
    rw [nI_clamp h31, hj]; rfl
  have kk' := kk H locs ls hP hD hS hl
  have kk2 : W p l e (rmOf fr lo) s m args below meth c H locs 0 0 Q (F0 m (pc + 1) ls (va_rf ((fun i => js[i]?.map ad) (nI i).toNatClampNeg) :: st.map (cv ad))) := by rw [hv]; exact kk'
  exact W.aald (v := va_rf ((fun i => js[i]?.map ad) (nI i).toNatClampNeg)) (ty := ty) hx hb (hP k _ hws) ((hK.2 t _ hty).1 js.length (fun j => va_rf ((fun i => js[i]?.map ad) j))) (by rcases hrk with rfl | rfl <;> rfl) (fun q => by cases q) (by show ¬ (nI i < 0 ∨ (arrV _ _ _).slots.size ≤ _); rw [arrV_size]; exact hin) (by show (arrV _ _ _).slots[_]? = _; rw [arrV_read _ _ hlt]) rfl rfl d kk2
def LkM (own : String) (idx : Nat) (y : MethodName) (cc : ByteArray) : Prop := Cond.methodLink own idx y ∈ gw ∧ Cond.static y ∈ gw ∧ Cond.initialized "java/lang/Math" ∈ gw ∧ Cond.code y cc 2 (some .int) ∈ gw
theorem go_max (C : OkX obj N cc nL own fr lo X) {idx : Nat} {x y : Int32} (L : LkM own idx Lib.Math.max.name Lib.Math.max.code) (d : decode cc pc = .ok (.invokestatic idx, 3)) (hfr : 1 ≤ fr) (hlo : (st.map (fun v => v.category)).sum + 13 ≤ lo) (kk : Go obj N X (pc + 3) lv (.int (if x < y then y else x) :: st) σ) : Go obj N X pc lv (.int y :: .int x :: st) σ := by
  obtain ⟨p, l, e, R, s, m, args, below, meth, c, nL', ad, D, cy, A, Q⟩ := X
  obtain ⟨hx, hb, hml, rfl, hown, hts, ⟨hK, hN⟩, hA, hlk, rfl⟩ := C
  intro H locs ls hP hD hS hl
  have hcs : ((st.map (cv ad)).map fun v => v.category).sum = (st.map fun v => v.category).sum := by rw [List.map_map]; congr 2; funext v; exact cv_cat v
  exact va_mmax hx hb (hml.trans hl.1.symm) hown (hts _ L.1) (hts _ L.2.1) (hts _ L.2.2.1) (hts _ L.2.2.2) hfr (by rw [hcs]; exact hlo) (Nat.zero_le _) (Nat.zero_le _) d (kk H locs ls hP hD hS hl)
theorem go_min (C : OkX obj N cc nL own fr lo X) {idx : Nat} {x y : Int32} (L : LkM own idx Lib.Math.min.name Lib.Math.min.code) (d : decode cc pc = .ok (.invokestatic idx, 3)) (hfr : 1 ≤ fr) (hlo : (st.map (fun v => v.category)).sum + 13 ≤ lo) (kk : Go obj N X (pc + 3) lv (.int (if y < x then y else x) :: st) σ) : Go obj N X pc lv (.int y :: .int x :: st) σ := by
  obtain ⟨p, l, e, R, s, m, args, below, meth, c, nL', ad, D, cy, A, Q⟩ := X
  obtain ⟨hx, hb, hml, rfl, hown, hts, ⟨hK, hN⟩, hA, hlk, rfl⟩ := C
  intro H locs ls hP hD hS hl
  have hcs : ((st.map (cv ad)).map fun v => v.category).sum = (st.map fun v => v.category).sum := by rw [List.map_map]; congr 2; funext v; exact cv_cat v
  exact va_mmin hx hb (hml.trans hl.1.symm) hown (hts _ L.1) (hts _ L.2.1) (hts _ L.2.2.1) (hts _ L.2.2.2) hfr (by rw [hcs]; exact hlo) (Nat.zero_le _) (Nat.zero_le _) d (kk H locs ls hP hD hS hl)
theorem go_maxN (C : OkX obj N cc nL own fr lo X) {idx a b : Nat} (L : LkM own idx Lib.Math.max.name Lib.Math.max.code) (d : decode cc pc = .ok (.invokestatic idx, 3)) (hfr : 1 ≤ fr) (hlo : (st.map (fun v => v.category)).sum + 13 ≤ lo) (ha : a < 2 ^ 31) (hb : b < 2 ^ 31) (kk : Go obj N X (pc + 3) lv (.int (nI (max a b)) :: st) σ) : Go obj N X pc lv (.int (nI b) :: .int (nI a) :: st) σ := go_max C L d hfr hlo (by
  have e : (if nI a < nI b then nI b else nI a) = nI (max a b) := by
    by_cases h : a < b
    · rw [if_pos ((nI_ltI ha hb).mpr h), Nat.max_eq_right (Nat.le_of_lt h)]
    · rw [if_neg (fun q => h ((nI_ltI ha hb).mp q)), Nat.max_eq_left (Nat.le_of_not_lt h)]
  rw [e]; exact kk)
theorem go_minN (C : OkX obj N cc nL own fr lo X) {idx a b : Nat} (L : LkM own idx Lib.Math.min.name Lib.Math.min.code) (d : decode cc pc = .ok (.invokestatic idx, 3)) (hfr : 1 ≤ fr) (hlo : (st.map (fun v => v.category)).sum + 13 ≤ lo) (ha : a < 2 ^ 31) (hb : b < 2 ^ 31) (kk : Go obj N X (pc + 3) lv (.int (nI (min a b)) :: st) σ) : Go obj N X pc lv (.int (nI b) :: .int (nI a) :: st) σ := go_min C L d hfr hlo (by
  have e : (if nI b < nI a then nI b else nI a) = nI (min a b) := by
    by_cases h : b < a
    · rw [if_pos ((nI_ltI hb ha).mpr h), Nat.min_eq_right (Nat.le_of_lt h)]
    · rw [if_neg (fun q => h ((nI_ltI hb ha).mp q)), Nat.min_eq_left (Nat.le_of_not_lt h)]
  rw [e]; exact kk)
def LkA (own : String) (idx : Nat) : Prop := Cond.methodLink own idx arraycopyName ∈ gw ∧ Cond.native arraycopyName ∈ gw ∧ Cond.static arraycopyName ∈ gw ∧ Cond.initialized "java/lang/System" ∈ gw
theorem go_acopy (C : OkX obj N cc nL own fr lo X) {idx : Nat} {k0 k1 n0 n1 sp dp n : Nat} (L : LkA own idx) (d : decode cc pc = .ok (.invokestatic idx, 3)) (hk0 : k0 < N) (hk1 : k1 < N) (ho0 : obj k0 = .inr (.inl (0, n0))) (ho1 : obj k1 = .inr (.inl (0, n1))) (h0 : sp + n ≤ n0) (h1 : dp + n ≤ n1) (hn0 : n0 < 2 ^ 31) (hn1 : n1 < 2 ^ 31) (hfr : 1 ≤ fr) (hlo : (st.map (fun v => v.category)).sum + (nativeFrameWords "java/lang/System" "arraycopy" 5 + 11) ≤ lo) (kk : Go obj N X (pc + 3) lv st (updR σ k1 (va_cpy (σ k0) (σ k1) sp dp n))) : Go obj N X pc lv (.int (nI n) :: .int (nI dp) :: .ref k1 :: .int (nI sp) :: .ref k0 :: st) σ := by
  obtain ⟨p, l, e, R, s, m, args, below, meth, c, nL', ad, D, cy, A, Q⟩ := X
  obtain ⟨hx, hb, hml, rfl, hown, hts, ⟨hK, hN⟩, hA, hlk, rfl⟩ := C
  intro H locs ls hP hD hS hl
  have hcs : ((st.map (cv ad)).map fun v => v.category).sum = (st.map fun v => v.category).sum := by rw [List.map_map]; congr 2; funext v; exact cv_cat v
  have hsp : sp < 2 ^ 31 := by omega
  have hdp : dp < 2 ^ 31 := by omega
  have hnn : n < 2 ^ 31 := by omega
  refine va_copyi hx hb (hml.trans hl.1.symm) hown (hts _ L.1) (hts _ L.2.1) (hts _ L.2.2.1) (hts _ L.2.2.2) hK hP hD hS k0 k1 0 0 (ty := .int) (f := σ k0) (g := σ k1) (by rw [WS_get hk0, ho0]; rfl) (by rw [WS_get hk1, ho1]; rfl) rfl rfl rfl (nI_pos hsp) (nI_pos hdp) (nI_pos hnn) (by rw [nI_clamp hsp, nI_clamp hnn]; exact h0) (by rw [nI_clamp hdp, nI_clamp hnn]; exact h1) (fun i _ => rfl) hfr (by rw [hcs]; exact hlo) d (fun H1 locs1 hP1 hD1 hS1 => ?_)
  have e : ∀ g : Nat → Int32, (ad k1, (Sum.inl (cy 0, n1, .inl g) : va_E)) = (ad k1, ce ad cy g (obj k1)) := fun g => by rw [ho1]; rfl
  rw [e, WS_set _ hk1, nI_clamp hsp, nI_clamp hdp, nI_clamp hnn] at hP1 hD1
  exact kk H1 locs1 ls hP1 hD1 hS1 hl
theorem go_iret {ret : FieldType} {post : Int32 → Mem → Prop} (hr : RI obj N cc ret X post) {x : Int32} (d : decode cc pc = .ok (.ireturn, 1)) (hn : narrow ret (.int x) = .int x) (hp : post x σ) : Go obj N X pc lv [.int x] σ := hr pc lv x σ d hn hp
theorem go_vret {post : Mem → Prop} (hr : RV obj N cc X post) (d : decode cc pc = .ok (.return_, 1)) (hp : post σ) : Go obj N X pc lv [] σ := hr pc lv σ d hp
theorem go_lret {post : Int64 → Mem → Prop} (hr : RLg obj N cc X post) {x : Int64} (d : decode cc pc = .ok (.lreturn, 1)) (hp : post x σ) : Go obj N X pc lv [.long x] σ := hr pc lv x σ d hp
theorem go_top {x : Int32} (y : Int32) (h : x = y) (kk : Go obj N X pc lv (.int y :: st) σ) : Go obj N X pc lv (.int x :: st) σ := by rw [h]; exact kk
theorem go_topi {x : Int32} (kk : ∀ y : Int32, y = x → Go obj N X pc lv (.int y :: st) σ) : Go obj N X pc lv (.int x :: st) σ := kk x rfl
theorem go_mem {τ : Mem} (h : σ = τ) (kk : Go obj N X pc lv st τ) : Go obj N X pc lv st σ := by rw [h]; exact kk
end GO
