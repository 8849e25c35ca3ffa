/-! A layer for walks that make objects: the world is a list, the room is counted. -/
theorem cv_id (v : Value) : cv (fun x => x) v = v := by cases v <;> rfl
/-- what making objects needs of the tables -/
def Kx (D : va_G) (cy : Nat → ClassId) (U : State) : Prop := va_K D vwCl (tyL cy) U ∧ Nst U ∧ va_AO RX5 U ∧ mr_A U
theorem Kx.moved {D : va_G} {cy : Nat → ClassId} {s U : State} (hW : s.WarmedH U.vm) (h : Kx D cy s) : Kx D cy U := ⟨va_K.moved hW.alike h.1, h.2.1.warm hW, h.2.2.1.moved hW.alike, h.2.2.2.moved hW.alike⟩
theorem Kx.same {D : va_G} {cy : Nat → ClassId} {u U : State} (hvm : u.vm = U.vm) (h : Kx D cy u) : Kx D cy U := ⟨va_K.moved (hvm ▸ Vm.Alike.refl u.vm) h.1, Nst.same hvm h.2.1, h.2.2.1.moved (hvm ▸ Vm.Alike.refl u.vm), h.2.2.2.moved (hvm ▸ Vm.Alike.refl u.vm)⟩
abbrev NX := Program × Launch × Env × Room × State × MethodId × Array Value × List Frame × Method × Code × Nat × va_G × (Nat → ClassId) × (Nat → Prop) × (State → Prop)
def OkN (cc : ByteArray) (nL : Nat) (own : String) (R0 : Room) : NX → Prop
  | (p, l, e, R, s, m, args, below, meth, c, nL', D, cy, A, Q) =>
    p.tables.exec = Jvm.exec ∧ c.code = cc ∧ c.maxLocals = nL ∧ nL' = nL ∧ s.vm.findClass own = some m.cls ∧ (∀ w ∈ gw, w.before args s = true) ∧ Kx D cy s ∧ (∀ q : Nat, s.heap.size ≤ q → A q) ∧ R = R0
def NxI : NX → Prop
  | (_, _, _, _, _, _, _, _, meth, _, _, _, _, _, _) => meth.name = "<init>"
def nxC : NX → Nat → ClassId
  | (_, _, _, _, _, _, _, _, _, _, _, _, cy, _, _) => cy
def Gn (X : NX) (pc : Nat) (lv : List (Option Value)) (st : List Value) (ws : va_W) (k n : Nat) : Prop :=
  match X with
  | (p, l, e, R, s, m, args, below, meth, c, nL, D, _, A, Q) =>
    ∀ (H : Heap) (locs : List Loc) (ls : Array Slot), va_P D vwCl ws H → va_D A ws → va_S A s.heap H locs → LH (fun x => x) nL lv ls →
      W p l e R s m args below meth c H locs k n Q (F0 m pc ls st)
abbrev zeroA : Nat → Int32 := fun _ => 0
abbrev rowsA (cy : Nat → ClassId) (h n k : Nat) : va_W := (List.range n).map (fun j => (h + 1 + j, (.inl (cy 0, k, .inl zeroA) : va_E)))
theorem D_app {A : Nat → Prop} {D : va_G} {cl : List vw_C} {ws nw : va_W} {H : Heap} (hD : va_D A ws) (hP : va_P D cl ws H) (hA : ∀ q, H.size ≤ q → A q) (hn : ∀ k x, nw[k]? = some x → x.1 = H.size + k) : va_D A (ws ++ nw) := by
  refine hD.app ⟨fun i j p q hi hj e => ?_, fun k q hk => hA _ (by rw [hn k q hk]; omega)⟩ (fun i j p q hi hj e => ?_)
  · have := hn i p hi
    have := hn j q hj
    omega
  · have h1 := (hP i p hi).lt
    have := hn j q hj
    omega
theorem va_nd_range (n : Nat) : va_nd (List.range n) = true := by
  have h : ∀ l : List Nat, l.Nodup → va_nd l = true := by
    intro l
    induction l with
    | nil => intro _; rfl
    | cons a l ih =>
      intro hn
      have h1 := List.nodup_cons.mp hn
      show (decide (a ∉ l) && va_nd l) = true
      rw [ih h1.2, decide_eq_true h1.1]; rfl
  exact h _ List.nodup_range
theorem acI : Cond.arrayClass .int ∈ gw := mgw 83 (by decide +kernel) (by decide +kernel)
theorem acZ : Cond.arrayClass .boolean ∈ gw := mgw 126 (by decide +kernel) (by decide +kernel)
theorem acC : Cond.arrayClass .char ∈ gw := mgw 178 (by decide +kernel) (by decide +kernel)
theorem obI : Cond.instanceMethod Lib.objectInit ∈ gw := mgw 58 (by decide +kernel) (by decide +kernel)
theorem obC : Cond.code Lib.objectInit ⟨#[0xb1]⟩ 1 none ∈ gw := mgw 59 (by decide +kernel) (by decide +kernel)
section GN
variable {cc : ByteArray} {nL : Nat} {own : String} {R0 : Room} {X : NX} {pc : Nat} {lv : List (Option Value)} {st : List Value} {ws : va_W} {k n : Nat}
theorem gn_iload_n (C : OkN cc nL own R0 X) {x : Int32} {i : Fin 4} (d : decode cc pc = .ok (.iload_n i, 1)) (hv : lv[(i : Nat)]? = some (some (.int x))) (kk : Gn X (pc + 1) lv (.int x :: st) ws k n) : Gn X pc lv st ws k n := by
  obtain ⟨p, l, e, R, s, m, args, below, meth, c, nL', D, cy, A, Q⟩ := X
  obtain ⟨hx, hb, hml, rfl, hown, hts, hK, hA, rfl⟩ := C
  intro H locs ls hP hD hS hl
  exact lv_iload_n hx hb d rfl (LH_at hl hv) (kk H locs ls hP hD hS hl)
theorem gn_aload_n (C : OkN cc nL own R0 X) {x : Nat} {i : Fin 4} (d : decode cc pc = .ok (.aload_n i, 1)) (hv : lv[(i : Nat)]? = some (some (.ref x))) (kk : Gn X (pc + 1) lv (.ref x :: st) ws k n) : Gn X pc lv st ws k n := by
  obtain ⟨p, l, e, R, s, m, args, below, meth, c, nL', D, cy, A, Q⟩ := X
  obtain ⟨hx, hb, hml, rfl, hown, hts, hK, hA, rfl⟩ := C
  intro H locs ls hP hD hS hl
  exact lv_aload_n hx hb d rfl (LH_at hl hv) (kk H locs ls hP hD hS hl)
theorem gn_iconst (C : OkN cc nL own R0 X) (x : Int32) {v : Int} (d : decode cc pc = .ok (.iconst v, 1)) (hv : Int32.ofInt v = x) (kk : Gn X (pc + 1) lv (.int x :: st) ws k n) : Gn X pc lv st ws k n := by
  obtain ⟨p, l, e, R, s, m, args, below, meth, c, nL', D, cy, A, Q⟩ := X
  obtain ⟨hx, hb, hml, rfl, hown, hts, hK, hA, rfl⟩ := C
  intro H locs ls hP hD hS hl
  exact lv_iconst hx hb d hv (kk H locs ls hP hD hS hl)
theorem gn_bipush (C : OkN cc nL own R0 X) (x : Int32) {v : Int} (d : decode cc pc = .ok (.bipush v, 2)) (hv : (Int8.ofInt v).toInt32 = x) (kk : Gn X (pc + 2) lv (.int x :: st) ws k n) : Gn X pc lv st ws k n := by
  obtain ⟨p, l, e, R, s, m, args, below, meth, c, nL', D, cy, A, Q⟩ := X
  obtain ⟨hx, hb, hml, rfl, hown, hts, hK, hA, rfl⟩ := C
  intro H locs ls hP hD hS hl
  exact lv_bipush hx hb d hv (kk H locs ls hP hD hS hl)
theorem gn_sipush (C : OkN cc nL own R0 X) (x : Int32) {v : Int} (d : decode cc pc = .ok (.sipush v, 3)) (hv : (Int16.ofInt v).toInt32 = x) (kk : Gn X (pc + 3) lv (.int x :: st) ws k n) : Gn X pc lv st ws k n := by
  obtain ⟨p, l, e, R, s, m, args, below, meth, c, nL', D, cy, A, Q⟩ := X
  obtain ⟨hx, hb, hml, rfl, hown, hts, hK, hA, rfl⟩ := C
  intro H locs ls hP hD hS hl
  exact lv_sipush hx hb d hv (kk H locs ls hP hD hS hl)
theorem gn_istore_n (C : OkN cc nL own R0 X) {x : Int32} {i : Fin 4} {lv1 : List (Option Value)} (d : decode cc pc = .ok (.istore_n i, 1)) (hi : (i : Nat) < nL) (hg : nlong lv (i : Nat) = true) (hlv : lv.set (i : Nat) (some (.int x)) = lv1) (kk : Gn X (pc + 1) lv1 st ws k n) : Gn X pc lv (.int x :: st) ws k n := by
  obtain ⟨p, l, e, R, s, m, args, below, meth, c, nL', D, cy, A, Q⟩ := X
  obtain ⟨hx, hb, hml, rfl, hown, hts, hK, hA, rfl⟩ := C
  intro H locs ls hP hD hS hl
  exact lv_istore_n hx hb d rfl hl hi rfl (fun ls hl => kk H locs ls hP hD hS (LH_set (v := .int x) hg hlv hl))
theorem gn_astore_n (C : OkN cc nL own R0 X) {x : Nat} {i : Fin 4} {lv1 : List (Option Value)} (d : decode cc pc = .ok (.astore_n i, 1)) (hi : (i : Nat) < nL) (hg : nlong lv (i : Nat) = true) (hlv : lv.set (i : Nat) (some (.ref x)) = lv1) (kk : Gn X (pc + 1) lv1 st ws k n) : Gn X pc lv (.ref x :: st) ws k n := by
  obtain ⟨p, l, e, R, s, m, args, below, meth, c, nL', D, cy, A, Q⟩ := X
  obtain ⟨hx, hb, hml, rfl, hown, hts, hK, hA, rfl⟩ := C
  intro H locs ls hP hD hS hl
  exact lv_astore_n hx hb d rfl hl hi rfl (fun ls hl => kk H locs ls hP hD hS (LH_set (v := .ref x) hg hlv hl))
theorem gn_iinc (C : OkN cc nL own R0 X) {i : Nat} {v : Int} {x : Int32} (y : Int32) {lv1 : List (Option Value)} (d : decode cc pc = .ok (.iinc i v, 3)) (hi : lv[i]? = some (some (.int x))) (hv : x + Int32.ofInt v = y) (hn : i < nL) (hg : nlong lv i = true) (hlv : lv.set i (some (.int y)) = lv1) (kk : Gn X (pc + 3) lv1 st ws k n) : Gn X pc lv st ws k n := by
  obtain ⟨p, l, e, R, s, m, args, below, meth, c, nL', D, cy, A, Q⟩ := X
  obtain ⟨hx, hb, hml, rfl, hown, hts, hK, hA, rfl⟩ := C
  intro H locs ls hP hD hS hl
  have hm : (i, Value.int x) ∈ asc (fun x => x) lv := asc_mem.mpr ⟨.int x, hi, rfl⟩
  obtain ⟨j, hj⟩ := List.getElem?_of_mem hm
  exact lv_iinc hx hb d hl hj hv hn rfl (fun ls hl => kk H locs ls hP hD hS (LH_set (v := .int y) hg hlv hl))
theorem gn_iadd (C : OkN cc nL own R0 X) {x y : Int32} (d : decode cc pc = .ok (.iadd, 1)) (kk : Gn X (pc + 1) lv (.int (x + y) :: st) ws k n) : Gn X pc lv (.int y :: .int x :: st) ws k n := by
  obtain ⟨p, l, e, R, s, m, args, below, meth, c, nL', D, cy, A, Q⟩ := X
  obtain ⟨hx, hb, hml, rfl, hown, hts, hK, hA, rfl⟩ := C
  intro H locs ls hP hD hS hl
  exact lv_iadd hx hb d (kk H locs ls hP hD hS hl)
theorem gn_isub (C : OkN cc nL own R0 X) {x y : Int32} (d : decode cc pc = .ok (.isub, 1)) (kk : Gn X (pc + 1) lv (.int (x - y) :: st) ws k n) : Gn X pc lv (.int y :: .int x :: st) ws k n := by
  obtain ⟨p, l, e, R, s, m, args, below, meth, c, nL', D, cy, A, Q⟩ := X
  obtain ⟨hx, hb, hml, rfl, hown, hts, hK, hA, rfl⟩ := C
  intro H locs ls hP hD hS hl
  exact lv_isub hx hb d (kk H locs ls hP hD hS hl)
theorem gn_iand (C : OkN cc nL own R0 X) {x y : Int32} (d : decode cc pc = .ok (.iand, 1)) (kk : Gn X (pc + 1) lv (.int (x &&& y) :: st) ws k n) : Gn X pc lv (.int y :: .int x :: st) ws k n := by
  obtain ⟨p, l, e, R, s, m, args, below, meth, c, nL', D, cy, A, Q⟩ := X
  obtain ⟨hx, hb, hml, rfl, hown, hts, hK, hA, rfl⟩ := C
  intro H locs ls hP hD hS hl
  exact lv_iand hx hb d (kk H locs ls hP hD hS hl)
theorem gn_iaddN (C : OkN cc nL own R0 X) {a b : Nat} (d : decode cc pc = .ok (.iadd, 1)) (kk : Gn X (pc + 1) lv (.int (nI (a + b)) :: st) ws k n) : Gn X pc lv (.int (nI b) :: .int (nI a) :: st) ws k n := gn_iadd C d (by rw [nI_add]; exact kk)
theorem gn_dup (C : OkN cc nL own R0 X) {v : Value} (d : decode cc pc = .ok (.dup, 1)) (hv : v.category = 1) (kk : Gn X (pc + 1) lv (v :: v :: st) ws k n) : Gn X pc lv (v :: st) ws k n := by
  obtain ⟨p, l, e, R, s, m, args, below, meth, c, nL', D, cy, A, Q⟩ := X
  obtain ⟨hx, hb, hml, rfl, hown, hts, hK, hA, rfl⟩ := C
  intro H locs ls hP hD hS hl
  exact lv_dup hx hb d hv (kk H locs ls hP hD hS hl)
theorem gn_icmp_eq (C : OkN cc nL own R0 X) {x y : Int32} {off : Int} (tgt : Nat) (d : decode cc pc = .ok (.if_icmp .eq off, 3)) (ht : (pc : Int) + off = (tgt : Int)) (kt : x = y → Gn X tgt lv st ws k n) (kf : ¬ x = y → Gn X (pc + 3) lv st ws k n) : Gn X pc lv (.int y :: .int x :: st) ws k n := by
  obtain ⟨p, l, e, R, s, m, args, below, meth, c, nL', D, cy, A, Q⟩ := X
  obtain ⟨hx, hb, hml, rfl, hown, hts, hK, hA, rfl⟩ := C
  intro H locs ls hP hD hS hl
  exact lv_icmp_eq hx hb d ht (fun h => kt h H locs ls hP hD hS hl) (fun h => kf h H locs ls hP hD hS hl)
theorem gn_icmp_ge (C : OkN cc nL own R0 X) {x y : Int32} {off : Int} (tgt : Nat) (d : decode cc pc = .ok (.if_icmp .ge off, 3)) (ht : (pc : Int) + off = (tgt : Int)) (kt : y ≤ x → Gn X tgt lv st ws k n) (kf : ¬ y ≤ x → Gn X (pc + 3) lv st ws k n) : Gn X pc lv (.int y :: .int x :: st) ws k n := by
  obtain ⟨p, l, e, R, s, m, args, below, meth, c, nL', D, cy, A, Q⟩ := X
  obtain ⟨hx, hb, hml, rfl, hown, hts, hK, hA, rfl⟩ := C
  intro H locs ls hP hD hS hl
  exact lv_icmp_ge hx hb d ht (fun h => kt h H locs ls hP hD hS hl) (fun h => kf h H locs ls hP hD hS hl)
theorem gn_icmp_gt (C : OkN cc nL own R0 X) {x y : Int32} {off : Int} (tgt : Nat) (d : decode cc pc = .ok (.if_icmp .gt off, 3)) (ht : (pc : Int) + off = (tgt : Int)) (kt : y < x → Gn X tgt lv st ws k n) (kf : ¬ y < x → Gn X (pc + 3) lv st ws k n) : Gn X pc lv (.int y :: .int x :: st) ws k n := by
  obtain ⟨p, l, e, R, s, m, args, below, meth, c, nL', D, cy, A, Q⟩ := X
  obtain ⟨hx, hb, hml, rfl, hown, hts, hK, hA, rfl⟩ := C
  intro H locs ls hP hD hS hl
  exact lv_icmp_gt hx hb d ht (fun h => kt h H locs ls hP hD hS hl) (fun h => kf h H locs ls hP hD hS hl)
theorem gn_if_eq (C : OkN cc nL own R0 X) {x : Int32} {off : Int} (tgt : Nat) (d : decode cc pc = .ok (.ifCond .eq off, 3)) (ht : (pc : Int) + off = (tgt : Int)) (kt : x = 0 → Gn X tgt lv st ws k n) (kf : ¬ x = 0 → Gn X (pc + 3) lv st ws k n) : Gn X pc lv (.int x :: st) ws k n := by
  obtain ⟨p, l, e, R, s, m, args, below, meth, c, nL', D, cy, A, Q⟩ := X
  obtain ⟨hx, hb, hml, rfl, hown, hts, hK, hA, rfl⟩ := C
  intro H locs ls hP hD hS hl
  exact lv_if_eq hx hb d ht (fun h => kt h H locs ls hP hD hS hl) (fun h => kf h H locs ls hP hD hS hl)
theorem gn_goto (C : OkN cc nL own R0 X) {off : Int} (tgt : Nat) (d : decode cc pc = .ok (.goto off, 3)) (ht : (pc : Int) + off = (tgt : Int)) (kk : Gn X tgt lv st ws k n) : Gn X pc lv st ws k n := by
  obtain ⟨p, l, e, R, s, m, args, below, meth, c, nL', D, cy, A, Q⟩ := X
  obtain ⟨hx, hb, hml, rfl, hown, hts, hK, hA, rfl⟩ := C
  intro H locs ls hP hD hS hl
  exact lv_goto hx hb d ht (kk H locs ls hP hD hS hl)
theorem gn_tableIn (C : OkN cc nL own R0 X) {x : Int32} {dflt lo hi : Int} {offs : Array Int} {len : Nat} (tgt : Nat) (off : Int) (d : decode cc pc = .ok (.tableswitch dflt lo hi offs, len)) (h1 : ¬ x.toInt < lo) (h2 : ¬ hi < x.toInt) (ho : offs[(x.toInt - lo).toNat]? = some off) (ht : (pc : Int) + off = (tgt : Int)) (kk : Gn X tgt lv st ws k n) : Gn X pc lv (.int x :: st) ws k n := by
  obtain ⟨p, l, e, R, s, m, args, below, meth, c, nL', D, cy, A, Q⟩ := X
  obtain ⟨hx, hb, hml, rfl, hown, hts, hK, hA, rfl⟩ := C
  intro H locs ls hP hD hS hl
  exact lv_tableIn hx hb d h1 h2 ho ht (kk H locs ls hP hD hS hl)
theorem gn_tableOut (C : OkN cc nL own R0 X) {x : Int32} {dflt lo hi : Int} {offs : Array Int} {len : Nat} (tgt : Nat) (d : decode cc pc = .ok (.tableswitch dflt lo hi offs, len)) (h : x.toInt < lo ∨ hi < x.toInt) (ht : (pc : Int) + dflt = (tgt : Int)) (kk : Gn X tgt lv st ws k n) : Gn X pc lv (.int x :: st) ws k n := by
  obtain ⟨p, l, e, R, s, m, args, below, meth, c, nL', D, cy, A, Q⟩ := X
  obtain ⟨hx, hb, hml, rfl, hown, hts, hK, hA, rfl⟩ := C
  intro H locs ls hP hD hS hl
  exact lv_tableOut hx hb d h ht (kk H locs ls hP hD hS hl)
theorem gn_lcmp (C : OkN cc nL own R0 X) {x y : Int64} (d : decode cc pc = .ok (.lcmp, 1)) (kk : Gn X (pc + 1) lv (.int (lg_cmp x y) :: st) ws k n) : Gn X pc lv (.long y :: .long x :: st) ws k n := by
  obtain ⟨p, l, e, R, s, m, args, below, meth, c, nL', D, cy, A, Q⟩ := X
  obtain ⟨hx, hb, hml, rfl, hown, hts, hK, hA, rfl⟩ := C
  intro H locs ls hP hD hS hl
  exact W.lcmp hx hb d (kk H locs ls hP hD hS hl)
theorem gn_get (C : OkN cc nL own R0 X) {idx ci f : Nat} {C0 : String} {T : u_T} {Nf : Nat} {ty : Nat → FieldType} (F : GF own idx ci f C0 T Nf ty) (d : decode cc pc = .ok (.getfield idx, 3)) (q0 : Nat) {a : Nat} {fs : List Value} (he : ws[q0]? = some (a, .inr (ci, fs))) {v : Value} (hf : fs[f]? = some v) (kk : Gn X (pc + 3) lv (v :: st) ws k n) : Gn X pc lv (.ref a :: st) ws k n := by
  obtain ⟨p, l, e, R, s, m, args, below, meth, c, nL', D, cy, A, Q⟩ := X
  obtain ⟨hx, hb, hml, rfl, hown, hts, hK, hA, rfl⟩ := C
  intro H locs ls hP hD hS hl
  obtain ⟨f1, f2, f3, f4, f5, f6⟩ := F
  exact va_get hx hb hts f2 hown hK.1 hP q0 he f1 f f3 (hts _ f4) (fun _ h => h) hf d (kk H locs ls hP hD hS hl)
theorem gn_put (C : OkN cc nL own R0 X) {idx ci f : Nat} {C0 : String} {T : u_T} {Nf : Nat} {ty : Nat → FieldType} (F : GF own idx ci f C0 T Nf ty) (d : decode cc pc = .ok (.putfield idx, 3)) (q0 : Nat) {a : Nat} {fs : List Value} (he : ws[q0]? = some (a, .inr (ci, fs))) (hfin : (T f).2.2.2 = false) {v : Value} (hn : narrow (ty f) v = v) (hfit : fits (ty f) v = true) (hl0 : f < fs.length) (kk : Gn X (pc + 3) lv st (ws.set q0 (a, .inr (ci, fs.set f v))) k n) : Gn X pc lv (v :: .ref a :: st) ws k n := by
  obtain ⟨p, l, e, R, s, m, args, below, meth, c, nL', D, cy, A, Q⟩ := X
  obtain ⟨hx, hb, hml, rfl, hown, hts, hK, hA, rfl⟩ := C
  intro H locs ls hP hD hS hl
  obtain ⟨f1, f2, f3, f4, f5, f6⟩ := F
  exact va_put hx hb hts f2 ty f5 f6 hown hK.1 hP hD hS q0 he f1 f f3 (hts _ f4) (fun _ h => h) hfin (f5 f f3) hn hfit hl0 d (fun H1 locs1 hP1 hD1 hS1 => kk H1 locs1 ls hP1 hD1 hS1 hl)
theorem gn_putF (C : OkN cc nL own R0 X) (hin : NxI X) {idx ci f : Nat} {C0 : String} {T : u_T} {Nf : Nat} {ty : Nat → FieldType} (F : GF own idx ci f C0 T Nf ty) (d : decode cc pc = .ok (.putfield idx, 3)) (q0 : Nat) {a : Nat} {fs : List Value} (he : ws[q0]? = some (a, .inr (ci, fs))) (hfin : (T f).2.2.2 = true) (hdecl : (T f).1 = own) {v : Value} (hn : narrow (ty f) v = v) (hfit : fits (ty f) v = true) (hl0 : f < fs.length) (kk : Gn X (pc + 3) lv st (ws.set q0 (a, .inr (ci, fs.set f v))) k n) : Gn X pc lv (v :: .ref a :: st) ws k n := by
  obtain ⟨p, l, e, R, s, m, args, below, meth, c, nL', D, cy, A, Q⟩ := X
  obtain ⟨hx, hb, hml, rfl, hown, hts, hK, hA, rfl⟩ := C
  intro H locs ls hP hD hS hl
  obtain ⟨f1, f2, f3, f4, f5, f6⟩ := F
  exact va_putF hx hb hts f2 ty f5 f6 hown hK.1 hP hD hS q0 he f1 f f3 (hts _ f4) (fun _ h => h) hfin hin hdecl (f5 f f3) hn hfit hl0 d (fun H1 locs1 hP1 hD1 hS1 => kk H1 locs1 ls hP1 hD1 hS1 hl)
theorem gn_newaI (C : OkN cc nL own R0 X) {N : Nat} (d : decode cc pc = .ok (.newarray .int, 2)) (hN : N ≤ 100000) (hk : k + 1 ≤ R0.cells) (hn : n + N ≤ R0.slots) (kk : ∀ q, Gn X (pc + 2) lv (.ref q :: st) (ws ++ [(q, .inl (nxC X 0, N, .inl zeroA))]) (k + 1) (n + N)) : Gn X pc lv (.int (nI N) :: st) ws k n := by
  obtain ⟨p, l, e, R, s, m, args, below, meth, c, nL', D, cy, A, Q⟩ := X
  obtain ⟨hx, hb, hml, rfl, hown, hts, hK, hA, rfl⟩ := C
  intro H locs ls hP hD hS hl
  refine va_newa (atype := .int) (ty := .int) (a0 := (N, .inl zeroA)) hx hb (hts _ acI) rfl hK.1 hP hD hS hA (fun _ => rfl) (nI_pos (by omega)) (nI_clamp (by omega)) (by show N * _ ≤ _; simp only [componentBytes]; omega) hk hn d (fun q cA H1 hK1 hP1 hD1 hS1 => ?_)
  have e1 : s.vm.findClass ("[" ++ (FieldType.int).toString) = some cA := (hK1.2 5 _ rfl).2
  have e2 : s.vm.findClass ("[" ++ (FieldType.int).toString) = some (cy 0) := (hK.1.2 0 _ rfl).2
  obtain rfl : cA = cy 0 := Option.some.inj (e1.symm.trans e2)
  exact kk q H1 locs ls hP1 hD1 hS1 hl
theorem gn_newaZ (C : OkN cc nL own R0 X) {N : Nat} (d : decode cc pc = .ok (.newarray .boolean, 2)) (hN : N ≤ 100000) (hk : k + 1 ≤ R0.cells) (hn : n + N ≤ R0.slots) (kk : ∀ q, Gn X (pc + 2) lv (.ref q :: st) (ws ++ [(q, .inl (nxC X 1, N, .inl zeroA))]) (k + 1) (n + N)) : Gn X pc lv (.int (nI N) :: st) ws k n := by
  obtain ⟨p, l, e, R, s, m, args, below, meth, c, nL', D, cy, A, Q⟩ := X
  obtain ⟨hx, hb, hml, rfl, hown, hts, hK, hA, rfl⟩ := C
  intro H locs ls hP hD hS hl
  refine va_newa (atype := .boolean) (ty := .boolean) (a0 := (N, .inl zeroA)) hx hb (hts _ acZ) rfl hK.1 hP hD hS hA (fun _ => rfl) (nI_pos (by omega)) (nI_clamp (by omega)) (by show N * _ ≤ _; simp only [componentBytes]; omega) hk hn d (fun q cA H1 hK1 hP1 hD1 hS1 => ?_)
  have e1 : s.vm.findClass ("[" ++ (FieldType.boolean).toString) = some cA := (hK1.2 5 _ rfl).2
  have e2 : s.vm.findClass ("[" ++ (FieldType.boolean).toString) = some (cy 1) := (hK.1.2 1 _ rfl).2
  obtain rfl : cA = cy 1 := Option.some.inj (e1.symm.trans e2)
  exact kk q H1 locs ls hP1 hD1 hS1 hl
theorem gn_newaC (C : OkN cc nL own R0 X) {N : Nat} (d : decode cc pc = .ok (.newarray .char, 2)) (hN : N ≤ 100000) (hk : k + 1 ≤ R0.cells) (hn : n + N ≤ R0.slots) (kk : ∀ q, Gn X (pc + 2) lv (.ref q :: st) (ws ++ [(q, .inl (nxC X 2, N, .inl zeroA))]) (k + 1) (n + N)) : Gn X pc lv (.int (nI N) :: st) ws k n := by
  obtain ⟨p, l, e, R, s, m, args, below, meth, c, nL', D, cy, A, Q⟩ := X
  obtain ⟨hx, hb, hml, rfl, hown, hts, hK, hA, rfl⟩ := C
  intro H locs ls hP hD hS hl
  refine va_newa (atype := .char) (ty := .char) (a0 := (N, .inl zeroA)) hx hb (hts _ acC) rfl hK.1 hP hD hS hA (fun _ => rfl) (nI_pos (by omega)) (nI_clamp (by omega)) (by show N * _ ≤ _; simp only [componentBytes]; omega) hk hn d (fun q cA H1 hK1 hP1 hD1 hS1 => ?_)
  have e1 : s.vm.findClass ("[" ++ (FieldType.char).toString) = some cA := (hK1.2 5 _ rfl).2
  have e2 : s.vm.findClass ("[" ++ (FieldType.char).toString) = some (cy 2) := (hK.1.2 2 _ rfl).2
  obtain rfl : cA = cy 2 := Option.some.inj (e1.symm.trans e2)
  exact kk q H1 locs ls hP1 hD1 hS1 hl
/-- making an object of an own class -/
def GNw (own : String) (idx ci : Nat) (C0 : String) (T : u_T) (Nf : Nat) (ty : Nat → FieldType) : Prop :=
  vwCl[ci]? = some (C0, T, Nf) ∧ (∀ w ∈ u_ws C0 T Nf, w ∈ gw) ∧ (∀ k, k < Nf → parseFieldDescriptor (T k).2.2.1 = some (ty k)) ∧ Cond.classLink own idx C0 ∈ gw ∧ Cond.instantiable C0 Nf ∈ gw ∧ Cond.initialized C0 ∈ gw
def dfl (ty : Nat → FieldType) (Nf : Nat) : List Value := (List.range Nf).map (fun j => defaultValue (ty j))
theorem dfl_at {ty : Nat → FieldType} {Nf j : Nat} (h : j < Nf) : defaultValue (ty j) = vp_V (dfl ty Nf) j := by
  unfold vp_V dfl
  simp [List.getD, h]
theorem gn_new (C : OkN cc nL own R0 X) {idx ci : Nat} {C0 : String} {T : u_T} {Nf : Nat} {ty : Nat → FieldType} (F : GNw own idx ci C0 T Nf ty) (d : decode cc pc = .ok (.new idx, 3)) (hk : k + 1 ≤ R0.cells) (hn : n + Nf ≤ R0.slots) (kk : ∀ q, Gn X (pc + 3) lv (.ref q :: st) (ws ++ [(q, .inr (ci, dfl ty Nf))]) (k + 1) (n + Nf)) : Gn X pc lv st ws k n := by
  obtain ⟨p, l, e, R, s, m, args, below, meth, c, nL', D, cy, A, Q⟩ := X
  obtain ⟨hx, hb, hml, rfl, hown, hts, hK, hA, rfl⟩ := C
  intro H locs ls hP hD hS hl
  obtain ⟨f1, f2, f3, f4, f5, f6⟩ := F
  exact va_new hx hb hts f2 ty f3 hown (hts _ f4) (hts _ f5) (hts _ f6) hK.1 hP hD hS hA f1 (fun j hj => dfl_at hj) hk hn d (fun q H1 hP1 hD1 hS1 => kk q H1 locs ls hP1 hD1 hS1 hl)
theorem gn_newq (C : OkN cc nL own R0 X) {idx N : Nat} (hcl : Cond.classLink own idx RX5 ∈ gw) (d : decode cc pc = .ok (.anewarray idx, 3)) (hN : N ≤ 100000) (hk : k + 1 ≤ R0.cells) (hn : n + N ≤ R0.slots) (kk : ∀ q, Gn X (pc + 3) lv (.ref q :: st) (ws ++ [(q, .inl (nxC X 4, N, .inr (.inr (.inr (.inr (fun _ => none))))))]) (k + 1) (n + N)) : Gn X pc lv (.int (nI N) :: st) ws k n := by
  obtain ⟨p, l, e, R, s, m, args, below, meth, c, nL', D, cy, A, Q⟩ := X
  obtain ⟨hx, hb, hml, rfl, hown, hts, hK, hA, rfl⟩ := C
  intro H locs ls hP hD hS hl
  refine va_newq hx hb hown (hts _ hcl) hK.2.2.1 hK.1 hP hD hS hA (nI_pos (by omega)) (nI_clamp (by omega)) (by omega) hk hn d (fun q cA H1 hK1 hP1 hD1 hS1 => ?_)
  obtain ⟨_, _, _, _, _, e1⟩ := (hK1.2 5 _ rfl).2
  obtain ⟨_, _, _, _, _, e2⟩ := (hK.1.2 4 _ rfl).2
  obtain rfl : cA = cy 4 := Option.some.inj (e1.symm.trans e2)
  exact kk q H1 locs ls hP1 hD1 hS1 hl
theorem gn_multi (C : OkN cc nL own R0 X) {idx N K : Nat} (hcl : Cond.classLink own idx "[[I" ∈ gw) (d : decode cc pc = .ok (.multianewarray idx 2, 4)) (hN : N ≤ 1000) (hK0 : K ≤ 100000) (hk : k + (1 + N) ≤ R0.cells) (hn : n + (N + N * K) ≤ R0.slots) (kk : ∀ h, Gn X (pc + 4) lv (.ref h :: st) (ws ++ ((h, .inl (nxC X 3, N, .inr (.inr (.inr (.inr (fun j => if j < N then some (h + 1 + j) else none)))))) :: rowsA (nxC X) h N K)) (k + (1 + N)) (n + (N + N * K))) : Gn X pc lv (.int (nI K) :: .int (nI N) :: st) ws k n := by
  obtain ⟨p, l, e, R, s, m, args, below, meth, c, nL', D, cy, A, Q⟩ := X
  obtain ⟨hx, hb, hml, rfl, hown, hts, hK, hA, rfl⟩ := C
  intro H locs ls hP hD hS hl
  refine mr_W hx hb hown (hts _ hcl) hK.2.2.2 (hts _ acI) hN hK0 hk hn d (fun cA cI H1 e1 e2 hz h0 hr ho => ?_)
  have e3 : s.vm.findClass "[[I" = some (cy 3) := (hK.1.2 3 _ rfl).2
  have e4 : s.vm.findClass "[I" = some (cy 0) := (hK.1.2 0 _ rfl).2
  obtain rfl : cA = cy 3 := Option.some.inj (e1.symm.trans e3)
  obtain rfl : cI = cy 0 := Option.some.inj (e2.symm.trans e4)
  have hnw : ∀ (j : Nat) (x : Nat × va_E), ((H.size, (.inl (cy 3, N, .inr (.inr (.inr (.inr (fun j => if j < N then some (H.size + 1 + j) else none))))) : va_E)) :: rowsA cy H.size N K)[j]? = some x → x.1 = H.size + j ∧ va_at D vwCl x H1 := by
    intro j x hx0
    cases j with
    | zero =>
      cases hx0
      refine ⟨rfl, ?_⟩
      show H1[H.size]? = some (arrV (cy 3) N (fun j => va_rf (if j < N then some (H.size + 1 + j) else none)))
      rw [h0]
      congr 2
      funext j
      split <;> rfl
    | succ j =>
      rw [List.getElem?_cons_succ] at hx0
      unfold rowsA at hx0
      rw [List.getElem?_map] at hx0
      obtain ⟨i, hi, rfl⟩ := Option.map_eq_some_iff.mp hx0
      obtain ⟨hi1, hi2⟩ := List.getElem?_eq_some_iff.mp hi
      rw [List.getElem_range] at hi2
      subst hi2
      rw [List.length_range] at hi1
      exact ⟨by show H.size + 1 + j = _; omega, hr j hi1⟩
  have hA1 : ∀ q, H.size ≤ q → A q := fun q h => hA q (Nat.le_trans hS.1 h)
  exact kk H.size H1 locs ls ((hP.kept (fun j x hj => ho x.1 (hP j x hj).lt)).app (fun j x hj => (hnw j x hj).2)) (D_app hD hP hA1 (fun j x hj => (hnw j x hj).1)) ⟨Nat.le_trans hS.1 (by omega), fun x h1 h2 => (ho x (Nat.lt_of_lt_of_le h1 hS.1)).trans (hS.2.1 x h1 h2), hS.2.2⟩ hl
theorem gn_iast (C : OkN cc nL own R0 X) (q0 : Nat) {a N : Nat} {f : Nat → Int32} (he : ws[q0]? = some (a, .inl (nxC X 0, N, .inl f))) {i x : Int32} (hi : vp_in i N) (d : decode cc pc = .ok (.iastore, 1)) (kk : Gn X (pc + 1) lv st (ws.set q0 (a, .inl (nxC X 0, N, .inl (upd f i.toNatClampNeg x)))) k n) : Gn X pc lv (.int x :: .int i :: .ref a :: st) ws k n := by
  obtain ⟨p, l, e, R, s, m, args, below, meth, c, nL', D, cy, A, Q⟩ := X
  obtain ⟨hx, hb, hml, rfl, hown, hts, hK, hA, rfl⟩ := C
  intro H locs ls hP hD hS hl
  exact va_iast hx hb hK.1 hP hD hS q0 0 he rfl hi d (fun H1 locs1 hP1 hD1 hS1 => kk H1 locs1 ls hP1 hD1 hS1 hl)
theorem gn_aast (C : OkN cc nL own R0 X) (q0 qk : Nat) {a v N : Nat} {vs : List Value} {f : Nat → Option Nat} (he : ws[q0]? = some (a, .inl (nxC X 4, N, .inr (.inr (.inr (.inr f)))))) (hv : ws[qk]? = some (v, .inr (4, vs))) {i : Int32} (hi : vp_in i N) (d : decode cc pc = .ok (.aastore, 1)) (kk : Gn X (pc + 1) lv st (ws.set q0 (a, .inl (nxC X 4, N, .inr (.inr (.inr (.inr (va_up f i.toNatClampNeg (some v)))))))) k n) : Gn X pc lv (.ref v :: .int i :: .ref a :: st) ws k n := by
  obtain ⟨p, l, e, R, s, m, args, below, meth, c, nL', D, cy, A, Q⟩ := X
  obtain ⟨hx, hb, hml, rfl, hown, hts, hK, hA, rfl⟩ := C
  intro H locs ls hP hD hS hl
  exact va_astq hx hb hK.1 hP hD hS q0 4 qk 4 (r := (RX5, TX5, 3)) he rfl hv rfl hi d (fun H1 locs1 hP1 hD1 hS1 => kk H1 locs1 ls hP1 hD1 hS1 hl)
theorem gn_aald (C : OkN cc nL own R0 X) (q0 : Nat) {a N j : Nat} {f : Nat → Option Nat} (he : ws[q0]? = some (a, .inl (nxC X 3, N, .inr (.inr (.inr (.inr f)))))) {i : Int32} (hi : vp_in i N) (hf : f i.toNatClampNeg = some j) (d : decode cc pc = .ok (.aaload, 1)) (kk : Gn X (pc + 1) lv (.ref j :: st) ws k n) : Gn X pc lv (.int i :: .ref a :: st) ws k n := by
  obtain ⟨p, l, e, R, s, m, args, below, meth, c, nL', D, cy, A, Q⟩ := X
  obtain ⟨hx, hb, hml, rfl, hown, hts, hK, hA, rfl⟩ := C
  intro H locs ls hP hD hS hl
  have hlt : i.toNatClampNeg < N := Nat.not_le.mp fun q => hi (Or.inr q)
  have hv : va_rf (f i.toNatClampNeg) = .ref j := by rw [hf]; rfl
  have kk2 : W p l e R s m args below meth c H locs k n Q (F0 m (pc + 1) ls (va_rf (f i.toNatClampNeg) :: st)) := by rw [hv]; exact kk H locs ls hP hD hS hl
  exact W.aald (v := va_rf (f i.toNatClampNeg)) (ty := .array .int) hx hb (hP q0 _ he) ((hK.1.2 3 _ rfl).1 N (fun j => va_rf (f j))) rfl (fun q => by cases q) (by show ¬ (i < 0 ∨ (arrV _ _ _).slots.size ≤ _); rw [arrV_size]; exact hi) (by show (arrV _ _ _).slots[_]? = _; rw [arrV_read _ _ hlt]) rfl rfl d kk2
theorem gn_obj (C : OkN cc nL own R0 X) {idx q : Nat} (hlk : Cond.methodLink own idx Lib.objectInit ∈ gw) (d : decode cc pc = .ok (.invokespecial idx, 3)) (h1 : 1 ≤ R0.frames) (h2 : (st.map fun v => v.category).sum + 12 ≤ R0.locals) (kk : Gn X (pc + 3) lv st ws k n) : Gn X pc lv (.ref q :: st) ws k n := by
  obtain ⟨p, l, e, R, s, m, args, below, meth, c, nL', D, cy, A, Q⟩ := X
  obtain ⟨hx, hb, hml, rfl, hown, hts, hK, hA, rfl⟩ := C
  intro H locs ls hP hD hS hl
  exact W.objInit hx hb hown (hts _ hlk) (hts _ obI) (hts _ obC) rfl (by rw [hml]; exact hl.1) rfl d h1 (by show 2 * 0 + _ + 12 ≤ _; omega) (kk H locs ls hP hD hS hl)
theorem gn_ws {ws2 : va_W} (h : ws = ws2) (kk : Gn X pc lv st ws2 k n) : Gn X pc lv st ws k n := h ▸ kk
theorem gn_top {x : Int32} (y : Int32) (h : x = y) (kk : Gn X pc lv (.int y :: st) ws k n) : Gn X pc lv (.int x :: st) ws k n := by rw [h]; exact kk
theorem gn_init (C : OkN cc nL own R0 X) {idx ci q nL2 mc ms : Nat} {y : MethodName} {cc2 : ByteArray} {rm : Room} {fs : List Value} {post : Nat → va_W → Prop} (K : Cond.code y cc2 nL2 none ∈ gw ∧ (y.cls ≠ "java/lang/invoke/MethodHandle" ∧ y.cls ≠ "java/lang/invoke/VarHandle" ∧ (parseMethodDescriptor y.desc).map (fun d => d.parameters.length) = some 0) ∧ y.name = "<init>" ∧ Cond.instanceMethod y ∈ gw ∧ Cond.initialized y.cls ∈ gw)
    (L : Cond.methodLink own idx y ∈ gw ∨ ∃ host, Cond.methodLinkNest own idx y host ∈ nestW) (d : decode cc pc = .ok (.invokespecial idx, 3)) (hrm : rm.cells = mc ∧ rm.slots = ms)
    (hc : ∀ l D sz, Met l y (.code y cc2 nL2 none :: gw) rm (va_Pc [.ref q] (fun U => U.heap.size = sz ∧ va_P D vwCl [(q, .inr (ci, fs))] U.heap ∧ Kx D (nxC X) U ∧ va_D (fun _ => True) [(q, .inr (ci, fs))])) (va_Qv (post q) (fun w1 t => va_P D vwCl w1 t.heap ∧ va_D (va_A [(q, .inr (ci, fs))] sz) w1) (va_A [(q, .inr (ci, fs))] sz)) mc ms (va_A [(q, .inr (ci, fs))] sz))
    (hR : rm.frames + 1 ≤ R0.frames ∧ 8 + (nL2 + 11) + rm.locals ≤ R0.locals) (hk : k + mc ≤ R0.cells) (hn : n + ms ≤ R0.slots) (hst : (st.map fun v => v.category).sum ≤ 8)
    (kk : ∀ w1, post q w1 → Gn X (pc + 3) lv st (ws ++ w1) (k + mc) (n + ms)) : Gn X pc lv (.ref q :: st) (ws ++ [(q, .inr (ci, fs))]) k n := by
  obtain ⟨p, l, e, R, s, m, args, below, meth, c, nL', D, cy, A, Q⟩ := X
  obtain ⟨hx, hb, hml, rfl, hown, hts, hK, hA, rfl⟩ := C
  intro H locs ls hP hD hS hl
  have hlen : (ws ++ [(q, (.inr (ci, fs) : va_E))])[ws.length]? = some (q, .inr (ci, fs)) := List.getElem?_concat_length
  have hPc : va_P D vwCl [(q, .inr (ci, fs))] H := fun j x hj => by
    have hz : j < 1 := (List.getElem?_eq_some_iff.mp hj).1
    rw [show j = 0 by omega] at hj
    cases hj
    exact hP _ _ hlen
  have hDc : va_D A [(q, .inr (ci, fs))] := ⟨fun i j _ _ hi hj _ => by
    have := (List.getElem?_eq_some_iff.mp hi).1
    have := (List.getElem?_eq_some_iff.mp hj).1
    simp only [List.length_cons, List.length_nil] at *
    omega, fun j x hj => by
    have hz : j < 1 := (List.getElem?_eq_some_iff.mp hj).1
    rw [show j = 0 by omega] at hj
    cases hj
    exact hD.2 _ _ hlen⟩
  have hFc : ∀ x, va_A [(q, (.inr (ci, fs) : va_E))] H.size x → A x := fun x h => by
    rcases h with ⟨j, e, h⟩ | h
    · exact hDc.2 j (x, e) h
    · exact hA x (Nat.le_trans hS.1 h)
  have hpre : PreS s H (va_Pc [.ref q] (fun U => U.heap.size = H.size ∧ va_P D vwCl [(q, .inr (ci, fs))] U.heap ∧ Kx D cy U ∧ va_D (fun _ => True) [(q, .inr (ci, fs))])) [.ref q] := ⟨fun a U g mk z => by
    obtain ⟨z0, z1, zP, zK, zD⟩ := z
    exact ⟨z0, z1, zP, Kx.same (u := U) (U := U.calling g mk a) rfl zK, zD⟩, fun U hU hW => ⟨rfl, by rw [hU], by rw [hU]; exact hPc, hK.moved hW, hDc.weaken (fun _ _ _ _ => trivial)⟩⟩
  have hroom : 2 * (F0 m pc ls (.ref q :: st)).monitorRoom + (st.map fun v => v.category).sum ≤ 8 := lv_room hst
  have hrun : va_Run p l e R s m args below meth c H locs k n mc ms (F0 m pc ls (.ref q :: st)) st (va_Qv (post q) (fun w1 t => va_P D vwCl w1 t.heap ∧ va_D (va_A [(q, .inr (ci, fs))] H.size) w1) (va_A [(q, .inr (ci, fs))] H.size) [Value.ref q].toArray) (va_A [(q, .inr (ci, fs))] H.size) := by
    rcases L with L | ⟨host, L⟩
    · exact va_runI (As := []) (rest := st) (Ts := gw) ⟨hx, hb, hml, hown, hts⟩ (hc l D H.size) ⟨callB_of 0 hts (gw_code K.1) rfl hrm.1 hrm.2 (hts _ K.2.2.2.2) (hts _ L) K.2.1 hR, K.2.2.1, hts _ K.2.2.2.1⟩ hpre rfl rfl hl.1 rfl hroom d ⟨hk, hn⟩
    · exact va_runIN (As := []) (rest := st) (Ts := gw) ⟨hx, hb, hml, hown, hts⟩ (hc l D H.size) ⟨va_cnB 0 hts (gw_code K.1) rfl hrm.1 hrm.2 (hK.2.1 _ L) (hts _ K.2.2.2.2) K.2.1 hR, K.2.2.1, hts _ K.2.2.2.1⟩ hpre rfl rfl hl.1 rfl hroom d ⟨hk, hn⟩
  refine va_callv hrun hS (fun x _ h => hFc x h) hFc (fun w1 t H1 locs1 ht hvm hw hB hz1 hk1 hS1 => ?_)
  obtain ⟨hP1, hD1⟩ := hB
  rw [ht] at hP1
  have hr : (List.range ws.length).map (fun i => (ws ++ [(q, (.inr (ci, fs) : va_E))])[i]?) = ws.map some := by
    apply List.ext_getElem?
    intro i
    by_cases hi : i < ws.length
    · simp [hi, List.getElem?_append_left hi]
    · simp [hi]
  obtain ⟨hP2, hD2⟩ := va_join (wr := ws) (w1 := w1) (wc := [(q, .inr (ci, fs))]) hP hD [ws.length] (List.range ws.length) (by simp) hr (va_nd_range _) (by
    intro i hi
    have := List.mem_range.mp hi
    simp; omega) hk1 hFc hP1 hD1
  exact kk w1 hw H1 locs1 ls hP2 hD2 hS1 hl
end GN
theorem ol_X0 : Cond.methodLink RX0 3 Lib.objectInit ∈ gw := mgw 110 (by decide +kernel) (by decide +kernel)
theorem ki_X0 : Cond.code yX0_init cX0_init 1 none ∈ gw ∧ (yX0_init.cls ≠ "java/lang/invoke/MethodHandle" ∧ yX0_init.cls ≠ "java/lang/invoke/VarHandle" ∧ (parseMethodDescriptor yX0_init.desc).map (fun d => d.parameters.length) = some 0) ∧ yX0_init.name = "<init>" ∧ Cond.instanceMethod yX0_init ∈ gw ∧ Cond.initialized yX0_init.cls ∈ gw := ⟨mgw 109 (by decide +kernel) (by decide +kernel), by decide +kernel, rfl, mgw 108 (by decide +kernel) (by decide +kernel), mgw 45 (by decide +kernel) (by decide +kernel)⟩
theorem ol_X1 : Cond.methodLink RX1 5 Lib.objectInit ∈ gw := mgw 152 (by decide +kernel) (by decide +kernel)
theorem ki_X1 : Cond.code yX1_init cX1_init 1 none ∈ gw ∧ (yX1_init.cls ≠ "java/lang/invoke/MethodHandle" ∧ yX1_init.cls ≠ "java/lang/invoke/VarHandle" ∧ (parseMethodDescriptor yX1_init.desc).map (fun d => d.parameters.length) = some 0) ∧ yX1_init.name = "<init>" ∧ Cond.instanceMethod yX1_init ∈ gw ∧ Cond.initialized yX1_init.cls ∈ gw := ⟨mgw 151 (by decide +kernel) (by decide +kernel), by decide +kernel, rfl, mgw 150 (by decide +kernel) (by decide +kernel), mgw 47 (by decide +kernel) (by decide +kernel)⟩
theorem ol_X3 : Cond.methodLink RX3 3 Lib.objectInit ∈ gw := mgw 132 (by decide +kernel) (by decide +kernel)
theorem ki_X3 : Cond.code yX3_init cX3_init 2 none ∈ gw ∧ (yX3_init.cls ≠ "java/lang/invoke/MethodHandle" ∧ yX3_init.cls ≠ "java/lang/invoke/VarHandle" ∧ (parseMethodDescriptor yX3_init.desc).map (fun d => d.parameters.length) = some 0) ∧ yX3_init.name = "<init>" ∧ Cond.instanceMethod yX3_init ∈ gw ∧ Cond.initialized yX3_init.cls ∈ gw := ⟨mgw 131 (by decide +kernel) (by decide +kernel), by decide +kernel, rfl, mgw 130 (by decide +kernel) (by decide +kernel), mgw 46 (by decide +kernel) (by decide +kernel)⟩
theorem ol_X4 : Cond.methodLink RX4 3 Lib.objectInit ∈ gw := mgw 91 (by decide +kernel) (by decide +kernel)
theorem ki_X4 : Cond.code yX4_init cX4_init 1 none ∈ gw ∧ (yX4_init.cls ≠ "java/lang/invoke/MethodHandle" ∧ yX4_init.cls ≠ "java/lang/invoke/VarHandle" ∧ (parseMethodDescriptor yX4_init.desc).map (fun d => d.parameters.length) = some 0) ∧ yX4_init.name = "<init>" ∧ Cond.instanceMethod yX4_init ∈ gw ∧ Cond.initialized yX4_init.cls ∈ gw := ⟨mgw 90 (by decide +kernel) (by decide +kernel), by decide +kernel, rfl, mgw 89 (by decide +kernel) (by decide +kernel), mgw 44 (by decide +kernel) (by decide +kernel)⟩
theorem ol_X5 : Cond.methodLink RX5 3 Lib.objectInit ∈ gw := mgw 65 (by decide +kernel) (by decide +kernel)
theorem ki_X5 : Cond.code yX5_init cX5_init 2 none ∈ gw ∧ (yX5_init.cls ≠ "java/lang/invoke/MethodHandle" ∧ yX5_init.cls ≠ "java/lang/invoke/VarHandle" ∧ (parseMethodDescriptor yX5_init.desc).map (fun d => d.parameters.length) = some 0) ∧ yX5_init.name = "<init>" ∧ Cond.instanceMethod yX5_init ∈ gw ∧ Cond.initialized yX5_init.cls ∈ gw := ⟨mgw 64 (by decide +kernel) (by decide +kernel), by decide +kernel, rfl, mgw 63 (by decide +kernel) (by decide +kernel), mgw 43 (by decide +kernel) (by decide +kernel)⟩
theorem ol_X6 : Cond.methodLink RX6 3 Lib.objectInit ∈ gw := mgw 57 (by decide +kernel) (by decide +kernel)
theorem ki_X6 : Cond.code yX6_init cX6_init 2 none ∈ gw ∧ (yX6_init.cls ≠ "java/lang/invoke/MethodHandle" ∧ yX6_init.cls ≠ "java/lang/invoke/VarHandle" ∧ (parseMethodDescriptor yX6_init.desc).map (fun d => d.parameters.length) = some 0) ∧ yX6_init.name = "<init>" ∧ Cond.instanceMethod yX6_init ∈ gw ∧ Cond.initialized yX6_init.cls ∈ gw := ⟨mgw 56 (by decide +kernel) (by decide +kernel), by decide +kernel, rfl, mgw 55 (by decide +kernel) (by decide +kernel), mgw 42 (by decide +kernel) (by decide +kernel)⟩
theorem ol_X7 : Cond.methodLink RX7 1 Lib.objectInit ∈ gw := mgw 573 (by decide +kernel) (by decide +kernel)
theorem ki_X7 : Cond.code yX7_init cX7_init 2 none ∈ gw ∧ (yX7_init.cls ≠ "java/lang/invoke/MethodHandle" ∧ yX7_init.cls ≠ "java/lang/invoke/VarHandle" ∧ (parseMethodDescriptor yX7_init.desc).map (fun d => d.parameters.length) = some 0) ∧ yX7_init.name = "<init>" ∧ Cond.instanceMethod yX7_init ∈ gw ∧ Cond.initialized yX7_init.cls ∈ gw := ⟨mgw 572 (by decide +kernel) (by decide +kernel), by decide +kernel, rfl, mgw 571 (by decide +kernel) (by decide +kernel), mgw 48 (by decide +kernel) (by decide +kernel)⟩
theorem li_L_9 : Cond.methodLink "LightPropagatorLaw" 9 yX6_init ∈ gw ∨ ∃ host, Cond.methodLinkNest "LightPropagatorLaw" 9 yX6_init host ∈ nestW := Or.inl (mgw 54 (by decide +kernel) (by decide +kernel))
theorem li_L_12 : Cond.methodLink "LightPropagatorLaw" 12 yX7_init ∈ gw ∨ ∃ host, Cond.methodLinkNest "LightPropagatorLaw" 12 yX7_init host ∈ nestW := Or.inl (mgw 570 (by decide +kernel) (by decide +kernel))
theorem li_X3_24 : Cond.methodLink RX3 24 yX5_init ∈ gw ∨ ∃ host, Cond.methodLinkNest RX3 24 yX5_init host ∈ nestW := Or.inl (mgw 135 (by decide +kernel) (by decide +kernel))
theorem li_X6_11 : Cond.methodLink RX6 11 yX5_init ∈ gw ∨ ∃ host, Cond.methodLinkNest RX6 11 yX5_init host ∈ nestW := Or.inl (mgw 62 (by decide +kernel) (by decide +kernel))
theorem li_X6_52 : Cond.methodLink RX6 52 yX3_init ∈ gw ∨ ∃ host, Cond.methodLinkNest RX6 52 yX3_init host ∈ nestW := Or.inl (mgw 129 (by decide +kernel) (by decide +kernel))
theorem li_X6_23 : Cond.methodLink RX6 23 yX4_init ∈ gw ∨ ∃ host, Cond.methodLinkNest RX6 23 yX4_init host ∈ nestW := Or.inr ⟨"LightPropagator", mnw 88 (by decide +kernel)⟩
theorem li_X6_45 : Cond.methodLink RX6 45 yX0_init ∈ gw ∨ ∃ host, Cond.methodLinkNest RX6 45 yX0_init host ∈ nestW := Or.inr ⟨"LightPropagator", mnw 107 (by decide +kernel)⟩
theorem li_X6_66 : Cond.methodLink RX6 66 yX1_init ∈ gw ∨ ∃ host, Cond.methodLinkNest RX6 66 yX1_init host ∈ nestW := Or.inr ⟨"LightPropagator", mnw 149 (by decide +kernel)⟩
theorem gw_L_7 : GNw "LightPropagatorLaw" 7 5 RX6 TX6 13 tyX6 := ⟨rfl, inX6, tyX6_ok, mgw 52 (by decide +kernel) (by decide +kernel), mgw 53 (by decide +kernel) (by decide +kernel), mgw 42 (by decide +kernel) (by decide +kernel)⟩
theorem gw_X6_9 : GNw RX6 9 4 RX5 TX5 3 tyX5 := ⟨rfl, inX5, tyX5_ok, mgw 60 (by decide +kernel) (by decide +kernel), mgw 61 (by decide +kernel) (by decide +kernel), mgw 43 (by decide +kernel) (by decide +kernel)⟩
theorem cq_X6_9 : Cond.classLink RX6 9 RX5 ∈ gw := mgw 60 (by decide +kernel) (by decide +kernel)
theorem cm_X6_16 : Cond.classLink RX6 16 "[[I" ∈ gw := mgw 84 (by decide +kernel) (by decide +kernel)
theorem gw_X6_21 : GNw RX6 21 3 RX4 TX4 4 tyX4 := ⟨rfl, inX4, tyX4_ok, mgw 86 (by decide +kernel) (by decide +kernel), mgw 87 (by decide +kernel) (by decide +kernel), mgw 44 (by decide +kernel) (by decide +kernel)⟩
theorem gw_X6_43 : GNw RX6 43 0 RX0 TX0 4 tyX0 := ⟨rfl, inX0, tyX0_ok, mgw 105 (by decide +kernel) (by decide +kernel), mgw 106 (by decide +kernel) (by decide +kernel), mgw 45 (by decide +kernel) (by decide +kernel)⟩
theorem gw_X6_50 : GNw RX6 50 2 RX3 TX3 3 tyX3 := ⟨rfl, inX3, tyX3_ok, mgw 127 (by decide +kernel) (by decide +kernel), mgw 128 (by decide +kernel) (by decide +kernel), mgw 46 (by decide +kernel) (by decide +kernel)⟩
theorem gw_X3_9 : GNw RX3 9 4 RX5 TX5 3 tyX5 := ⟨rfl, inX5, tyX5_ok, mgw 133 (by decide +kernel) (by decide +kernel), mgw 61 (by decide +kernel) (by decide +kernel), mgw 43 (by decide +kernel) (by decide +kernel)⟩
theorem cq_X3_9 : Cond.classLink RX3 9 RX5 ∈ gw := mgw 133 (by decide +kernel) (by decide +kernel)
theorem gw_X6_64 : GNw RX6 64 1 RX1 TX1 7 tyX1 := ⟨rfl, inX1, tyX1_ok, mgw 147 (by decide +kernel) (by decide +kernel), mgw 148 (by decide +kernel) (by decide +kernel), mgw 47 (by decide +kernel) (by decide +kernel)⟩
theorem cm_X1_29 : Cond.classLink RX1 29 "[[I" ∈ gw := mgw 153 (by decide +kernel) (by decide +kernel)
theorem gw_L_10 : GNw "LightPropagatorLaw" 10 6 RX7 TX7 26 tyX7 := ⟨rfl, inX7, tyX7_ok, mgw 568 (by decide +kernel) (by decide +kernel), mgw 569 (by decide +kernel) (by decide +kernel), mgw 48 (by decide +kernel) (by decide +kernel)⟩
/-- a constructor's contract: from the object alone, just made -/
def CtN (y : MethodName) (cc : ByteArray) (nL fr lo mc ms ci : Nat) (fs : List Value) (post : (Nat → ClassId) → Nat → va_W → Prop) : Prop :=
  ∀ (cy : Nat → ClassId) (q : Nat) (l : Launch) (D : va_G) (sz : Nat), Met l y (.code y cc nL none :: gw) ({ frames := fr, cells := mc, slots := ms, locals := lo } : Room) (va_Pc [.ref q] (fun U => U.heap.size = sz ∧ va_P D vwCl [(q, .inr (ci, fs))] U.heap ∧ Kx D cy U ∧ va_D (fun _ => True) [(q, .inr (ci, fs))])) (va_Qv (post cy q) (fun w1 t => va_P D vwCl w1 t.heap ∧ va_D (va_A [(q, .inr (ci, fs))] sz) w1) (va_A [(q, .inr (ci, fs))] sz)) mc ms (va_A [(q, .inr (ci, fs))] sz)
theorem ctn_of {y : MethodName} {cc : ByteArray} {nL fr lo mc ms ci : Nat} {fs : List Value} {post : (Nat → ClassId) → Nat → va_W → Prop} (hy : plainName y.cls = true) (hyn : y.name = "<init>") (hL : 1 ≤ nL)
    (body : ∀ (X : NX) (q : Nat), OkN cc nL y.cls { frames := fr, cells := mc, slots := ms, locals := lo } X → NxI X → (∀ (pc : Nat) (lv : List (Option Value)) (w : va_W) (k n : Nat), decode cc pc = .ok (.return_, 1) → k ≤ mc → n ≤ ms → post (nxC X) q w → Gn X pc lv [] w k n) → Gn X 0 (lv0 [.ref q] nL) [] [(q, .inr (ci, fs))] 0 0) : CtN y cc nL fr lo mc ms ci fs post := by
  intro cy q l D sz
  refine Met.ofW (cc := cc) (maxL := nL) (ret := none) hy rfl ?_
  intro p e s m args below meth c s₁ B hml hv
  obtain ⟨rfl, hsz, hP, hK, hD0⟩ := hv
  have hx := B.exec
  have hb := B.bytes
  have hr := B.returns
  have hts := atoms_spec (ws := .code y cc nL none :: gw) B.pre
  have hown : s.vm.findClass y.cls = some m.cls := findClass_of_methodNamed B.named
  have hlocks := B.notSynchronized
  have hin : meth.name = "<init>" := ((name_of_methodNamed B.named B.method).1).trans hyn
  have hD : va_D (va_A [(q, .inr (ci, fs))] sz) [(q, .inr (ci, fs))] := hD0.self
  have hl := lv_entry ([.ref q]) (n := nL) hL
  rw [lg_entry_eq]
  refine body (p, l, e, { frames := fr, cells := mc, slots := ms, locals := lo }, s, m, _, below, meth, c, nL, D, cy, va_A [(q, .inr (ci, fs))] sz, _) q ⟨hx, hb, hml, rfl, hown, fun w hw => hts w (List.mem_cons_of_mem _ hw), hK, fun x h => Or.inr (hsz ▸ h), rfl⟩ hin ?_ s.heap [] _ hP hD va_S.rf (LH_0 (av := [.ref q]) (fun v hv => by rw [List.mem_singleton.mp hv]; rfl) hl)
  intro pc lv w k n d hk hn hp H locs ls hP1 hD1 hS1 hl1
  refine W.widen hk hn ?_
  exact W.vret hx hb hr (fun t ht hW => ⟨⟨w, rfl, hp, by rw [ht]; exact hP1, hD1⟩, hS1.F ht⟩) hS1.2.2 d hlocks
