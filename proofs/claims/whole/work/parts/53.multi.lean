/-! Rows of rows made at once: the instruction, over the walk. -/
section MR
variable {E : CtlPost} {e : Env} {d : Bool} {acts : List Action} {s : State}
/-- one array made: its class known, its length small -/
theorem mr_new {c comp : ClassId} {k : Class} {ty : FieldType} {n : Nat} {v : Value} (hk : s.vm.classes[c]? = some k) (hd : k.kind = .array comp ty) (hl : ¬ n > e.platform.arrayLengthLimit) (hh : ¬ n * componentBytes ty > e.platform.maxHeapBytes) (hf : fits ty v = true) (hv : v.isDefault = true) (h1 : s.heap.size < e.platform.maxCells) (h2 : s.slotsUsed + n ≤ e.platform.maxSlots) {Q : Addr → Pre}
    (kk : Q s.heap.size d acts (s.pushCell (arrV c n (fun _ => v)))) : wp (Jvm.newArray c n v) Q E e d acts s := by
  rw [← arrV_new] at kk
  have ha : allocActs (Array.replicate n v) s.heap.size acts = acts := by
    unfold allocActs
    rw [if_pos (by rw [Array.all_replicate]; split <;> simp [hv])]
  have hs : ∀ i u, (Array.replicate n v)[i]? = some u → s.fitsSlot c .none i u = true := by
    intro i u hu
    rw [Array.getElem?_replicate] at hu
    split at hu
    · cases hu
      simp [State.fitsSlot, State.slotType?, hk, hd, hf]
    · cases hu
  simp only [Jvm.newArray, Jvm.arrayFits, wp_bind', W.ask, W.ite, hl, if_false, wp_pure', W.theClass, hk, hd, hh, W.alloc, W.stop, Option.some.injEq, exists_eq_left', Array.size_replicate, ha]
  rw [if_neg (by omega)]
  exact ⟨h1, h2, hs, kk⟩
/-- the row of rows when i of its rows stand -/
def mr_o (cA : ClassId) (n b i : Nat) : Cell := arrV cA n (fun j => if j < i then .ref (b + 1 + j) else .null)
def mr_S (T : State) (cA cI : ClassId) (n k : Nat) : Nat → State
  | 0 => T.pushCell (mr_o cA n T.heap.size 0)
  | i + 1 => ((mr_S T cA cI n k i).pushCell (arrV cI k (fun _ => .int 0))).setCell T.heap.size (mr_o cA n T.heap.size (i + 1))
theorem mr_o0 {cA : ClassId} {n b : Nat} : mr_o cA n b 0 = arrV cA n (fun _ => .null) := by
  unfold mr_o
  congr 1
theorem mr_oS {cA : ClassId} {n b i : Nat} : (mr_o cA n b i).setSlot i (.ref (b + 1 + i)) = mr_o cA n b (i + 1) := by
  unfold mr_o
  rw [arrV_store]
  congr 1
  funext j
  unfold updV
  by_cases e : j = i
  · subst e; rw [if_pos rfl, if_pos (Nat.lt_succ_self j)]
  · rw [if_neg e]
    by_cases q : j < i
    · show (if j < i then Value.ref (b + 1 + j) else Value.null) = _
      rw [if_pos q, if_pos (by omega)]
    · show (if j < i then Value.ref (b + 1 + j) else Value.null) = _
      rw [if_neg q, if_neg (by omega)]
theorem mr_f {T : State} {cA cI : ClassId} {n k : Nat} : ∀ i, (mr_S T cA cI n k i).heap.size = T.heap.size + 1 + i ∧ (mr_S T cA cI n k i).heap[T.heap.size]? = some (mr_o cA n T.heap.size i) ∧ (mr_S T cA cI n k i).vm = T.vm ∧ (mr_S T cA cI n k i).slotsUsed = T.slotsUsed + n + i * k ∧ (∀ q, q < T.heap.size → (mr_S T cA cI n k i).heap[q]? = T.heap[q]?) ∧ ∀ j, j < i → (mr_S T cA cI n k i).heap[T.heap.size + 1 + j]? = some (arrV cI k (fun _ => .int 0))
  | 0 => ⟨by show (T.pushCell _).heap.size = _; simp, by show (T.pushCell _).heap[_]? = _; simp, rfl, by show (T.pushCell _).slotsUsed = _; simp [mr_o, arrV], fun q hq => State.heap_pushCell_of_lt _ _ hq, fun j hj => absurd hj (Nat.not_lt_zero j)⟩
  | i + 1 => by
    obtain ⟨a, b, c, u, o, r⟩ := mr_f (T := T) (cA := cA) (cI := cI) (n := n) (k := k) i
    have hlt : T.heap.size < (mr_S T cA cI n k i).heap.size := by omega
    have hb : ((mr_S T cA cI n k i).pushCell (arrV cI k (fun _ => .int 0))).heap[T.heap.size]? = some (mr_o cA n T.heap.size i) := by rw [State.heap_pushCell_of_lt (h := hlt)]; exact b
    refine ⟨?_, State.heap_setCell_self hb, ?_, ?_, fun q hq => ?_, fun j hj => ?_⟩
    · simp [mr_S, State.setCell, a]; omega
    · simp [mr_S, c]
    · simp [mr_S, u, arrV, Nat.succ_mul]; omega
    · show (((mr_S T cA cI n k i).pushCell (arrV cI k (fun _ => .int 0))).setCell T.heap.size _).heap[q]? = _
      have hq2 : q < (mr_S T cA cI n k i).heap.size := by omega
      rw [State.heap_setCell_other (Nat.ne_of_gt hq), State.heap_pushCell_of_lt (h := hq2)]
      exact o q hq
    · show (((mr_S T cA cI n k i).pushCell (arrV cI k (fun _ => .int 0))).setCell T.heap.size _).heap[T.heap.size + 1 + j]? = _
      rw [State.heap_setCell_other (show T.heap.size ≠ T.heap.size + 1 + j by omega)]
      rcases Nat.lt_or_ge j i with q | q
      · have hq2 : T.heap.size + 1 + j < (mr_S T cA cI n k i).heap.size := by omega
        rw [State.heap_pushCell_of_lt (h := hq2)]; exact r j q
      · rw [show T.heap.size + 1 + j = (mr_S T cA cI n k i).heap.size by omega]
        exact State.heap_pushCell_size _ _
theorem mr_top {T : State} {f : JFrame} {cA cI : ClassId} {n k : Nat} : ∀ i, mr_S (T.setTop f) cA cI n k i = (mr_S T cA cI n k i).setTop f
  | 0 => rfl
  | i + 1 => by simp only [mr_S, mr_top i, State.heap_setTop, State.pushCell_setTop, State.setCell_setTop]
/-- the machine's own making of n rows of k -/
theorem mr_make {cA cI cc : ClassId} {kA kI : Class} {n k : Nat} (hA : s.vm.classes[cA]? = some kA) (hAd : kA.kind = .array cI (.array .int)) (hI : s.vm.classes[cI]? = some kI) (hId : kI.kind = .array cc .int) (hn : n < 2 ^ 31) (hk : k < 2 ^ 31) (l1 : ¬ n > e.platform.arrayLengthLimit) (h1 : ¬ n * 4 > e.platform.maxHeapBytes) (l2 : ¬ k > e.platform.arrayLengthLimit) (h2 : ¬ k * 4 > e.platform.maxHeapBytes)
    (hc : s.heap.size + 1 + n ≤ e.platform.maxCells) (hs : s.slotsUsed + n + n * k ≤ e.platform.maxSlots) {Q : Addr → Pre} (kk : ∀ d' acts', Q s.heap.size d' acts' (mr_S s cA cI n k n)) : wp (multianewarray.make cA [nI n, nI k]) Q E e d acts s := by
  have n0 : ¬ nI n < 0 := nI_pos hn
  have k0 : ¬ nI k < 0 := nI_pos hk
  have hfd : ([nI k].find? (· < 0)) = none := by simp [k0]
  rw [multianewarray.make]
  simp only [wp_bind', W.ite, n0, if_false, wp_pure', W.theClass, hA, hAd, Option.some.injEq, exists_eq_left', nI_clamp hn, hfd]
  refine mr_new hA hAd l1 h1 rfl rfl (by omega) (by have := Nat.zero_le (n * k); omega) ?_
  rw [ite_self, wp_bind', Std.Legacy.Range.forIn_eq_forIn_range']
  rw [show ([:n] : Std.Legacy.Range).size = n by simp [Std.Legacy.Range.size]]
  show wp (forIn (List.range' 0 n 1) PUnit.unit _) _ E e d acts _
  refine wp_forIn_inv (fun r t => ∃ i, r = List.range' i (n - i) ∧ i ≤ n ∧ t = mr_S s cA cI n k i) _ _ ⟨0, rfl, Nat.zero_le n, by rw [← mr_o0]; rfl⟩ ?_ ?_
  · rintro x r t d' acts' Q' ⟨i, hl, hi, rfl⟩ next
    obtain ⟨m, hm⟩ : ∃ m, n - i = m + 1 := by
      cases q : n - i with
      | zero => rw [q] at hl; cases hl
      | succ m => exact ⟨m, rfl⟩
    rw [hm, List.range'_succ] at hl
    obtain ⟨rfl, hr⟩ := List.cons.inj hl
    obtain ⟨f1, f2, f3, f4, -, -⟩ := mr_f (T := s) (cA := cA) (cI := cI) (n := n) (k := k) x
    have hmul : x * k + k ≤ n * k := by
      have := Nat.mul_le_mul_right k (show x + 1 ≤ n by omega)
      rw [Nat.succ_mul] at this; exact this
    have hlt : s.heap.size < (mr_S s cA cI n k x).heap.size := by omega
    simp only [wp_bind']
    rw [multianewarray.make]
    simp only [wp_bind', W.ite, k0, if_false, wp_pure', W.theClass, f3, hI, hId, Option.some.injEq, exists_eq_left', nI_clamp hk]
    refine mr_new (by rw [f3]; exact hI) hId l2 h2 rfl rfl (by omega) (by omega) ?_
    simp only [wp_bind', W.writeLoc, wp_pure']
    refine ⟨mr_o cA n s.heap.size x, by rw [State.heap_pushCell_of_lt (h := hlt)]; exact f2, by simp [mr_o, arrV], by unfold mr_o; rw [arrV_size]; omega, ?_, next _ _ _ ⟨x + 1, by rw [hr, show n - (x + 1) = m by omega], by omega, ?_⟩⟩
    · simp [State.fitsSlot, State.slotType?, f3, hA, hAd, mr_o, arrV, fits]
    · show _ = ((mr_S s cA cI n k x).pushCell _).setCell s.heap.size _
      rw [f1, mr_oS]
      rfl
  · rintro t d' acts' ⟨i, hl, hi, rfl⟩
    have : i = n := by
      cases q : n - i with
      | zero => omega
      | succ m => rw [q] at hl; cases hl
    subst this
    simp only [wp_pure']
    exact kk _ _
end MR
/-- what making rows of rows needs of the tables -/
def mr_A (U : State) : Prop := ∃ (comp c : ClassId) (k : Class), U.vm.findClass "[I" = some comp ∧ U.vm.classes[c]? = some k ∧ k.kind = .array comp (.array .int) ∧ U.vm.findClass "[[I" = some c
theorem mr_A.of {args : Array Value} {U : State} (h : (Cond.arrayOver (.array .int)).before args U = true) : mr_A U := by
  obtain ⟨comp, c, k, h1, -, h2, h3, h4⟩ := arrayOverA_spec h
  exact ⟨comp, c, k, h1, h2, h3, h4⟩
theorem mr_A.moved {u U : State} (hvm : u.vm.Alike U.vm) (h : mr_A u) : mr_A U := by
  obtain ⟨comp, c, k, h1, h2, h3, h4⟩ := h
  obtain ⟨k', hk, he⟩ := hvm.2.2 _ _ h2
  exact ⟨comp, c, k', by rw [hvm.findClass]; exact h1, hk, by rw [he]; exact h3, by rw [hvm.findClass]; exact h4⟩
section MRW
variable {p : Program} {l : Launch} {e : Env} {R : Room} {s : State} {m : MethodId} {args : Array Value} {below : List Frame} {meth : Method} {c : Code} {H : Heap} {locs : List Loc} {cells slots : Nat} {Q : State → Prop}
theorem mr_stand {T : State} (X : Stand p l e R s m args below meth c T locs cells slots) (cA cI : ClassId) (n k : Nat) : ∀ i, Stand p l e R s m args below meth c (mr_S T cA cI n k i) locs (cells + 1 + i) (slots + n + i * k)
  | 0 => by
    have h := X.pushed (mr_o cA n T.heap.size 0)
    rw [show (mr_o cA n T.heap.size 0).slots.size = n from arrV_size _ _ _] at h
    simpa [mr_S] using h
  | i + 1 => by
    have Xi := mr_stand X cA cI n k i
    obtain ⟨f1, f2, -, -, -, -⟩ := mr_f (T := T) (cA := cA) (cI := cI) (n := n) (k := k) i
    have hlt : T.heap.size < (mr_S T cA cI n k i).heap.size := by omega
    have hb : ((mr_S T cA cI n k i).pushCell (arrV cI k (fun _ => .int 0))).heap[T.heap.size]? = some (mr_o cA n T.heap.size i) := by rw [State.heap_pushCell_of_lt (h := hlt)]; exact f2
    have h := (Xi.pushed (arrV cI k (fun _ => .int 0))).stored hb i (.ref (T.heap.size + 1 + i))
    rw [mr_oS, arrV_size] at h
    have h2 := h.dropFresh (fun x hx => by rw [List.mem_singleton.mp hx]; exact X.heapGrown)
    rw [show slots + n + (i + 1) * k = slots + n + i * k + k by rw [Nat.succ_mul]; omega]
    exact h2
theorem mr_W (hexec : p.tables.exec = Jvm.exec) {cc : ByteArray} (hb : c.code = cc) {own : String} {index n k pc : Nat} (hown : s.vm.findClass own = some m.cls) (hclink : (Cond.classLink own index "[[I").before args s = true) (hover : mr_A s) (harr : (Cond.arrayClass .int).before args s = true) (hn : n ≤ 1000) (hk : k ≤ 100000) (hcells : cells + (1 + n) ≤ R.cells) (hslots : slots + (n + n * k) ≤ R.slots) {ls : Array Slot} {rest : List Value} (hdg : decode cc pc = .ok (.multianewarray index 2, 4))
    (kk : ∀ (cA cI : ClassId) (H1 : Heap), s.vm.findClass "[[I" = some cA → s.vm.findClass "[I" = some cI → H1.size = H.size + 1 + n → H1[H.size]? = some (arrV cA n (fun j => if j < n then .ref (H.size + 1 + j) else .null)) → (∀ j, j < n → H1[H.size + 1 + j]? = some (arrV cI k (fun _ => .int 0))) → (∀ q, q < H.size → H1[q]? = H[q]?) →
      W p l e R s m args below meth c H1 locs (cells + (1 + n)) (slots + (n + n * k)) Q (F0 m (pc + 4) ls (.ref H.size :: rest))) : W p l e R s m args below meth c H locs cells slots Q (F0 m pc ls (.int (nI k) :: .int (nI n) :: rest)) := by
  intro T hT X
  subst hT
  subst hb
  have hpl : e.platform.magicAccessors = ({} : Platform).magicAccessors := by rw [X.admits.platform]
  obtain ⟨comp, cA, kA, hcomp, hkA, hAd, hnA⟩ := hover
  obtain ⟨cI, kI, cc, hcI, hkI, hId⟩ := Cond.arrayClass_spec harr
  have ec : cI = comp := Option.some.inj (hcI.symm.trans hcomp)
  subst ec
  obtain ⟨c0, hfc0, hcl⟩ := Cond.classLink_spec hown hclink e.platform hpl
  cases (show s.vm.findClass "[[I" = some cA from hnA).symm.trans hfc0
  obtain ⟨hg₁, hwarm₁, hready₁⟩ := State.classEntry (e := e) X.warmed hcl
  generalize T.vm.noted m.cls index (.cls cA) = vm₁ at hg₁ hwarm₁ hready₁
  have hal : s.vm.Alike vm₁ := hwarm₁.alike
  obtain ⟨kA₁, hkA₁, heA⟩ := hal.2.2 _ _ hkA
  obtain ⟨kI₁, hkI₁, heI⟩ := hal.2.2 _ _ hkI
  have X₁ := X.noted hwarm₁
  obtain ⟨hr1, hr2⟩ := X.roomAbove hcells hslots
  have XF := mr_stand X₁ cA cI n k n
  obtain ⟨f1, f2, f3, f4, f5, f6⟩ := mr_f (T := T.setVm vm₁) (cA := cA) (cI := cI) (n := n) (k := k) n
  obtain ⟨t, a1, b1⟩ := kk cA cI (mr_S (T.setVm vm₁) cA cI n k n).heap hnA hcI f1 f2 f6 f5 _ rfl (by rw [show cells + (1 + n) = cells + 1 + n by omega, show slots + (n + n * k) = slots + n + n * k by omega]; exact XF)
  refine ⟨t, ?_, b1⟩
  have l1 : ¬ n > e.platform.arrayLengthLimit := by rw [Launch.admits_arrayLengthLimit X.admits]; omega
  have h1 : ¬ n * 4 > e.platform.maxHeapBytes := by rw [Launch.admits_maxHeapBytes X.admits]; omega
  have l2 : ¬ k > e.platform.arrayLengthLimit := by rw [Launch.admits_arrayLengthLimit X.admits]; omega
  have h2 : ¬ k * 4 > e.platform.maxHeapBytes := by rw [Launch.admits_maxHeapBytes X.admits]; omega
  jvm_step X.here [hexec, hdg]
  simp only [multianewarray.sem, wp_bind', W.resolveClassAt_links (State.method?_setTop (F0 m pc ls (.int (nI k) :: .int (nI n) :: rest)) X.here.top) hg₁]
  rw [W.popN, if_neg (by decide)]
  refine ⟨F0 m pc ls (.int (nI k) :: .int (nI n) :: rest), State.topJava?_setTop' (s := T.setVm vm₁) _ X.here.top, [.int (nI n), .int (nI k)], rest, rfl, rfl, ?_⟩
  simp only [List.mapM_cons, List.mapM_nil, wp_bind', wp_pure']
  refine mr_make (kA := kA₁) (kI := kI₁) hkA₁ (by rw [heA]; exact hAd) hkI₁ (by rw [heI]; exact hId) (by omega) (by omega) l1 h1 l2 h2 (by show T.heap.size + 1 + n ≤ _; omega) (by show T.slotsUsed + n + n * k ≤ _; omega) (fun d' acts' => ?_)
  have eS : ((T.setTop (F0 m pc ls (.int (nI k) :: .int (nI n) :: rest))).setVm vm₁).setTop { method := m, pc := pc, locals := ls, stack := rest, locked := none } = (T.setVm vm₁).setTop { method := m, pc := pc, locals := ls, stack := rest, locked := none } := by
    show ((T.setVm vm₁).setTop _).setTop _ = _
    rw [State.setTop_setTop]
  rw [eS, mr_top]
  simp only [wp_bind', W.mark, W.pushRef, State.topJava?_setTop' _ XF.here.top, Option.some.injEq, exists_eq_left', State.setTop_setTop, State.heap_setTop]
  intro acts
  simp [jvm, XF.here.top]
  exact a1
end MRW
