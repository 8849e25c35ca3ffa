/-! A layer over the kit's rows: a class's objects as a fixed layout, their contents as one function; a frame as lists. -/
def gw : List Cond := lw_tbl.filter goodWord
theorem gw_in {w : Cond} (h : w ∈ gw) : w ∈ lw_tbl := (List.mem_filter.mp h).1
theorem gw_good : GoodIn gw gw := fun w h => ⟨h, good_of_word (List.mem_filter.mp h).2⟩
theorem gw_code {y : MethodName} {cc : ByteArray} {nL : Nat} {ret : Option FieldType} (h : Cond.code y cc nL ret ∈ gw) : GoodIn gw (Cond.code y cc nL ret :: gw) := fun w hw => by
  rcases List.mem_cons.mp hw with rfl | h1
  · exact gw_good _ h
  · exact gw_good _ h1
abbrev Mem := Nat → Nat → Int32
abbrev Lay := (Nat × List (Option Nat)) ⊕ ((Nat × Nat) ⊕ (Nat × List Nat))
def cv (ad : Nat → Nat) : Value → Value
  | .ref k => .ref (ad k)
  | .int x => .int x
  | .long x => .long x
  | v => v
theorem cv_cat {ad : Nat → Nat} (v : Value) : (cv ad v).category = v.category := by cases v <;> rfl
def fdV (ad : Nat → Nat) (f : Nat → Int32) (i : Nat) : Option Nat → Value
  | some j => .ref (ad j)
  | none => .int (f i)
def fsV (ad : Nat → Nat) (f : Nat → Int32) (fl : List (Option Nat)) : List Value := (List.range fl.length).map (fun i => fdV ad f i (fl.getD i none))
def ce (ad : Nat → Nat) (cy : Nat → ClassId) (f : Nat → Int32) : Lay → va_E
  | .inl o => .inr (o.1, fsV ad f o.2)
  | .inr (.inl a) => .inl (cy a.1, a.2, .inl f)
  | .inr (.inr a) => .inl (cy a.1, a.2.length, .inr (.inr (.inr (.inr (fun i => a.2[i]?.map ad)))))
def WS (obj : Nat → Lay) (N : Nat) (ad : Nat → Nat) (cy : Nat → ClassId) (σ : Mem) : va_W := (List.range N).map (fun k => (ad k, ce ad cy (σ k) (obj k)))
def updR (σ : Mem) (k : Nat) (g : Nat → Int32) : Mem := fun j => if j = k then g else σ j
theorem updR_s {σ : Mem} {k : Nat} {g : Nat → Int32} : updR σ k g k = g := if_pos rfl
theorem updR_n {σ : Mem} {k j : Nat} {g : Nat → Int32} (h : j ≠ k) : updR σ k g j = σ j := if_neg h
theorem WS_get {obj : Nat → Lay} {N : Nat} {ad : Nat → Nat} {cy : Nat → ClassId} {σ : Mem} {k : Nat} (h : k < N) : (WS obj N ad cy σ)[k]? = some (ad k, ce ad cy (σ k) (obj k)) := by
  simp [WS, h]
theorem WS_set {obj : Nat → Lay} {N : Nat} {ad : Nat → Nat} {cy : Nat → ClassId} {σ : Mem} {k : Nat} (g : Nat → Int32) (h : k < N) : (WS obj N ad cy σ).set k (ad k, ce ad cy g (obj k)) = WS obj N ad cy (updR σ k g) := by
  apply List.ext_getElem?
  intro i
  rw [List.getElem?_set]
  by_cases hi : k = i
  · subst hi
    simp [WS, h, updR]
  · rw [if_neg hi]
    by_cases hN : i < N
    · rw [WS_get hN, WS_get hN, updR_n (Ne.symm hi)]
    · simp [WS, hN]
theorem WS_D {obj : Nat → Lay} {N : Nat} {ad : Nat → Nat} {cy : Nat → ClassId} {σ σ' : Mem} {A : Nat → Prop} (h : va_D A (WS obj N ad cy σ)) : va_D A (WS obj N ad cy σ') := by
  have key : ∀ (k : Nat) (q : Nat × va_E), (WS obj N ad cy σ')[k]? = some q → ∃ q0, (WS obj N ad cy σ)[k]? = some q0 ∧ q0.1 = q.1 := by
    intro k q hq
    by_cases hk : k < N
    · rw [WS_get hk] at hq
      cases hq
      exact ⟨_, WS_get hk, rfl⟩
    · simp [WS, hk] at hq
  refine ⟨fun i j x y hi hj hxy => ?_, fun k q hk => ?_⟩
  · obtain ⟨x0, h1, h2⟩ := key i x hi
    obtain ⟨y0, h3, h4⟩ := key j y hj
    exact h.1 i j x0 y0 h1 h3 (h2.trans (hxy.trans h4.symm))
  · obtain ⟨q0, h1, h2⟩ := key k q hk
    rw [← h2]
    exact h.2 k q0 h1
theorem WS_A {obj : Nat → Lay} {N : Nat} {ad : Nat → Nat} {cy : Nat → ClassId} {σ : Mem} {A0 : Nat → Prop} {H0 H : Heap} {locs : List Loc} (hD : va_D A0 (WS obj N ad cy σ)) (hS : va_S A0 H0 H locs) (hA : ∀ q, H0.size ≤ q → A0 q) : ∀ q, va_A (WS obj N ad cy σ) H.size q → A0 q := by
  intro q h
  rcases h with ⟨k, e, h⟩ | h
  · exact hD.2 k (q, e) h
  · exact hA q (Nat.le_trans hS.1 h)
theorem fsV_get {ad : Nat → Nat} {f : Nat → Int32} {fl : List (Option Nat)} {i : Nat} {o : Option Nat} (h : fl[i]? = some o) : (fsV ad f fl)[i]? = some (fdV ad f i o) := by
  obtain ⟨hi, he⟩ := List.getElem?_eq_some_iff.mp h
  simp [fsV, hi, List.getD, he]
theorem fsV_set {ad : Nat → Nat} {f : Nat → Int32} {fl : List (Option Nat)} {i : Nat} (x : Int32) (h : fl[i]? = some none) : (fsV ad f fl).set i (.int x) = fsV ad (upd f i x) fl := by
  have hi := (List.getElem?_eq_some_iff.mp h).1
  apply List.ext_getElem?
  intro j
  rw [List.getElem?_set]
  by_cases hj : i = j
  · subst hj
    rw [if_pos rfl, fsV_get h]
    simp [fsV, hi, fdV, upd]
  · rw [if_neg hj]
    by_cases hl : j < fl.length
    · have e := List.getElem?_eq_getElem hl
      rw [fsV_get e, fsV_get e]
      cases fl[j] with
      | none => simp [fdV, upd, Ne.symm hj]
      | some k => rfl
    · simp [fsV, hl]
theorem fsV_len {ad : Nat → Nat} {f : Nat → Int32} {fl : List (Option Nat)} : (fsV ad f fl).length = fl.length := by simp [fsV]
/-- the locals, listed -/
def asc (ad : Nat → Nat) (lv : List (Option Value)) : List (Nat × Value) := (List.range lv.length).filterMap (fun i => (lv.getD i none).map (fun v => (i, cv ad v)))
theorem asc_mem {ad : Nat → Nat} {lv : List (Option Value)} {q : Nat × Value} : q ∈ asc ad lv ↔ ∃ v, lv[q.1]? = some (some v) ∧ q.2 = cv ad v := by
  unfold asc
  rw [List.mem_filterMap]
  constructor
  · rintro ⟨i, hi, h⟩
    have hl := List.mem_range.mp hi
    rw [List.getD_eq_getElem?_getD, List.getElem?_eq_getElem hl] at h
    obtain ⟨v, h1, h2⟩ := Option.map_eq_some_iff.mp h
    subst h2
    exact ⟨v, by rw [List.getElem?_eq_getElem hl]; exact congrArg some h1, rfl⟩
  · rintro ⟨v, h1, h2⟩
    have hl := (List.getElem?_eq_some_iff.mp h1).1
    refine ⟨q.1, List.mem_range.mpr hl, ?_⟩
    rw [List.getD_eq_getElem?_getD, h1]
    obtain ⟨a, b⟩ := q
    simp only at h2
    subst h2
    rfl
def LH (ad : Nat → Nat) (nL : Nat) (lv : List (Option Value)) (ls : Array Slot) : Prop := lv_has ls nL (asc ad lv)
theorem LH_at {ad : Nat → Nat} {nL : Nat} {lv : List (Option Value)} {ls : Array Slot} (h : LH ad nL lv ls) {i : Nat} {v : Value} (hv : lv[i]? = some (some v)) : ls[i]? = some (.val (cv ad v)) := h.2.2 (i, cv ad v) (asc_mem.mpr ⟨v, hv, rfl⟩)
def nlong (lv : List (Option Value)) : Nat → Bool
  | 0 => true
  | i + 1 => match lv[i]? with
    | some (some v) => v.category != 2
    | _ => true
theorem LH_set {ad : Nat → Nat} {nL : Nat} {lv lv' : List (Option Value)} {i : Nat} {v : Value} (hn : nlong lv i = true) (hl : lv.set i (some v) = lv') {ls' : Array Slot}
    (h : lv_has ls' nL ((i, cv ad v) :: (asc ad lv).filter (fun q => !(q.1 == i) && !(q.1 + 1 == i && q.2.category == 2)))) : LH ad nL lv' ls' := by
  subst hl
  refine ⟨h.1, h.2.1, fun q hq => ?_⟩
  obtain ⟨w, h1, h2⟩ := asc_mem.mp hq
  obtain ⟨a, b⟩ := q
  simp only at h1 h2
  subst h2
  rw [List.getElem?_set] at h1
  by_cases ha : i = a
  · subst ha
    rw [if_pos rfl] at h1
    split at h1
    · cases h1
      exact h.2.2 _ List.mem_cons_self
    · cases h1
  · rw [if_neg ha] at h1
    refine h.2.2 _ (List.mem_cons_of_mem _ (List.mem_filter.mpr ⟨asc_mem.mpr ⟨w, h1, rfl⟩, ?_⟩))
    simp only [cv_cat]
    by_cases h3 : a + 1 = i
    · subst h3
      simp only [nlong, h1, bne_iff_ne, ne_eq] at hn
      simp [Ne.symm ha, hn]
    · simp [Ne.symm ha, h3]
theorem lv_args_mem (vs : List Value) (hc : ∀ v ∈ vs, v.category = 1) : ∀ (k i : Nat) (v : Value), vs[i]? = some v → (k + i, v) ∈ lv_args k vs := by
  induction vs with
  | nil => intro k i v h; simp at h
  | cons a l ih =>
    intro k i v h
    have ha : a.category = 1 := hc a List.mem_cons_self
    show (k + i, v) ∈ (k, a) :: lv_args (if a.category = 2 then k + 2 else k + 1) l
    rw [if_neg (by rw [ha]; decide)]
    cases i with
    | zero =>
      rw [List.getElem?_cons_zero] at h
      cases h
      exact List.mem_cons_self
    | succ i =>
      rw [List.getElem?_cons_succ] at h
      have := ih (fun v hv => hc v (List.mem_cons_of_mem _ hv)) (k + 1) i v h
      rw [show k + (i + 1) = k + 1 + i by omega]
      exact List.mem_cons_of_mem _ this
def lv0 (av : List Value) (nL : Nat) : List (Option Value) := av.map some ++ List.replicate (nL - av.length) none
theorem LH_0 {ad : Nat → Nat} {nL : Nat} {av : List Value} (hc : ∀ v ∈ av, v.category = 1) {ls : Array Slot} (h : lv_has ls nL (lv_args 0 (av.map (cv ad)))) : LH ad nL (lv0 av nL) ls := by
  refine ⟨h.1, h.2.1, fun q hq => ?_⟩
  obtain ⟨w, h1, h2⟩ := asc_mem.mp hq
  obtain ⟨a, b⟩ := q
  simp only at h1 h2
  subst h2
  have h3 : av[a]? = some w := by
    unfold lv0 at h1
    by_cases ha : a < av.length
    · rw [List.getElem?_append_left (by simpa using ha), List.getElem?_map] at h1
      cases hv : av[a]? with
      | none => rw [hv] at h1; cases h1
      | some z => rw [hv] at h1; cases h1; rfl
    · rw [List.getElem?_append_right (by simpa using ha)] at h1
      have := List.getElem?_replicate (a := (none : Option Value)) (n := nL - av.length) (i := a - (av.map some).length)
      rw [this] at h1
      split at h1 <;> cases h1
  have h4 := lv_args_mem (av.map (cv ad)) (fun v hv => by
    obtain ⟨u, hu, rfl⟩ := List.mem_map.mp hv
    rw [cv_cat]; exact hc u hu) 0 a (cv ad w) (by rw [List.getElem?_map, h3]; rfl)
  rw [Nat.zero_add] at h4
  exact h.2.2 _ h4
/-- what private members of nest mates need of the tables -/
def nestW : List Cond := lw_tbl.filter (fun w => match w with | .methodLinkNest _ _ _ _ => true | _ => false)
def Nst (U : State) : Prop := ∀ w ∈ nestW, va_Nw w U
theorem Nst.warm {s U : State} (hW : s.WarmedH U.vm) (h : Nst s) : Nst U := fun w hw => by
  have h0 := h w hw
  have h1 := (List.mem_filter.mp hw).2
  cases w <;> first | (cases h1; done) | exact va_Nw.warmM hW h0
theorem Nst.same {u U : State} (hvm : u.vm = U.vm) (h : Nst u) : Nst U := fun w hw => by
  have h0 := h w hw
  have h1 := (List.mem_filter.mp hw).2
  cases w <;> first | (cases h1; done) | exact va_Nw.same rfl hvm h0
theorem Nst.of {args : Array Value} {s : State} (h : ∀ w ∈ lw_tbl, w.before args s = true) : Nst s := fun w hw => by
  have h0 := h w (List.mem_filter.mp hw).1
  have h1 := (List.mem_filter.mp hw).2
  cases w <;> first | (cases h1; done) | exact va_Nw.of rfl h0
def tyL (cy : Nat → ClassId) : List (ClassId × FieldType) := [(cy 0, .int), (cy 1, .boolean), (cy 2, .char), (cy 3, .array .int), (cy 4, .object RX5)]
def rmOf (fr lo : Nat) : Room := { frames := fr, cells := 0, slots := 0, locals := lo }
/-- all that a walk holds fixed -/
abbrev GX := Program × Launch × Env × Room × State × MethodId × Array Value × List Frame × Method × Code × Nat × (Nat → Nat) × va_G × (Nat → ClassId) × (Nat → Prop) × (State → Prop)
def OkX (obj : Nat → Lay) (N : Nat) (cc : ByteArray) (nL : Nat) (own : String) (fr lo : Nat) : GX → Prop
  | (p, l, e, R, s, m, args, below, meth, c, nL', ad, D, cy, A, Q) =>
    p.tables.exec = Jvm.exec ∧ c.code = cc ∧ c.maxLocals = nL ∧ nL' = nL ∧ s.vm.findClass own = some m.cls ∧ (∀ w ∈ gw, w.before args s = true) ∧ (va_K D vwCl (tyL cy) s ∧ Nst s) ∧ (∀ q : Nat, s.heap.size ≤ q → A q) ∧ meth.locks = false ∧ R = rmOf fr lo
def Go (obj : Nat → Lay) (N : Nat) : GX → Nat → List (Option Value) → List Value → Mem → Prop
  | (p, l, e, R, s, m, args, below, meth, c, nL, ad, D, cy, A, Q), pc, lv, st, σ =>
    ∀ (H : Heap) (locs : List Loc) (ls : Array Slot), va_P D vwCl (WS obj N ad cy σ) H → va_D A (WS obj N ad cy σ) → va_S A s.heap H locs → LH ad nL lv ls →
      W p l e R s m args below meth c H locs 0 0 Q (F0 m pc ls (st.map (cv ad)))
def CtB (obj : Nat → Lay) (N : Nat) (D : va_G) (cy : Nat → ClassId) (ad : Nat → Nat) (sz : Nat) (σ : Mem) : State → Prop := fun U => U.heap.size = sz ∧ va_P D vwCl (WS obj N ad cy σ) U.heap ∧ (va_K D vwCl (tyL cy) U ∧ Nst U) ∧ va_D (fun _ => True) (WS obj N ad cy σ)
def CtE (obj : Nat → Lay) (N : Nat) (D : va_G) (cy : Nat → ClassId) (ad : Nat → Nat) (σ : Mem) : State → Prop := fun t => va_P D vwCl (WS obj N ad cy σ) t.heap
def CtI (obj : Nat → Lay) (N : Nat) (y : MethodName) (cc : ByteArray) (nL : Nat) (ret : FieldType) (fr lo : Nat) (av : List Value) (σ : Mem) (post : Int32 → Mem → Prop) : Prop :=
  ∀ (l : Launch) (D : va_G) (cy : Nat → ClassId) (ad : Nat → Nat) (sz : Nat), Met l y (.code y cc nL (some ret) :: gw) (rmOf fr lo) (va_Pc (av.map (cv ad)) (CtB obj N D cy ad sz σ)) (va_Qi post (CtE obj N D cy ad) (va_A (WS obj N ad cy σ) sz)) 0 0 (va_A (WS obj N ad cy σ) sz)
def CtV (obj : Nat → Lay) (N : Nat) (y : MethodName) (cc : ByteArray) (nL : Nat) (fr lo : Nat) (av : List Value) (σ : Mem) (post : Mem → Prop) : Prop :=
  ∀ (l : Launch) (D : va_G) (cy : Nat → ClassId) (ad : Nat → Nat) (sz : Nat), Met l y (.code y cc nL none :: gw) (rmOf fr lo) (va_Pc (av.map (cv ad)) (CtB obj N D cy ad sz σ)) (va_Qv post (CtE obj N D cy ad) (va_A (WS obj N ad cy σ) sz)) 0 0 (va_A (WS obj N ad cy σ) sz)
def CtL (obj : Nat → Lay) (N : Nat) (y : MethodName) (cc : ByteArray) (nL : Nat) (fr lo : Nat) (av : List Value) (σ : Mem) (post : Int64 → Mem → Prop) : Prop :=
  ∀ (l : Launch) (D : va_G) (cy : Nat → ClassId) (ad : Nat → Nat) (sz : Nat), Met l y (.code y cc nL (some .long) :: gw) (rmOf fr lo) (va_Pc (av.map (cv ad)) (CtB obj N D cy ad sz σ)) (va_Ql post (CtE obj N D cy ad) (va_A (WS obj N ad cy σ) sz)) 0 0 (va_A (WS obj N ad cy σ) sz)
theorem CtB.blind {obj : Nat → Lay} {N : Nat} {D : va_G} {cy : Nat → ClassId} {ad : Nat → Nat} {sz : Nat} {σ : Mem} {av : List Value} : FrameBlind (va_Pc av (CtB obj N D cy ad sz σ)) := fun a U g mk q => by
  obtain ⟨q0, q1, qP, ⟨qK, qN⟩, qD⟩ := q
  exact ⟨q0, q1, qP, ⟨va_K.moved (u := U) (U := U.calling g mk a) (Vm.Alike.refl U.vm) qK, Nst.same (u := U) (U := U.calling g mk a) rfl qN⟩, qD⟩
/-- ends -/
def RI (obj : Nat → Lay) (N : Nat) (cc : ByteArray) (ret : FieldType) (X : GX) (post : Int32 → Mem → Prop) : Prop := ∀ (pc : Nat) (lv : List (Option Value)) (x : Int32) (σ : Mem), decode cc pc = .ok (.ireturn, 1) → narrow ret (.int x) = .int x → post x σ → Go obj N X pc lv [.int x] σ
def RV (obj : Nat → Lay) (N : Nat) (cc : ByteArray) (X : GX) (post : Mem → Prop) : Prop := ∀ (pc : Nat) (lv : List (Option Value)) (σ : Mem), decode cc pc = .ok (.return_, 1) → post σ → Go obj N X pc lv [] σ
def RLg (obj : Nat → Lay) (N : Nat) (cc : ByteArray) (X : GX) (post : Int64 → Mem → Prop) : Prop := ∀ (pc : Nat) (lv : List (Option Value)) (x : Int64) (σ : Mem), decode cc pc = .ok (.lreturn, 1) → post x σ → Go obj N X pc lv [.long x] σ
section CTOF
variable {obj : Nat → Lay} {N : Nat} {y : MethodName} {cc : ByteArray} {nL : Nat} {fr lo : Nat} {av : List Value} {σ : Mem}
theorem ct_enter {l : Launch} {D : va_G} {cy : Nat → ClassId} {ad : Nat → Nat} {sz : Nat} {ret : Option FieldType} {Qc : Array Value → State → Outcome → State → Prop} (hy : plainName y.cls = true) (hc : ∀ v ∈ av, v.category = 1) (hL : av.length ≤ nL)
    (body : ∀ (X : GX), OkX obj N cc nL y.cls fr lo X → (∀ (p : Program) (e : Env) (s : State) (m : MethodId) (args : Array Value) (below : List Frame) (meth : Method) (c : Code), X = (p, l, e, rmOf fr lo, s, m, args, below, meth, c, nL, ad, D, cy, va_A (WS obj N ad cy σ) sz, MQ below Qc args s 0 0 (va_A (WS obj N ad cy σ) sz)) → p.tables.exec = Jvm.exec → c.code = cc → meth.sig.returnType = ret → meth.locks = false → s.heap.size = sz → Go obj N X 0 (lv0 av nL) [] σ)) :
    Met l y (.code y cc nL ret :: gw) (rmOf fr lo) (va_Pc (av.map (cv ad)) (CtB obj N D cy ad sz σ)) Qc 0 0 (va_A (WS obj N ad cy σ) sz) := by
  refine Met.ofW (cc := cc) (maxL := nL) (ret := ret) hy rfl ?_
  intro p e s m args below meth c s₁ B hml hv
  obtain ⟨rfl, hsz, hP, hK, hD0⟩ := hv
  have hx := B.exec
  have hb := B.bytes
  have hr := B.returns
  have hts := atoms_spec (ws := .code y cc nL ret :: gw) B.pre
  have hown : s.vm.findClass y.cls = some m.cls := findClass_of_methodNamed B.named
  have hlocks := B.notSynchronized
  have hD : va_D (va_A (WS obj N ad cy σ) sz) (WS obj N ad cy σ) := hD0.self
  have hlen : (lg_sl (av.map (cv ad))).length ≤ nL := by
    have : ∀ vs : List Value, (∀ v ∈ vs, v.category = 1) → (lg_sl vs).length = vs.length := by
      intro vs
      induction vs with
      | nil => intro _; rfl
      | cons a t ih =>
        intro h
        have ha := h a List.mem_cons_self
        have := ih (fun v hv => h v (List.mem_cons_of_mem _ hv))
        simp only [lg_sl, List.flatMap_cons, List.length_append, List.length_cons] at this ⊢
        rw [if_neg (by rw [ha]; decide), this]
        simp only [List.length_cons, List.length_nil]
        omega
    rw [this _ (fun v hv => by obtain ⟨u, hu, rfl⟩ := List.mem_map.mp hv; rw [cv_cat]; exact hc u hu), List.length_map]
    exact hL
  have hl := lv_entry (av.map (cv ad)) (n := nL) hlen
  rw [lg_entry_eq]
  exact body _ ⟨hx, hb, hml, rfl, hown, fun w hw => hts w (List.mem_cons_of_mem _ hw), hK, fun q h => Or.inr (hsz ▸ h), hlocks, rfl⟩ p e s m _ below meth c rfl hx hb hr hlocks hsz s.heap [] _ hP hD va_S.rf (LH_0 hc hl)
theorem ct_ofI {ret : FieldType} {post : Int32 → Mem → Prop} (hy : plainName y.cls = true) (hc : ∀ v ∈ av, v.category = 1) (hL : av.length ≤ nL) (body : ∀ (X : GX), OkX obj N cc nL y.cls fr lo X → RI obj N cc ret X post → Go obj N X 0 (lv0 av nL) [] σ) : CtI obj N y cc nL ret fr lo av σ post := by
  intro l D cy ad sz
  refine ct_enter hy hc hL ?_
  intro X C p e s m args below meth c hX hx hb hr hlocks hsz
  refine body X C ?_
  subst hX
  intro pc lv x σ' d hn hp H locs ls hP hD hS hl
  exact W.zret hx hb hr hn (fun t ht hW => ⟨⟨x, σ', rfl, hp, by unfold CtE; rw [ht]; exact hP⟩, hS.F ht⟩) hS.2.2 d hlocks
theorem ct_ofV {post : Mem → Prop} (hy : plainName y.cls = true) (hc : ∀ v ∈ av, v.category = 1) (hL : av.length ≤ nL) (body : ∀ (X : GX), OkX obj N cc nL y.cls fr lo X → RV obj N cc X post → Go obj N X 0 (lv0 av nL) [] σ) : CtV obj N y cc nL fr lo av σ post := by
  intro l D cy ad sz
  refine ct_enter hy hc hL ?_
  intro X C p e s m args below meth c hX hx hb hr hlocks hsz
  refine body X C ?_
  subst hX
  intro pc lv σ' d hp H locs ls hP hD hS hl
  exact W.vret hx hb hr (fun t ht hW => ⟨⟨σ', rfl, hp, by unfold CtE; rw [ht]; exact hP⟩, hS.F ht⟩) hS.2.2 d hlocks
theorem ct_ofL {post : Int64 → Mem → Prop} (hy : plainName y.cls = true) (hc : ∀ v ∈ av, v.category = 1) (hL : av.length ≤ nL) (body : ∀ (X : GX), OkX obj N cc nL y.cls fr lo X → RLg obj N cc X post → Go obj N X 0 (lv0 av nL) [] σ) : CtL obj N y cc nL fr lo av σ post := by
  intro l D cy ad sz
  refine ct_enter hy hc hL ?_
  intro X C p e s m args below meth c hX hx hb hr hlocks hsz
  refine body X C ?_
  subst hX
  intro pc lv x σ' d hp H locs ls hP hD hS hl
  exact W.lret hx hb hr (fun t ht hW => ⟨⟨x, σ', rfl, hp, by unfold CtE; rw [ht]; exact hP⟩, hS.F ht⟩) hS.2.2 d hlocks
end CTOF
