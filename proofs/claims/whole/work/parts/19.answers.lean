/-! What the questions answer, of the state alone; and rows for longs. -/
noncomputable def pkL (w : Wd) (k : Nat) : Nat := lit w 0 k + 16 * lit w 1 k + 256 * lit w 2 k + 4096 * lit w 3 k
noncomputable def aType (S : St) (x y z : Int32) : Int32 := pI (isC x y z) (nI (wT (sW S) (ixC x y z))) (-1)
noncomputable def aLoss (S : St) (t c : Int32) : Int32 := pI (rng 8 t ∧ rng 4 c) (nI (wL (sW S) (4 * t.toNatClampNeg + c.toNatClampNeg))) (-1)
noncomputable def aEm (S : St) (t c : Int32) : Int32 := pI (rng 8 t ∧ rng 3 c) (nI (wE (sW S) (4 * t.toNatClampNeg + c.toNatClampNeg))) (-1)
noncomputable def aLight (S : St) (x y z c : Int32) : Int32 := pI (isC x y z ∧ rng 4 c) (nI (lit (sW S) c.toNatClampNeg (ixC x y z))) (-1)
noncomputable def aLights (S : St) (x y z : Int32) : Int32 := pI (isC x y z) (nI (pkL (sW S) (ixC x y z))) (-1)
noncomputable def aBatch (S : St) : Int32 := match sB S with
  | none => -5
  | some es => nI es.length
noncomputable def effAt (E : Nat → Prop) : Nat → Nat → Nat → Int32
  | 0, _, _ => -4
  | n + 1, k, i => pI (E k) (if i = 0 then nI (cod k) else effAt E n (k + 1) (i - 1)) (effAt E n (k + 1) i)
noncomputable def aEffect (S : St) (x : Int32) : Int32 := pI (¬ -1 ≤ x) (-2) (pI (x = -1) (nI (cnt (sE S) 1152)) (effAt (sE S) 1152 0 x.toNatClampNeg))
noncomputable def effCh (E : Nat → Prop) : Nat → Int32
  | 0 => nI 0
  | n + 1 => pI (E n) (effCh E n ||| (nI 1 <<< (nI (chk n) &&& 31))) (effCh E n)
noncomputable def csum (w : Wd) (c q : Nat) : Nat → Nat
  | 0 => 0
  | n + 1 => csum w c q n + (if chk n = q then lit w c n else 0)
noncomputable def aChunk (S : St) (q c : Int32) : Int32 := pI (rng 9 q ∧ rng 4 c) (nI (csum (sW S) c.toNatClampNeg q.toNatClampNeg 1152)) (-1)
def dkP (w : Wd) (l j : Nat) : Prop := lit w 0 j ≤ l ∧ lit w 1 j ≤ l ∧ lit w 2 j ≤ l ∧ lit w 3 j ≤ l
noncomputable def aDark (S : St) (l : Int32) : Int32 := pI (rng 16 l) (nI (cnt (dkP (sW S) l.toNatClampNeg) 1152)) (-2)
noncomputable def skyF (w : Wd) (a c : Nat) : Nat → Nat
  | 0 => 0
  | n + 1 => if lit w 3 (cel a n c) = 15 then skyF w a c n else n + 1
noncomputable def aSky (S : St) (x z : Int32) : Int32 := pI (isC x (nI 0) z) (nI (skyF (sW S) x.toNatClampNeg z.toNatClampNeg 8)) (-1)
noncomputable def rayF (w : Wd) (d c : Nat) : Nat → Option Nat → Nat → Nat → Nat
  | 0, _, n, s => 16 * n + s
  | _ + 1, none, n, s => 16 * n + s
  | f + 1, some k, n, s => if s ≤ lossN w c k then 16 * n + s else rayF w d c f (nbr k d) (n + 1) (s - lossN w c k)
noncomputable def aRay (S : St) (x y z d c : Int32) : Int32 := pI (isC x y z ∧ rng 6 d ∧ rng 4 c) (nI (rayF (sW S) d.toNatClampNeg c.toNatClampNeg 12 (nbr (ixC x y z) d.toNatClampNeg) 0 15)) (-1)
noncomputable def briF (w : Wd) (c : Nat) : Nat → Nat
  | 0 => 0
  | n + 1 => if lit w c (briF w c n) < lit w c (n + 1) then n + 1 else briF w c n
noncomputable def aBri (S : St) (c : Int32) : Int32 := pI (rng 4 c) (if 0 < lit (sW S) c.toNatClampNeg (briF (sW S) c.toNatClampNeg 1151) then nI (cod (briF (sW S) c.toNatClampNeg 1151)) else -4) (-1)
noncomputable def aHist (S : St) (c l : Int32) : Int32 := pI (rng 4 c) (pI (rng 16 l) (nI (cnt (fun j => lit (sW S) c.toNatClampNeg j = l.toNatClampNeg) 1152)) (-2)) (-1)
noncomputable def chS (w : Wd) : Nat → Nat
  | 0 => 17
  | n + 1 => chS w n * 31 + wT w n + 8 * pkL w n
theorem briF_le {w : Wd} {c : Nat} : ∀ n, briF w c n ≤ n
  | 0 => Nat.le_refl 0
  | n + 1 => by
    unfold briF
    have := briF_le (w := w) (c := c) n
    split <;> omega
def remD (k : Nat) : Nat → Nat
  | 0 => cX k
  | 1 => 11 - cX k
  | 2 => cY k
  | 3 => 7 - cY k
  | 4 => cZ k
  | _ => 11 - cZ k
theorem remD_nbr {k d m : Nat} (hk : k < 1152) (h : nbr k d = some m) : remD m d + 1 = remD k d := by
  unfold nbr at h
  split at h <;> first | (cases h; done) | (split at h <;> first | (cases h; done) | (cases h; simp only [remD, cX, cY, cZ] at *; omega))
theorem remD_le {k : Nat} (hk : k < 1152) (d : Nat) : remD k d ≤ 11 := by
  unfold remD cX cY cZ
  split <;> omega
theorem pkL_lt {w : Wd} (h : OkL w) {k : Nat} (hk : k < 1152) : pkL w k < 65536 := by
  have h0 := lit_lt h (c := 0) (by decide) hk
  have h1 := lit_lt h (c := 1) (by decide) hk
  have h2 := lit_lt h (c := 2) (by decide) hk
  have h3 := lit_lt h (c := 3) (by decide) hk
  unfold pkL
  omega
theorem cnt_1 {p : Nat → Prop} {i : Nat} (h : p i) : cnt p (i + 1) = cnt p i + 1 := congrArg (cnt p i + ·) (pN_t h)
theorem cnt_0 {p : Nat → Prop} {i : Nat} (h : ¬ p i) : cnt p (i + 1) = cnt p i := congrArg (cnt p i + ·) (pN_f h)
theorem ge_m1 {x : Int32} (h1 : -1 ≤ x) (h2 : ¬ x = -1) : ∃ j : Nat, j < 2 ^ 31 ∧ x = nI j := by
  apply nI_of
  intro q
  have a := Int32.le_iff_toInt_le.mp h1
  have b := Int32.lt_iff_toInt_lt.mp q
  have c : (-1 : Int32).toInt = -1 := by decide
  have d : (0 : Int32).toInt = 0 := by decide
  exact h2 (Int32.toInt_inj.mp (by omega))
theorem LH_set2 {ad : Nat → Nat} {nL : Nat} {lv lv1 : List (Option Value)} {i : Nat} {x : Int64} (hn : nlong lv i = true) (hl : (lv.set i (some (.long x))).set (i + 1) none = lv1) {ls' : Array Slot}
    (h : lv_has ls' nL ((i, Value.long x) :: (asc ad lv).filter (fun q => !(q.1 == i) && (!(q.1 == i + 1) && !(q.1 + 1 == i && q.2.category == 2))))) : LH ad nL lv1 ls' := by
  subst hl
  refine ⟨h.1, h.2.1, fun q hq => ?_⟩
  obtain ⟨w, h1, h2⟩ := asc_mem.mp hq
  obtain ⟨a, b⟩ := q
  simp only at h1 h2
  subst h2
  rw [List.getElem?_set] at h1
  by_cases h0 : i + 1 = a
  · rw [if_pos h0] at h1
    split at h1 <;> cases h1
  · rw [if_neg h0, List.getElem?_set] at h1
    by_cases ha : i = a
    · subst ha
      rw [if_pos rfl] at h1
      split at h1
      · cases h1
        exact h.2.2 _ List.mem_cons_self
      · cases h1
    · rw [if_neg ha] at h1
      refine h.2.2 _ (List.mem_cons_of_mem _ (List.mem_filter.mpr ⟨asc_mem.mpr ⟨w, h1, rfl⟩, ?_⟩))
      simp only [cv_cat]
      by_cases h3 : a + 1 = i
      · subst h3
        simp only [nlong, h1, bne_iff_ne, ne_eq] at hn
        simp [Ne.symm ha, hn, Ne.symm h0]
      · simp [Ne.symm ha, Ne.symm h0, h3]
theorem go_lstore_n {obj : Nat → Lay} {N : Nat} {cc : ByteArray} {nL : Nat} {own : String} {fr lo : Nat} {X : GX} {pc : Nat} {lv : List (Option Value)} {st : List Value} {σ : Mem} (C : OkX obj N cc nL own fr lo X) {x : Int64} {k : Fin 4} {lv1 : List (Option Value)} (d : decode cc pc = .ok (.lstore_n k, 1)) (hn : (k : Nat) + 1 < nL) (hg : nlong lv (k : Nat) = true) (hlv : (lv.set (k : Nat) (some (.long x))).set ((k : Nat) + 1) none = lv1) (kk : Go obj N X (pc + 1) lv1 st σ) : Go obj N X pc lv (.long x :: st) σ := by
  obtain ⟨p, l, e, R, s, m, args, below, meth, c, nL', ad, D, cy, A, Q⟩ := X
  obtain ⟨hx, hb, hml, rfl, hown, hts, ⟨hK, hN⟩, hA, hlk, rfl⟩ := C
  intro H locs ls hP hD hS hl
  exact lv_lstore_n hx hb d rfl hl hn rfl (fun ls hl => kk H locs ls hP hD hS (LH_set2 hg hlv hl))
