/-! Changes, purely. -/
def fidx (k : Nat) : List (Nat × Nat) → Nat
  | [] => 0
  | p :: ps => if p.1 = k then 0 else fidx k ps + 1
def colL (es : List (Nat × Nat)) (k t : Nat) : List (Nat × Nat) := if fidx k es < es.length then es.set (fidx k es) (k, t) else es ++ [(k, t)]
theorem fidx_le {k : Nat} : ∀ es : List (Nat × Nat), fidx k es ≤ es.length
  | [] => Nat.le_refl 0
  | p :: ps => by
    unfold fidx
    have := fidx_le (k := k) ps
    rw [List.length_cons]
    split <;> omega
/-- looked through from the front: the first place that has k, or the end -/
theorem fidx_at {k : Nat} : ∀ (es : List (Nat × Nat)) (i : Nat), i ≤ es.length → (∀ j p, j < i → es[j]? = some p → p.1 ≠ k) → (i = es.length ∨ ∃ p, es[i]? = some p ∧ p.1 = k) → fidx k es = i
  | [], i, h1, _, _ => by
    have : i = 0 := Nat.le_zero.mp h1
    rw [this]
    rfl
  | p :: ps, 0, _, _, h3 => by
    rcases h3 with h | ⟨q, h, e⟩
    · cases h
    · cases h
      unfold fidx
      rw [if_pos e]
  | p :: ps, i + 1, h1, h2, h3 => by
    have hp : ¬ p.1 = k := h2 0 p (Nat.succ_pos i) rfl
    unfold fidx
    rw [if_neg hp, fidx_at ps i (Nat.le_of_succ_le_succ h1) (fun j q hj hq => h2 (j + 1) q (Nat.succ_lt_succ hj) hq) (by
      rcases h3 with h | ⟨q, h, e⟩
      · left; rw [List.length_cons] at h; omega
      · right; exact ⟨q, h, e⟩)]
theorem colL_len {es : List (Nat × Nat)} {k t : Nat} : (colL es k t).length = if fidx k es < es.length then es.length else es.length + 1 := by
  unfold colL
  split
  · rw [List.length_set]
  · rw [List.length_append]; rfl
theorem colL_mem {es : List (Nat × Nat)} {k t : Nat} {p : Nat × Nat} (h : p ∈ colL es k t) : p ∈ es ∨ p = (k, t) := by
  unfold colL at h
  split at h
  · exact (List.mem_or_eq_of_mem_set h)
  · rcases List.mem_append.mp h with q | q
    · exact Or.inl q
    · exact Or.inr (List.mem_singleton.mp q)
def edT : List (Nat × Nat) → (Nat → Nat) → (Nat → Nat)
  | [], f => f
  | p :: ps, f => edT ps (un f p.1 p.2)
def edW (w : Wd) (es : List (Nat × Nat)) : Wd := (edT es (wT w), wL w, wE w)
theorem edT_lt {m n : Nat} : ∀ (es : List (Nat × Nat)) (f : Nat → Nat), (∀ j, j < m → f j < n) → (∀ p, p ∈ es → p.2 < n) → ∀ j, j < m → edT es f j < n
  | [], _, h, _ => h
  | p :: ps, f, h, hp => edT_lt ps (un f p.1 p.2) (fun j hj => by
      by_cases e : j = p.1
      · rw [e, un_s]; exact hp p List.mem_cons_self
      · rw [un_n e]; exact h j hj) (fun q hq => hp q (List.mem_cons_of_mem _ hq))
def bxT (f : Nat → Nat) (a b c a2 b2 c2 t : Nat) : Nat → Nat := fun j => if a ≤ cX j ∧ cX j ≤ a2 ∧ b ≤ cY j ∧ cY j ≤ b2 ∧ c ≤ cZ j ∧ cZ j ≤ c2 then t else f j
def bxW (w : Wd) (a b c a2 b2 c2 t : Nat) : Wd := (bxT (wT w) a b c a2 b2 c2 t, wL w, wE w)
def slW (w : Wd) (t c v : Nat) : Wd := (wT w, un (wL w) (4 * t + c) v, wE w)
def seW (w : Wd) (t c v : Nat) : Wd := (wT w, wL w, un (wE w) (4 * t + c) v)
theorem edW_ok {w : Wd} (h : OkW w) {es : List (Nat × Nat)} (he : ∀ p, p ∈ es → p.2 < 8) : OkW (edW w es) := ⟨edT_lt es _ h.1 he, h.2.1, h.2.2.1, h.2.2.2⟩
theorem bxW_ok {w : Wd} (h : OkW w) {a b c a2 b2 c2 t : Nat} (ht : t < 8) : OkW (bxW w a b c a2 b2 c2 t) := ⟨fun j hj => by
  show bxT (wT w) a b c a2 b2 c2 t j < 8
  unfold bxT
  split
  · exact ht
  · exact h.1 j hj, h.2.1, h.2.2.1, h.2.2.2⟩
theorem slW_ok {w : Wd} (h : OkW w) {t c v : Nat} (hv : v < 16) : OkW (slW w t c v) := ⟨h.1, fun j hj => by
  show un (wL w) (4 * t + c) v j < 16
  by_cases e : j = 4 * t + c
  · rw [e, un_s]; exact hv
  · rw [un_n e]; exact h.2.1 j hj, h.2.2.1, h.2.2.2⟩
theorem seW_ok {w : Wd} (h : OkW w) {t c v : Nat} (hc : c < 3) (hv : v < 16) : OkW (seW w t c v) := ⟨h.1, h.2.1, fun j hj => by
  show un (wE w) (4 * t + c) v j < 16
  by_cases e : j = 4 * t + c
  · rw [e, un_s]; exact hv
  · rw [un_n e]; exact h.2.2.1 j hj, fun u hu => by
  show un (wE w) (4 * t + c) v (4 * u + 3) = 0
  rw [un_n (by omega)]; exact h.2.2.2 u hu⟩
/-- the effect: where a light is another one -/
def effO (w v : Wd) : Nat → Prop := fun j => ∃ c, c < 4 ∧ lit w c j ≠ lit v c j
def chg (S : St) (v : Wd) : St := (v, effO (sW S) v, none, (sW S :: sH S).take 6, sS S, sX S, sF S)
def stB (S : St) (b : Option (List (Nat × Nat))) : St := (sW S, sE S, b, sH S, sS S, sX S, sF S)
noncomputable def iP (P : Prop) (a b : Int32 × St) : Int32 × St := @ite _ P (Classical.propDecidable P) a b
theorem iP_t {P : Prop} {a b : Int32 × St} (h : P) : iP P a b = a := by unfold iP; rw [if_pos h]
theorem iP_f {P : Prop} {a b : Int32 × St} (h : ¬ P) : iP P a b = b := by unfold iP; rw [if_neg h]
/-- a change to the world v: its answer, and the state behind it -/
noncomputable def oChg (S : St) (v : Wd) : Int32 × St := (nI (cnt (effO (sW S) v) 1152), chg S v)
noncomputable def oSet (S : St) (x y z t : Int32) : Int32 × St := iP (¬ (isC x y z ∧ rng 8 t)) (-1, S) (match sB S with
  | none => oChg S (setT (sW S) (ixC x y z) t.toNatClampNeg)
  | some es => iP (40 ≤ fidx (ixC x y z) es) (-3, S) (nI (colL es (ixC x y z) t.toNatClampNeg).length, stB S (some (colL es (ixC x y z) t.toNatClampNeg))))
noncomputable def oOpen (S : St) : Int32 × St := match sB S with
  | none => (nI 1, stB S (some []))
  | some _ => (-5, S)
noncomputable def oClose (S : St) : Int32 × St := match sB S with
  | none => (-5, S)
  | some es => oChg S (edW (sW S) es)
noncomputable def oDrop (S : St) : Int32 × St := match sB S with
  | none => (-5, S)
  | some es => (nI es.length, stB S none)
/-- with no batch open -/
noncomputable def nB (S : St) (r : Int32 × St) : Int32 × St := match sB S with
  | none => r
  | some _ => (-5, S)
def gdF (v h : Int32) (a b c : Nat) : Prop := ∃ vn hn : Nat, v = nI vn ∧ h = nI hn ∧ 1 ≤ vn ∧ vn + a ≤ 12 ∧ vn + c ≤ 12 ∧ 1 ≤ hn ∧ hn + b ≤ 8
noncomputable def oFill (S : St) (x y z v h t : Int32) : Int32 × St := nB S (iP (¬ (isC x y z ∧ rng 8 t)) (-1, S) (iP (¬ gdF v h x.toNatClampNeg y.toNatClampNeg z.toNatClampNeg) (-2, S) (oChg S (bxW (sW S) x.toNatClampNeg y.toNatClampNeg z.toNatClampNeg (x.toNatClampNeg + v.toNatClampNeg - 1) (y.toNatClampNeg + h.toNatClampNeg - 1) (z.toNatClampNeg + v.toNatClampNeg - 1) t.toNatClampNeg))))
noncomputable def oLoss (S : St) (t c v : Int32) : Int32 × St := nB S (iP (¬ (rng 8 t ∧ rng 4 c)) (-1, S) (iP (¬ rng 16 v) (-2, S) (oChg S (slW (sW S) t.toNatClampNeg c.toNatClampNeg v.toNatClampNeg))))
noncomputable def oEm (S : St) (t c v : Int32) : Int32 × St := nB S (iP (¬ (rng 8 t ∧ rng 3 c)) (-1, S) (iP (¬ rng 16 v) (-2, S) (oChg S (seW (sW S) t.toNatClampNeg c.toNatClampNeg v.toNatClampNeg))))
noncomputable def oUndo (S : St) : Int32 × St := nB S (match sH S with
  | [] => (-4, S)
  | v :: vs => (nI vs.length, (v, effO (sW S) v, sB S, vs, sS S, sX S, sF S)))
noncomputable def oSave (S : St) : Int32 × St := nB S (nI (filled (sW S)), (sW S, sE S, sB S, sH S, some (sW S), sX S, sF S))
noncomputable def oRestore (S : St) : Int32 × St := nB S (match sS S with
  | none => (-4, S)
  | some v => (nI (filled v), (v, fun _ => False, sB S, [], some v, sX S, sF S)))
theorem chg_ok {S : St} (h : OkS S) {v : Wd} (hv : OkW v) (hl : OkL v) : OkS (chg S v) := by
  obtain ⟨h1, h2, h3, h4, h5, h6, h7⟩ := h
  refine ⟨hv, hl, fun es he => (by cases he), ⟨?_, fun w hw => ?_⟩, h5, h6, h7⟩
  · show ((sW S :: sH S).take 6).length ≤ 6
    rw [List.length_take]; omega
  · rcases List.mem_cons.mp (List.mem_of_mem_take hw) with rfl | q
    · exact h1
    · exact h4.2 w q
theorem stB_ok {S : St} (h : OkS S) {b : Option (List (Nat × Nat))} (hb : OkB b) : OkS (stB S b) := ⟨h.1, h.2.1, hb, h.2.2.2⟩
