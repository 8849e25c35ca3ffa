/-! Cells, ranges, truth as numbers. -/
def cX (k : Nat) : Nat := k % 12
def cY (k : Nat) : Nat := k / 12 % 8
def cZ (k : Nat) : Nat := k / 96
def cel (a b c : Nat) : Nat := 96 * c + 12 * b + a
def cod (k : Nat) : Nat := 100 * cZ k + 12 * cY k + cX k
def chk (k : Nat) : Nat := 3 * (cZ k / 4) + cX k / 4
def nbr (k : Nat) : Nat → Option Nat
  | 0 => if 0 < cX k then some (k - 1) else none
  | 1 => if cX k < 11 then some (k + 1) else none
  | 2 => if 0 < cY k then some (k - 12) else none
  | 3 => if cY k < 7 then some (k + 12) else none
  | 4 => if 0 < cZ k then some (k - 96) else none
  | 5 => if cZ k < 11 then some (k + 96) else none
  | _ => none
def oI : Option Nat → Int32
  | some j => nI j
  | none => -1
theorem nbr_lt {k d m : Nat} (hk : k < 1152) (h : nbr k d = some m) : m < 1152 := by
  unfold nbr cX cY cZ at h
  split at h <;> first | (cases h; done) | (split at h <;> first | (cases h; done) | (cases h; omega))
theorem cX_lt (k : Nat) : cX k < 12 := Nat.mod_lt _ (by decide)
theorem cY_lt (k : Nat) : cY k < 8 := Nat.mod_lt _ (by decide)
theorem cZ_lt {k : Nat} (h : k < 1152) : cZ k < 12 := by unfold cZ; omega
theorem cel_lt {a b c : Nat} (ha : a < 12) (hb : b < 8) (hc : c < 12) : cel a b c < 1152 := by unfold cel; omega
theorem cX_cel {a b c : Nat} (ha : a < 12) (hb : b < 8) : cX (cel a b c) = a := by unfold cX cel; omega
theorem cY_cel {a b c : Nat} (ha : a < 12) (hb : b < 8) : cY (cel a b c) = b := by unfold cY cel; omega
theorem cZ_cel {a b c : Nat} (ha : a < 12) (hb : b < 8) : cZ (cel a b c) = c := by unfold cZ cel; omega
theorem cel_c {k : Nat} (h : k < 1152) : cel (cX k) (cY k) (cZ k) = k := by unfold cel cX cY cZ; omega
noncomputable def bP (P : Prop) : Int32 := @ite _ P (Classical.propDecidable P) (nI 1) (nI 0)
theorem bP_t {P : Prop} (h : P) : nI 1 = bP P := by unfold bP; rw [if_pos h]
theorem bP_f {P : Prop} (h : ¬ P) : nI 0 = bP P := by unfold bP; rw [if_neg h]
theorem bP_nar {P : Prop} : narrow .boolean (.int (bP P)) = .int (bP P) := by
  by_cases h : P
  · rw [← bP_t h]; rfl
  · rw [← bP_f h]; rfl
theorem bP_fit {P : Prop} : fits .boolean (.int (bP P)) = true := by
  by_cases h : P
  · rw [← bP_t h]; rfl
  · rw [← bP_f h]; rfl
theorem bP_c {P Q : Prop} (h : P ↔ Q) : bP P = bP Q := by rw [propext h]
theorem bP_0 {P : Prop} : bP P = 0 ↔ ¬ P := by
  by_cases h : P
  · rw [← bP_t h]; exact ⟨fun q => absurd q (by decide), fun q => absurd h q⟩
  · rw [← bP_f h]; exact ⟨fun _ => h, fun _ => rfl⟩
noncomputable def pI (P : Prop) (a b : Int32) : Int32 := @ite _ P (Classical.propDecidable P) a b
theorem pI_t {P : Prop} {a b : Int32} (h : P) : pI P a b = a := by unfold pI; rw [if_pos h]
theorem pI_f {P : Prop} {a b : Int32} (h : ¬ P) : pI P a b = b := by unfold pI; rw [if_neg h]
section GOB
variable {obj : Nat → Lay} {N : Nat} {cc : ByteArray} {nL : Nat} {own : String} {fr lo : Nat} {X : GX} {pc : Nat} {lv : List (Option Value)} {st : List Value} {σ : Mem} {P : Prop}
theorem go_if_eqB (C : OkX obj N cc nL own fr lo X) {off : Int} (tgt : Nat) (d : decode cc pc = .ok (.ifCond .eq off, 3)) (ht : (pc : Int) + off = (tgt : Int)) (kt : ¬ P → Go obj N X tgt lv st σ) (kf : P → Go obj N X (pc + 3) lv st σ) : Go obj N X pc lv (.int (bP P) :: st) σ := go_if_eq C tgt d ht (fun h => kt (bP_0.mp h)) (fun h => kf (Classical.byContradiction fun q => h (bP_0.mpr q)))
theorem go_if_neB (C : OkX obj N cc nL own fr lo X) {off : Int} (tgt : Nat) (d : decode cc pc = .ok (.ifCond .ne off, 3)) (ht : (pc : Int) + off = (tgt : Int)) (kt : P → Go obj N X tgt lv st σ) (kf : ¬ P → Go obj N X (pc + 3) lv st σ) : Go obj N X pc lv (.int (bP P) :: st) σ := go_if_ne C tgt d ht (fun h => kt (Classical.byContradiction fun q => h (bP_0.mpr q))) (fun h => kf (bP_0.mp h))
end GOB
/-- x is one of 0 .. n - 1 -/
def rng (n : Nat) (x : Int32) : Prop := ¬ x < 0 ∧ ¬ nI n ≤ x
theorem rng_nat {n : Nat} {x : Int32} (hn : n < 2 ^ 31) (h : rng n x) : ∃ a : Nat, a < n ∧ x = nI a := by
  obtain ⟨h1, h2⟩ := h
  obtain ⟨a, ha, rfl⟩ := nI_of h1
  refine ⟨a, ?_, rfl⟩
  apply Classical.byContradiction
  intro q
  exact h2 (nI_le (by omega) ha)
theorem rng_nI {n a : Nat} (hn : n < 2 ^ 31) (ha : a < n) : rng n (nI a) := ⟨nI_pos (by omega), nI_ge ha hn⟩
theorem rng_iff {n a : Nat} (hn : n < 2 ^ 31) (ha : a < 2 ^ 31) : rng n (nI a) ↔ a < n := ⟨fun h => by
  obtain ⟨b, hb, e⟩ := rng_nat hn h
  rw [(nI_eq ha (by omega)).mp e]; exact hb, fun h => rng_nI hn h⟩
def isC (x y z : Int32) : Prop := rng 12 x ∧ rng 8 y ∧ rng 12 z
theorem isC_nI {a b c : Nat} (ha : a < 12) (hb : b < 8) (hc : c < 12) : isC (nI a) (nI b) (nI c) := ⟨rng_nI (by decide) ha, rng_nI (by decide) hb, rng_nI (by decide) hc⟩
def ixC (x y z : Int32) : Nat := cel x.toNatClampNeg y.toNatClampNeg z.toNatClampNeg
theorem ixC_nI {a b c : Nat} (ha : a < 12) (hb : b < 8) (hc : c < 12) : ixC (nI a) (nI b) (nI c) = cel a b c := by
  unfold ixC; rw [nI_clamp (by omega), nI_clamp (by omega), nI_clamp (by omega)]
