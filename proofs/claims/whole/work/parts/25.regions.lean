/-! Regions, purely. -/
def rm (op : Nat → Prop) (m : Nat) : Nat → Prop := fun j => op j ∧ j ≠ m
noncomputable def bfsD (c : Nat) : Nat → Nat → (Nat → Prop) × List Nat → (Nat → Prop) × List Nat
  | 0, _, s => s
  | n + 1, d, s => match nbr c d with
    | none => bfsD c n (d + 1) s
    | some m => @ite _ (s.1 m) (Classical.propDecidable _) (bfsD c n (d + 1) (rm s.1 m, s.2 ++ [m])) (bfsD c n (d + 1) s)
noncomputable def bfs : Nat → (Nat → Prop) → List Nat → (Nat → Prop)
  | 0, op, _ => op
  | _ + 1, op, [] => op
  | n + 1, op, c :: q => bfs n (bfsD c 6 0 (op, q)).1 (bfsD c 6 0 (op, q)).2
theorem bfs_nil {op : Nat → Prop} : ∀ n, bfs n op [] = op
  | 0 => rfl
  | _ + 1 => rfl
theorem bfsD_n {c n d : Nat} {s : (Nat → Prop) × List Nat} (h : nbr c d = none) : bfsD c (n + 1) d s = bfsD c n (d + 1) s := by rw [bfsD, h]
theorem bfsD_f {c n d m : Nat} {s : (Nat → Prop) × List Nat} (h : nbr c d = some m) (h2 : ¬ s.1 m) : bfsD c (n + 1) d s = bfsD c n (d + 1) s := by rw [bfsD, h]; exact if_neg h2
theorem bfsD_t {c n d m : Nat} {s : (Nat → Prop) × List Nat} (h : nbr c d = some m) (h2 : s.1 m) : bfsD c (n + 1) d s = bfsD c n (d + 1) (rm s.1 m, s.2 ++ [m]) := by rw [bfsD, h]; exact if_pos h2
def op0 (w : Wd) (l : Nat) : Nat → Prop := fun j => l ≤ lit w 0 j ∨ l ≤ lit w 1 j ∨ l ≤ lit w 2 j
noncomputable def regF (w : Wd) (l : Nat) : Nat → (Nat → Prop) × Nat
  | 0 => (op0 w l, 0)
  | k + 1 => @ite _ ((regF w l k).1 k) (Classical.propDecidable _) (bfs 1152 (rm (regF w l k).1 k) [k], (regF w l k).2 + 1) (regF w l k)
theorem regF_t {w : Wd} {l k : Nat} (h : (regF w l k).1 k) : regF w l (k + 1) = (bfs 1152 (rm (regF w l k).1 k) [k], (regF w l k).2 + 1) := by rw [regF]; exact if_pos h
theorem regF_f {w : Wd} {l k : Nat} (h : ¬ (regF w l k).1 k) : regF w l (k + 1) = regF w l k := by rw [regF]; exact if_neg h
def lvR (x : Int32) : Prop := ¬ x < nI 1 ∧ ¬ nI 15 < x
noncomputable def aRegions (S : St) (x : Int32) : Int32 := pI (lvR x) (nI (regF (sW S) x.toNatClampNeg 1152).2) (-2)
theorem lvR_nat {x : Int32} (h : lvR x) : ∃ l : Nat, 1 ≤ l ∧ l < 16 ∧ x = nI l := by
  obtain ⟨h1, h2⟩ := h
  have h0 : ¬ x < 0 := fun q => h1 (Int32.lt_trans q (by decide))
  obtain ⟨l, hl, rfl⟩ := nI_of h0
  refine ⟨l, ?_, ?_, rfl⟩
  · apply Classical.byContradiction
    intro q
    exact h1 (nI_lt (by omega) (by decide))
  · apply Classical.byContradiction
    intro q
    exact h2 (nI_lt (by omega) hl)
theorem cnt_rm {op : Nat → Prop} {m : Nat} (h : op m) (hm : m < 1152) : cnt (rm op m) 1152 + 1 = cnt op 1152 :=
  (cnt_add (p := rm op m) (q := op) (k := m) (fun q => q.2 rfl) h (fun j hj => ⟨fun q => q.1, fun q => ⟨q, hj⟩⟩) 1152 hm).symm
section GOB2
variable {obj : Nat → Lay} {N : Nat} {cc : ByteArray} {nL : Nat} {own : String} {fr lo : Nat} {X : GX} {pc : Nat} {lv : List (Option Value)} {st : List Value} {σ : Mem} {P : Prop}
theorem bP_1 {P : Prop} : bP P = nI 1 ↔ P := by
  by_cases h : P
  · rw [← bP_t h]; exact ⟨fun _ => h, fun _ => rfl⟩
  · rw [← bP_f h]; exact ⟨fun q => absurd q (by decide), fun q => absurd q h⟩
theorem go_icmp_neB (C : OkX obj N cc nL own fr lo X) {off : Int} (tgt : Nat) (d : decode cc pc = .ok (.if_icmp .ne off, 3)) (ht : (pc : Int) + off = (tgt : Int)) (kt : ¬ P → Go obj N X tgt lv st σ) (kf : P → Go obj N X (pc + 3) lv st σ) : Go obj N X pc lv (.int (nI 1) :: .int (bP P) :: st) σ := go_icmp_ne C tgt d ht (fun h => kt (fun q => h (bP_1.mpr q))) (fun h => kf (bP_1.mp h))
end GOB2
theorem updP {f : Nat → Int32} {op : Nat → Prop} {m : Nat} (h : ∀ j, j < 1152 → f j = bP (op j)) : ∀ j, j < 1152 → upd f m (nI 0) j = bP (rm op m j) := fun j hj => by
  by_cases e : j = m
  · subst e; rw [pk_us]; exact bP_f (fun q => q.2 rfl)
  · rw [pk_un e, h j hj]; exact bP_c ⟨fun q => ⟨q, e⟩, fun q => q.1⟩
