/-! The state, and how both systems hold it. -/
abbrev St := Wd × (Nat → Prop) × Option (List (Nat × Nat)) × List Wd × Option Wd × List Nat × Int32
def sW (S : St) : Wd := S.1
def sE (S : St) : Nat → Prop := S.2.1
def sB (S : St) : Option (List (Nat × Nat)) := S.2.2.1
def sH (S : St) : List Wd := S.2.2.2.1
def sS (S : St) : Option Wd := S.2.2.2.2.1
def sX (S : St) : List Nat := S.2.2.2.2.2.1
def sF (S : St) : Int32 := S.2.2.2.2.2.2
def OkL (w : Wd) : Prop := ∀ c, c < 4 → IsLit (srcQ w c 1152 0) (lossN w c) (lit w c)
def OkB (b : Option (List (Nat × Nat))) : Prop := ∀ es, b = some es → es.length ≤ 40 ∧ ∀ p, p ∈ es → p.1 < 1152 ∧ p.2 < 8
def OkS (S : St) : Prop := OkW (sW S) ∧ OkL (sW S) ∧ OkB (sB S) ∧ ((sH S).length ≤ 6 ∧ ∀ w, w ∈ sH S → OkW w) ∧ (∀ w, sS S = some w → OkW w) ∧ (sX S).length ≤ 60 ∧ ∀ ch, ch ∈ sX S → 33 ≤ ch ∧ ch < 127
def LitC (σ : Mem) (L : Nat → Nat → Nat) : Prop := ∀ c, c < 4 → ∀ j, j < 1152 → σ (6 + c) j = nI (L c j)
def LitM (τ : Mem) (L : Nat → Nat → Nat) : Prop := ∀ c, c < 4 → ∀ j, j < 1152 → τ 4 (1152 * c + j) = nI (L c j)
def EffC (σ : Mem) (E : Nat → Prop) : Prop := (∀ j, j < 1152 → σ 16 j = bP (E j)) ∧ σ 0 6 = nI (cnt E 1152)
def EffM (τ : Mem) (E : Nat → Prop) : Prop := ∀ j, j < 1152 → τ 5 j = bP (E j)
def BatC (σ : Mem) : Option (List (Nat × Nat)) → Prop
  | none => σ 17 3 = nI 0 ∧ σ 17 2 = nI 0
  | some es => σ 17 3 = nI 1 ∧ σ 17 2 = nI es.length ∧ ∀ i p, es[i]? = some p → σ 18 i = nI p.1 ∧ σ 19 i = nI p.2
def BatM (τ : Mem) : Option (List (Nat × Nat)) → Prop
  | none => τ 0 11 = nI 0
  | some es => τ 0 11 = nI 1 ∧ τ 0 12 = nI es.length ∧ ∀ i p, es[i]? = some p → τ 7 i = nI p.1 ∧ τ 8 i = nI p.2
def HisC (σ : Mem) (hs : List Wd) : Prop := ∃ nw, nw < 6 ∧ σ 20 1 = nI nw ∧ σ 20 2 = nI hs.length ∧ ∀ i w, hs[i]? = some w → HasW σ (22 + 4 * ((nw + 6 - i) % 6)) w
def HisM (τ : Mem) (hs : List Wd) : Prop := τ 0 4 = nI hs.length ∧ ∀ i w, hs[i]? = some w → HasM τ 3 (1216 * (hs.length - 1 - i)) w
def SavC (σ : Mem) : Option Wd → Prop
  | none => σ 0 10 = nI 0
  | some w => σ 0 10 = nI 1 ∧ HasW σ 46 w
def SavM (τ : Mem) : Option Wd → Prop
  | none => τ 0 2 = nI 0
  | some w => τ 0 2 = nI 1 ∧ HasM τ 2 0 w
def TxtC (σ : Mem) (cs : List Nat) : Prop := σ 50 1 = nI cs.length ∧ ∀ i ch, cs[i]? = some ch → σ 51 i = nI ch
def TxtM (τ : Mem) (cs : List Nat) : Prop := τ 0 15 = nI cs.length ∧ ∀ i ch, cs[i]? = some ch → τ 9 i = nI ch
def RepC (σ : Mem) (S : St) : Prop := OkS S ∧ HasW σ 1 (sW S) ∧ LitC σ (lit (sW S)) ∧ EffC σ (sE S) ∧ BatC σ (sB S) ∧ HisC σ (sH S) ∧ SavC σ (sS S) ∧ TxtC σ (sX S) ∧ σ 0 12 = sF S
def RepM (τ : Mem) (S : St) : Prop := OkS S ∧ HasM τ 1 0 (sW S) ∧ LitM τ (lit (sW S)) ∧ EffM τ (sE S) ∧ BatM τ (sB S) ∧ HisM τ (sH S) ∧ SavM τ (sS S) ∧ TxtM τ (sX S) ∧ τ 0 17 = sF S ∧ τ 0 8 = -1
theorem BatC.of {σ τ : Mem} {b : Option (List (Nat × Nat))} (h : BatC σ b) (h1 : τ 17 = σ 17) (h2 : τ 18 = σ 18) (h3 : τ 19 = σ 19) : BatC τ b := by
  cases b <;> (simp only [BatC] at h ⊢; rw [h1]; first | exact h | (rw [h2, h3]; exact h))
theorem HisC.of {σ τ : Mem} {hs : List Wd} (h : HisC σ hs) (hf : ∀ q, 20 ≤ q → q < 46 → τ q = σ q) : HisC τ hs := by
  obtain ⟨nw, h0, h1, h2, h3⟩ := h
  refine ⟨nw, h0, by rw [hf 20 (by decide) (by decide)]; exact h1, by rw [hf 20 (by decide) (by decide)]; exact h2, fun i w hw => (h3 i w hw).of (hf _ (by omega) (by omega)) (hf _ (by omega) (by omega)) (hf _ (by omega) (by omega))⟩
theorem SavC.of {σ τ : Mem} {s : Option Wd} (h : SavC σ s) (h0 : τ 0 10 = σ 0 10) (hf : ∀ q, 46 ≤ q → q < 50 → τ q = σ q) : SavC τ s := by
  cases s with
  | none => simp only [SavC] at h ⊢; rw [h0]; exact h
  | some w => simp only [SavC] at h ⊢; rw [h0]; exact ⟨h.1, h.2.of (hf _ (by decide) (by decide)) (hf _ (by decide) (by decide)) (hf _ (by decide) (by decide))⟩
theorem TxtC.of {σ τ : Mem} {cs : List Nat} (h : TxtC σ cs) (h1 : τ 50 1 = σ 50 1) (h2 : τ 51 = σ 51) : TxtC τ cs := by
  unfold TxtC
  rw [h1, h2]
  exact h
/-- the scratch rows of the class -/
theorem RepC.fr {σ τ : Mem} {S : St} (h : RepC σ S) (hf : ∀ q, q < 65 → (q < 10 ∨ 15 < q) → τ q = σ q) : RepC τ S := by
  obtain ⟨h1, h2, h3, h4, h5, h6, h7, h8, h9⟩ := h
  refine ⟨h1, h2.of (hf 2 (by decide) (by decide)) (hf 3 (by decide) (by decide)) (hf 4 (by decide) (by decide)), fun c hc j hj => by rw [hf (6 + c) (by omega) (by omega)]; exact h3 c hc j hj, ⟨fun j hj => by rw [hf 16 (by decide) (by decide)]; exact h4.1 j hj, by rw [hf 0 (by decide) (by decide)]; exact h4.2⟩,
    h5.of (hf 17 (by decide) (by decide)) (hf 18 (by decide) (by decide)) (hf 19 (by decide) (by decide)), h6.of (fun q a b => hf q (by omega) (by omega)), h7.of (by rw [hf 0 (by decide) (by decide)]) (fun q a b => hf q (by omega) (by omega)), h8.of (by rw [hf 50 (by decide) (by decide)]) (hf 51 (by decide) (by decide)), by rw [hf 0 (by decide) (by decide)]; exact h9⟩
theorem BatM.of {σ τ : Mem} {b : Option (List (Nat × Nat))} (h : BatM σ b) (h0 : τ 0 11 = σ 0 11) (h1 : τ 0 12 = σ 0 12) (h2 : τ 7 = σ 7) (h3 : τ 8 = σ 8) : BatM τ b := by
  cases b <;> (simp only [BatM] at h ⊢; rw [h0]; first | exact h | (rw [h1, h2, h3]; exact h))
theorem HisM.of {σ τ : Mem} {hs : List Wd} (h : HisM σ hs) (h0 : τ 0 4 = σ 0 4) (h3 : τ 3 = σ 3) : HisM τ hs := ⟨by rw [h0]; exact h.1, fun i w hw => (h.2 i w hw).of h3⟩
theorem SavM.of {σ τ : Mem} {s : Option Wd} (h : SavM σ s) (h0 : τ 0 2 = σ 0 2) (h2 : τ 2 = σ 2) : SavM τ s := by
  cases s with
  | none => simp only [SavM] at h ⊢; rw [h0]; exact h
  | some w => simp only [SavM] at h ⊢; rw [h0]; exact ⟨h.1, h.2.of h2⟩
theorem TxtM.of {σ τ : Mem} {cs : List Nat} (h : TxtM σ cs) (h1 : τ 0 15 = σ 0 15) (h2 : τ 9 = σ 9) : TxtM τ cs := by
  unfold TxtM
  rw [h1, h2]
  exact h
theorem RepM.fr {σ τ : Mem} {S : St} (h : RepM σ S) (hf : ∀ q, q < 13 → q ≠ 0 → q ≠ 6 → q ≠ 10 → q ≠ 11 → q ≠ 12 → τ q = σ q) (h0 : ∀ i, i = 2 ∨ i = 4 ∨ i = 8 ∨ i = 11 ∨ i = 12 ∨ i = 15 ∨ i = 17 → τ 0 i = σ 0 i) : RepM τ S := by
  obtain ⟨h1, h2, h3, h4, h5, h6, h7, h8, h9, h10⟩ := h
  have f : ∀ q, q = 1 ∨ q = 2 ∨ q = 3 ∨ q = 4 ∨ q = 5 ∨ q = 7 ∨ q = 8 ∨ q = 9 → τ q = σ q := fun q hq => hf q (by omega) (by omega) (by omega) (by omega) (by omega) (by omega)
  refine ⟨h1, h2.of (f 1 (by decide)), fun c hc j hj => by rw [f 4 (by decide)]; exact h3 c hc j hj, fun j hj => by rw [f 5 (by decide)]; exact h4 j hj, h5.of (h0 11 (by decide)) (h0 12 (by decide)) (f 7 (by decide)) (f 8 (by decide)), h6.of (h0 4 (by decide)) (f 3 (by decide)), h7.of (h0 2 (by decide)) (f 2 (by decide)), h8.of (h0 15 (by decide)) (f 9 (by decide)), by rw [h0 17 (by decide)]; exact h9, by rw [h0 8 (by decide)]; exact h10⟩
theorem RepM.V {τ : Mem} {S : St} (h : RepM τ S) : View τ (sW S) 1152 1152 0 := by
  obtain ⟨h1, h2, h3, h4, h5, h6, h7, h8, h9, h10⟩ := h
  refine ⟨fun k hk => ⟨fun q => absurd (q.trans h10) (oI_ne (by omega)), fun q => absurd q (by omega)⟩, fun k hk _ => by have := h2.1 k hk; rw [Nat.zero_add] at this; exact this, fun k hk q => absurd q (by omega), fun j hj => by have := h2.2.1 j hj; rw [Nat.zero_add] at this; exact this, fun j hj => by have := h2.2.2 j hj; rw [Nat.zero_add] at this; exact this, Or.inl ⟨Nat.le_refl _, Nat.le_refl _⟩⟩
/-- an answer, and the state behind it -/
def RQ (v : Int32) (S : St) : Int32 → Mem → Prop := fun r τ => r = v ∧ RepC τ S
def RQM (v : Int32) (S : St) : Int32 → Mem → Prop := fun r τ => r = v ∧ RepM τ S
theorem hoL {c : Nat} (hc : c < 4) : objC (6 + c) = .inr (.inl (0, 1152)) := by
  rcases (show c = 0 ∨ c = 1 ∨ c = 2 ∨ c = 3 by omega) with rfl | rfl | rfl | rfl <;> rfl
theorem jsL {c : Nat} (hc : c < 4) : [6, 7, 8, 9][c]? = some (6 + c) := by
  rcases (show c = 0 ∨ c = 1 ∨ c = 2 ∨ c = 3 by omega) with rfl | rfl | rfl | rfl <;> rfl
theorem lit_lt {w : Wd} (h : OkL w) {c j : Nat} (hc : c < 4) (hj : j < 1152) : lit w c j < 16 := by have := ((h c hc).1 j hj).2; omega
