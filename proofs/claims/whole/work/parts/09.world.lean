/-! A world: types, losses, emissions; how both systems hold one; its light. -/
abbrev Wd := (Nat → Nat) × (Nat → Nat) × (Nat → Nat)
def wT (w : Wd) : Nat → Nat := w.1
def wL (w : Wd) : Nat → Nat := w.2.1
def wE (w : Wd) : Nat → Nat := w.2.2
def OkW (w : Wd) : Prop := (∀ j, j < 1152 → wT w j < 8) ∧ (∀ j, j < 32 → wL w j < 16) ∧ (∀ j, j < 32 → wE w j < 16) ∧ ∀ t, t < 8 → wE w (4 * t + 3) = 0
def HasW (σ : Mem) (b : Nat) (w : Wd) : Prop := (∀ j, j < 1152 → σ (b + 1) j = nI (wT w j)) ∧ (∀ j, j < 32 → σ (b + 2) j = nI (wL w j)) ∧ ∀ j, j < 32 → σ (b + 3) j = nI (wE w j)
def HasM (τ : Mem) (k o : Nat) (w : Wd) : Prop := (∀ j, j < 1152 → τ k (o + j) = nI (wT w j)) ∧ (∀ j, j < 32 → τ k (o + (1152 + j)) = nI (wL w j)) ∧ ∀ j, j < 32 → τ k (o + (1184 + j)) = nI (wE w j)
theorem HasW.of {σ τ : Mem} {b : Nat} {w : Wd} (h : HasW σ b w) (h1 : τ (b + 1) = σ (b + 1)) (h2 : τ (b + 2) = σ (b + 2)) (h3 : τ (b + 3) = σ (b + 3)) : HasW τ b w := by
  unfold HasW
  rw [h1, h2, h3]
  exact h
theorem HasM.of {σ τ : Mem} {k o : Nat} {w : Wd} (h : HasM σ k o w) (h1 : τ k = σ k) : HasM τ k o w := by
  unfold HasM
  rw [h1]
  exact h
def lossN (w : Wd) (c n : Nat) : Nat := wL w (4 * wT w n + c)
def emN (w : Wd) (c n : Nat) : Nat := wE w (4 * wT w n + c)
theorem lossN_lt {w : Wd} (h : OkW w) {c n : Nat} (hc : c < 4) (hn : n < 1152) : lossN w c n < 16 := h.2.1 _ (by have := h.1 n hn; omega)
theorem emN_lt {w : Wd} (h : OkW w) {c n : Nat} (hc : c < 4) (hn : n < 1152) : emN w c n < 16 := h.2.2.1 _ (by have := h.1 n hn; omega)
theorem emN_3 {w : Wd} (h : OkW w) {n : Nat} (hn : n < 1152) : emN w 3 n = 0 := h.2.2.2 _ (h.1 n hn)
/-- the light that a cell has by itself, in a channel; in the cell q it is e in place of its emission (q is no cell: nowhere) -/
def srcQ (w : Wd) (c q e : Nat) (n : Nat) : Nat := if c = 3 then sunS (lossN w 3) n else if n = q then e else emN w c n
theorem srcQ_le {w : Wd} (h : OkW w) {c q e : Nat} (hc : c < 4) (he : e < 16) : ∀ n, n < 1152 → srcQ w c q e n ≤ 15 := by
  intro n hn
  unfold srcQ
  split
  · exact sunS_le n
  · split
    · omega
    · have := emN_lt h hc hn; omega
noncomputable def litQ (w : Wd) (c q e : Nat) : Nat → Nat := lfp (srcQ w c q e) (lossN w c)
noncomputable def lit (w : Wd) (c : Nat) : Nat → Nat := litQ w c 1152 0
def IsLQ (w : Wd) (c q e : Nat) (f : Nat → Nat) : Prop := IsLit (srcQ w c q e) (lossN w c) f
