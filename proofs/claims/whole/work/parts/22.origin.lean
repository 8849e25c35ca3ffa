/-! Where a light comes from, purely. -/
def hit (w : Wd) (c k d : Nat) : Prop := ∃ j, nbr k d = some j ∧ lit w c j = lit w c k + 1 + lossN w c k
noncomputable def dirF (w : Wd) (c k : Nat) : Nat → Nat → Nat
  | 0, d => d
  | n + 1, d => @ite _ (hit w c k d) (Classical.propDecidable _) d (dirF w c k n (d + 1))
theorem dirF_t {w : Wd} {c k n d : Nat} (h : hit w c k d) : dirF w c k (n + 1) d = d := by unfold dirF; rw [if_pos h]
theorem dirF_f {w : Wd} {c k n d : Nat} (h : ¬ hit w c k d) : dirF w c k (n + 1) d = dirF w c k n (d + 1) := by rw [dirF, if_neg h]
theorem dirF_hit {w : Wd} {c k : Nat} : ∀ n d, (∃ e, d ≤ e ∧ e < d + n ∧ hit w c k e) → hit w c k (dirF w c k n d) ∧ dirF w c k n d < d + n
  | 0, d, ⟨e, h1, h2, _⟩ => absurd h2 (by omega)
  | n + 1, d, ⟨e, h1, h2, h3⟩ => by
    by_cases h : hit w c k d
    · rw [dirF_t h]; exact ⟨h, by omega⟩
    · rw [dirF_f h]
      have : e ≠ d := fun q => h (q ▸ h3)
      obtain ⟨a, b⟩ := dirF_hit n (d + 1) ⟨e, by omega, by omega, h3⟩
      exact ⟨a, by omega⟩
def o6 (w : Wd) (c k : Nat) : Prop := c ≠ 3 ∧ lit w c k = emN w c k
def o7 (w : Wd) (c k : Nat) : Prop := c = 3 ∧ cY k = 7 ∧ lit w c k = 15 - lossN w c k
def o8 (w : Wd) (c k : Nat) : Prop := c = 3 ∧ cY k < 7 ∧ lit w c k = 15 ∧ lit w c (k + 12) = 15 ∧ lossN w c k = 0
noncomputable def org (w : Wd) (c k : Nat) : Nat := @ite _ (o6 w c k) (Classical.propDecidable _) 6 (@ite _ (o7 w c k) (Classical.propDecidable _) 7 (@ite _ (o8 w c k) (Classical.propDecidable _) 8 (dirF w c k 6 0)))
theorem org_6 {w : Wd} {c k : Nat} (h : o6 w c k) : org w c k = 6 := by unfold org; rw [if_pos h]
theorem org_7 {w : Wd} {c k : Nat} (h6 : ¬ o6 w c k) (h : o7 w c k) : org w c k = 7 := by unfold org; rw [if_neg h6, if_pos h]
theorem org_8 {w : Wd} {c k : Nat} (h6 : ¬ o6 w c k) (h7 : ¬ o7 w c k) (h : o8 w c k) : org w c k = 8 := by unfold org; rw [if_neg h6, if_neg h7, if_pos h]
theorem org_d {w : Wd} {c k : Nat} (h6 : ¬ o6 w c k) (h7 : ¬ o7 w c k) (h8 : ¬ o8 w c k) : org w c k = dirF w c k 6 0 := by unfold org; rw [if_neg h6, if_neg h7, if_neg h8]
theorem org_ex {w : Wd} (hOL : OkL w) {c k : Nat} (hc : c < 4) (hk : k < 1152) (h0 : 0 < lit w c k) : o6 w c k ∨ o7 w c k ∨ o8 w c k ∨ ∃ d, d < 6 ∧ hit w c k d := by
  have h := hOL c hc
  rcases h.2.2 k hk h0 with q | ⟨d, m, q1, q2⟩
  · by_cases e : c = 3
    · subst e
      have hs : srcQ w 3 1152 0 k = sunS (lossN w 3) k := by unfold srcQ; rw [if_pos rfl]
      rw [hs] at q
      have hy8 := cY_lt k
      rcases Nat.lt_or_ge (cY k) 7 with hy | hy
      · rw [sunS_low hy] at q
        by_cases z : lossN w 3 k = 0 ∧ sunS (lossN w 3) (k + 12) = 15
        · rw [if_pos z] at q
          have hup : nbr k 3 = some (k + 12) := by show (if cY k < 7 then some (k + 12) else none) = _; rw [if_pos hy]
          have hk12 := nbr_lt hk hup
          have h15 := h.1 (k + 12) hk12
          have hs2 : srcQ w 3 1152 0 (k + 12) = sunS (lossN w 3) (k + 12) := by unfold srcQ; rw [if_pos rfl]
          rw [hs2, z.2] at h15
          exact Or.inr (Or.inr (Or.inl ⟨rfl, hy, q, by omega, z.1⟩))
        · rw [if_neg z] at q; omega
      · have hy7 : cY k = 7 := by omega
        rw [sunS_top hy7] at q
        exact Or.inr (Or.inl ⟨rfl, hy7, q⟩)
    · have hs : srcQ w c 1152 0 k = emN w c k := by unfold srcQ; rw [if_neg e, if_neg (by omega)]
      rw [hs] at q
      exact Or.inl ⟨e, q⟩
  · exact Or.inr (Or.inr (Or.inr ⟨d, nbr_d q1, m, q1, q2⟩))
/-- with an origin that is a neighbor -/
theorem org_hit {w : Wd} (hOL : OkL w) {c k : Nat} (hc : c < 4) (hk : k < 1152) (h0 : 0 < lit w c k) (h6 : ¬ o6 w c k) (h7 : ¬ o7 w c k) (h8 : ¬ o8 w c k) : hit w c k (dirF w c k 6 0) ∧ dirF w c k 6 0 < 6 := by
  rcases org_ex hOL hc hk h0 with q | q | q | ⟨d, q1, q2⟩
  · exact absurd q h6
  · exact absurd q h7
  · exact absurd q h8
  · have := dirF_hit (w := w) (c := c) (k := k) 6 0 ⟨d, Nat.zero_le _, by omega, q2⟩
    rw [Nat.zero_add] at this
    exact this
theorem org_lt {w : Wd} (hOL : OkL w) {c k : Nat} (hc : c < 4) (hk : k < 1152) (h0 : 0 < lit w c k) : org w c k < 9 ∧ (org w c k < 6 → hit w c k (org w c k)) ∧ (org w c k = 8 → o8 w c k) := by
  by_cases h6 : o6 w c k
  · rw [org_6 h6]; exact ⟨by decide, fun q => absurd q (by decide), fun q => absurd q (by decide)⟩
  · by_cases h7 : o7 w c k
    · rw [org_7 h6 h7]; exact ⟨by decide, fun q => absurd q (by decide), fun q => absurd q (by decide)⟩
    · by_cases h8 : o8 w c k
      · rw [org_8 h6 h7 h8]; exact ⟨by decide, fun q => absurd q (by decide), fun _ => h8⟩
      · rw [org_d h6 h7 h8]
        obtain ⟨a, b⟩ := org_hit hOL hc hk h0 h6 h7 h8
        exact ⟨by omega, fun _ => a, fun q => by omega⟩
noncomputable def orgI (w : Wd) (c k : Nat) : Int32 := if lit w c k = 0 then -4 else nI (org w c k)
noncomputable def giver (w : Wd) (c k : Nat) : Option Nat := if lit w c k = 0 then none else if org w c k = 8 then nbr k 3 else if org w c k < 6 then nbr k (org w c k) else none
noncomputable def mu (w : Wd) (c k : Nat) : Nat := (15 - lit w c k) * 8 + (7 - cY k)
theorem mu_lt {w : Wd} {c k : Nat} : mu w c k < 128 := by unfold mu; omega
theorem giver_ok {w : Wd} (hOL : OkL w) {c k j : Nat} (hc : c < 4) (hk : k < 1152) (h : giver w c k = some j) : j < 1152 ∧ 0 < lit w c k ∧ 0 < lit w c j ∧ mu w c j < mu w c k := by
  unfold giver at h
  split at h
  · cases h
  · rename_i h0
    obtain ⟨-, g6, g8⟩ := org_lt hOL hc hk (by omega)
    split at h
    · rename_i e8
      obtain ⟨a, b, c1, d, e⟩ := g8 e8
      have hn : nbr k 3 = some (k + 12) := by show (if cY k < 7 then some (k + 12) else none) = _; rw [if_pos b]
      rw [hn] at h
      cases h
      refine ⟨nbr_lt hk hn, by omega, by omega, ?_⟩
      have ey : cY (k + 12) = cY k + 1 := by unfold cY at *; omega
      unfold mu
      rw [ey, c1, d]
      omega
    · split at h
      · rename_i e8 e6
        obtain ⟨j2, q1, q2⟩ := g6 e6
        rw [q1] at h
        cases h
        have hj := nbr_lt hk q1
        have h15 := ((hOL c hc).1 j hj).2
        refine ⟨hj, by omega, by omega, ?_⟩
        have := cY_lt j
        unfold mu
        omega
      · cases h
noncomputable def wayS (w : Wd) (c : Nat) : Nat → Nat → Nat
  | 0, _ => 0
  | f + 1, k => match giver w c k with
    | none => 0
    | some j => wayS w c f j + 1
noncomputable def wayE (w : Wd) (c : Nat) : Nat → Nat → Nat
  | 0, k => k
  | f + 1, k => match giver w c k with
    | none => k
    | some j => wayE w c f j
theorem wayE_lt {w : Wd} (hOL : OkL w) {c : Nat} (hc : c < 4) : ∀ f k, k < 1152 → wayE w c f k < 1152
  | 0, k, h => h
  | f + 1, k, h => by
    unfold wayE
    split
    · exact h
    · rename_i j e
      exact wayE_lt hOL hc f j (giver_ok hOL hc h e).1
noncomputable def aOrigin (S : St) (x y z c : Int32) : Int32 := pI (isC x y z ∧ rng 4 c) (orgI (sW S) c.toNatClampNeg (ixC x y z)) (-1)
noncomputable def aWayL (S : St) (x y z c : Int32) : Int32 := pI (isC x y z ∧ rng 4 c) (if lit (sW S) c.toNatClampNeg (ixC x y z) = 0 then -4 else nI (wayS (sW S) c.toNatClampNeg 128 (ixC x y z))) (-1)
noncomputable def aWayE (S : St) (x y z c : Int32) : Int32 := pI (isC x y z ∧ rng 4 c) (if lit (sW S) c.toNatClampNeg (ixC x y z) = 0 then -4 else nI (cod (wayE (sW S) c.toNatClampNeg 128 (ixC x y z)))) (-1)
def crP (w : Wd) (c q o k : Nat) : Prop := chk k = q ∧ ∃ j, giver w c k = some j ∧ chk j = o
noncomputable def aCross (S : St) (q o c : Int32) : Int32 := pI (rng 9 q ∧ rng 9 o ∧ rng 4 c) (pI (q = o) (-2) (nI (cnt (crP (sW S) c.toNatClampNeg q.toNatClampNeg o.toNatClampNeg) 1152))) (-1)
def setT (w : Wd) (k t : Nat) : Wd := (un (wT w) k t, wL w, wE w)
noncomputable def sumN (f : Nat → Nat) : Nat → Nat
  | 0 => 0
  | n + 1 => sumN f n + f n
noncomputable def aLightIf (S : St) (x y z t c : Int32) : Int32 := pI (isC x y z ∧ rng 8 t ∧ rng 4 c) (nI (sumN (lit (setT (sW S) (ixC x y z) t.toNatClampNeg) c.toNatClampNeg) 1152)) (-1)
noncomputable def aSpread (S : St) (x y z c : Int32) : Int32 := pI (isC x y z ∧ rng 3 c) (nI (cnt (fun j => litQ (sW S) c.toNatClampNeg (ixC x y z) 0 j < lit (sW S) c.toNatClampNeg j) 1152)) (-1)
noncomputable def needF (w : Wd) (c k v : Nat) : Int32 := if v ≤ litQ w c k 0 (k + 12) then nI 0 else if v + 1 + lossN w c (k + 12) ≤ 15 then nI (v + 1 + lossN w c (k + 12)) else -4
noncomputable def aNeeded (S : St) (x y z c v : Int32) : Int32 := pI (isC x y z ∧ rng 3 c ∧ y ≠ nI 7) (pI (rng 16 v) (needF (sW S) c.toNatClampNeg (ixC x y z) v.toNatClampNeg) (-2)) (-1)
theorem setT_ok {w : Wd} (h : OkW w) {k t : Nat} (ht : t < 8) : OkW (setT w k t) := ⟨fun j hj => by
    show un (wT w) k t j < 8
    by_cases e : j = k
    · subst e; rw [un_s]; exact ht
    · rw [un_n e]; exact h.1 j hj, h.2.1, h.2.2.1, h.2.2.2⟩
theorem sub3 {a b l : Nat} (ha : a < 100) (hb : b < 100) (hl : l < 100) : nI a - nI 1 - nI b = nI l ↔ a = l + 1 + b := by
  have e : nI a - nI 1 - nI b = nI a - nI (1 + b) := by rw [← nI_add, Int32.sub_eq_add_neg, Int32.sub_eq_add_neg, Int32.sub_eq_add_neg, Int32.neg_add, Int32.sub_eq_add_neg, Int32.add_assoc]
  rw [e]
  constructor
  · intro h
    have h1 : (nI a - nI (1 + b)).toInt = (nI l).toInt := by rw [h]
    rw [pk_sub_toInt (by omega) (by omega), nI_toInt (by omega)] at h1
    omega
  · intro h
    subst h
    rw [pk_sub (by omega)]
    exact congrArg nI (by omega)
