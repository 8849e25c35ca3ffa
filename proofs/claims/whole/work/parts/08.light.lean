/-! Light, purely: what it is, that it is one, how it is raised. -/
theorem nbr_sym {n d m : Nat} (hn : n < 1152) (h : nbr n d = some m) : ∃ e, e < 6 ∧ nbr m e = some n := by
  unfold nbr cX cY cZ at h
  split at h <;> first | (cases h; done) | skip
  · split at h
    · cases h; refine ⟨1, by decide, ?_⟩; show (if cX (n - 1) < 11 then some (n - 1 + 1) else none) = some n; rw [if_pos (by unfold cX; omega)]; congr 1; omega
    · cases h
  · split at h
    · cases h; refine ⟨0, by decide, ?_⟩; show (if 0 < cX (n + 1) then some (n + 1 - 1) else none) = some n; rw [if_pos (by unfold cX; omega)]; congr 1
    · cases h
  · split at h
    · cases h; refine ⟨3, by decide, ?_⟩; show (if cY (n - 12) < 7 then some (n - 12 + 12) else none) = some n; rw [if_pos (by unfold cY; omega)]; congr 1; omega
    · cases h
  · split at h
    · cases h; refine ⟨2, by decide, ?_⟩; show (if 0 < cY (n + 12) then some (n + 12 - 12) else none) = some n; rw [if_pos (by unfold cY; omega)]; congr 1
    · cases h
  · split at h
    · cases h; refine ⟨5, by decide, ?_⟩; show (if cZ (n - 96) < 11 then some (n - 96 + 96) else none) = some n; rw [if_pos (by unfold cZ; omega)]; congr 1; omega
    · cases h
  · split at h
    · cases h; refine ⟨4, by decide, ?_⟩; show (if 0 < cZ (n + 96) then some (n + 96 - 96) else none) = some n; rw [if_pos (by unfold cZ; omega)]; congr 1
    · cases h
theorem nbr_ne {n d m : Nat} (h : nbr n d = some m) : n ≠ m := by
  unfold nbr cX cY cZ at h
  split at h <;> first | (cases h; done) | (split at h <;> first | (cases h; done) | (cases h; omega))
theorem nbr_d {n d m : Nat} (h : nbr n d = some m) : d < 6 := by
  unfold nbr at h
  split at h <;> first | (cases h; done) | decide
def IsLit (src ls f : Nat → Nat) : Prop :=
  (∀ n, n < 1152 → src n ≤ f n ∧ f n ≤ 15) ∧ (∀ n, n < 1152 → ∀ d m, nbr n d = some m → f m ≤ f n + 1 + ls n) ∧ (∀ n, n < 1152 → 0 < f n → f n = src n ∨ ∃ d m, nbr n d = some m ∧ f m = f n + 1 + ls n)
theorem lit_le {src ls f g : Nat → Nat} (hb : ∀ n, n < 1152 → f n ≤ 15) (hf : ∀ n, n < 1152 → 0 < f n → f n = src n ∨ ∃ d m, nbr n d = some m ∧ f m = f n + 1 + ls n) (hs : ∀ n, n < 1152 → src n ≤ g n) (hc : ∀ n, n < 1152 → ∀ d m, nbr n d = some m → g m ≤ g n + 1 + ls n) : ∀ n, n < 1152 → f n ≤ g n := by
  have key : ∀ k n, n < 1152 → 15 - f n ≤ k → f n ≤ g n := by
    intro k
    induction k with
    | zero =>
      intro n hn hk
      have h15 : f n = 15 := by have := hb n hn; omega
      rcases hf n hn (by omega) with h | ⟨d, m, h1, h2⟩
      · rw [h]; exact hs n hn
      · have := hb m (nbr_lt hn h1); omega
    | succ k ih =>
      intro n hn hk
      rcases Nat.eq_zero_or_pos (f n) with h0 | h0
      · omega
      · rcases hf n hn h0 with h | ⟨d, m, h1, h2⟩
        · rw [h]; exact hs n hn
        · have hm := nbr_lt hn h1
          have h3 := ih m hm (by have := hb m hm; omega)
          have h4 := hc n hn d m h1
          omega
  exact fun n hn => key _ n hn (Nat.le_refl _)
theorem lit_one {src ls f g : Nat → Nat} (hf : IsLit src ls f) (hg : IsLit src ls g) : ∀ n, n < 1152 → f n = g n := fun n hn =>
  Nat.le_antisymm (lit_le (fun n h => (hf.1 n h).2) hf.2.2 (fun n h => (hg.1 n h).1) hg.2.1 n hn) (lit_le (fun n h => (hg.1 n h).2) hg.2.2 (fun n h => (hf.1 n h).1) hf.2.1 n hn)
noncomputable def lfp (src ls : Nat → Nat) : Nat → Nat := @dite _ (∃ f, IsLit src ls f) (Classical.propDecidable _) (fun h => Classical.choose h) (fun _ => fun _ => 0)
theorem lfp_is {src ls f : Nat → Nat} (h : IsLit src ls f) : IsLit src ls (lfp src ls) := by
  unfold lfp
  rw [dif_pos ⟨f, h⟩]
  exact Classical.choose_spec (⟨f, h⟩ : ∃ f, IsLit src ls f)
theorem lfp_eq {src ls f : Nat → Nat} (h : IsLit src ls f) {n : Nat} (hn : n < 1152) : f n = lfp src ls n := lit_one h (lfp_is h) n hn
theorem isLit_c {src ls src' ls' f f' : Nat → Nat} (h1 : ∀ n, n < 1152 → src n = src' n) (h2 : ∀ n, n < 1152 → ls n = ls' n) (h3 : ∀ n, n < 1152 → f n = f' n) (h : IsLit src ls f) : IsLit src' ls' f' := by
  refine ⟨fun n hn => ?_, fun n hn d m hd => ?_, fun n hn h0 => ?_⟩
  · rw [← h1 n hn, ← h3 n hn]; exact h.1 n hn
  · rw [← h2 n hn, ← h3 n hn, ← h3 m (nbr_lt hn hd)]; exact h.2.1 n hn d m hd
  · rw [← h3 n hn] at h0
    rw [← h1 n hn, ← h2 n hn, ← h3 n hn]
    rcases h.2.2 n hn h0 with q | ⟨d, m, q1, q2⟩
    · exact Or.inl q
    · exact Or.inr ⟨d, m, q1, by rw [← h3 m (nbr_lt hn q1)]; exact q2⟩
/-- one value of a function of numbers put anew -/
def un (f : Nat → Nat) (k v : Nat) : Nat → Nat := fun j => if j = k then v else f j
theorem un_s {f : Nat → Nat} {k v : Nat} : un f k v k = v := if_pos rfl
theorem un_n {f : Nat → Nat} {k v j : Nat} (h : j ≠ k) : un f k v j = f j := if_neg h
/-- while the level lv is gone through: D tells which pairs are done -/
def PI (src ls : Nat → Nat) (lv : Nat) (f : Nat → Nat) (D : Nat → Nat → Prop) : Prop :=
  (∀ n, n < 1152 → src n ≤ f n ∧ f n ≤ 15) ∧ (∀ n, n < 1152 → 0 < f n → f n = src n ∨ ∃ d m, nbr n d = some m ∧ f m = f n + 1 + ls n ∧ lv ≤ f m) ∧ (∀ n, n < 1152 → ∀ d m, nbr n d = some m → lv < f m → f m ≤ f n + 1 + ls n) ∧ (∀ m n, D m n → f m = lv → f m ≤ f n + 1 + ls n)
theorem PI_0 {src ls f : Nat → Nat} (h : ∀ n, n < 1152 → src n ≤ 15) (hf : ∀ n, n < 1152 → f n = src n) : PI src ls 15 f (fun _ _ => False) :=
  ⟨fun n hn => by rw [hf n hn]; exact ⟨Nat.le_refl _, h n hn⟩, fun n hn _ => Or.inl (hf n hn), fun n hn d m hd h15 => by
    have hm := nbr_lt hn hd
    have := h m hm
    rw [hf m hm] at h15
    omega, fun _ _ h => h.elim⟩
theorem PI_1 {src ls f : Nat → Nat} {D : Nat → Nat → Prop} (h : PI src ls 1 f D) : IsLit src ls f :=
  ⟨h.1, fun n hn d m hd => by
    rcases Nat.lt_or_ge 1 (f m) with q | q
    · exact h.2.2.1 n hn d m hd q
    · omega, fun n hn h0 => by
    rcases h.2.1 n hn h0 with q | ⟨d, m, q1, q2, -⟩
    · exact Or.inl q
    · exact Or.inr ⟨d, m, q1, q2⟩⟩
theorem PI_lv {src ls f : Nat → Nat} {lv : Nat} {D : Nat → Nat → Prop} (h : PI src ls (lv + 1) f D) (hD : ∀ m n d, m < 1152 → f m = lv + 1 → nbr m d = some n → D m n) : PI src ls lv f (fun _ _ => False) :=
  ⟨h.1, fun n hn h0 => by
    rcases h.2.1 n hn h0 with q | ⟨d, m, q1, q2, q3⟩
    · exact Or.inl q
    · exact Or.inr ⟨d, m, q1, q2, by omega⟩, fun n hn d m hd hm => by
    rcases Nat.lt_or_ge (lv + 1) (f m) with q | q
    · exact h.2.2.1 n hn d m hd q
    · have e : f m = lv + 1 := by omega
      obtain ⟨d', -, hd'⟩ := nbr_sym hn hd
      exact h.2.2.2 m n (hD m n d' (nbr_lt hn hd) e hd') e, fun _ _ h => h.elim⟩
/-- a neighbor gets what it can -/
def rse (f ls : Nat → Nat) (lv n : Nat) : Nat → Nat := un f n (max (f n) (lv - 1 - ls n))
theorem rse_ge {f ls : Nat → Nat} {lv n : Nat} (q : Nat) : f q ≤ rse f ls lv n q := by
  unfold rse
  by_cases h : q = n
  · subst h; rw [un_s]; exact Nat.le_max_left _ _
  · rw [un_n h]; exact Nat.le_refl _
theorem rse_hi {f ls : Nat → Nat} {lv n q : Nat} (h1 : 1 ≤ lv) (h : lv ≤ rse f ls lv n q) : rse f ls lv n q = f q := by
  unfold rse at h ⊢
  by_cases e : q = n
  · subst e
    rw [un_s] at h ⊢
    have : lv - 1 - ls q < lv := by omega
    rw [Nat.max_def] at h ⊢
    split at h <;> split <;> omega
  · rw [un_n e]
theorem rse_hi2 {f ls : Nat → Nat} {lv n q : Nat} (h1 : 1 ≤ lv) (h : lv ≤ f q) : rse f ls lv n q = f q := rse_hi h1 (Nat.le_trans h (rse_ge q))
theorem PI_rse {src ls f : Nat → Nat} {lv m n d : Nat} {D : Nat → Nat → Prop} (h : PI src ls lv f D) (h1 : 1 ≤ lv) (hm : m < 1152) (hfm : f m = lv) (hd : nbr m d = some n) : PI src ls lv (rse f ls lv n) (fun a b => D a b ∨ (a = m ∧ b = n)) := by
  have hn := nbr_lt hm hd
  have hlv : lv ≤ 15 := by rw [← hfm]; exact (h.1 m hm).2
  have hmm : rse f ls lv n m = lv := by rw [rse_hi2 h1 (by omega)]; exact hfm
  refine ⟨fun q hq => ⟨Nat.le_trans (h.1 q hq).1 (rse_ge q), ?_⟩, fun q hq h0 => ?_, fun q hq d' m' hd' hlt => ?_, fun a b hab ha => ?_⟩
  · have hq2 := (h.1 q hq).2
    unfold rse
    by_cases e : q = n
    · subst e; rw [un_s]; exact Nat.max_le.mpr ⟨hq2, by omega⟩
    · rw [un_n e]; exact hq2
  · have old : rse f ls lv n q = f q → rse f ls lv n q = src q ∨ ∃ d m, nbr q d = some m ∧ rse f ls lv n m = rse f ls lv n q + 1 + ls q ∧ lv ≤ rse f ls lv n m := by
      intro e
      rw [e] at h0 ⊢
      rcases h.2.1 q hq h0 with z | ⟨d', m', z1, z2, z3⟩
      · exact Or.inl z
      · exact Or.inr ⟨d', m', z1, by rw [rse_hi2 h1 z3]; exact z2, by rw [rse_hi2 h1 z3]; exact z3⟩
    by_cases e : q = n
    · subst e
      by_cases e2 : lv - 1 - ls q ≤ f q
      · exact old (by unfold rse; rw [un_s, Nat.max_eq_left e2])
      · have e3 : rse f ls lv q q = lv - 1 - ls q := by unfold rse; rw [un_s, Nat.max_eq_right (by omega)]
        obtain ⟨d', -, hd'⟩ := nbr_sym hm hd
        refine Or.inr ⟨d', m, hd', ?_, ?_⟩
        · rw [hmm, e3]; omega
        · rw [hmm]; exact Nat.le_refl _
    · exact old (by unfold rse; rw [un_n e])
  · have e := rse_hi h1 (Nat.le_of_lt hlt)
    rw [e] at hlt ⊢
    exact Nat.le_trans (h.2.2.1 q hq d' m' hd' hlt) (by have := rse_ge (f := f) (ls := ls) (lv := lv) (n := n) q; omega)
  · have e := rse_hi h1 (Nat.le_of_eq ha.symm)
    rcases hab with z | ⟨rfl, rfl⟩
    · rw [e] at ha ⊢
      exact Nat.le_trans (h.2.2.2 a b z ha) (by have := rse_ge (f := f) (ls := ls) (lv := lv) (n := n) b; omega)
    · rw [hmm]
      unfold rse
      rw [un_s]
      have := Nat.le_max_right (f b) (lv - 1 - ls b)
      omega
theorem PI_mono {src ls f : Nat → Nat} {lv : Nat} {D D' : Nat → Nat → Prop} (h : PI src ls lv f D) (hD : ∀ m n, D' m n → D m n) : PI src ls lv f D' := ⟨h.1, h.2.1, h.2.2.1, fun m n q => h.2.2.2 m n (hD m n q)⟩
/-! the sun's own light: straight down -/
def sunF (l3 : Nat → Nat) : Nat → Nat → Nat
  | 0, n => 15 - l3 n
  | k + 1, n => if l3 n = 0 ∧ sunF l3 k (n + 12) = 15 then 15 else 0
def sunS (l3 : Nat → Nat) (n : Nat) : Nat := sunF l3 (7 - cY n) n
theorem sunS_top {l3 : Nat → Nat} {n : Nat} (h : cY n = 7) : sunS l3 n = 15 - l3 n := by unfold sunS; rw [h]; rfl
theorem sunS_low {l3 : Nat → Nat} {n : Nat} (h : cY n < 7) : sunS l3 n = if l3 n = 0 ∧ sunS l3 (n + 12) = 15 then 15 else 0 := by
  have e : cY (n + 12) = cY n + 1 := by unfold cY at h ⊢; omega
  unfold sunS
  rw [e, show 7 - cY n = (7 - (cY n + 1)) + 1 by omega]
  rfl
theorem sunS_le {l3 : Nat → Nat} (n : Nat) : sunS l3 n ≤ 15 := by
  by_cases h : cY n = 7
  · rw [sunS_top h]; omega
  · have := cY_lt n
    rw [sunS_low (by omega)]
    split <;> omega
/-! counting -/
noncomputable def pN (P : Prop) : Nat := @ite _ P (Classical.propDecidable P) 1 0
theorem pN_t {P : Prop} (h : P) : pN P = 1 := by unfold pN; rw [if_pos h]
theorem pN_f {P : Prop} (h : ¬ P) : pN P = 0 := by unfold pN; rw [if_neg h]
theorem pN_c {P Q : Prop} (h : P ↔ Q) : pN P = pN Q := by rw [propext h]
theorem pN_le {P : Prop} : pN P ≤ 1 := by unfold pN; split <;> decide
noncomputable def cnt (p : Nat → Prop) : Nat → Nat
  | 0 => 0
  | n + 1 => cnt p n + pN (p n)
theorem cnt_le {p : Nat → Prop} : ∀ n, cnt p n ≤ n
  | 0 => Nat.le_refl 0
  | n + 1 => Nat.add_le_add (cnt_le n) pN_le
theorem cnt_c {p q : Nat → Prop} : ∀ n, (∀ j, j < n → (p j ↔ q j)) → cnt p n = cnt q n
  | 0, _ => rfl
  | n + 1, h => by
    show cnt p n + pN (p n) = cnt q n + pN (q n)
    rw [cnt_c n (fun j hj => h j (by omega)), pN_c (h n (by omega))]
/-- one more -/
theorem cnt_add {p q : Nat → Prop} {k : Nat} (hp : ¬ p k) (hq : q k) (h : ∀ j, j ≠ k → (p j ↔ q j)) : ∀ n, k < n → cnt q n = cnt p n + 1
  | 0, hk => absurd hk (Nat.not_lt_zero _)
  | n + 1, hk => by
    show cnt q n + pN (q n) = cnt p n + pN (p n) + 1
    rcases Nat.lt_or_ge k n with h1 | h1
    · rw [cnt_add hp hq h n h1, pN_c (h n (by omega))]; omega
    · have e : n = k := by omega
      subst e
      rw [cnt_c n (fun j hj => (h j (by omega)).symm), pN_t hq, pN_f hp]
theorem cnt_lt {p : Nat → Prop} {k n : Nat} (hp : ¬ p k) (hk : k < n) : cnt p n < n := by
  have h := cnt_add (p := p) (q := fun j => j = k ∨ p j) hp (Or.inl rfl) (fun j hj => ⟨Or.inr, fun q => q.elim (fun e => absurd e hj) id⟩) n hk
  have := cnt_le (p := fun j => j = k ∨ p j) n
  omega
theorem cnt_pos {p : Nat → Prop} {k n : Nat} (hp : p k) (hk : k < n) : 0 < cnt p n := by
  have h := cnt_add (p := fun j => j ≠ k ∧ p j) (q := p) (k := k) (fun q => q.1 rfl) hp (fun j hj => ⟨fun q => q.2, fun q => ⟨hj, q⟩⟩) n hk
  omega
