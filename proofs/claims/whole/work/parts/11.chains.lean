/-! The lists of entries by levels, as the class holds them. -/
theorem dec_n {a : Nat} (h : 1 ≤ a) : nI a + Int32.ofInt (-1) = nI (a - 1) := by
  obtain ⟨b, rfl⟩ : ∃ b, a = b + 1 := ⟨a - 1, by omega⟩
  exact pk_m1 b
theorem dec_i (x : Int32) : x + Int32.ofInt (-1) = x - 1 := by rw [Int32.sub_eq_add_neg]; rfl
section GOO
variable {obj : Nat → Lay} {N : Nat} {cc : ByteArray} {nL : Nat} {own : String} {fr lo : Nat} {X : GX} {pc : Nat} {lv : List (Option Value)} {st : List Value} {σ : Mem} {o : Option Nat}
theorem oI_ne {j : Nat} (h : j < 2 ^ 31) : ¬ nI j = -1 := fun q => by
  have h1 : (nI j).toInt = (-1 : Int32).toInt := by rw [q]
  rw [nI_toInt h] at h1
  have h2 : (-1 : Int32).toInt = -1 := by decide
  omega
theorem go_icmp_eqO (C : OkX obj N cc nL own fr lo X) {off : Int} (tgt : Nat) (d : decode cc pc = .ok (.if_icmp .eq off, 3)) (ht : (pc : Int) + off = (tgt : Int)) (ho : ∀ j, o = some j → j < 2 ^ 31) (kt : o = none → Go obj N X tgt lv st σ) (kf : (∃ j, o = some j) → Go obj N X (pc + 3) lv st σ) : Go obj N X pc lv (.int (-1) :: .int (oI o) :: st) σ := go_icmp_eq C tgt d ht (fun h => kt (by
    cases o with
    | none => rfl
    | some j => exact absurd h (oI_ne (ho j rfl)))) (fun h => kf (by
    cases o with
    | none => exact absurd rfl h
    | some j => exact ⟨j, rfl⟩))
theorem go_icmp_neO (C : OkX obj N cc nL own fr lo X) {off : Int} (tgt : Nat) (d : decode cc pc = .ok (.if_icmp .ne off, 3)) (ht : (pc : Int) + off = (tgt : Int)) (ho : ∀ j, o = some j → j < 2 ^ 31) (kt : (∃ j, o = some j) → Go obj N X tgt lv st σ) (kf : o = none → Go obj N X (pc + 3) lv st σ) : Go obj N X pc lv (.int (-1) :: .int (oI o) :: st) σ := go_icmp_ne C tgt d ht (fun h => kt (by
    cases o with
    | none => exact absurd rfl h
    | some j => exact ⟨j, rfl⟩)) (fun h => kf (by
    cases o with
    | none => rfl
    | some j => exact absurd h (oI_ne (ho j rfl))))
end GOO
theorem sb_le {g l v : Nat} (hg : g < 2 ^ 30) (hl : l < 2 ^ 30) (hv : v < 2 ^ 30) : nI g - nI l ≤ nI v ↔ g ≤ v + l := by
  rw [Int32.le_iff_toInt_le, pk_sub_toInt hg hl, nI_toInt (by omega)]
  omega
def chn (nx ce : Nat → Int32) (E : Nat) : Int32 → List Nat → Prop
  | x, [] => x = -1
  | x, c :: cs => ∃ e, e < E ∧ x = nI e ∧ ce e = nI c ∧ chn nx ce E (nx e) cs
theorem chn_keep {nx ce nx' ce' : Nat → Int32} {E E' : Nat} (h : ∀ e, e < E → nx' e = nx e ∧ ce' e = ce e) (hE : E ≤ E') : ∀ (L : List Nat) (x : Int32), chn nx ce E x L → chn nx' ce' E' x L
  | [], _, q => q
  | c :: cs, x, ⟨e, q1, q2, q3, q4⟩ => ⟨e, Nat.lt_of_lt_of_le q1 hE, q2, by rw [(h e q1).2]; exact q3, by rw [(h e q1).1]; exact chn_keep h hE cs _ q4⟩
def FrL (σ τ : Mem) : Prop := ∀ q, q ≠ 10 → q ≠ 11 → q ≠ 12 → q ≠ 13 → q ≠ 14 → τ q = σ q
theorem FrL.refl {σ : Mem} : FrL σ σ := fun _ _ _ _ _ _ => rfl
theorem FrL.trans {σ τ ρ : Mem} (h1 : FrL σ τ) (h2 : FrL τ ρ) : FrL σ ρ := fun q a b c d e => (h2 q a b c d e).trans (h1 q a b c d e)
theorem FrL.W {σ τ : Mem} (h : FrL σ τ) {w : Wd} (hW : HasW σ 1 w) : HasW τ 1 w := hW.of (h 2 (by decide) (by decide) (by decide) (by decide) (by decide)) (h 3 (by decide) (by decide) (by decide) (by decide) (by decide)) (h 4 (by decide) (by decide) (by decide) (by decide) (by decide))
def kpE (σ τ : Mem) (E : Nat) : Prop := ∀ e, e < E → τ 12 e = σ 12 e ∧ τ 13 e = σ 13 e
/-- the entries: E of them, of the cells S, whose lights are f; those of level v are G v -/
def Ent (σ : Mem) (S : Nat → Prop) (f : Nat → Nat) (G : Nat → List Nat) (E : Nat) : Prop :=
  E ≤ 2304 ∧ σ 10 3 = nI E ∧ (∀ j, j < 1152 → S j → σ 14 j = nI (f j) ∧ f j < 16) ∧ (∀ v, v < 16 → chn (σ 12) (σ 13) E (σ 11 v) (G v) ∧ (G v).length ≤ E ∧ ∀ c, c ∈ G v → c < 1152) ∧ ∀ j, j < 1152 → S j → 0 < f j → j ∈ G (f j)
theorem Ent.c {σ : Mem} {S S' : Nat → Prop} {f f' : Nat → Nat} {G : Nat → List Nat} {E : Nat} (h : Ent σ S f G E) (hS : ∀ j, j < 1152 → S' j → S j) (hf : ∀ j, j < 1152 → S' j → f' j = f j) : Ent σ S' f' G E :=
  ⟨h.1, h.2.1, fun j hj q => by rw [hf j hj q]; exact h.2.2.1 j hj (hS j hj q), h.2.2.2.1, fun j hj q => by rw [hf j hj q]; exact h.2.2.2.2 j hj (hS j hj q)⟩
theorem ent_0 {σ τ : Mem} {S : Nat → Prop} {f : Nat → Nat} {G : Nat → List Nat} {E k : Nat} (h : Ent σ S f G E) (hk : k < 1152) (h14 : τ 14 = upd (σ 14) k (nI 0)) (h13 : τ 13 = σ 13) (h12 : τ 12 = σ 12) (h11 : τ 11 = σ 11) (h10 : τ 10 = σ 10) : Ent τ (fun j => S j ∨ j = k) (un f k 0) G E := by
  obtain ⟨a1, a2, a3, a4, a5⟩ := h
  refine ⟨a1, by rw [h10]; exact a2, fun j hj hs => ?_, fun v hv => by rw [h11, h12, h13]; exact a4 v hv, fun j hj hs h0 => ?_⟩
  · rw [h14]
    by_cases e : j = k
    · subst e; rw [pk_us, un_s]; exact ⟨rfl, by decide⟩
    · rw [pk_un e, un_n e]; exact a3 j hj (hs.resolve_right e)
  · by_cases e : j = k
    · subst e; rw [un_s] at h0; omega
    · rw [un_n e] at h0 ⊢; exact a5 j hj (hs.resolve_right e) h0
theorem ent_1 {σ τ : Mem} {S : Nat → Prop} {f : Nat → Nat} {G : Nat → List Nat} {E k v : Nat} (h : Ent σ S f G E) (hk : k < 1152) (hv0 : 0 < v) (hv : v < 16) (hE : E < 2304) (h14 : τ 14 = upd (σ 14) k (nI v)) (h13 : τ 13 = upd (σ 13) E (nI k)) (h12 : τ 12 = upd (σ 12) E (σ 11 v)) (h11 : τ 11 = upd (σ 11) v (nI E)) (h10 : τ 10 3 = nI (E + 1)) :
    Ent τ (fun j => S j ∨ j = k) (un f k v) (fun u => if u = v then k :: G v else G u) (E + 1) ∧ kpE σ τ E := by
  obtain ⟨a1, a2, a3, a4, a5⟩ := h
  have kp : kpE σ τ E := fun e he => by rw [h12, h13, pk_un (by omega), pk_un (by omega)]; exact ⟨rfl, rfl⟩
  refine ⟨⟨hE, h10, fun j hj hs => ?_, fun u hu => ?_, fun j hj hs h0 => ?_⟩, kp⟩
  · rw [h14]
    by_cases e : j = k
    · subst e; rw [pk_us, un_s]; exact ⟨rfl, hv⟩
    · rw [pk_un e, un_n e]; exact a3 j hj (hs.resolve_right e)
  · obtain ⟨b1, b2, b3⟩ := a4 u hu
    by_cases e : u = v
    · subst e
      simp only [if_pos]
      refine ⟨⟨E, by omega, by rw [h11, pk_us], by rw [h13, pk_us], ?_⟩, ?_, fun c hc => ?_⟩
      · rw [h12, pk_us]
        exact chn_keep (fun e he => by rw [pk_un (by omega)]; exact ⟨rfl, (kp e he).2⟩) (by omega) _ _ b1
      · show (k :: G u).length ≤ E + 1; rw [List.length_cons]; omega
      · rcases List.mem_cons.mp hc with rfl | q
        · exact hk
        · exact b3 c q
    · simp only [if_neg e]
      refine ⟨?_, by omega, b3⟩
      rw [h11, pk_un e]
      exact chn_keep kp (by omega) _ _ b1
  · by_cases e : j = k
    · subst e; rw [un_s]; simp
    · rw [un_n e] at h0 ⊢
      have := a5 j hj (hs.resolve_right e) h0
      show j ∈ (if f j = v then k :: G v else G (f j))
      by_cases e2 : f j = v
      · rw [if_pos e2, ← e2]; exact List.mem_cons_of_mem _ this
      · rw [if_neg e2]; exact this
theorem un_id {f : Nat → Nat} {k : Nat} : un f k (f k) = f := funext fun j => by
  by_cases e : j = k
  · subst e; exact un_s
  · exact un_n e
def Rz (rz : Nat → Prop) (E : Nat) (f ls : Nat → Nat) (lv : Nat) : Prop := E ≤ 1152 + cnt rz 1152 ∧ ∀ q, q < 1152 → rz q → lv ≤ f q + 1 + ls q
/-- what the giving of one cell leaves -/
def Gv (σ τ : Mem) (src ls : Nat → Nat) (lv : Nat) (f : Nat → Nat) (E : Nat) (D : Nat → Nat → Prop) : Prop :=
  ∃ (f' : Nat → Nat) (G' : Nat → List Nat) (E' : Nat) (rz' : Nat → Prop), PI src ls lv f' D ∧ Ent τ (fun _ => True) f' G' E' ∧ Rz rz' E' f' ls lv ∧ kpE σ τ E ∧ E ≤ E' ∧ FrL σ τ ∧ ∀ q, q < 1152 → f' q = lv → f q = lv
