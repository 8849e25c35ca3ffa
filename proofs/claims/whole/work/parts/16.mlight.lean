def FrM (σ τ : Mem) : Prop := ∀ q, q ≠ 6 → τ q = σ q
theorem FrM.refl {σ : Mem} : FrM σ σ := fun _ _ => rfl
theorem FrM.trans {σ τ ρ : Mem} (h1 : FrM σ τ) (h2 : FrM τ ρ) : FrM σ ρ := fun q a => (h2 q a).trans (h1 q a)
/-- the types, losses and emissions that the model works with: those of w, with e in place of the emission in the cell qe -/
def View (τ : Mem) (w : Wd) (q qe e : Nat) : Prop :=
  (∀ k, k < 1152 → (nI k = τ 0 8 ↔ k = q)) ∧ (∀ k, k < 1152 → k ≠ q → τ 1 k = nI (wT w k)) ∧ (∀ k, k < 1152 → k = q → τ 0 9 = nI (wT w k)) ∧ (∀ j, j < 32 → τ 1 (1152 + j) = nI (wL w j)) ∧ (∀ j, j < 32 → τ 1 (1184 + j) = nI (wE w j)) ∧ ((1152 ≤ q ∧ 1152 ≤ qe) ∨ (τ 0 10 < 0 ∧ 1152 ≤ qe) ∨ (τ 0 10 = nI e ∧ qe = q ∧ e < 16))
theorem View.of {σ τ : Mem} {w : Wd} {q qe e : Nat} (h : View σ w q qe e) (h0 : τ 0 = σ 0) (h1 : τ 1 = σ 1) : View τ w q qe e := by
  unfold View
  rw [h0, h1]
  exact h
theorem FrM.V {σ τ : Mem} (h : FrM σ τ) {w : Wd} {q qe e : Nat} (hV : View σ w q qe e) : View τ w q qe e := hV.of (h 0 (by decide)) (h 1 (by decide))
section GOO2
variable {obj : Nat → Lay} {N : Nat} {cc : ByteArray} {nL : Nat} {own : String} {fr lo : Nat} {X : GX} {pc : Nat} {lv : List (Option Value)} {st : List Value} {σ : Mem} {o : Option Nat}
theorem go_if_ltO (C : OkX obj N cc nL own fr lo X) {off : Int} (tgt : Nat) (d : decode cc pc = .ok (.ifCond .lt off, 3)) (ht : (pc : Int) + off = (tgt : Int)) (ho : ∀ j, o = some j → j < 2 ^ 31) (kt : o = none → Go obj N X tgt lv st σ) (kf : (∃ j, o = some j) → Go obj N X (pc + 3) lv st σ) : Go obj N X pc lv (.int (oI o) :: st) σ := go_if_lt C tgt d ht (fun h => kt (by
    cases o with
    | none => rfl
    | some j => exact absurd h (nI_pos (ho j rfl)))) (fun h => kf (by
    cases o with
    | none => exact absurd (show (-1 : Int32) < 0 by decide) h
    | some j => exact ⟨j, rfl⟩))
end GOO2
def mx (a b : Int32) : Int32 := if a < b then b else a
theorem mx_nI {a b : Nat} (ha : a < 2 ^ 31) (hb : b < 2 ^ 31) : mx (nI a) (nI b) = nI (max a b) := by
  unfold mx
  by_cases h : a < b
  · rw [if_pos ((nI_ltI ha hb).mpr h), Nat.max_eq_right (Nat.le_of_lt h)]
  · rw [if_neg (fun q => h ((nI_ltI ha hb).mp q)), Nat.max_eq_left (Nat.le_of_not_lt h)]
theorem mx_sub {u g l : Nat} (hu : u < 2 ^ 30) (hg : g < 2 ^ 30) (hl : l < 2 ^ 30) : mx (nI u) (nI g - nI l) = nI (max u (g - l)) := by
  rcases Nat.lt_or_ge g l with h | h
  · unfold mx
    rw [if_neg (fun q => by
      have := sb_le hg hl hu
      exact absurd (this.mpr (by omega)) (Int32.not_le.mpr q)), Nat.max_eq_left (by omega)]
  · rw [pk_sub h, mx_nI (by omega) (by omega)]
set_option maxHeartbeats 4000000 in
set_option maxRecDepth 100000 in
theorem k_X7_typeOf {σ : Mem} {w : Wd} {q qe e : Nat} (hO : OkW w) (hV : View σ w q qe e) {k : Nat} (hk : k < 1152) : CtI objM NM yX7_typeOf cX7_typeOf 2 .int 0 0 [.ref 0, .int (nI k)] σ (Pv (nI (wT w k)) σ) := by
  refine ct_ofI rfl ?_ (Nat.le_of_ble_eq_true rfl) (fun X C hr => ?_)
  · intro v hv; simp only [List.mem_cons, List.not_mem_nil, or_false] at hv; rcases hv with rfl | rfl <;> rfl
  · refine go_iload_n C dX7_typeOf_0 rfl ?_
    refine go_aload_n C dX7_typeOf_1 rfl ?_
    refine go_getI C gf_X7_29 dX7_typeOf_2 (by decide) rfl rfl ?_
    refine go_icmp_ne C 15 dX7_typeOf_5 (by decide) (fun h5 => ?_) (fun h5 => ?_)
    · refine go_aload_n C dX7_typeOf_15 rfl ?_
      refine go_getR C gf_X7_9 dX7_typeOf_16 (by decide) rfl rfl ?_
      refine go_iload_n C dX7_typeOf_19 rfl ?_
      refine go_ialdN C dX7_typeOf_20 (by decide) rfl (by decide) (by omega) ?_
      refine go_iret hr dX7_typeOf_21 rfl ?_
      first | exact ⟨hV.2.2.1 k hk ((hV.1 k hk).mp h5), rfl⟩ | exact ⟨hV.2.1 k hk (fun z => h5 ((hV.1 k hk).mpr z)), rfl⟩
    · refine go_aload_n C dX7_typeOf_8 rfl ?_
      refine go_getI C gf_X7_78 dX7_typeOf_9 (by decide) rfl rfl ?_
      refine go_goto C 21 dX7_typeOf_12 (by decide) ?_
      refine go_iret hr dX7_typeOf_21 rfl ?_
      first | exact ⟨hV.2.2.1 k hk ((hV.1 k hk).mp h5), rfl⟩ | exact ⟨hV.2.1 k hk (fun z => h5 ((hV.1 k hk).mpr z)), rfl⟩
set_option maxHeartbeats 4000000 in
set_option maxRecDepth 100000 in
theorem k_X7_lossOf {σ : Mem} {w : Wd} {q qe e : Nat} (hO : OkW w) (hV : View σ w q qe e) {k c : Nat} (hk : k < 1152) (hc : c < 4) : CtI objM NM yX7_lossOf cX7_lossOf 3 .int 1 21 [.ref 0, .int (nI k), .int (nI c)] σ (Pv (nI (lossN w c k)) σ) := by
  have ht := hO.1 k hk
  refine ct_ofI rfl ?_ (Nat.le_of_ble_eq_true rfl) (fun X C hr => ?_)
  · intro v hv; simp only [List.mem_cons, List.not_mem_nil, or_false] at hv; rcases hv with rfl | rfl | rfl <;> rfl
  · refine go_aload_n C dX7_lossOf_0 rfl ?_
    refine go_getR C gf_X7_9 dX7_lossOf_1 (by decide) rfl rfl ?_
    refine go_sipush C (nI 1152) dX7_lossOf_4 rfl ?_
    refine go_iconst C (nI 4) dX7_lossOf_7 rfl ?_
    refine go_aload_n C dX7_lossOf_8 rfl ?_
    refine go_iload_n C dX7_lossOf_9 rfl ?_
    refine go_V1P C ok_X7_typeOf lk_X7_81 dX7_lossOf_10 (by decide) rfl rfl rfl (k_X7_typeOf hO hV (by omega)) (by decide) (Nat.le_of_ble_eq_true rfl) ?_
    refine go_imulN C dX7_lossOf_13 ?_
    refine go_iaddN C dX7_lossOf_14 ?_
    refine go_iload_n C dX7_lossOf_15 rfl ?_
    refine go_iaddN C dX7_lossOf_16 ?_
    refine go_ialdN C dX7_lossOf_17 (by decide) rfl (by decide) (by omega) ?_
    refine go_iret hr dX7_lossOf_18 rfl ?_
    exact ⟨by rw [Nat.add_assoc]; exact hV.2.2.2.1 _ (by omega), rfl⟩
set_option maxHeartbeats 4000000 in
set_option maxRecDepth 100000 in
theorem k_X7_emissionOf {σ : Mem} {w : Wd} {q qe e : Nat} (hO : OkW w) (hV : View σ w q qe e) {k c : Nat} (hk : k < 1152) (hc : c < 4) : CtI objM NM yX7_emissionOf cX7_emissionOf 3 .int 1 21 [.ref 0, .int (nI k), .int (nI c)] σ (Pv (nI (if k = qe then e else emN w c k)) σ) := by
  have ht := hO.1 k hk
  refine ct_ofI rfl ?_ (Nat.le_of_ble_eq_true rfl) (fun X C hr => ?_)
  · intro v hv; simp only [List.mem_cons, List.not_mem_nil, or_false] at hv; rcases hv with rfl | rfl | rfl <;> rfl
  · refine go_iload_n C dX7_emissionOf_0 rfl ?_
    refine go_aload_n C dX7_emissionOf_1 rfl ?_
    refine go_getI C gf_X7_29 dX7_emissionOf_2 (by decide) rfl rfl ?_
    refine go_icmp_ne C 22 dX7_emissionOf_5 (by decide) (fun h5 => ?_) (fun h5 => ?_)
    · have hn : k ≠ qe := by
        have hq : k ≠ q := fun z => h5 ((hV.1 k hk).mpr z)
        rcases hV.2.2.2.2.2 with z | z | z
        · omega
        · omega
        · omega
      refine go_aload_n C dX7_emissionOf_22 rfl ?_
      refine go_getR C gf_X7_9 dX7_emissionOf_23 (by decide) rfl rfl ?_
      refine go_sipush C (nI 1184) dX7_emissionOf_26 rfl ?_
      refine go_iconst C (nI 4) dX7_emissionOf_29 rfl ?_
      refine go_aload_n C dX7_emissionOf_30 rfl ?_
      refine go_iload_n C dX7_emissionOf_31 rfl ?_
      refine go_V1P C ok_X7_typeOf lk_X7_81 dX7_emissionOf_32 (by decide) rfl rfl rfl (k_X7_typeOf hO hV (by omega)) (by decide) (Nat.le_of_ble_eq_true rfl) ?_
      refine go_imulN C dX7_emissionOf_35 ?_
      refine go_iaddN C dX7_emissionOf_36 ?_
      refine go_iload_n C dX7_emissionOf_37 rfl ?_
      refine go_iaddN C dX7_emissionOf_38 ?_
      refine go_ialdN C dX7_emissionOf_39 (by decide) rfl (by decide) (by omega) ?_
      refine go_iret hr dX7_emissionOf_40 rfl ?_
      first | exact ⟨by rw [if_neg hn, Nat.add_assoc]; exact hV.2.2.2.2.1 _ (by omega), rfl⟩ | exact ⟨by rw [if_pos (by omega)]; exact hB.1, rfl⟩
    · refine go_aload_n C dX7_emissionOf_8 rfl ?_
      refine go_getI C gf_X7_84 dX7_emissionOf_9 (by decide) rfl rfl ?_
      refine go_if_lt C 22 dX7_emissionOf_12 (by decide) (fun h12 => ?_) (fun h12 => ?_)
      · have hn : k ≠ qe := by
          have hq := (hV.1 k hk).mp h5
          rcases hV.2.2.2.2.2 with z | z | z
          · omega
          · omega
          · rw [z.1] at h12; exact absurd h12 (nI_pos (by omega))
        refine go_aload_n C dX7_emissionOf_22 rfl ?_
        refine go_getR C gf_X7_9 dX7_emissionOf_23 (by decide) rfl rfl ?_
        refine go_sipush C (nI 1184) dX7_emissionOf_26 rfl ?_
        refine go_iconst C (nI 4) dX7_emissionOf_29 rfl ?_
        refine go_aload_n C dX7_emissionOf_30 rfl ?_
        refine go_iload_n C dX7_emissionOf_31 rfl ?_
        refine go_V1P C ok_X7_typeOf lk_X7_81 dX7_emissionOf_32 (by decide) rfl rfl rfl (k_X7_typeOf hO hV (by omega)) (by decide) (Nat.le_of_ble_eq_true rfl) ?_
        refine go_imulN C dX7_emissionOf_35 ?_
        refine go_iaddN C dX7_emissionOf_36 ?_
        refine go_iload_n C dX7_emissionOf_37 rfl ?_
        refine go_iaddN C dX7_emissionOf_38 ?_
        refine go_ialdN C dX7_emissionOf_39 (by decide) rfl (by decide) (by omega) ?_
        refine go_iret hr dX7_emissionOf_40 rfl ?_
        first | exact ⟨by rw [if_neg hn, Nat.add_assoc]; exact hV.2.2.2.2.1 _ (by omega), rfl⟩ | exact ⟨by rw [if_pos (by omega)]; exact hB.1, rfl⟩
      · have hq := (hV.1 k hk).mp h5
        have hB : σ 0 10 = nI e ∧ qe = q ∧ e < 16 := by
          rcases hV.2.2.2.2.2 with z | z | z
          · omega
          · exact absurd z.1 h12
          · exact z
        refine go_aload_n C dX7_emissionOf_15 rfl ?_
        refine go_getI C gf_X7_84 dX7_emissionOf_16 (by decide) rfl rfl ?_
        refine go_goto C 40 dX7_emissionOf_19 (by decide) ?_
        refine go_iret hr dX7_emissionOf_40 rfl ?_
        first | exact ⟨by rw [if_neg hn, Nat.add_assoc]; exact hV.2.2.2.2.1 _ (by omega), rfl⟩ | exact ⟨by rw [if_pos (by omega)]; exact hB.1, rfl⟩
set_option maxHeartbeats 4000000 in
set_option maxRecDepth 100000 in
theorem k_X7_raise {σ : Mem} {k : Nat} (hk : k < 1152) (x : Int32) : CtV objM NM yX7_raise cX7_raise 3 1 19 [.ref 0, .int (nI k), .int x] σ (fun τ => τ = updR σ 6 (upd (σ 6) k (mx (σ 6 k) x))) := by
  refine ct_ofV rfl ?_ (Nat.le_of_ble_eq_true rfl) (fun X C hr => ?_)
  · intro v hv; simp only [List.mem_cons, List.not_mem_nil, or_false] at hv; rcases hv with rfl | rfl | rfl <;> rfl
  · refine go_aload_n C dX7_raise_0 rfl ?_
    refine go_getR C gf_X7_26 dX7_raise_1 (by decide) rfl rfl ?_
    refine go_iload_n C dX7_raise_4 rfl ?_
    refine go_aload_n C dX7_raise_5 rfl ?_
    refine go_getR C gf_X7_26 dX7_raise_6 (by decide) rfl rfl ?_
    refine go_iload_n C dX7_raise_9 rfl ?_
    refine go_ialdN C dX7_raise_10 (by decide) rfl (by decide) (by omega) ?_
    refine go_iload_n C dX7_raise_11 rfl ?_
    refine go_max C lk_X7_87 dX7_raise_12 (by decide) (Nat.le_of_ble_eq_true rfl) ?_
    refine go_iastN C dX7_raise_15 (by decide) rfl (by decide) (by omega) ?_
    refine go_vret hr dX7_raise_16 ?_
    rfl
theorem sun_dn {l3 : Nat → Nat} : ∀ (m j b : Nat), j + 12 * (m + 1) = b → cY j + (m + 1) = cY b → sunS l3 b ≠ 15 → sunS l3 j = 0
  | 0, j, b, h1, h2, h3 => by
    have := cY_lt b
    rw [sunS_low (by omega), if_neg (fun q => h3 (by rw [← h1]; exact q.2))]
  | m + 1, j, b, h1, h2, h3 => by
    have hb := cY_lt b
    have e : cY (j + 12) = cY j + 1 := by unfold cY at *; omega
    have := sun_dn m (j + 12) b (by omega) (by omega) h3
    rw [sunS_low (by omega), if_neg (fun q => by omega)]
def top (k : Nat) : Nat := k + 12 * (7 - cY k)
theorem top_lt {k : Nat} (h : k < 1152) : top k < 1152 := by unfold top cY; omega
theorem top_y (k : Nat) : cY (top k) = 7 := by unfold top cY; omega
set_option maxHeartbeats 4000000 in
set_option maxRecDepth 100000 in
theorem k_X7_laySun {σ : Mem} {w : Wd} {q qe e : Nat} (hO : OkW w) (hV : View σ w q qe e) (hz : ∀ k, k < 1152 → σ 6 k = nI 0) : CtV objM NM yX7_laySun cX7_laySun 3 3 69 [.ref 0] σ (fun τ => FrM σ τ ∧ ∀ k, k < 1152 → τ 6 k = nI ((sunS (lossN w 3)) k)) := by
  refine ct_ofV rfl ?_ (Nat.le_of_ble_eq_true rfl) (fun X C hr => ?_)
  · intro v hv; simp only [List.mem_cons, List.not_mem_nil, or_false] at hv; rcases hv with rfl <;> rfl
  · have L : ∀ (n : Nat) (i : Nat) (v2 : Option Value) (ρ : Mem), (i + n = 1152) → (∀ k, k < 1152 → ρ 6 k = nI (if top k < i then (sunS (lossN w 3)) k else 0)) → (FrM σ ρ) → Go objM NM X 2 [some (.ref 0), some (.int (nI i)), v2] [] ρ := by
      intro n
      induction n using Nat.strongRecOn with
      | _ n ih =>
        intro i v2 ρ hi hg hF1
        refine go_iload_n C dX7_laySun_2 rfl ?_
        refine go_sipush C (nI 1152) dX7_laySun_3 rfl ?_
        refine go_icmp_geN C 89 dX7_laySun_6 (by decide) (by omega) (by omega) (fun h6 => ?_) (fun h6 => ?_)
        · refine go_vret hr dX7_laySun_89 ?_
          obtain rfl : i = 1152 := by omega
          exact ⟨hF1, fun k hk => by rw [hg k hk, if_pos (top_lt hk)]⟩
        · refine go_iload_n C dX7_laySun_9 rfl ?_
          refine go_S1P C ok_X7_yOf lk_X7_65 dX7_laySun_10 (k_X7_yOf (by omega)) (by decide) (Nat.le_of_ble_eq_true rfl) ?_
          refine go_bipush C (nI 7) dX7_laySun_13 rfl ?_
          have hy8 := cY_lt i
          refine go_icmp_neN C 83 dX7_laySun_15 (by decide) (by omega) (by omega) (fun h15 => ?_) (fun h15 => ?_)
          · refine go_iincN C 1 dX7_laySun_83 rfl rfl (by decide) rfl rfl ?_
            refine go_goto C 2 dX7_laySun_86 (by decide) ?_
            exact ih (n - 1) (by omega) (i + 1) _ ρ (by omega) (fun k hk => by
              rw [hg k hk]
              refine congrArg nI ?_
              have := top_y k
              by_cases t1 : top k < i
              · rw [if_pos t1, if_pos (by omega)]
              · rw [if_neg t1, if_neg (fun z => h15 (by rw [show i = top k by omega]; exact this))]) hF1
          · have hV1 := hF1.V hV
            have hil : i < 1152 := by omega
            have hti : top i = i := by unfold top; omega
            have hl16 := lossN_lt hO (c := 3) (by decide) hil
            have Li : ∀ (nb : Nat) (b : Nat) (ρ2 : Mem), (b < 1152 ∧ top b = i ∧ cY b = nb) → (∀ k, k < 1152 → ρ2 6 k = nI (if top k < i ∨ (top k = i ∧ b ≤ k) then (sunS (lossN w 3)) k else 0)) → (FrM σ ρ2) → Go objM NM X 34 [some (.ref 0), some (.int (nI i)), some (.int (nI b))] [] ρ2 := by
              intro nb
              induction nb using Nat.strongRecOn with
              | _ nb ihb =>
                intro b ρ2 hb hg2 hF2
                obtain ⟨hb1, hb2, hb3⟩ := hb
                have hV2 := hF2.V hV
                have hs15 := sunS_le (l3 := lossN w 3) b
                have hvb : ρ2 6 b = nI ((sunS (lossN w 3)) b) := by rw [hg2 b hb1, if_pos (Or.inr ⟨hb2, Nat.le_refl _⟩)]
                refine go_aload_n C dX7_laySun_34 rfl ?_
                refine go_getR C gf_X7_26 dX7_laySun_35 (by decide) rfl rfl ?_
                refine go_iload_n C dX7_laySun_38 rfl ?_
                refine go_ialdN C dX7_laySun_39 (by decide) rfl (by decide) (by omega) ?_
                refine go_top _ hvb ?_
                refine go_bipush C (nI 15) dX7_laySun_40 rfl ?_
                refine go_icmp_neN C 83 dX7_laySun_42 (by decide) (by omega) (by omega) (fun h42 => ?_) (fun h42 => ?_)
                · have hex : ∀ k, k < 1152 → top k = i → ¬ b ≤ k → 0 = (sunS (lossN w 3)) k := fun k hk t2 t3 => (sun_dn (cY b - cY k - 1) k b (by unfold top cY at *; omega) (by unfold top cY at *; omega) h42).symm
                  refine go_iincN C 1 dX7_laySun_83 rfl rfl (by decide) rfl rfl ?_
                  refine go_goto C 2 dX7_laySun_86 (by decide) ?_
                  exact ih (n - 1) (by omega) (i + 1) _ ρ2 (by omega) (fun k hk => by
                    rw [hg2 k hk]
                    refine congrArg nI ?_
                    by_cases t1 : top k < i
                    · rw [if_pos (Or.inl t1), if_pos (by omega)]
                    · by_cases t2 : top k = i
                      · rw [if_pos (show top k < i + 1 by omega)]
                        by_cases t3 : b ≤ k
                        · rw [if_pos (Or.inr ⟨t2, t3⟩)]
                        · rw [if_neg (by omega)]
                          exact hex k hk t2 t3
                      · rw [if_neg (by omega), if_neg (by omega)]) hF2
                · refine go_iload_n C dX7_laySun_45 rfl ?_
                  refine go_iconst C (nI 2) dX7_laySun_46 rfl ?_
                  refine go_S2P C ok_X7_next lk_X7_100 dX7_laySun_47 (k_X7_next (by omega) (by omega)) (by decide) (Nat.le_of_ble_eq_true rfl) ?_
                  refine go_if_ltO C 83 dX7_laySun_50 (by decide) (fun j hj => by have := nbr_lt hb1 hj; omega) (fun h50 => ?_) (fun h50 => ?_)
                  · have hex : ∀ k, k < 1152 → top k = i → ¬ b ≤ k → 0 = (sunS (lossN w 3)) k := fun k hk t2 t3 => by
                      have hy : cY b = 0 := by
                        simp only [nbr] at h50
                        split at h50
                        · cases h50
                        · omega
                      exfalso; unfold top at *; have := cY_lt k; omega
                    refine go_iincN C 1 dX7_laySun_83 rfl rfl (by decide) rfl rfl ?_
                    refine go_goto C 2 dX7_laySun_86 (by decide) ?_
                    exact ih (n - 1) (by omega) (i + 1) _ ρ2 (by omega) (fun k hk => by
                      rw [hg2 k hk]
                      refine congrArg nI ?_
                      by_cases t1 : top k < i
                      · rw [if_pos (Or.inl t1), if_pos (by omega)]
                      · by_cases t2 : top k = i
                        · rw [if_pos (show top k < i + 1 by omega)]
                          by_cases t3 : b ≤ k
                          · rw [if_pos (Or.inr ⟨t2, t3⟩)]
                          · rw [if_neg (by omega)]
                            exact hex k hk t2 t3
                        · rw [if_neg (by omega), if_neg (by omega)]) hF2
                  · obtain ⟨b2, hb2n⟩ := h50
                    have hbl := nbr_lt hb1 hb2n
                    have hbe : b = b2 + 12 ∧ cY b2 + 1 = cY b := by
                      simp only [nbr] at hb2n
                      split at hb2n
                      · cases hb2n; unfold cY at *; omega
                      · cases hb2n
                    have hlow := sunS_low (l3 := lossN w 3) (n := b2) (by have := cY_lt b; omega)
                    rw [← hbe.1] at hlow
                    refine go_aload_n C dX7_laySun_53 rfl ?_
                    refine go_iload_n C dX7_laySun_54 rfl ?_
                    refine go_iconst C (nI 2) dX7_laySun_55 rfl ?_
                    refine go_S2P C ok_X7_next lk_X7_100 dX7_laySun_56 (k_X7_next hb1 (by decide)) (by decide) (Nat.le_of_ble_eq_true rfl) ?_
                    rw [hb2n]
                    dsimp only [oI]
                    refine go_iconst C (nI 3) dX7_laySun_59 rfl ?_
                    refine go_V2P C ok_X7_lossOf lk_X7_93 dX7_laySun_60 (by decide) rfl rfl rfl (k_X7_lossOf hO hV2 hbl (by decide)) (by decide) (Nat.le_of_ble_eq_true rfl) ?_
                    have hl16 := lossN_lt hO (c := 3) (by decide) hbl
                    refine go_if_neN C 83 dX7_laySun_63 (by decide) (by omega) (fun h63 => ?_) (fun h63 => ?_)
                    · have hex : ∀ k, k < 1152 → top k = i → ¬ b ≤ k → 0 = (sunS (lossN w 3)) k := fun k hk t2 t3 => by
                        have hz : (sunS (lossN w 3)) b2 = 0 := by rw [hlow, if_neg (fun z => h63 z.1)]
                        by_cases e : k = b2
                        · rw [e, hz]
                        · exact (sun_dn (cY b2 - cY k - 1) k b2 (by unfold top cY at *; omega) (by unfold top cY at *; omega) (by rw [hz]; decide)).symm
                      refine go_iincN C 1 dX7_laySun_83 rfl rfl (by decide) rfl rfl ?_
                      refine go_goto C 2 dX7_laySun_86 (by decide) ?_
                      exact ih (n - 1) (by omega) (i + 1) _ ρ2 (by omega) (fun k hk => by
                        rw [hg2 k hk]
                        refine congrArg nI ?_
                        by_cases t1 : top k < i
                        · rw [if_pos (Or.inl t1), if_pos (by omega)]
                        · by_cases t2 : top k = i
                          · rw [if_pos (show top k < i + 1 by omega)]
                            by_cases t3 : b ≤ k
                            · rw [if_pos (Or.inr ⟨t2, t3⟩)]
                            · rw [if_neg (by omega)]
                              exact hex k hk t2 t3
                          · rw [if_neg (by omega), if_neg (by omega)]) hF2
                    · refine go_iload_n C dX7_laySun_66 rfl ?_
                      refine go_iconst C (nI 2) dX7_laySun_67 rfl ?_
                      refine go_S2P C ok_X7_next lk_X7_100 dX7_laySun_68 (k_X7_next hb1 (by decide)) (by decide) (Nat.le_of_ble_eq_true rfl) ?_
                      rw [hb2n]
                      dsimp only [oI]
                      refine go_istore_n C dX7_laySun_71 (by decide) rfl rfl ?_
                      refine go_aload_n C dX7_laySun_72 rfl ?_
                      refine go_getR C gf_X7_26 dX7_laySun_73 (by decide) rfl rfl ?_
                      refine go_iload_n C dX7_laySun_76 rfl ?_
                      refine go_bipush C (nI 15) dX7_laySun_77 rfl ?_
                      refine go_iastN C dX7_laySun_79 (by decide) rfl (by decide) (by omega) ?_
                      refine go_goto C 34 dX7_laySun_80 (by decide) ?_
                      exact ihb (nb - 1) (by omega) b2 _ ⟨hbl, by unfold top cY at *; omega, by omega⟩ (fun k hk => by
                        show upd (ρ2 6) b2 (nI 15) k = _
                        by_cases e : k = b2
                        · subst e
                          rw [pk_us, if_pos (Or.inr ⟨by unfold top cY at *; omega, Nat.le_refl _⟩), hlow, if_pos ⟨h63, h42⟩]
                        · rw [pk_un e, hg2 k hk]
                          refine congrArg nI ?_
                          by_cases t1 : top k < i ∨ (top k = i ∧ b ≤ k)
                          · rw [if_pos t1, if_pos (by omega)]
                          · rw [if_neg t1, if_neg (fun z => t1 (by
                              rcases z with z | ⟨z1, z2⟩
                              · exact Or.inl z
                              · refine Or.inr ⟨z1, ?_⟩
                                unfold top cY at *
                                omega))]) (hF2.trans (fun q z => updR_n z))
            refine go_aload_n C dX7_laySun_18 rfl ?_
            refine go_iload_n C dX7_laySun_19 rfl ?_
            refine go_bipush C (nI 15) dX7_laySun_20 rfl ?_
            refine go_aload_n C dX7_laySun_22 rfl ?_
            refine go_iload_n C dX7_laySun_23 rfl ?_
            refine go_iconst C (nI 3) dX7_laySun_24 rfl ?_
            refine go_V2P C ok_X7_lossOf lk_X7_93 dX7_laySun_25 (by decide) rfl rfl rfl (k_X7_lossOf hO hV1 hil (by decide)) (by decide) (Nat.le_of_ble_eq_true rfl) ?_
            refine go_isubN C dX7_laySun_28 (by omega) ?_
            refine go_V2V C ok_X7_raise lk_X7_96 dX7_laySun_29 (by decide) rfl rfl rfl (k_X7_raise hil _) (by decide) (Nat.le_of_ble_eq_true rfl) (fun τ hp => ?_)
            refine go_iload_n C dX7_laySun_32 rfl ?_
            refine go_istore_n C dX7_laySun_33 (by decide) rfl rfl ?_
            exact Li 7 i τ ⟨hil, hti, h15⟩ (fun k hk => by
              rw [hp, updR_s]
              by_cases e : k = i
              · subst e
                rw [pk_us, hg k hk, if_neg (by omega), mx_nI (by decide) (by omega), if_pos (Or.inr ⟨hti, Nat.le_refl _⟩), sunS_top h15, Nat.zero_max]
              · rw [pk_un e, hg k hk]
                refine congrArg nI ?_
                by_cases t1 : top k < i
                · rw [if_pos t1, if_pos (Or.inl t1)]
                · rw [if_neg t1, if_neg (by unfold top at *; omega)]) (by rw [hp]; exact hF1.trans (fun q z => updR_n z))
    refine go_iconst C (nI 0) dX7_laySun_0 rfl ?_
    refine go_istore_n C dX7_laySun_1 (by decide) rfl rfl ?_
    exact L 1152 0 _ σ (by omega) (fun k hk => by rw [hz k hk, if_neg (Nat.not_lt_zero _)]) FrM.refl
