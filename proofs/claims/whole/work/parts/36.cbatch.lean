set_option maxHeartbeats 4000000 in
set_option maxRecDepth 100000 in
theorem k_X3_pop {σ : Mem} {vs : List Wd} {v : Wd} (hH : HisC σ (v :: vs)) (hl : vs.length < 6) : CtV objC NC yX3_pop cX3_pop 2 2 45 [.ref 20, .ref 1] σ (fun τ => HasW τ 1 v ∧ HisC τ vs ∧ ∀ q, q ≠ 20 → q ≠ 2 → q ≠ 3 → q ≠ 4 → τ q = σ q) := by
  obtain ⟨nw, hnw, hnv, hsz, hold⟩ := hH
  have hwo := wo_h hnw
  have h0 : HasW σ (22 + 4 * nw) v := by have := hold 0 v rfl; rw [show (nw + 6 - 0) % 6 = nw by omega] at this; exact this
  refine ct_ofV rfl ?_ (Nat.le_of_ble_eq_true rfl) (fun X C hr => ?_)
  · intro v hv; simp only [List.mem_cons, List.not_mem_nil, or_false] at hv; rcases hv with rfl | rfl <;> rfl
  · refine go_aload_n C dX3_pop_0 rfl ?_
    refine go_aload_n C dX3_pop_1 rfl ?_
    refine go_getR C gf_X3_11 dX3_pop_2 (by decide) rfl rfl ?_
    refine go_aload_n C dX3_pop_5 rfl ?_
    refine go_getI C gf_X3_17 dX3_pop_6 (by decide) rfl rfl ?_
    refine go_top _ hnv ?_
    refine go_aald C dX3_pop_9 (by decide) rfl (Or.inr rfl) (by decide) (jsH hnw) ?_
    refine go_V1V C ok_X5_copyFrom lk_X3_25 dX3_pop_10 (by decide) rfl rfl rfl (k_X5_copyFrom wo_1 hwo (Or.inl (by omega)) (v := v) h0) (by decide) (Nat.le_of_ble_eq_true rfl) (fun τ hp => ?_)
    refine go_aload_n C dX3_pop_13 rfl ?_
    refine go_aload_n C dX3_pop_14 rfl ?_
    refine go_getI C gf_X3_17 dX3_pop_15 (by decide) rfl rfl ?_
    refine go_top (nI nw) (by rw [hp.2 20 (by decide) (by decide) (by decide)]; exact hnv) ?_
    refine go_bipush C (nI 6) dX3_pop_18 rfl ?_
    refine go_iaddN C dX3_pop_20 ?_
    refine go_iconst C (nI 1) dX3_pop_21 rfl ?_
    refine go_isubN C dX3_pop_22 (by omega) ?_
    refine go_bipush C (nI 6) dX3_pop_23 rfl ?_
    refine go_iremN C dX3_pop_25 (by omega) (by omega) (by omega) ?_
    refine go_putI C gf_X3_17 dX3_pop_26 (by decide) rfl rfl rfl rfl rfl ?_
    refine go_aload_n C dX3_pop_29 rfl ?_
    refine go_dup C dX3_pop_30 rfl ?_
    refine go_getI C gf_X3_21 dX3_pop_31 (by decide) rfl rfl ?_
    refine go_top (nI (vs.length + 1)) (by rw [updR_s, pk_un (by decide), hp.2 20 (by decide) (by decide) (by decide)]; exact hsz) ?_
    refine go_iconst C (nI 1) dX3_pop_34 rfl ?_
    refine go_isubN C dX3_pop_35 (by omega) ?_
    refine go_putI C gf_X3_21 dX3_pop_36 (by decide) rfl rfl rfl rfl rfl ?_
    refine go_vret hr dX3_pop_39 ?_
    refine ⟨hp.1.of (updR_n (by decide)) (updR_n (by decide)) (updR_n (by decide)), ⟨(nw + 6 - 1) % 6, Nat.mod_lt _ (by decide), ?_, ?_, fun i w2 hw2 => ?_⟩, fun q q0 q1 q2 q3 => ?_⟩
    · rw [updR_s, pk_un (by decide), updR_s, pk_us]
    · rw [updR_s, pk_us, Nat.add_sub_cancel]
    · have hi := (List.getElem?_eq_some_iff.mp hw2).1
      have ho := hold (i + 1) w2 hw2
      rw [show ((nw + 6 - 1) % 6 + 6 - i) % 6 = (nw + 6 - (i + 1)) % 6 by omega]
      have hlt : (nw + 6 - (i + 1)) % 6 < 6 := Nat.mod_lt _ (by decide)
      have f : ∀ z, z = 1 ∨ z = 2 ∨ z = 3 → updR (updR τ 20 (upd (τ 20) 1 (nI ((nw + 6 - 1) % 6)))) 20 (upd (updR τ 20 (upd (τ 20) 1 (nI ((nw + 6 - 1) % 6))) 20) 2 (nI (vs.length + 1 - 1))) (22 + 4 * ((nw + 6 - (i + 1)) % 6) + z) = σ (22 + 4 * ((nw + 6 - (i + 1)) % 6) + z) := fun z hz => by rw [updR_n (by omega), updR_n (by omega), hp.2 _ (by omega) (by omega) (by omega)]
      exact ho.of (f 1 (by decide)) (f 2 (by decide)) (f 3 (by decide))
    · rw [updR_n q0, updR_n q0, hp.2 q q1 q2 q3]
def ColP (σ : Mem) (es : List (Nat × Nat)) (k t : Nat) : Int32 → Mem → Prop := fun r τ => (40 ≤ fidx k es ∧ r = -3 ∧ τ = σ) ∨ (¬ 40 ≤ fidx k es ∧ r = nI (colL es k t).length ∧ BatC τ (some (colL es k t)) ∧ ∀ q, q ≠ 17 → q ≠ 18 → q ≠ 19 → τ q = σ q)
theorem BatC.some {σ : Mem} {es : List (Nat × Nat)} : BatC σ (some es) ↔ σ 17 3 = nI 1 ∧ σ 17 2 = nI es.length ∧ ∀ i p, es[i]? = some p → σ 18 i = nI p.1 ∧ σ 19 i = nI p.2 := Iff.rfl
theorem colL_get {es : List (Nat × Nat)} {k t i : Nat} {f g : Nat → Int32} (h : ∀ i p, es[i]? = some p → f i = nI p.1 ∧ g i = nI p.2) (hi : fidx k es = i) : ∀ j p, (colL es k t)[j]? = some p → upd f i (nI k) j = nI p.1 ∧ upd g i (nI t) j = nI p.2 := by
  intro j p hj
  have hle := fidx_le (k := k) es
  unfold colL at hj
  rw [hi] at hj hle
  split at hj
  · rename_i hl
    rw [List.getElem?_set] at hj
    by_cases e : i = j
    · subst e
      rw [if_pos rfl, if_pos hl] at hj
      cases hj
      rw [pk_us, pk_us]
      exact ⟨rfl, rfl⟩
    · rw [if_neg e] at hj
      rw [pk_un (Ne.symm e), pk_un (Ne.symm e)]
      exact h j p hj
  · rename_i hl
    have hil : i = es.length := by omega
    by_cases e : j = i
    · subst e
      rw [List.getElem?_append_right (by omega)] at hj
      rw [hil, Nat.sub_self] at hj
      cases hj
      rw [hil, pk_us, pk_us]
      exact ⟨rfl, rfl⟩
    · rw [pk_un e, pk_un e]
      have hjl := (List.getElem?_eq_some_iff.mp hj).1
      rw [List.length_append, show [(k, t)].length = 1 from rfl] at hjl
      rw [List.getElem?_append_left (by omega)] at hj
      exact h j p hj
set_option maxHeartbeats 4000000 in
set_option maxRecDepth 100000 in
theorem k_X0_collect {σ : Mem} {es : List (Nat × Nat)} (hB : BatC σ (some es)) (hB1 : es.length ≤ 40) (hB2 : ∀ p, p ∈ es → p.1 < 1152 ∧ p.2 < 8) {k t : Nat} (hk : k < 1152) (ht : t < 8) : CtI objC NC yX0_collect cX0_collect 4 .int 0 0 [.ref 17, .int (nI k), .int (nI t)] σ (ColP σ es k t) := by
  obtain ⟨hop, hsz, hes⟩ := hB
  refine ct_ofI rfl ?_ (Nat.le_of_ble_eq_true rfl) (fun X C hr => ?_)
  · intro v hv; simp only [List.mem_cons, List.not_mem_nil, or_false] at hv; rcases hv with rfl | rfl | rfl <;> rfl
  · have J : ∀ i : Nat, fidx k es = i → Go objC NC X 26 [some (.ref 17), some (.int (nI k)), some (.int (nI t)), some (.int (nI i))] [] σ := by
      intro i hf
      have hfl := fidx_le (k := k) es
      have hcl := colL_len (es := es) (k := k) (t := t)
      refine go_iload_n C dX0_collect_26 rfl ?_
      refine go_bipush C (nI 40) dX0_collect_27 rfl ?_
      refine go_icmp_ltN C 35 dX0_collect_29 (by decide) (by omega) (by omega) (fun h29 => ?_) (fun h29 => ?_)
      · refine go_iload_n C dX0_collect_35 rfl ?_
        refine go_aload_n C dX0_collect_36 rfl ?_
        refine go_getI C gf_X0_18 dX0_collect_37 (by decide) rfl rfl ?_
        refine go_top _ hsz ?_
        refine go_icmp_neN C 53 dX0_collect_40 (by decide) (by omega) (by omega) (fun h40 => ?_) (fun h40 => ?_)
        · refine go_aload_n C dX0_collect_53 rfl ?_
          refine go_getR C gf_X0_9 dX0_collect_54 (by decide) rfl rfl ?_
          refine go_iload_n C dX0_collect_57 rfl ?_
          refine go_iload_n C dX0_collect_58 rfl ?_
          refine go_iastN C dX0_collect_59 (by decide) rfl (by decide) (by omega) ?_
          refine go_aload_n C dX0_collect_60 rfl ?_
          refine go_getR C gf_X0_15 dX0_collect_61 (by decide) rfl rfl ?_
          refine go_iload_n C dX0_collect_64 rfl ?_
          refine go_iload_n C dX0_collect_65 rfl ?_
          refine go_iastN C dX0_collect_66 (by decide) rfl (by decide) (by omega) ?_
          refine go_aload_n C dX0_collect_67 rfl ?_
          refine go_getI C gf_X0_18 dX0_collect_68 (by decide) rfl rfl ?_
          refine go_top (nI (colL es k t).length) (by
            first
              | (rw [updR_n (by decide), updR_n (by decide)]; rw [hcl, if_pos (by omega)]; exact hsz)
              | (rw [updR_n (by decide), updR_n (by decide), updR_s, pk_us]; rw [hcl, if_neg (by omega)])) ?_
          refine go_iret hr dX0_collect_71 rfl ?_
          first
            | exact Or.inr ⟨by omega, rfl, ⟨hop, by rw [hcl, if_pos (by omega)]; exact hsz, colL_get hes hf⟩, fun q q0 q1 q2 => by rw [updR_n q2, updR_n q1]⟩
            | exact Or.inr ⟨by omega, rfl, ⟨by rw [updR_n (by decide), updR_n (by decide), updR_s, pk_un (by decide)]; exact hop, by rw [hcl, if_neg (by omega), updR_n (by decide), updR_n (by decide), updR_s]; exact pk_us, colL_get hes hf⟩, fun q q0 q1 q2 => by rw [updR_n q2, updR_n q1, updR_n q0]⟩
        · refine go_aload_n C dX0_collect_43 rfl ?_
          refine go_dup C dX0_collect_44 rfl ?_
          refine go_getI C gf_X0_18 dX0_collect_45 (by decide) rfl rfl ?_
          refine go_top _ hsz ?_
          refine go_iconst C (nI 1) dX0_collect_48 rfl ?_
          refine go_iaddN C dX0_collect_49 ?_
          refine go_putI C gf_X0_18 dX0_collect_50 (by decide) rfl rfl rfl rfl rfl ?_
          refine go_aload_n C dX0_collect_53 rfl ?_
          refine go_getR C gf_X0_9 dX0_collect_54 (by decide) rfl rfl ?_
          refine go_iload_n C dX0_collect_57 rfl ?_
          refine go_iload_n C dX0_collect_58 rfl ?_
          refine go_iastN C dX0_collect_59 (by decide) rfl (by decide) (by omega) ?_
          refine go_aload_n C dX0_collect_60 rfl ?_
          refine go_getR C gf_X0_15 dX0_collect_61 (by decide) rfl rfl ?_
          refine go_iload_n C dX0_collect_64 rfl ?_
          refine go_iload_n C dX0_collect_65 rfl ?_
          refine go_iastN C dX0_collect_66 (by decide) rfl (by decide) (by omega) ?_
          refine go_aload_n C dX0_collect_67 rfl ?_
          refine go_getI C gf_X0_18 dX0_collect_68 (by decide) rfl rfl ?_
          refine go_top (nI (colL es k t).length) (by
            first
              | (rw [updR_n (by decide), updR_n (by decide)]; rw [hcl, if_pos (by omega)]; exact hsz)
              | (rw [updR_n (by decide), updR_n (by decide), updR_s, pk_us]; rw [hcl, if_neg (by omega)])) ?_
          refine go_iret hr dX0_collect_71 rfl ?_
          first
            | exact Or.inr ⟨by omega, rfl, ⟨hop, by rw [hcl, if_pos (by omega)]; exact hsz, colL_get hes hf⟩, fun q q0 q1 q2 => by rw [updR_n q2, updR_n q1]⟩
            | exact Or.inr ⟨by omega, rfl, ⟨by rw [updR_n (by decide), updR_n (by decide), updR_s, pk_un (by decide)]; exact hop, by rw [hcl, if_neg (by omega), updR_n (by decide), updR_n (by decide), updR_s]; exact pk_us, colL_get hes hf⟩, fun q q0 q1 q2 => by rw [updR_n q2, updR_n q1, updR_n q0]⟩
      · refine go_bipush C (-3) dX0_collect_32 rfl ?_
        refine go_iret hr dX0_collect_34 rfl ?_
        exact Or.inl ⟨by omega, rfl, rfl⟩
    have L : ∀ (n : Nat) (i : Nat), (i + n = es.length) → (∀ j p, j < i → es[j]? = some p → p.1 ≠ k) → Go objC NC X 2 [some (.ref 17), some (.int (nI k)), some (.int (nI t)), some (.int (nI i))] [] σ := by
      intro n
      induction n using Nat.strongRecOn with
      | _ n ih =>
        intro i hi hno
        refine go_iload_n C dX0_collect_2 rfl ?_
        refine go_aload_n C dX0_collect_3 rfl ?_
        refine go_getI C gf_X0_18 dX0_collect_4 (by decide) rfl rfl ?_
        refine go_top _ hsz ?_
        refine go_icmp_geN C 26 dX0_collect_7 (by decide) (by omega) (by omega) (fun h7 => ?_) (fun h7 => ?_)
        · have hfx := fidx_at (k := k) es i (by omega) hno (Or.inl (by omega))
          exact J i hfx
        · obtain ⟨p, hp⟩ : ∃ p, es[i]? = some p := ⟨es[i], List.getElem?_eq_getElem h7⟩
          have hpb := hB2 p (List.mem_of_getElem? hp)
          refine go_aload_n C dX0_collect_10 rfl ?_
          refine go_getR C gf_X0_9 dX0_collect_11 (by decide) rfl rfl ?_
          refine go_iload_n C dX0_collect_14 rfl ?_
          refine go_ialdN C dX0_collect_15 (by decide) rfl (by decide) (by omega) ?_
          refine go_top _ (hes i p hp).1 ?_
          refine go_iload_n C dX0_collect_16 rfl ?_
          refine go_icmp_eqN C 26 dX0_collect_17 (by decide) (by omega) (by omega) (fun h17 => ?_) (fun h17 => ?_)
          · have hfx := fidx_at (k := k) es i (by omega) hno (Or.inr ⟨p, hp, h17⟩)
            exact J i hfx
          · refine go_iincN C 1 dX0_collect_20 rfl rfl (by decide) rfl rfl ?_
            refine go_goto C 2 dX0_collect_23 (by decide) ?_
            exact ih (n - 1) (by omega) (i + 1) (by omega) (fun j q hj hq => by
              rcases Nat.lt_or_ge j i with z | z
              · exact hno j q z hq
              · rw [show j = i by omega, hp] at hq; cases hq; exact h17)
    refine go_iconst C (nI 0) dX0_collect_0 rfl ?_
    refine go_istore_n C dX0_collect_1 (by decide) rfl rfl ?_
    exact L es.length 0 (by omega) (fun j p h => absurd h (Nat.not_lt_zero _))
