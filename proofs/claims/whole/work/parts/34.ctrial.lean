theorem cnt_none : ∀ n, cnt (fun _ => False) n = 0
  | 0 => rfl
  | n + 1 => by rw [cnt_0 (fun h => h), cnt_none n]
def FrR (σ τ : Mem) : Prop := (∀ q, q ≠ 0 → (q < 6 ∨ 16 < q) → τ q = σ q) ∧ ∀ i, i ≠ 6 → τ 0 i = σ 0 i
def WoC (b : Nat) : Prop := b + 3 < NC ∧ objC b = .inl (4, [some (b + 1), some (b + 2), some (b + 3)]) ∧ objC (b + 1) = .inr (.inl (0, 1152)) ∧ objC (b + 2) = .inr (.inl (0, 32)) ∧ objC (b + 3) = .inr (.inl (0, 32))
theorem wo_1 : WoC 1 := ⟨by decide, rfl, rfl, rfl, rfl⟩
theorem wo_46 : WoC 46 := ⟨by decide, rfl, rfl, rfl, rfl⟩
theorem wo_h {n : Nat} (h : n < 6) : WoC (22 + 4 * n) := by
  rcases (show n = 0 ∨ n = 1 ∨ n = 2 ∨ n = 3 ∨ n = 4 ∨ n = 5 by omega) with rfl | rfl | rfl | rfl | rfl | rfl <;> exact ⟨by decide, rfl, rfl, rfl, rfl⟩
theorem jsH {n : Nat} (h : n < 6) : [22, 26, 30, 34, 38, 42][n]? = some (22 + 4 * n) := by
  rcases (show n = 0 ∨ n = 1 ∨ n = 2 ∨ n = 3 ∨ n = 4 ∨ n = 5 by omega) with rfl | rfl | rfl | rfl | rfl | rfl <;> rfl
set_option maxHeartbeats 4000000 in
set_option maxRecDepth 100000 in
theorem k_X6_clearEffect {σ : Mem} : CtV objC NC yX6_clearEffect cX6_clearEffect 2 0 0 [.ref 0] σ (fun τ => EffC τ (fun _ => False) ∧ (∀ q, q ≠ 0 → q ≠ 16 → τ q = σ q) ∧ ∀ i, i ≠ 6 → τ 0 i = σ 0 i) := by
  refine ct_ofV rfl ?_ (Nat.le_of_ble_eq_true rfl) (fun X C hr => ?_)
  · intro v hv; simp only [List.mem_cons, List.not_mem_nil, or_false] at hv; rcases hv with rfl <;> rfl
  · have L : ∀ (n : Nat) (i : Nat) (ρ : Mem), (i + n = 1152) → (∀ j, j < i → ρ 16 j = nI 0) → (∀ q, q ≠ 16 → ρ q = σ q) → Go objC NC X 2 [some (.ref 0), some (.int (nI i))] [] ρ := by
      intro n
      induction n using Nat.strongRecOn with
      | _ n ih =>
        intro i ρ hi hz hF
        refine go_iload_n C dX6_clearEffect_2 rfl ?_
        refine go_sipush C (nI 1152) dX6_clearEffect_3 rfl ?_
        refine go_icmp_geN C 22 dX6_clearEffect_6 (by decide) (by omega) (by omega) (fun h6 => ?_) (fun h6 => ?_)
        · obtain rfl : i = 1152 := by omega
          refine go_aload_n C dX6_clearEffect_22 rfl ?_
          refine go_iconst C (nI 0) dX6_clearEffect_23 rfl ?_
          refine go_putI C gf_X6_39 dX6_clearEffect_24 (by decide) rfl rfl rfl rfl rfl ?_
          refine go_vret hr dX6_clearEffect_27 ?_
          refine ⟨⟨fun j hj => (hz j hj).trans (bP_f id), ?_⟩, fun q h0 h16 => (updR_n h0).trans (hF q h16), fun i hi => ?_⟩
          · rw [cnt_none, updR_s]; exact pk_us
          · rw [updR_s, pk_un hi, hF 0 (by decide)]
        · refine go_aload_n C dX6_clearEffect_9 rfl ?_
          refine go_getR C gf_X6_35 dX6_clearEffect_10 (by decide) rfl rfl ?_
          refine go_iload_n C dX6_clearEffect_13 rfl ?_
          refine go_iconst C (nI 0) dX6_clearEffect_14 rfl ?_
          refine go_zastN C dX6_clearEffect_15 (by decide) rfl (by decide) (by omega) ?_
          refine go_iincN C 1 dX6_clearEffect_16 rfl rfl (by decide) rfl rfl ?_
          refine go_goto C 2 dX6_clearEffect_19 (by decide) ?_
          exact ih (n - 1) (by omega) (i + 1) _ (by omega) (fun j hj => by
            show upd (ρ 16) i (nI 0) j = nI 0
            by_cases e : j = i
            · subst e; exact pk_us
            · rw [pk_un e]; exact hz j (by omega)) (fun q hq => (updR_n hq).trans (hF q hq))
    refine go_iconst C (nI 0) dX6_clearEffect_0 rfl ?_
    refine go_istore_n C dX6_clearEffect_1 (by decide) rfl rfl ?_
    exact L 1152 0 σ (by omega) (fun j h => absurd h (Nat.not_lt_zero _)) (fun _ _ => rfl)
set_option maxHeartbeats 4000000 in
set_option maxRecDepth 100000 in
theorem k_X6_takeTrial {σ : Mem} {c : Nat} {f g : Nat → Nat} {E : Nat → Prop} (hc : c < 4) (hf : ∀ j, j < 1152 → σ 14 j = nI (f j)) (hg : ∀ j, j < 1152 → σ (6 + c) j = nI (g j)) (hb : ∀ j, j < 1152 → f j < 16 ∧ g j < 16) (hE : EffC σ E) : CtV objC NC yX6_takeTrial cX6_takeTrial 3 0 0 [.ref 0, .ref (6 + c)] σ (fun τ => (∀ j, j < 1152 → τ (6 + c) j = nI (f j)) ∧ EffC τ (fun j => E j ∨ g j ≠ f j) ∧ (∀ q, q ≠ 0 → q ≠ 16 → q ≠ 6 + c → τ q = σ q) ∧ ∀ i, i ≠ 6 → τ 0 i = σ 0 i) := by
  refine ct_ofV rfl ?_ (Nat.le_of_ble_eq_true rfl) (fun X C hr => ?_)
  · intro v hv; simp only [List.mem_cons, List.not_mem_nil, or_false] at hv; rcases hv with rfl | rfl <;> rfl
  · have L : ∀ (n : Nat) (i : Nat) (ρ : Mem), (i + n = 1152) → (∀ j, j < 1152 → ρ (6 + c) j = nI (if j < i then f j else g j)) → (EffC ρ (fun j => E j ∨ (j < i ∧ g j ≠ f j))) → (∀ q, q ≠ 0 → q ≠ 16 → q ≠ 6 + c → ρ q = σ q) → (∀ i, i ≠ 6 → ρ 0 i = σ 0 i) → Go objC NC X 2 [some (.ref 0), some (.ref (6 + c)), some (.int (nI i))] [] ρ := by
      intro n
      induction n using Nat.strongRecOn with
      | _ n ih =>
        intro i ρ hi hp hE1 hF1 hF2
        have hcnt := cnt_le (p := (fun j => E j ∨ (j < i ∧ g j ≠ f j))) 1152
        have h14 : ∀ j, j < 1152 → ρ 14 j = nI (f j) := fun j hj => by rw [hF1 14 (by decide) (by decide) (by omega)]; exact hf j hj
        refine go_iload_n C dX6_takeTrial_2 rfl ?_
        refine go_sipush C (nI 1152) dX6_takeTrial_3 rfl ?_
        refine go_icmp_geN C 62 dX6_takeTrial_6 (by decide) (by omega) (by omega) (fun h6 => ?_) (fun h6 => ?_)
        · refine go_vret hr dX6_takeTrial_62 ?_
          obtain rfl : i = 1152 := by omega
          exact ⟨fun j hj => by rw [hp j hj, if_pos hj], ⟨fun j hj => (hE1.1 j hj).trans (bP_c ⟨fun z => z.imp id (fun z => z.2), fun z => z.imp id (fun z => ⟨hj, z⟩)⟩), by rw [hE1.2]; exact congrArg nI (cnt_c 1152 (fun j hj => ⟨fun z => z.imp id (fun z => z.2), fun z => z.imp id (fun z => ⟨hj, z⟩)⟩))⟩, hF1, hF2⟩
        · have hi2 : i < 1152 := by omega
          have hfg := hb i hi2
          have hpi : ρ (6 + c) i = nI (g i) := by rw [hp i hi2, if_neg (Nat.lt_irrefl _)]
          refine go_aload_n C dX6_takeTrial_9 rfl ?_
          refine go_iload_n C dX6_takeTrial_10 rfl ?_
          refine go_ialdN C dX6_takeTrial_11 (Nat.lt_of_lt_of_le (Nat.add_lt_add_left hc 6) (by decide)) (hoL hc) (by decide) (by omega) ?_
          refine go_top _ hpi ?_
          refine go_aload_n C dX6_takeTrial_12 rfl ?_
          refine go_getR C gf_X6_28 dX6_takeTrial_13 (by decide) rfl rfl ?_
          refine go_iload_n C dX6_takeTrial_16 rfl ?_
          refine go_ialdN C dX6_takeTrial_17 (by decide) rfl (by decide) (by omega) ?_
          refine go_top _ (h14 i hi2) ?_
          refine go_icmp_eqN C 56 dX6_takeTrial_18 (by decide) (by omega) (by omega) (fun h18 => ?_) (fun h18 => ?_)
          · have h18 := h18.symm
            refine go_iincN C 1 dX6_takeTrial_56 rfl rfl (by decide) rfl rfl ?_
            refine go_goto C 2 dX6_takeTrial_59 (by decide) ?_
            have hcc : ∀ j, (E j ∨ (j < i ∧ g j ≠ f j)) ↔ (E j ∨ (j < i + 1 ∧ g j ≠ f j)) := fun j => ⟨fun z => z.imp id (fun z => ⟨by omega, z.2⟩), fun z => z.imp id (fun z => ⟨by
              have z1 := z.1
              have : j ≠ i := fun e => z.2 (by rw [e]; exact h18.symm)
              omega, z.2⟩)⟩
            exact ih (n - 1) (by omega) (i + 1) ρ (by omega) (fun j hj => by
              rw [hp j hj]
              refine congrArg nI ?_
              rcases Nat.lt_trichotomy j i with z | z | z
              · rw [if_pos z, if_pos (by omega)]
              · subst z; rw [if_neg (Nat.lt_irrefl _), if_pos (by omega)]; exact h18.symm
              · rw [if_neg (by omega), if_neg (by omega)]) ⟨fun j hj => (hE1.1 j hj).trans (bP_c (hcc j)), by rw [hE1.2]; exact congrArg nI (cnt_c 1152 (fun j _ => hcc j))⟩ hF1 hF2
          · have h18 : ¬ f i = g i := fun z => h18 z.symm
            refine go_aload_n C dX6_takeTrial_21 rfl ?_
            refine go_iload_n C dX6_takeTrial_22 rfl ?_
            refine go_aload_n C dX6_takeTrial_23 rfl ?_
            refine go_getR C gf_X6_28 dX6_takeTrial_24 (by decide) rfl rfl ?_
            refine go_iload_n C dX6_takeTrial_27 rfl ?_
            refine go_ialdN C dX6_takeTrial_28 (by decide) rfl (by decide) (by omega) ?_
            refine go_top _ (h14 i hi2) ?_
            refine go_iastN C dX6_takeTrial_29 (Nat.lt_of_lt_of_le (Nat.add_lt_add_left hc 6) (by decide)) (hoL hc) (by decide) (by omega) ?_
            refine go_aload_n C dX6_takeTrial_30 rfl ?_
            refine go_getR C gf_X6_35 dX6_takeTrial_31 (by decide) rfl rfl ?_
            refine go_iload_n C dX6_takeTrial_34 rfl ?_
            refine go_zaldN C dX6_takeTrial_35 (by decide) rfl (by decide) (by omega) ?_
            refine go_top _ (show _ = bP (E i ∨ (i < i ∧ g i ≠ f i)) by rw [updR_n (by omega)]; exact hE1.1 i hi2) ?_
            refine go_if_neB C 56 dX6_takeTrial_36 (by decide) (fun h36 => ?_) (fun h36 => ?_)
            · have h36 : E i := h36.elim id (fun z => absurd z.1 (Nat.lt_irrefl _))
              refine go_iincN C 1 dX6_takeTrial_56 rfl rfl (by decide) rfl rfl ?_
              refine go_goto C 2 dX6_takeTrial_59 (by decide) ?_
              have hcc : ∀ j, (E j ∨ (j < i ∧ g j ≠ f j)) ↔ (E j ∨ (j < i + 1 ∧ g j ≠ f j)) := fun j => ⟨fun z => z.imp id (fun z => ⟨by omega, z.2⟩), fun z => by
                rcases z with z | z
                · exact Or.inl z
                · by_cases e : j = i
                  · subst e; exact Or.inl h36
                  · exact Or.inr ⟨by omega, z.2⟩⟩
              exact ih (n - 1) (by omega) (i + 1) _ (by omega) (fun j hj => by
                rw [updR_s]
                show upd (ρ (6 + c)) i (nI (f i)) j = _
                by_cases z : j = i
                · subst z; rw [pk_us, if_pos (by omega)]
                · rw [pk_un z, hp j hj]
                  refine congrArg nI ?_
                  by_cases z2 : j < i
                  · rw [if_pos z2, if_pos (by omega)]
                  · rw [if_neg z2, if_neg (by omega)]) ⟨fun j hj => by rw [updR_n (by omega)]; exact (hE1.1 j hj).trans (bP_c (hcc j)), by rw [updR_n (by omega), hE1.2]; exact congrArg nI (cnt_c 1152 (fun j _ => hcc j))⟩ (fun q q0 q1 q2 => (updR_n q2).trans (hF1 q q0 q1 q2)) (fun j hj => by rw [updR_n (by omega)]; exact hF2 j hj)
            · skip
              refine go_aload_n C dX6_takeTrial_39 rfl ?_
              refine go_getR C gf_X6_35 dX6_takeTrial_40 (by decide) rfl rfl ?_
              refine go_iload_n C dX6_takeTrial_43 rfl ?_
              refine go_iconst C (nI 1) dX6_takeTrial_44 rfl ?_
              refine go_zastN C dX6_takeTrial_45 (by decide) rfl (by decide) (by omega) ?_
              refine go_aload_n C dX6_takeTrial_46 rfl ?_
              refine go_dup C dX6_takeTrial_47 rfl ?_
              refine go_getI C gf_X6_39 dX6_takeTrial_48 (by decide) rfl rfl ?_
              refine go_top (nI (cnt (fun j => E j ∨ (j < i ∧ g j ≠ f j)) 1152)) (by rw [updR_n (by omega), updR_n (by omega)]; exact hE1.2) ?_
              refine go_iconst C (nI 1) dX6_takeTrial_51 rfl ?_
              refine go_iaddN C dX6_takeTrial_52 ?_
              refine go_putI C gf_X6_39 dX6_takeTrial_53 (by decide) rfl rfl rfl rfl rfl ?_
              refine go_iincN C 1 dX6_takeTrial_56 rfl rfl (by decide) rfl rfl ?_
              refine go_goto C 2 dX6_takeTrial_59 (by decide) ?_
              have hadd : cnt (fun j => E j ∨ (j < i + 1 ∧ g j ≠ f j)) 1152 = cnt (fun j => E j ∨ (j < i ∧ g j ≠ f j)) 1152 + 1 := cnt_add h36 (Or.inr ⟨by omega, fun e => h18 e.symm⟩) (fun j hj => ⟨fun z => z.imp id (fun z => ⟨by omega, z.2⟩), fun z => z.imp id (fun z => ⟨by omega, z.2⟩)⟩) 1152 hi2
              exact ih (n - 1) (by omega) (i + 1) _ (by omega) (fun j hj => by
                rw [updR_n (by omega), updR_n (by omega), updR_s]
                show upd (ρ (6 + c)) i (nI (f i)) j = _
                by_cases z : j = i
                · subst z; rw [pk_us, if_pos (by omega)]
                · rw [pk_un z, hp j hj]
                  refine congrArg nI ?_
                  by_cases z2 : j < i
                  · rw [if_pos z2, if_pos (by omega)]
                  · rw [if_neg z2, if_neg (by omega)]) ⟨fun j hj => by
                show upd (updR ρ (6 + c) (upd (ρ (6 + c)) i (nI (f i))) 16) i (vp_nar .boolean (nI 1)) j = _
                by_cases e : j = i
                · subst e; rw [pk_us]; exact bP_t (Or.inr ⟨by omega, fun e => h18 e.symm⟩)
                · rw [pk_un e, updR_n (by omega), hE1.1 j hj]
                  exact bP_c ⟨fun z => z.imp id (fun z => ⟨by omega, z.2⟩), fun z => z.imp id (fun z => ⟨by omega, z.2⟩)⟩, by rw [updR_s, pk_us, hadd]⟩ (fun q q0 q1 q2 => by rw [updR_n q0, updR_n q1, updR_n q2]; exact hF1 q q0 q1 q2) (fun j hj => by rw [updR_s, pk_un hj, updR_n (by omega), updR_n (by omega)]; exact hF2 j hj)
    refine go_iconst C (nI 0) dX6_takeTrial_0 rfl ?_
    refine go_istore_n C dX6_takeTrial_1 (by decide) rfl rfl ?_
    exact L 1152 0 σ (by omega) (fun j hj => by rw [hg j hj, if_neg (Nat.not_lt_zero _)]) ⟨fun j hj => (hE.1 j hj).trans (bP_c ⟨Or.inl, fun z => z.elim id (fun z => absurd z.1 (Nat.not_lt_zero _))⟩), by rw [hE.2]; exact congrArg nI (cnt_c 1152 (fun j hj => ⟨Or.inl, fun z => z.elim id (fun z => absurd z.1 (Nat.not_lt_zero _))⟩))⟩ (fun _ _ _ _ => rfl) (fun _ _ => rfl)
