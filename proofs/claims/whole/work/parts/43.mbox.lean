set_option maxHeartbeats 4000000 in
set_option maxRecDepth 100000 in
theorem k_X7_lays {σ : Mem} {f : Nat → Nat} {a b c a2 b2 c2 t : Nat} (h1 : a < 12 ∧ b < 8 ∧ c < 12) (h2 : a2 < 12 ∧ b2 < 8 ∧ c2 < 12) (hf : ∀ j, j < 1152 → σ 1 j = nI (f j)) : CtV objM NM yX7_lays cX7_lays 10 1 22 [.ref 0, .int (nI a), .int (nI b), .int (nI c), .int (nI a2), .int (nI b2), .int (nI c2), .int (nI t)] σ (fun τ => (∀ j, j < 1152 → τ 1 j = nI (bxT f a b c a2 b2 c2 t j)) ∧ (∀ q, q ≠ 1 → τ q = σ q) ∧ ∀ j, 1152 ≤ j → τ 1 j = σ 1 j) := by
  refine ct_ofV rfl ?_ (Nat.le_of_ble_eq_true rfl) (fun X C hr => ?_)
  · intro v hv; simp only [List.mem_cons, List.not_mem_nil, or_false] at hv; rcases hv with rfl | rfl | rfl | rfl | rfl | rfl | rfl | rfl <;> rfl
  · have L : ∀ (n : Nat) (i : Nat) (v9 : Option Value) (ρ : Mem), (i + n = 1152) → (∀ j, j < 1152 → ρ 1 j = nI (if j < i then bxT f a b c a2 b2 c2 t j else f j)) → ((∀ q, q ≠ 1 → ρ q = σ q) ∧ ∀ j, 1152 ≤ j → ρ 1 j = σ 1 j) → Go objM NM X 3 [some (.ref 0), some (.int (nI a)), some (.int (nI b)), some (.int (nI c)), some (.int (nI a2)), some (.int (nI b2)), some (.int (nI c2)), some (.int (nI t)), some (.int (nI i)), v9] [] ρ := by
      intro n
      induction n using Nat.strongRecOn with
      | _ n ih =>
        intro i v9 ρ hi hg hF
        refine go_iload C dX7_lays_3 rfl ?_
        refine go_sipush C (nI 1152) dX7_lays_5 rfl ?_
        refine go_icmp_geN C 90 dX7_lays_8 (by decide) (by omega) (by omega) (fun h8 => ?_) (fun h8 => ?_)
        · obtain rfl : i = 1152 := by omega
          refine go_vret hr dX7_lays_90 ?_
          exact ⟨fun j hj => by rw [hg j hj, if_pos hj], hF⟩
        · have hk : i < 1152 := by omega
          have bx := cX_lt i
          have by1 := cY_lt i
          have bz := cZ_lt hk
          have hcur : ρ 1 i = nI (f i) := by rw [hg i hk, if_neg (Nat.lt_irrefl _)]
          refine go_iload C dX7_lays_11 rfl ?_
          refine go_S1P C ok_X7_xOf lk_X7_68 dX7_lays_13 (k_X7_xOf (by omega)) (by decide) (Nat.le_of_ble_eq_true rfl) ?_
          refine go_iload_n C dX7_lays_16 rfl ?_
          refine go_iload C dX7_lays_17 rfl ?_
          refine go_S3P C ok_X7_in lk_X7_57 dX7_lays_19 (k_X7_in0 _ _ _) (by decide) (Nat.le_of_ble_eq_true rfl) ?_
          refine go_if_eqB C 57 dX7_lays_22 (by decide) (fun h22 => ?_) (fun h22 => ?_)
          · rw [inI_nI (by omega) (by omega) (by omega)] at h22
            have hbx : ¬ (a ≤ cX i ∧ cX i ≤ a2 ∧ b ≤ cY i ∧ cY i ≤ b2 ∧ c ≤ cZ i ∧ cZ i ≤ c2) := fun z => h22 ⟨z.1, z.2.1⟩
            refine go_iconst C (nI 0) dX7_lays_57 rfl ?_
            refine go_istore C dX7_lays_58 (by decide) rfl rfl ?_
            refine go_aload_n C dX7_lays_60 rfl ?_
            refine go_getR C gf_X7_9 dX7_lays_61 (by decide) rfl rfl ?_
            refine go_iload C dX7_lays_64 rfl ?_
            refine go_iload C dX7_lays_66 rfl ?_
            refine go_if_eqN C 76 dX7_lays_68 (by decide) (by omega) (fun h68 => ?_) (fun h68 => ?_)
            · have hnew : nI (f i) = nI (bxT f a b c a2 b2 c2 t i) := by unfold bxT; rw [if_neg hbx]
              refine go_aload_n C dX7_lays_76 rfl ?_
              refine go_getR C gf_X7_9 dX7_lays_77 (by decide) rfl rfl ?_
              refine go_iload C dX7_lays_80 rfl ?_
              refine go_ialdN C dX7_lays_82 (by decide) rfl (by decide) (by omega) ?_
              refine go_top _ hcur ?_
              refine go_iastN C dX7_lays_83 (by decide) rfl (by decide) (by omega) ?_
              refine go_iincN C 1 dX7_lays_84 rfl rfl (by decide) rfl rfl ?_
              refine go_goto C 3 dX7_lays_87 (by decide) ?_
              exact ih (n - 1) (by omega) (i + 1) _ _ (by omega) (fun j hj => by
                show upd (ρ 1) i _ j = _
                by_cases e : j = i
                · subst e; rw [pk_us, if_pos (Nat.lt_succ_self _)]; exact hnew
                · rw [pk_un e, hg j hj]
                  refine congrArg nI ?_
                  by_cases z : j < i
                  · rw [if_pos z, if_pos (by omega)]
                  · rw [if_neg z, if_neg (by omega)]) ⟨fun q hq => (updR_n hq).trans (hF.1 q hq), fun j hj => by
                show upd (ρ 1) i _ j = _
                rw [pk_un (by omega)]; exact hF.2 j hj⟩
            · exact absurd rfl h68
          · rw [inI_nI (by omega) (by omega) (by omega)] at h22
            refine go_iload C dX7_lays_25 rfl ?_
            refine go_S1P C ok_X7_yOf lk_X7_65 dX7_lays_27 (k_X7_yOf (by omega)) (by decide) (Nat.le_of_ble_eq_true rfl) ?_
            refine go_iload_n C dX7_lays_30 rfl ?_
            refine go_iload C dX7_lays_31 rfl ?_
            refine go_S3P C ok_X7_in lk_X7_57 dX7_lays_33 (k_X7_in0 _ _ _) (by decide) (Nat.le_of_ble_eq_true rfl) ?_
            refine go_if_eqB C 57 dX7_lays_36 (by decide) (fun h36 => ?_) (fun h36 => ?_)
            · rw [inI_nI (by omega) (by omega) (by omega)] at h36
              have hbx : ¬ (a ≤ cX i ∧ cX i ≤ a2 ∧ b ≤ cY i ∧ cY i ≤ b2 ∧ c ≤ cZ i ∧ cZ i ≤ c2) := fun z => h36 ⟨z.2.2.1, z.2.2.2.1⟩
              refine go_iconst C (nI 0) dX7_lays_57 rfl ?_
              refine go_istore C dX7_lays_58 (by decide) rfl rfl ?_
              refine go_aload_n C dX7_lays_60 rfl ?_
              refine go_getR C gf_X7_9 dX7_lays_61 (by decide) rfl rfl ?_
              refine go_iload C dX7_lays_64 rfl ?_
              refine go_iload C dX7_lays_66 rfl ?_
              refine go_if_eqN C 76 dX7_lays_68 (by decide) (by omega) (fun h68 => ?_) (fun h68 => ?_)
              · have hnew : nI (f i) = nI (bxT f a b c a2 b2 c2 t i) := by unfold bxT; rw [if_neg hbx]
                refine go_aload_n C dX7_lays_76 rfl ?_
                refine go_getR C gf_X7_9 dX7_lays_77 (by decide) rfl rfl ?_
                refine go_iload C dX7_lays_80 rfl ?_
                refine go_ialdN C dX7_lays_82 (by decide) rfl (by decide) (by omega) ?_
                refine go_top _ hcur ?_
                refine go_iastN C dX7_lays_83 (by decide) rfl (by decide) (by omega) ?_
                refine go_iincN C 1 dX7_lays_84 rfl rfl (by decide) rfl rfl ?_
                refine go_goto C 3 dX7_lays_87 (by decide) ?_
                exact ih (n - 1) (by omega) (i + 1) _ _ (by omega) (fun j hj => by
                  show upd (ρ 1) i _ j = _
                  by_cases e : j = i
                  · subst e; rw [pk_us, if_pos (Nat.lt_succ_self _)]; exact hnew
                  · rw [pk_un e, hg j hj]
                    refine congrArg nI ?_
                    by_cases z : j < i
                    · rw [if_pos z, if_pos (by omega)]
                    · rw [if_neg z, if_neg (by omega)]) ⟨fun q hq => (updR_n hq).trans (hF.1 q hq), fun j hj => by
                  show upd (ρ 1) i _ j = _
                  rw [pk_un (by omega)]; exact hF.2 j hj⟩
              · exact absurd rfl h68
            · rw [inI_nI (by omega) (by omega) (by omega)] at h36
              refine go_iload C dX7_lays_39 rfl ?_
              refine go_S1P C ok_X7_zOf lk_X7_61 dX7_lays_41 (k_X7_zOf (by omega)) (by decide) (Nat.le_of_ble_eq_true rfl) ?_
              refine go_iload_n C dX7_lays_44 rfl ?_
              refine go_iload C dX7_lays_45 rfl ?_
              refine go_S3P C ok_X7_in lk_X7_57 dX7_lays_47 (k_X7_in0 _ _ _) (by decide) (Nat.le_of_ble_eq_true rfl) ?_
              refine go_if_eqB C 57 dX7_lays_50 (by decide) (fun h50 => ?_) (fun h50 => ?_)
              · rw [inI_nI (by omega) (by omega) (by omega)] at h50
                have hbx : ¬ (a ≤ cX i ∧ cX i ≤ a2 ∧ b ≤ cY i ∧ cY i ≤ b2 ∧ c ≤ cZ i ∧ cZ i ≤ c2) := fun z => h50 ⟨z.2.2.2.2.1, z.2.2.2.2.2⟩
                refine go_iconst C (nI 0) dX7_lays_57 rfl ?_
                refine go_istore C dX7_lays_58 (by decide) rfl rfl ?_
                refine go_aload_n C dX7_lays_60 rfl ?_
                refine go_getR C gf_X7_9 dX7_lays_61 (by decide) rfl rfl ?_
                refine go_iload C dX7_lays_64 rfl ?_
                refine go_iload C dX7_lays_66 rfl ?_
                refine go_if_eqN C 76 dX7_lays_68 (by decide) (by omega) (fun h68 => ?_) (fun h68 => ?_)
                · have hnew : nI (f i) = nI (bxT f a b c a2 b2 c2 t i) := by unfold bxT; rw [if_neg hbx]
                  refine go_aload_n C dX7_lays_76 rfl ?_
                  refine go_getR C gf_X7_9 dX7_lays_77 (by decide) rfl rfl ?_
                  refine go_iload C dX7_lays_80 rfl ?_
                  refine go_ialdN C dX7_lays_82 (by decide) rfl (by decide) (by omega) ?_
                  refine go_top _ hcur ?_
                  refine go_iastN C dX7_lays_83 (by decide) rfl (by decide) (by omega) ?_
                  refine go_iincN C 1 dX7_lays_84 rfl rfl (by decide) rfl rfl ?_
                  refine go_goto C 3 dX7_lays_87 (by decide) ?_
                  exact ih (n - 1) (by omega) (i + 1) _ _ (by omega) (fun j hj => by
                    show upd (ρ 1) i _ j = _
                    by_cases e : j = i
                    · subst e; rw [pk_us, if_pos (Nat.lt_succ_self _)]; exact hnew
                    · rw [pk_un e, hg j hj]
                      refine congrArg nI ?_
                      by_cases z : j < i
                      · rw [if_pos z, if_pos (by omega)]
                      · rw [if_neg z, if_neg (by omega)]) ⟨fun q hq => (updR_n hq).trans (hF.1 q hq), fun j hj => by
                    show upd (ρ 1) i _ j = _
                    rw [pk_un (by omega)]; exact hF.2 j hj⟩
                · exact absurd rfl h68
              · rw [inI_nI (by omega) (by omega) (by omega)] at h50
                have hbx : (a ≤ cX i ∧ cX i ≤ a2 ∧ b ≤ cY i ∧ cY i ≤ b2 ∧ c ≤ cZ i ∧ cZ i ≤ c2) := ⟨h22.1, h22.2, h36.1, h36.2, h50.1, h50.2⟩
                refine go_iconst C (nI 1) dX7_lays_53 rfl ?_
                refine go_goto C 58 dX7_lays_54 (by decide) ?_
                refine go_istore C dX7_lays_58 (by decide) rfl rfl ?_
                refine go_aload_n C dX7_lays_60 rfl ?_
                refine go_getR C gf_X7_9 dX7_lays_61 (by decide) rfl rfl ?_
                refine go_iload C dX7_lays_64 rfl ?_
                refine go_iload C dX7_lays_66 rfl ?_
                refine go_if_eqN C 76 dX7_lays_68 (by decide) (by omega) (fun h68 => ?_) (fun h68 => ?_)
                · exact absurd h68 (by decide)
                · have hnew : nI t = nI (bxT f a b c a2 b2 c2 t i) := by unfold bxT; rw [if_pos hbx]
                  refine go_iload C dX7_lays_71 rfl ?_
                  refine go_goto C 83 dX7_lays_73 (by decide) ?_
                  refine go_iastN C dX7_lays_83 (by decide) rfl (by decide) (by omega) ?_
                  refine go_iincN C 1 dX7_lays_84 rfl rfl (by decide) rfl rfl ?_
                  refine go_goto C 3 dX7_lays_87 (by decide) ?_
                  exact ih (n - 1) (by omega) (i + 1) _ _ (by omega) (fun j hj => by
                    show upd (ρ 1) i _ j = _
                    by_cases e : j = i
                    · subst e; rw [pk_us, if_pos (Nat.lt_succ_self _)]; exact hnew
                    · rw [pk_un e, hg j hj]
                      refine congrArg nI ?_
                      by_cases z : j < i
                      · rw [if_pos z, if_pos (by omega)]
                      · rw [if_neg z, if_neg (by omega)]) ⟨fun q hq => (updR_n hq).trans (hF.1 q hq), fun j hj => by
                    show upd (ρ 1) i _ j = _
                    rw [pk_un (by omega)]; exact hF.2 j hj⟩
    refine go_iconst C (nI 0) dX7_lays_0 rfl ?_
    refine go_istore C dX7_lays_1 (by decide) rfl rfl ?_
    exact L 1152 0 _ σ (by omega) (fun j hj => by rw [hf j hj, if_neg (Nat.not_lt_zero _)]) ⟨fun _ _ => rfl, fun _ _ => rfl⟩
def ColM (σ : Mem) (es : List (Nat × Nat)) (k t : Nat) : Int32 → Mem → Prop := fun r τ => (40 ≤ fidx k es ∧ r = -3 ∧ τ = σ) ∨ (¬ 40 ≤ fidx k es ∧ r = nI (colL es k t).length ∧ BatM τ (some (colL es k t)) ∧ (∀ q, q ≠ 0 → q ≠ 7 → q ≠ 8 → τ q = σ q) ∧ ∀ i, i ≠ 12 → τ 0 i = σ 0 i)
set_option maxHeartbeats 4000000 in
set_option maxRecDepth 100000 in
theorem k_X7_collect {σ : Mem} {es : List (Nat × Nat)} (hB : BatM σ (some es)) (hB1 : es.length ≤ 40) (hB2 : ∀ p, p ∈ es → p.1 < 1152 ∧ p.2 < 8) {k t : Nat} (hk : k < 1152) (ht : t < 8) : CtI objM NM yX7_collect cX7_collect 4 .int 1 19 [.ref 0, .int (nI k), .int (nI t)] σ (ColM σ es k t) := by
  obtain ⟨hop, hsz, hes⟩ := hB
  refine ct_ofI rfl ?_ (Nat.le_of_ble_eq_true rfl) (fun X C hr => ?_)
  · intro v hv; simp only [List.mem_cons, List.not_mem_nil, or_false] at hv; rcases hv with rfl | rfl | rfl <;> rfl
  · have J : ∀ i : Nat, fidx k es = i → Go objM NM X 26 [some (.ref 0), some (.int (nI k)), some (.int (nI t)), some (.int (nI i))] [] σ := by
      intro i hf
      have hfl := fidx_le (k := k) es
      have hcl := colL_len (es := es) (k := k) (t := t)
      have hmx : (colL es k t).length = max es.length (i + 1) := by rw [hcl, hf, Nat.max_def]; split <;> split <;> omega
      refine go_iload_n C dX7_collect_26 rfl ?_
      refine go_bipush C (nI 40) dX7_collect_27 rfl ?_
      refine go_icmp_neN C 35 dX7_collect_29 (by decide) (by omega) (by omega) (fun h29 => ?_) (fun h29 => ?_)
      · refine go_aload_n C dX7_collect_35 rfl ?_
        refine go_getR C gf_X7_33 dX7_collect_36 (by decide) rfl rfl ?_
        refine go_iload_n C dX7_collect_39 rfl ?_
        refine go_iload_n C dX7_collect_40 rfl ?_
        refine go_iastN C dX7_collect_41 (by decide) rfl (by decide) (by omega) ?_
        refine go_aload_n C dX7_collect_42 rfl ?_
        refine go_getR C gf_X7_36 dX7_collect_43 (by decide) rfl rfl ?_
        refine go_iload_n C dX7_collect_46 rfl ?_
        refine go_iload_n C dX7_collect_47 rfl ?_
        refine go_iastN C dX7_collect_48 (by decide) rfl (by decide) (by omega) ?_
        refine go_aload_n C dX7_collect_49 rfl ?_
        refine go_aload_n C dX7_collect_50 rfl ?_
        refine go_getI C gf_X7_120 dX7_collect_51 (by decide) rfl rfl ?_
        refine go_top (nI es.length) (by rw [updR_n (by decide), updR_n (by decide)]; exact hsz) ?_
        refine go_iload_n C dX7_collect_54 rfl ?_
        refine go_iconst C (nI 1) dX7_collect_55 rfl ?_
        refine go_iaddN C dX7_collect_56 ?_
        refine go_maxN C lk_X7_87 dX7_collect_57 (by decide) (Nat.le_of_ble_eq_true rfl) (by omega) (by omega) ?_
        refine go_putI C gf_X7_120 dX7_collect_60 (by decide) rfl rfl rfl rfl rfl ?_
        refine go_aload_n C dX7_collect_63 rfl ?_
        refine go_getI C gf_X7_120 dX7_collect_64 (by decide) rfl rfl ?_
        refine go_top (nI (colL es k t).length) (by rw [updR_s, pk_us, hmx]) ?_
        refine go_iret hr dX7_collect_67 rfl ?_
        refine Or.inr ⟨by omega, rfl, ⟨?_, ?_, ?_⟩, fun q q0 q1 q2 => by rw [updR_n q0, updR_n q2, updR_n q1], fun j hj => ?_⟩
        · rw [updR_s, pk_un (by decide), updR_n (by decide), updR_n (by decide)]; exact hop
        · rw [updR_s, pk_us, hmx]
        · exact colL_get hes hf
        · rw [updR_s, pk_un hj, updR_n (by decide), updR_n (by decide)]
      · refine go_bipush C (-3) dX7_collect_32 rfl ?_
        refine go_iret hr dX7_collect_34 rfl ?_
        exact Or.inl ⟨by omega, rfl, rfl⟩
    have L : ∀ (n : Nat) (i : Nat), (i + n = es.length) → (∀ j p, j < i → es[j]? = some p → p.1 ≠ k) → Go objM NM X 2 [some (.ref 0), some (.int (nI k)), some (.int (nI t)), some (.int (nI i))] [] σ := by
      intro n
      induction n using Nat.strongRecOn with
      | _ n ih =>
        intro i hi hno
        refine go_iload_n C dX7_collect_2 rfl ?_
        refine go_aload_n C dX7_collect_3 rfl ?_
        refine go_getI C gf_X7_120 dX7_collect_4 (by decide) rfl rfl ?_
        refine go_top _ hsz ?_
        refine go_icmp_geN C 26 dX7_collect_7 (by decide) (by omega) (by omega) (fun h7 => ?_) (fun h7 => ?_)
        · have hfx := fidx_at (k := k) es i (by omega) hno (Or.inl (by omega))
          exact J i hfx
        · obtain ⟨p, hp⟩ : ∃ p, es[i]? = some p := ⟨es[i], List.getElem?_eq_getElem h7⟩
          have hpb := hB2 p (List.mem_of_getElem? hp)
          refine go_aload_n C dX7_collect_10 rfl ?_
          refine go_getR C gf_X7_33 dX7_collect_11 (by decide) rfl rfl ?_
          refine go_iload_n C dX7_collect_14 rfl ?_
          refine go_ialdN C dX7_collect_15 (by decide) rfl (by decide) (by omega) ?_
          refine go_top _ (hes i p hp).1 ?_
          refine go_iload_n C dX7_collect_16 rfl ?_
          refine go_icmp_eqN C 26 dX7_collect_17 (by decide) (by omega) (by omega) (fun h17 => ?_) (fun h17 => ?_)
          · have hfx := fidx_at (k := k) es i (by omega) hno (Or.inr ⟨p, hp, h17⟩)
            exact J i hfx
          · refine go_iincN C 1 dX7_collect_20 rfl rfl (by decide) rfl rfl ?_
            refine go_goto C 2 dX7_collect_23 (by decide) ?_
            exact ih (n - 1) (by omega) (i + 1) (by omega) (fun j q hj hq => by
              rcases Nat.lt_or_ge j i with z | z
              · exact hno j q z hq
              · rw [show j = i by omega, hp] at hq; cases hq; exact h17)
    refine go_iconst C (nI 0) dX7_collect_0 rfl ?_
    refine go_istore_n C dX7_collect_1 (by decide) rfl rfl ?_
    exact L es.length 0 (by omega) (fun j p h => absurd h (Nat.not_lt_zero _))
theorem chg_repM {σ σ2 τ : Mem} {S : St} {v : Wd} {r : Int32} {hs : List Wd} (hR : RepM σ S) (hH : HisM σ2 hs) (hs6 : hs.length ≤ 6 ∧ ∀ w, w ∈ hs → OkW w) (hF2 : ∀ q, q ≠ 0 → q ≠ 1 → q ≠ 3 → σ2 q = σ q) (hF0 : ∀ i, i ≠ 4 → i ≠ 11 → i ≠ 12 → σ2 0 i = σ 0 i) (hB2 : σ2 0 11 = nI 0) (hOv : OkW v) (hW2 : HasM σ2 1 0 v) (hrel : ChgP σ2 (lit (sW S)) v r τ) : r = nI (cnt (effO (sW S) v) 1152) ∧ RepM τ (v, effO (sW S) v, none, hs, sS S, sX S, sF S) := by
  obtain ⟨hS, hW, hL, hEf, hB, hH0, hSv, hX, hFt, hoc⟩ := hR
  obtain ⟨q1, q2, q3, q4, q5⟩ := hrel
  have e0 : τ 0 = σ2 0 := q5 0 (by decide) (by decide) (by decide)
  have f0 : ∀ i, i ≠ 4 → i ≠ 11 → i ≠ 12 → τ 0 i = σ 0 i := fun i a b c => by rw [e0]; exact hF0 i a b c
  exact ⟨q1, ⟨hOv, q2, fun es he => (by cases he), hs6, hS.2.2.2.2⟩, hW2.of (q5 1 (by decide) (by decide) (by decide)), q3, q4, by show τ 0 11 = nI 0; rw [e0]; exact hB2, hH.of (by rw [e0]) (q5 3 (by decide) (by decide) (by decide)), hSv.of (f0 2 (by decide) (by decide) (by decide)) ((q5 2 (by decide) (by decide) (by decide)).trans (hF2 2 (by decide) (by decide) (by decide))), hX.of (f0 15 (by decide) (by decide) (by decide)) ((q5 9 (by decide) (by decide) (by decide)).trans (hF2 9 (by decide) (by decide) (by decide))), (f0 17 (by decide) (by decide) (by decide)).trans hFt, (f0 8 (by decide) (by decide) (by decide)).trans hoc⟩
theorem bat_repM {σ τ : Mem} {S : St} {b : Option (List (Nat × Nat))} (hR : RepM σ S) (hb : OkB b) (hB : BatM τ b) (p4 : ∀ q, q ≠ 0 → q ≠ 7 → q ≠ 8 → τ q = σ q) (p0 : ∀ i, i ≠ 11 → i ≠ 12 → τ 0 i = σ 0 i) : RepM τ (stB S b) := by
  obtain ⟨hS, hW, hL, hEf, hB0, hH, hSv, hX, hFt, hoc⟩ := hR
  have f : ∀ q, q = 1 ∨ q = 2 ∨ q = 3 ∨ q = 4 ∨ q = 5 ∨ q = 9 → τ q = σ q := fun q hq => p4 q (by omega) (by omega) (by omega)
  exact ⟨stB_ok hS hb, hW.of (f 1 (by decide)), fun c hc j hj => by rw [f 4 (by decide)]; exact hL c hc j hj, fun j hj => by rw [f 5 (by decide)]; exact hEf j hj, hB, hH.of (p0 4 (by decide) (by decide)) (f 3 (by decide)), hSv.of (p0 2 (by decide) (by decide)) (f 2 (by decide)), hX.of (p0 15 (by decide) (by decide)) (f 9 (by decide)), (p0 17 (by decide) (by decide)).trans hFt, (p0 8 (by decide) (by decide)).trans hoc⟩
