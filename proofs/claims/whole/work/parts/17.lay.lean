def LayP (σ : Mem) (w : Wd) (c qe e : Nat) : Mem → Prop := fun τ => FrM σ τ ∧ IsLit (srcQ w c qe e) (lossN w c) (litQ w c qe e) ∧ ∀ j, j < 1152 → τ 6 j = nI (litQ w c qe e j)
set_option maxHeartbeats 4000000 in
set_option maxRecDepth 100000 in
theorem k_X7_lay {σ : Mem} {w : Wd} {q qe e : Nat} (hO : OkW w) (hV : View σ w q qe e) (he : e < 16) {c : Nat} (hc : c < 4) : CtV objM NM yX7_lay cX7_lay 6 4 91 [.ref 0, .int (nI c)] σ (LayP σ w c qe e) := by
  refine ct_ofV rfl ?_ (Nat.le_of_ble_eq_true rfl) (fun X C hr => ?_)
  · intro v hv; simp only [List.mem_cons, List.not_mem_nil, or_false] at hv; rcases hv with rfl | rfl <;> rfl
  · have L : ∀ (n : Nat) (lv : Nat) (v3 : Option Value) (v4 : Option Value) (v5 : Option Value) (ρ : Mem) (f1 : Nat → Nat), (lv = n + 1 ∧ lv ≤ 15) → (PI (srcQ w c qe e) (lossN w c) lv f1 (fun _ _ => False)) → (∀ j, j < 1152 → ρ 6 j = nI (f1 j)) → (FrM σ ρ) → Go objM NM X 48 [some (.ref 0), some (.int (nI c)), some (.int (nI lv)), v3, v4, v5] [] ρ := by
      intro n
      induction n using Nat.strongRecOn with
      | _ n ih =>
        intro lv v3 v4 v5 ρ f1 hlv hP1 hg1 hF1
        refine go_iload_n C dX7_lay_48 rfl ?_
        refine go_iconst C (nI 1) dX7_lay_49 rfl ?_
        refine go_icmp_leN C 130 dX7_lay_50 (by decide) (by omega) (by omega) (fun h50 => ?_) (fun h50 => ?_)
        · refine go_vret hr dX7_lay_130 ?_
          have e1 : lv = 1 := by omega
          have hL := PI_1 (e1 ▸ hP1)
          exact ⟨hF1, lfp_is hL, fun j hj => by rw [hg1 j hj]; exact congrArg nI (lfp_eq hL hj)⟩
        · have Lk : ∀ (nk : Nat) (k : Nat) (v4 : Option Value) (v5 : Option Value) (ρ2 : Mem) (f2 : Nat → Nat), (k + nk = 1152) → (PI (srcQ w c qe e) (lossN w c) lv f2 (fun x y => x < k ∧ ∃ d, nbr x d = some y)) → (∀ j, j < 1152 → ρ2 6 j = nI (f2 j)) → (FrM σ ρ2) → Go objM NM X 55 [some (.ref 0), some (.int (nI c)), some (.int (nI lv)), some (.int (nI k)), v4, v5] [] ρ2 := by
            intro nk
            induction nk using Nat.strongRecOn with
            | _ nk ihk =>
              intro k v4 v5 ρ2 f2 hk hP2 hg2 hF2
              refine go_iload_n C dX7_lay_55 rfl ?_
              refine go_sipush C (nI 1152) dX7_lay_56 rfl ?_
              refine go_icmp_geN C 124 dX7_lay_59 (by decide) (by omega) (by omega) (fun h59 => ?_) (fun h59 => ?_)
              · skip
                refine go_iinc C (nI (lv - 1)) dX7_lay_124 rfl (dec_n (by omega)) (by decide) rfl rfl ?_
                refine go_goto C 48 dX7_lay_127 (by decide) ?_
                have hP2b : PI (srcQ w c qe e) (lossN w c) (lv - 1 + 1) f2 (fun x y => x < k ∧ ∃ d, nbr x d = some y) := by rw [show lv - 1 + 1 = lv by omega]; exact hP2
                exact ih (n - 1) (by omega) (lv - 1) _ _ _ ρ2 f2 (by omega) (PI_lv hP2b (fun x y d hx hfx hd => ⟨by omega, d, hd⟩)) hg2 hF2
              · have hkl : k < 1152 := by omega
                have Ld : ∀ (nd : Nat) (d : Nat) (v5 : Option Value) (ρ3 : Mem) (f3 : Nat → Nat), (d + nd = 6) → (PI (srcQ w c qe e) (lossN w c) lv f3 (fun x y => (x < k ∧ ∃ d', nbr x d' = some y) ∨ (x = k ∧ ∃ d', d' < d ∧ nbr x d' = some y))) → (∀ j, j < 1152 → ρ3 6 j = nI (f3 j)) → (FrM σ ρ3) → Go objM NM X 65 [some (.ref 0), some (.int (nI c)), some (.int (nI lv)), some (.int (nI k)), some (.int (nI d)), v5] [] ρ3 := by
                  intro nd
                  induction nd using Nat.strongRecOn with
                  | _ nd ihd =>
                    intro d v5 ρ3 f3 hd hP3 hg3 hF3
                    have hf15 := (hP3.1 k hkl).2
                    refine go_iload C dX7_lay_65 rfl ?_
                    refine go_bipush C (nI 6) dX7_lay_67 rfl ?_
                    refine go_icmp_geN C 118 dX7_lay_69 (by decide) (by omega) (by omega) (fun h69 => ?_) (fun h69 => ?_)
                    · skip
                      refine go_iincN C 1 dX7_lay_118 rfl rfl (by decide) rfl rfl ?_
                      refine go_goto C 55 dX7_lay_121 (by decide) ?_
                      exact ihk (nk - 1) (by omega) (k + 1) _ _ ρ3 f3 (by omega) (PI_mono hP3 (fun x y q => by
                        obtain ⟨q1, d', q2⟩ := q
                        rcases Nat.lt_or_ge x k with z | z
                        · exact Or.inl ⟨z, d', q2⟩
                        · exact Or.inr ⟨by omega, d', by have := nbr_d q2; omega, q2⟩)) hg3 hF3
                    · refine go_aload_n C dX7_lay_72 rfl ?_
                      refine go_getR C gf_X7_26 dX7_lay_73 (by decide) rfl rfl ?_
                      refine go_iload_n C dX7_lay_76 rfl ?_
                      refine go_ialdN C dX7_lay_77 (by decide) rfl (by decide) (by omega) ?_
                      refine go_top _ (hg3 k hkl) ?_
                      refine go_iload_n C dX7_lay_78 rfl ?_
                      refine go_icmp_neN C 118 dX7_lay_79 (by decide) (by omega) (by omega) (fun h79 => ?_) (fun h79 => ?_)
                      · skip
                        refine go_iincN C 1 dX7_lay_118 rfl rfl (by decide) rfl rfl ?_
                        refine go_goto C 55 dX7_lay_121 (by decide) ?_
                        exact ihk (nk - 1) (by omega) (k + 1) _ _ ρ3 f3 (by omega) ⟨hP3.1, hP3.2.1, hP3.2.2.1, fun x y q hx => by
                          obtain ⟨q1, d', q2⟩ := q
                          rcases Nat.lt_or_ge x k with z | z
                          · exact hP3.2.2.2 x y (Or.inl ⟨z, d', q2⟩) hx
                          · exact absurd (show f3 k = lv by rw [← hx]; congr 1; omega) h79⟩ hg3 hF3
                      · refine go_iload_n C dX7_lay_82 rfl ?_
                        refine go_iload C dX7_lay_83 rfl ?_
                        refine go_S2P C ok_X7_next lk_X7_100 dX7_lay_85 (k_X7_next (by omega) (by omega)) (by decide) (Nat.le_of_ble_eq_true rfl) ?_
                        refine go_istore C dX7_lay_88 (by decide) rfl rfl ?_
                        refine go_iload C dX7_lay_90 rfl ?_
                        refine go_if_ltO C 112 dX7_lay_92 (by decide) (fun j hj => by have := nbr_lt hkl hj; omega) (fun h92 => ?_) (fun h92 => ?_)
                        · skip
                          refine go_iincN C 1 dX7_lay_112 rfl rfl (by decide) rfl rfl ?_
                          refine go_goto C 65 dX7_lay_115 (by decide) ?_
                          exact ihd (nd - 1) (by omega) (d + 1) _ ρ3 f3 (by omega) (PI_mono hP3 (fun x y q => q.elim Or.inl (fun q => by
                            obtain ⟨q1, d', q2, q3⟩ := q
                            subst q1
                            rcases Nat.lt_or_ge d' d with q4 | q4
                            · exact Or.inr ⟨rfl, d', q4, q3⟩
                            · obtain rfl : d' = d := by omega
                              rw [h92] at q3; cases q3))) hg3 hF3
                        · obtain ⟨b, hb⟩ := h92
                          rw [hb]
                          dsimp only [oI]
                          have hbl := nbr_lt hkl hb
                          have hl16 := lossN_lt hO hc hbl
                          have hb15 := (hP3.1 b hbl).2
                          refine go_aload_n C dX7_lay_95 rfl ?_
                          refine go_iload C dX7_lay_96 rfl ?_
                          refine go_iload_n C dX7_lay_98 rfl ?_
                          refine go_iconst C (nI 1) dX7_lay_99 rfl ?_
                          refine go_isubN C dX7_lay_100 (by omega) ?_
                          refine go_aload_n C dX7_lay_101 rfl ?_
                          refine go_iload C dX7_lay_102 rfl ?_
                          refine go_iload_n C dX7_lay_104 rfl ?_
                          refine go_V2P C ok_X7_lossOf lk_X7_93 dX7_lay_105 (by decide) rfl rfl rfl (k_X7_lossOf hO (hF3.V hV) hbl hc) (by decide) (Nat.le_of_ble_eq_true rfl) ?_
                          refine go_isub C dX7_lay_108 ?_
                          refine go_V2V C ok_X7_raise lk_X7_96 dX7_lay_109 (by decide) rfl rfl rfl (k_X7_raise hbl _) (by decide) (Nat.le_of_ble_eq_true rfl) (fun τ hp => ?_)
                          refine go_iincN C 1 dX7_lay_112 rfl rfl (by decide) rfl rfl ?_
                          refine go_goto C 65 dX7_lay_115 (by decide) ?_
                          have hp2 := PI_rse hP3 (by omega) hkl h79 hb
                          exact ihd (nd - 1) (by omega) (d + 1) _ τ (rse f3 (lossN w c) lv b) (by omega) (PI_mono hp2 (fun x y q => q.elim (fun q => Or.inl (Or.inl q)) (fun q => by
                            obtain ⟨q1, d', q2, q3⟩ := q
                            subst q1
                            rcases Nat.lt_or_ge d' d with q4 | q4
                            · exact Or.inl (Or.inr ⟨rfl, d', q4, q3⟩)
                            · obtain rfl : d' = d := by omega
                              rw [hb] at q3; cases q3; exact Or.inr ⟨rfl, rfl⟩))) (fun j hj => by
                            rw [hp, updR_s]
                            unfold rse
                            by_cases z : j = b
                            · subst z; rw [pk_us, un_s, hg3 j hj, mx_sub (by omega) (by omega) (by omega)]
                            · rw [pk_un z, un_n z]; exact hg3 j hj) (by rw [hp]; exact hF3.trans (fun q z => updR_n z))
                refine go_iconst C (nI 0) dX7_lay_62 rfl ?_
                refine go_istore C dX7_lay_63 (by decide) rfl rfl ?_
                exact Ld 6 0 _ ρ2 f2 (by omega) (PI_mono hP2 (fun x y q => q.elim id (fun q => absurd q.2.choose_spec.1 (Nat.not_lt_zero _)))) hg2 hF2
          refine go_iconst C (nI 0) dX7_lay_53 rfl ?_
          refine go_istore_n C dX7_lay_54 (by decide) rfl rfl ?_
          exact Lk 1152 0 _ _ ρ f1 (by omega) (PI_mono hP1 (fun x y q => absurd q.1 (Nat.not_lt_zero _))) hg1 hF1
    have J : ∀ (τ : Mem) (v2 v3 v4 v5 : Option Value), (∀ j, j < 1152 → τ 6 j = nI ((srcQ w c qe e) j)) → FrM σ τ → Go objM NM X 45 [some (.ref 0), some (.int (nI c)), v2, v3, v4, v5] [] τ := by
      intro τ v2 v3 v4 v5 hg hF1
      refine go_bipush C (nI 15) dX7_lay_45 rfl ?_
      refine go_istore_n C dX7_lay_47 (by decide) rfl rfl ?_
      exact L 14 15 _ _ _ τ (srcQ w c qe e) ⟨rfl, by decide⟩ (PI_0 (srcQ_le hO hc he) (fun _ _ => rfl)) hg hF1
    have A : ∀ (n : Nat) (i : Nat) (ρ : Mem), (i + n = 1152) → (∀ j, j < i → ρ 6 j = nI (if c < 3 then (if j = qe then e else emN w c j) else 0)) → (FrM σ ρ) → Go objM NM X 2 [some (.ref 0), some (.int (nI c)), some (.int (nI i)), none, none, none] [] ρ := by
      intro n
      induction n using Nat.strongRecOn with
      | _ n ih =>
        intro i ρ hi hg hF1
        have hV1 := hF1.V hV
        refine go_iload_n C dX7_lay_2 rfl ?_
        refine go_sipush C (nI 1152) dX7_lay_3 rfl ?_
        refine go_icmp_geN C 36 dX7_lay_6 (by decide) (by omega) (by omega) (fun h6 => ?_) (fun h6 => ?_)
        · obtain rfl : i = 1152 := by omega
          refine go_iload_n C dX7_lay_36 rfl ?_
          refine go_iconst C (nI 3) dX7_lay_37 rfl ?_
          refine go_icmp_neN C 45 dX7_lay_38 (by decide) (by omega) (by omega) (fun h38 => ?_) (fun h38 => ?_)
          · skip
            first | exact J τ _ _ _ _ (fun j hj => by rw [hp.2 j hj]; unfold srcQ; rw [if_pos rfl]) (hF1.trans hp.1) | exact J ρ _ _ _ _ (fun j hj => by rw [hg j hj]; unfold srcQ; rw [if_pos (by omega), if_neg h38]) hF1
          · subst h38
            refine go_aload_n C dX7_lay_41 rfl ?_
            refine go_V0V C ok_X7_laySun lk_X7_106 dX7_lay_42 (by decide) rfl rfl rfl (k_X7_laySun hO hV1 (fun k hk => by rw [hg k hk]; rfl)) (by decide) (Nat.le_of_ble_eq_true rfl) (fun τ hp => ?_)
            first | exact J τ _ _ _ _ (fun j hj => by rw [hp.2 j hj]; unfold srcQ; rw [if_pos rfl]) (hF1.trans hp.1) | exact J ρ _ _ _ _ (fun j hj => by rw [hg j hj]; unfold srcQ; rw [if_pos (by omega), if_neg h38]) hF1
        · refine go_aload_n C dX7_lay_9 rfl ?_
          refine go_getR C gf_X7_26 dX7_lay_10 (by decide) rfl rfl ?_
          refine go_iload_n C dX7_lay_13 rfl ?_
          refine go_iload_n C dX7_lay_14 rfl ?_
          refine go_iconst C (nI 3) dX7_lay_15 rfl ?_
          refine go_icmp_geN C 28 dX7_lay_16 (by decide) (by omega) (by omega) (fun h16 => ?_) (fun h16 => ?_)
          · skip
            refine go_iconst C (nI 0) dX7_lay_28 rfl ?_
            refine go_iastN C dX7_lay_29 (by decide) rfl (by decide) (by omega) ?_
            refine go_iincN C 1 dX7_lay_30 rfl rfl (by decide) rfl rfl ?_
            refine go_goto C 2 dX7_lay_33 (by decide) ?_
            exact ih (n - 1) (by omega) (i + 1) _ (by omega) (fun j hj => by
              show upd (ρ 6) i _ j = _
              by_cases z : j = i
              · subst z; rw [pk_us]; first | rw [if_pos (show c < 3 by omega)] | rw [if_neg (show ¬ c < 3 by omega)]
              · rw [pk_un z]; exact hg j (by omega)) (hF1.trans (fun q z => updR_n z))
          · refine go_aload_n C dX7_lay_19 rfl ?_
            refine go_iload_n C dX7_lay_20 rfl ?_
            refine go_iload_n C dX7_lay_21 rfl ?_
            refine go_V2P C ok_X7_emissionOf lk_X7_103 dX7_lay_22 (by decide) rfl rfl rfl (k_X7_emissionOf hO hV1 (by omega) hc) (by decide) (Nat.le_of_ble_eq_true rfl) ?_
            refine go_goto C 29 dX7_lay_25 (by decide) ?_
            refine go_iastN C dX7_lay_29 (by decide) rfl (by decide) (by omega) ?_
            refine go_iincN C 1 dX7_lay_30 rfl rfl (by decide) rfl rfl ?_
            refine go_goto C 2 dX7_lay_33 (by decide) ?_
            exact ih (n - 1) (by omega) (i + 1) _ (by omega) (fun j hj => by
              show upd (ρ 6) i _ j = _
              by_cases z : j = i
              · subst z; rw [pk_us]; first | rw [if_pos (show c < 3 by omega)] | rw [if_neg (show ¬ c < 3 by omega)]
              · rw [pk_un z]; exact hg j (by omega)) (hF1.trans (fun q z => updR_n z))
    refine go_iconst C (nI 0) dX7_lay_0 rfl ?_
    refine go_istore_n C dX7_lay_1 (by decide) rfl rfl ?_
    exact A 1152 0 σ (by omega) (fun j h => absurd h (Nat.not_lt_zero _)) FrM.refl
