theorem un_ide {f : Nat → Nat} {k v : Nat} (h : v = f k) : un f k v = f := by rw [h]; exact un_id
set_option maxHeartbeats 4000000 in
set_option maxRecDepth 100000 in
theorem k_X4_enterEmissions {σ : Mem} {w : Wd} (hO : OkW w) (hW : HasW σ 1 w) {c q : Nat} (hc : c < 4) (hc3 : c ≠ 3) {u : Int32} (hu : ∀ k, k < 1152 → (nI k = u ↔ k = q)) {G : Nat → List Nat} (hE : Ent σ (fun _ => False) (srcQ w c q 0) G 0) : CtV objC NC yX4_enterEmissions cX4_enterEmissions 6 1 23 [.ref 10, .ref 1, .int (nI c), .int u, .ref 14] σ (fun τ => ∃ (G' : Nat → List Nat) (E' : Nat), Ent τ (fun _ => True) (srcQ w c q 0) G' E' ∧ E' ≤ 1152 ∧ FrL σ τ) := by
  refine ct_ofV rfl ?_ (Nat.le_of_ble_eq_true rfl) (fun X C hr => ?_)
  · intro v hv; simp only [List.mem_cons, List.not_mem_nil, or_false] at hv; rcases hv with rfl | rfl | rfl | rfl | rfl <;> rfl
  · have L : ∀ (n : Nat) (i : Nat) (ρ : Mem) (G1 : Nat → List Nat) (E1 : Nat), (i + n = 1152) → (Ent ρ (fun j => j < i) (srcQ w c q 0) G1 E1) → (E1 ≤ i) → (FrL σ ρ) → Go objC NC X 3 [some (.ref 10), some (.ref 1), some (.int (nI c)), some (.int u), some (.ref 14), some (.int (nI i))] [] ρ := by
      intro n
      induction n using Nat.strongRecOn with
      | _ n ih =>
        intro i ρ G1 E1 hi hE1 hEi hF1
        have hW1 := hF1.W hW
        refine go_iload C dX4_enterEmissions_3 rfl ?_
        refine go_sipush C (nI 1152) dX4_enterEmissions_5 rfl ?_
        refine go_icmp_geN C 42 dX4_enterEmissions_8 (by decide) (by omega) (by omega) (fun h8 => ?_) (fun h8 => ?_)
        · refine go_vret hr dX4_enterEmissions_42 ?_
          obtain rfl : i = 1152 := by omega
          exact ⟨G1, E1, hE1.c (fun j hj _ => hj) (fun _ _ _ => rfl), hEi, hF1⟩
        · refine go_aload_n C dX4_enterEmissions_11 rfl ?_
          refine go_iload C dX4_enterEmissions_12 rfl ?_
          refine go_iload C dX4_enterEmissions_14 rfl ?_
          refine go_iload_n C dX4_enterEmissions_16 rfl ?_
          refine go_icmp_ne C 24 dX4_enterEmissions_17 (by decide) (fun h17 => ?_) (fun h17 => ?_)
          · have he : emN w c i < 16 := emN_lt hO hc (by omega)
            have hv : emN w c i = srcQ w c q 0 i := by unfold srcQ; rw [if_neg hc3, if_neg (fun e => h17 ((hu i (by omega)).mpr e))]
            refine go_aload_n C dX4_enterEmissions_24 rfl ?_
            refine go_iload C dX4_enterEmissions_25 rfl ?_
            refine go_iload_n C dX4_enterEmissions_27 rfl ?_
            refine go_V2P C ok_X5_emissionAt lk_X4_36 dX4_enterEmissions_28 (by decide) rfl rfl rfl (k_X5_emissionAt hO hW1 (by omega) hc) (by decide) (Nat.le_of_ble_eq_true rfl) ?_
            refine go_aload C dX4_enterEmissions_31 rfl ?_
            refine go_V3V C ok_X4_enter lk_X4_42 dX4_enterEmissions_33 (by decide) rfl rfl rfl (k_X4_enter hE1 (by omega) (by omega) (by omega)) (by decide) (Nat.le_of_ble_eq_true rfl) (fun τ hp => ?_)
            refine go_iincN C 1 dX4_enterEmissions_36 rfl rfl (by decide) rfl rfl ?_
            refine go_goto C 3 dX4_enterEmissions_39 (by decide) ?_
            obtain ⟨G2, E2, q1, q2, q3, q4, q5, q6⟩ := hp
            rw [un_ide hv] at q1
            exact ih (n - 1) (by omega) (i + 1) τ G2 E2 (by omega) (q1.c (fun j _ h => by rcases Nat.lt_or_ge j i with h1 | h1; exact Or.inl h1; exact Or.inr (by omega)) (fun _ _ _ => rfl)) (by omega) (hF1.trans q6)
          · have hv : 0 = srcQ w c q 0 i := by unfold srcQ; rw [if_neg hc3, if_pos ((hu i (by omega)).mp h17)]
            refine go_iconst C (nI 0) dX4_enterEmissions_20 rfl ?_
            refine go_goto C 31 dX4_enterEmissions_21 (by decide) ?_
            refine go_aload C dX4_enterEmissions_31 rfl ?_
            refine go_V3V C ok_X4_enter lk_X4_42 dX4_enterEmissions_33 (by decide) rfl rfl rfl (k_X4_enter hE1 (by omega) (by omega) (by omega)) (by decide) (Nat.le_of_ble_eq_true rfl) (fun τ hp => ?_)
            refine go_iincN C 1 dX4_enterEmissions_36 rfl rfl (by decide) rfl rfl ?_
            refine go_goto C 3 dX4_enterEmissions_39 (by decide) ?_
            obtain ⟨G2, E2, q1, q2, q3, q4, q5, q6⟩ := hp
            rw [un_ide hv] at q1
            exact ih (n - 1) (by omega) (i + 1) τ G2 E2 (by omega) (q1.c (fun j _ h => by rcases Nat.lt_or_ge j i with h1 | h1; exact Or.inl h1; exact Or.inr (by omega)) (fun _ _ _ => rfl)) (by omega) (hF1.trans q6)
    refine go_iconst C (nI 0) dX4_enterEmissions_0 rfl ?_
    refine go_istore C dX4_enterEmissions_1 (by decide) rfl rfl ?_
    exact L 1152 0 σ G 0 (by omega) (hE.c (fun j _ h => absurd h (Nat.not_lt_zero j)) (fun _ _ _ => rfl)) (Nat.le_refl _) FrL.refl
def Sp (z y8 x j : Nat) : Prop := cZ j < z ∨ (cZ j = z ∧ (y8 ≤ cY j ∨ (cY j + 1 = y8 ∧ cX j < x)))
set_option maxHeartbeats 4000000 in
set_option maxRecDepth 100000 in
theorem k_X4_enterSun {σ : Mem} {w : Wd} (hO : OkW w) (hW : HasW σ 1 w) {q : Nat} {G : Nat → List Nat} (hE : Ent σ (fun _ => False) (srcQ w 3 q 0) G 0) : CtV objC NC yX4_enterSun cX4_enterSun 8 1 23 [.ref 10, .ref 1, .ref 14] σ (fun τ => ∃ (G' : Nat → List Nat) (E' : Nat), Ent τ (fun _ => True) (srcQ w 3 q 0) G' E' ∧ E' ≤ 1152 ∧ FrL σ τ) := by
  refine ct_ofV rfl ?_ (Nat.le_of_ble_eq_true rfl) (fun X C hr => ?_)
  · intro v hv; simp only [List.mem_cons, List.not_mem_nil, or_false] at hv; rcases hv with rfl | rfl | rfl <;> rfl
  · have L : ∀ (n : Nat) (z : Nat) (ρ : Mem) (G1 : Nat → List Nat) (E1 : Nat) (v4 : Option Value) (v5 : Option Value) (v6 : Option Value) (v7 : Option Value), (z + n = 12) → (Ent ρ (Sp z 8 0) (srcQ w 3 q 0) G1 E1) → (E1 ≤ 96 * z) → (FrL σ ρ) → Go objC NC X 2 [some (.ref 10), some (.ref 1), some (.ref 14), some (.int (nI z)), v4, v5, v6, v7] [] ρ := by
      intro n
      induction n using Nat.strongRecOn with
      | _ n ih =>
        intro z ρ G1 E1 v4 v5 v6 v7 hz hE1 hEz hF1
        refine go_iload_n C dX4_enterSun_2 rfl ?_
        refine go_bipush C (nI 12) dX4_enterSun_3 rfl ?_
        refine go_icmp_geN C 116 dX4_enterSun_5 (by decide) (by omega) (by omega) (fun h5 => ?_) (fun h5 => ?_)
        · refine go_vret hr dX4_enterSun_116 ?_
          obtain rfl : z = 12 := by omega
          exact ⟨G1, E1, hE1.c (fun j hj _ => Or.inl (cZ_lt hj)) (fun _ _ _ => rfl), by omega, hF1⟩
        · have hz12 : z < 12 := by omega
          have Ly : ∀ (ny : Nat) (y8 : Nat) (ρ2 : Mem) (G2 : Nat → List Nat) (E2 : Nat) (v5 : Option Value) (v6 : Option Value) (v7 : Option Value), (y8 = ny ∧ y8 ≤ 8) → (Ent ρ2 (Sp z y8 0) (srcQ w 3 q 0) G2 E2) → (E2 ≤ 96 * z + 12 * (8 - y8)) → (FrL σ ρ2) → Go objC NC X 12 [some (.ref 10), some (.ref 1), some (.ref 14), some (.int (nI z)), some (.int (nI y8 - 1)), v5, v6, v7] [] ρ2 := by
                      intro ny
                      induction ny using Nat.strongRecOn with
                      | _ ny ihy =>
                        intro y8 ρ2 G2 E2 v5 v6 v7 hy hE2 hEy hF2
                        rcases Nat.eq_zero_or_pos y8 with h0 | h0
                        · subst h0
                          refine go_iload C dX4_enterSun_12 rfl ?_
                          refine go_if_lt C 110 dX4_enterSun_14 (by decide) (fun h14 => ?_) (fun h14 => ?_)
                          · refine go_iincN C 1 dX4_enterSun_110 rfl rfl (by decide) rfl rfl ?_
                            refine go_goto C 2 dX4_enterSun_113 (by decide) ?_
                            exact ih (n - 1) (by omega) (z + 1) ρ2 G2 E2 _ _ _ _ (by omega) (hE2.c (fun j hj h => by
                    rcases h with h | ⟨h1, h | ⟨h2, h3⟩⟩
                    · rcases Nat.lt_or_ge (cZ j) z with h4 | h4
                      · exact Or.inl h4
                      · exact Or.inr ⟨by omega, Or.inl (Nat.zero_le _)⟩
                    · exact absurd h (by have := cY_lt j; omega)
                    · exact absurd h3 (Nat.not_lt_zero _)) (fun _ _ _ => rfl)) (by omega) hF2
                          · exact absurd (show nI 0 - 1 < 0 by decide) h14
                        · obtain ⟨y, rfl⟩ : ∃ y, y8 = y + 1 := ⟨y8 - 1, by omega⟩
                          rw [nI_pred]
                          have hy8 : y < 8 := by omega
                          have Lx : ∀ (nx : Nat) (x : Nat) (ρ3 : Mem) (G3 : Nat → List Nat) (E3 : Nat) (v6 : Option Value) (v7 : Option Value), (x + nx = 12) → (Ent ρ3 (Sp z (y + 1) x) (srcQ w 3 q 0) G3 E3) → (E3 ≤ 96 * z + 12 * (7 - y) + x) → (FrL σ ρ3) → Go objC NC X 20 [some (.ref 10), some (.ref 1), some (.ref 14), some (.int (nI z)), some (.int (nI y)), some (.int (nI x)), v6, v7] [] ρ3 := by
                            intro nx
                            induction nx using Nat.strongRecOn with
                            | _ nx ihx =>
                              intro x ρ3 G3 E3 v6 v7 hx hE3 hEx hF3
                              have hW3 := hF3.W hW
                              refine go_iload C dX4_enterSun_20 rfl ?_
                              refine go_bipush C (nI 12) dX4_enterSun_22 rfl ?_
                              refine go_icmp_geN C 104 dX4_enterSun_24 (by decide) (by omega) (by omega) (fun h24 => ?_) (fun h24 => ?_)
                              · refine go_iinc C (nI y - 1) dX4_enterSun_104 rfl (dec_i _) (by decide) rfl rfl ?_
                                refine go_goto C 12 dX4_enterSun_107 (by decide) ?_
                                obtain rfl : x = 12 := by omega
                                exact ihy (ny - 1) (by omega) y ρ3 G3 E3 _ _ _ (by omega) (hE3.c (fun j hj h => by
                      rcases h with h | ⟨h1, h | ⟨h2, h3⟩⟩
                      · exact Or.inl h
                      · rcases Nat.lt_or_ge y (cY j) with h4 | h4
                        · exact Or.inr ⟨h1, Or.inl h4⟩
                        · exact Or.inr ⟨h1, Or.inr ⟨by omega, cX_lt j⟩⟩
                      · exact absurd h3 (Nat.not_lt_zero _)) (fun _ _ _ => rfl)) (by omega) hF3
                              · have hx12 : x < 12 := by omega
                                have hk := cel_lt hx12 hy8 hz12
                                have hl16 := lossN_lt hO (c := 3) (by decide) hk
                                have hk12 : y < 7 → cel x y z + 12 < 1152 := fun h => by unfold cel; omega
                                refine go_iload C dX4_enterSun_27 rfl ?_
                                refine go_iload C dX4_enterSun_29 rfl ?_
                                refine go_iload_n C dX4_enterSun_31 rfl ?_
                                refine go_S3P C ok_X2_cell lk_X4_46 dX4_enterSun_32 k_X2_cell (by decide) (Nat.le_of_ble_eq_true rfl) ?_
                                refine go_istore C dX4_enterSun_35 (by decide) rfl rfl ?_
                                refine go_aload_n C dX4_enterSun_37 rfl ?_
                                refine go_iload C dX4_enterSun_38 rfl ?_
                                refine go_iconst C (nI 3) dX4_enterSun_40 rfl ?_
                                refine go_V2P C ok_X5_lossAt lk_X4_52 dX4_enterSun_41 (by decide) rfl rfl rfl (k_X5_lossAt hO hW3 hk (by decide)) (by decide) (Nat.le_of_ble_eq_true rfl) ?_
                                refine go_istore C dX4_enterSun_44 (by decide) rfl rfl ?_
                                refine go_iload C dX4_enterSun_46 rfl ?_
                                refine go_bipush C (nI 7) dX4_enterSun_48 rfl ?_
                                refine go_icmp_neN C 68 dX4_enterSun_50 (by decide) (by omega) (by omega) (fun h50 => ?_) (fun h50 => ?_)
                                · have hlow : srcQ w 3 q 0 (cel x y z) = if lossN w 3 (cel x y z) = 0 ∧ sunS (lossN w 3) (cel x y z + 12) = 15 then 15 else 0 := by unfold srcQ; rw [if_pos rfl]; exact sunS_low (by rw [cY_cel hx12 hy8]; omega)
                                  have hup := (hE3.2.2.1 (cel x y z + 12) (hk12 (by omega)) (by right; refine ⟨by unfold cZ cel; omega, Or.inl (by unfold cY cel; omega)⟩)).1
                                  refine go_aload_n C dX4_enterSun_68 rfl ?_
                                  refine go_iload C dX4_enterSun_69 rfl ?_
                                  refine go_iload C dX4_enterSun_71 rfl ?_
                                  refine go_if_neN C 93 dX4_enterSun_73 (by decide) (by omega) (fun h73 => ?_) (fun h73 => ?_)
                                  · have hv : 0 = srcQ w 3 q 0 (cel x y z) := by rw [hlow, if_neg (fun h => h73 h.1)]
                                    refine go_iconst C (nI 0) dX4_enterSun_93 rfl ?_
                                    refine go_aload_n C dX4_enterSun_94 rfl ?_
                                    refine go_V3V C ok_X4_enter lk_X4_42 dX4_enterSun_95 (by decide) rfl rfl rfl (k_X4_enter hE3 hk (by omega) (by omega)) (by decide) (Nat.le_of_ble_eq_true rfl) (fun τ hp => ?_)
                                    refine go_iincN C 1 dX4_enterSun_98 rfl rfl (by decide) rfl rfl ?_
                                    refine go_goto C 20 dX4_enterSun_101 (by decide) ?_
                                    obtain ⟨G2, E2, q1, q2, q3, q4, q5, q6⟩ := hp
                                    rw [un_ide hv] at q1
                                    exact ihx (nx - 1) (by omega) (x + 1) τ G2 E2 _ _ (by omega) (q1.c (fun j hj h => by
                    rcases h with h | ⟨h1, h | ⟨h2, h3⟩⟩
                    · exact Or.inl (Or.inl h)
                    · exact Or.inl (Or.inr ⟨h1, Or.inl h⟩)
                    · rcases Nat.lt_or_ge (cX j) x with h4 | h4
                      · exact Or.inl (Or.inr ⟨h1, Or.inr ⟨h2, h4⟩⟩)
                      · right; rw [← cel_c hj, show cX j = x by omega, show cY j = y by omega, h1]) (fun _ _ _ => rfl)) (by omega) (hF3.trans q6)
                                  · refine go_aload_n C dX4_enterSun_76 rfl ?_
                                    refine go_iload C dX4_enterSun_77 rfl ?_
                                    refine go_bipush C (nI 12) dX4_enterSun_79 rfl ?_
                                    refine go_iaddN C dX4_enterSun_81 ?_
                                    refine go_ialdN C dX4_enterSun_82 (by decide) rfl (by decide) (hk12 (by omega)) ?_
                                    refine go_top (nI (sunS (lossN w 3) (cel x y z + 12))) (by rw [hup]; rfl) ?_
                                    refine go_bipush C (nI 15) dX4_enterSun_83 rfl ?_
                                    have hs15 := sunS_le (l3 := lossN w 3) (cel x y z + 12)
                                    refine go_icmp_neN C 93 dX4_enterSun_85 (by decide) (by omega) (by omega) (fun h85 => ?_) (fun h85 => ?_)
                                    · have hv : 0 = srcQ w 3 q 0 (cel x y z) := by rw [hlow, if_neg (fun h => h85 h.2)]
                                      refine go_iconst C (nI 0) dX4_enterSun_93 rfl ?_
                                      refine go_aload_n C dX4_enterSun_94 rfl ?_
                                      refine go_V3V C ok_X4_enter lk_X4_42 dX4_enterSun_95 (by decide) rfl rfl rfl (k_X4_enter hE3 hk (by omega) (by omega)) (by decide) (Nat.le_of_ble_eq_true rfl) (fun τ hp => ?_)
                                      refine go_iincN C 1 dX4_enterSun_98 rfl rfl (by decide) rfl rfl ?_
                                      refine go_goto C 20 dX4_enterSun_101 (by decide) ?_
                                      obtain ⟨G2, E2, q1, q2, q3, q4, q5, q6⟩ := hp
                                      rw [un_ide hv] at q1
                                      exact ihx (nx - 1) (by omega) (x + 1) τ G2 E2 _ _ (by omega) (q1.c (fun j hj h => by
                    rcases h with h | ⟨h1, h | ⟨h2, h3⟩⟩
                    · exact Or.inl (Or.inl h)
                    · exact Or.inl (Or.inr ⟨h1, Or.inl h⟩)
                    · rcases Nat.lt_or_ge (cX j) x with h4 | h4
                      · exact Or.inl (Or.inr ⟨h1, Or.inr ⟨h2, h4⟩⟩)
                      · right; rw [← cel_c hj, show cX j = x by omega, show cY j = y by omega, h1]) (fun _ _ _ => rfl)) (by omega) (hF3.trans q6)
                                    · have hv : 15 = srcQ w 3 q 0 (cel x y z) := by rw [hlow, if_pos ⟨h73, h85⟩]
                                      refine go_bipush C (nI 15) dX4_enterSun_88 rfl ?_
                                      refine go_goto C 94 dX4_enterSun_90 (by decide) ?_
                                      refine go_aload_n C dX4_enterSun_94 rfl ?_
                                      refine go_V3V C ok_X4_enter lk_X4_42 dX4_enterSun_95 (by decide) rfl rfl rfl (k_X4_enter hE3 hk (by omega) (by omega)) (by decide) (Nat.le_of_ble_eq_true rfl) (fun τ hp => ?_)
                                      refine go_iincN C 1 dX4_enterSun_98 rfl rfl (by decide) rfl rfl ?_
                                      refine go_goto C 20 dX4_enterSun_101 (by decide) ?_
                                      obtain ⟨G2, E2, q1, q2, q3, q4, q5, q6⟩ := hp
                                      rw [un_ide hv] at q1
                                      exact ihx (nx - 1) (by omega) (x + 1) τ G2 E2 _ _ (by omega) (q1.c (fun j hj h => by
                    rcases h with h | ⟨h1, h | ⟨h2, h3⟩⟩
                    · exact Or.inl (Or.inl h)
                    · exact Or.inl (Or.inr ⟨h1, Or.inl h⟩)
                    · rcases Nat.lt_or_ge (cX j) x with h4 | h4
                      · exact Or.inl (Or.inr ⟨h1, Or.inr ⟨h2, h4⟩⟩)
                      · right; rw [← cel_c hj, show cX j = x by omega, show cY j = y by omega, h1]) (fun _ _ _ => rfl)) (by omega) (hF3.trans q6)
                                · have hv : 15 - lossN w 3 (cel x y z) = srcQ w 3 q 0 (cel x y z) := by unfold srcQ; rw [if_pos rfl, sunS_top (by rw [cY_cel hx12 hy8]; exact h50)]
                                  refine go_aload_n C dX4_enterSun_53 rfl ?_
                                  refine go_iload C dX4_enterSun_54 rfl ?_
                                  refine go_bipush C (nI 15) dX4_enterSun_56 rfl ?_
                                  refine go_iload C dX4_enterSun_58 rfl ?_
                                  refine go_isubN C dX4_enterSun_60 (by omega) ?_
                                  refine go_aload_n C dX4_enterSun_61 rfl ?_
                                  refine go_V3V C ok_X4_enter lk_X4_42 dX4_enterSun_62 (by decide) rfl rfl rfl (k_X4_enter hE3 hk (by omega) (by omega)) (by decide) (Nat.le_of_ble_eq_true rfl) (fun τ hp => ?_)
                                  refine go_goto C 98 dX4_enterSun_65 (by decide) ?_
                                  refine go_iincN C 1 dX4_enterSun_98 rfl rfl (by decide) rfl rfl ?_
                                  refine go_goto C 20 dX4_enterSun_101 (by decide) ?_
                                  obtain ⟨G2, E2, q1, q2, q3, q4, q5, q6⟩ := hp
                                  rw [un_ide hv] at q1
                                  exact ihx (nx - 1) (by omega) (x + 1) τ G2 E2 _ _ (by omega) (q1.c (fun j hj h => by
                    rcases h with h | ⟨h1, h | ⟨h2, h3⟩⟩
                    · exact Or.inl (Or.inl h)
                    · exact Or.inl (Or.inr ⟨h1, Or.inl h⟩)
                    · rcases Nat.lt_or_ge (cX j) x with h4 | h4
                      · exact Or.inl (Or.inr ⟨h1, Or.inr ⟨h2, h4⟩⟩)
                      · right; rw [← cel_c hj, show cX j = x by omega, show cY j = y by omega, h1]) (fun _ _ _ => rfl)) (by omega) (hF3.trans q6)
                          refine go_iload C dX4_enterSun_12 rfl ?_
                          refine go_if_ltN C 110 dX4_enterSun_14 (by decide) (by omega) (fun h14 => ?_) (fun h14 => ?_)
                          · exact absurd h14 (by omega)
                          · refine go_iconst C (nI 0) dX4_enterSun_17 rfl ?_
                            refine go_istore C dX4_enterSun_18 (by decide) rfl rfl ?_
                            exact Lx 12 0 ρ2 G2 E2 _ _ (by omega) hE2 (by omega) hF2
          refine go_bipush C (nI 7) dX4_enterSun_8 rfl ?_
          refine go_istore C dX4_enterSun_10 (by decide) rfl rfl ?_
          exact Ly 8 8 ρ G1 E1 _ _ _ ⟨rfl, by decide⟩ hE1 (by omega) hF1
    refine go_iconst C (nI 0) dX4_enterSun_0 rfl ?_
    refine go_istore_n C dX4_enterSun_1 (by decide) rfl rfl ?_
    exact L 12 0 σ G 0 _ _ _ _ (by omega) (hE.c (fun j _ h => by
          rcases h with h | ⟨h1, h | ⟨h2, h3⟩⟩
          · exact absurd h (Nat.not_lt_zero _)
          · exact absurd h (by have := cY_lt j; omega)
          · exact absurd h3 (Nat.not_lt_zero _)) (fun _ _ _ => rfl)) (Nat.le_refl _) FrL.refl
