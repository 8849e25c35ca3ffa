/-- where a light is searched anew: what the class leaves of it -/
def FndP (σ : Mem) (w : Wd) (c q : Nat) : Mem → Prop := fun τ => FrL σ τ ∧ IsLit (srcQ w c q 0) (lossN w c) (litQ w c q 0) ∧ ∀ j, j < 1152 → τ 14 j = nI (litQ w c q 0 j)
set_option maxHeartbeats 4000000 in
set_option maxRecDepth 100000 in
theorem k_X4_find {σ : Mem} {w : Wd} (hO : OkW w) (hW : HasW σ 1 w) {c q : Nat} (hc : c < 4) {u : Int32} (hu : ∀ k, k < 1152 → (nI k = u ↔ k = q)) : CtV objC NC yX4_find cX4_find 8 3 69 [.ref 10, .ref 1, .int (nI c), .int u, .ref 14] σ (FndP σ w c q) := by
  refine ct_ofV rfl ?_ (Nat.le_of_ble_eq_true rfl) (fun X C hr => ?_)
  · intro v hv; simp only [List.mem_cons, List.not_mem_nil, or_false] at hv; rcases hv with rfl | rfl | rfl | rfl | rfl <;> rfl
  · have L : ∀ (n : Nat) (lv : Nat) (ρ : Mem) (f1 : Nat → Nat) (G1 : Nat → List Nat) (E1 : Nat) (rz1 : Nat → Prop) (v6 : Option Value) (v7 : Option Value), (lv = n + 1 ∧ lv ≤ 15) → (PI (srcQ w c q 0) (lossN w c) lv f1 (fun _ _ => False)) → (Ent ρ (fun _ => True) f1 G1 E1) → (Rz rz1 E1 f1 (lossN w c) lv) → (FrL σ ρ) → Go objC NC X 57 [some (.ref 10), some (.ref 1), some (.int (nI c)), some (.int u), some (.ref 14), some (.int (nI lv)), v6, v7] [] ρ := by
      intro n
      induction n using Nat.strongRecOn with
      | _ n ih =>
        intro lv ρ f1 G1 E1 rz1 v6 v7 hlv hP1 hE1 hR1 hF1
        have hE1b := hE1.1
        refine go_iload C dX4_find_57 rfl ?_
        refine go_iconst C (nI 1) dX4_find_59 rfl ?_
        refine go_icmp_leN C 140 dX4_find_60 (by decide) (by omega) (by omega) (fun h60 => ?_) (fun h60 => ?_)
        · refine go_vret hr dX4_find_140 ?_
          have e1 : lv = 1 := by omega
          have hL := PI_1 (e1 ▸ hP1)
          exact ⟨hF1, lfp_is hL, fun j hj => by rw [(hE1.2.2.1 j hj trivial).1]; exact congrArg nI (lfp_eq hL hj)⟩
        · have Ld : ∀ (nd : Nat) (Lc : List Nat) (x : Int32) (cn : Nat) (ρ2 : Mem) (f2 : Nat → Nat) (G2 : Nat → List Nat) (E2 : Nat) (rz2 : Nat → Prop) (Dd : Nat → Nat → Prop), (nd = Lc.length) → (chn (ρ2 12) (ρ2 13) E2 x Lc) → (cn + Lc.length ≤ E2) → (PI (srcQ w c q 0) (lossN w c) lv f2 Dd) → (Ent ρ2 (fun _ => True) f2 G2 E2) → (Rz rz2 E2 f2 (lossN w c) lv) → (FrL σ ρ2) → (∀ z, z ∈ Lc → z < 1152) → (∀ z, z < 1152 → f2 z = lv → z ∈ Lc ∨ ∀ y d, nbr z d = some y → Dd z y) → Go objC NC X 75 [some (.ref 10), some (.ref 1), some (.int (nI c)), some (.int u), some (.ref 14), some (.int (nI lv)), some (.int x), some (.int (nI cn))] [] ρ2 := by
                      intro nd
                      induction nd using Nat.strongRecOn with
                      | _ nd ihd =>
                        intro Lc x cn ρ2 f2 G2 E2 rz2 Dd hnL hch hcn hP2 hE2 hR2 hF2 hLc hcov
                        cases Lc with
                        | nil =>
                          obtain rfl : x = -1 := hch
                          have hPn : PI (srcQ w c q 0) (lossN w c) (lv - 1) f2 (fun _ _ => False) := PI_lv (lv := lv - 1) (by rw [show lv - 1 + 1 = lv by omega]; exact hP2) (fun a b d ha hfa hd => by
                rcases hcov a ha (by omega) with h | h
                · cases h
                · exact h b d hd)
                          refine go_iload C dX4_find_75 rfl ?_
                          refine go_iconst C (-1) dX4_find_77 rfl ?_
                          refine go_icmp_eq C 134 dX4_find_78 (by decide) (fun h78 => ?_) (fun h78 => ?_)
                          · refine go_iinc C (nI (lv - 1)) dX4_find_134 rfl (dec_n (by omega)) (by decide) rfl rfl ?_
                            refine go_goto C 57 dX4_find_137 (by decide) ?_
                            exact ih (n - 1) (by omega) (lv - 1) ρ2 f2 G2 E2 rz2 _ _ (by omega) hPn hE2 ⟨hR2.1, fun z hz hr => Nat.le_trans (Nat.sub_le _ _) (hR2.2 z hz hr)⟩ hF2
                          · exact absurd rfl h78
                        | cons m Lr =>
                          obtain ⟨en, hen, rfl, hce, hnx⟩ := hch
                          have hW2 := hF2.W hW
                          have hE2b := hE2.1
                          have hm := hLc m List.mem_cons_self
                          have hlen : (m :: Lr).length = Lr.length + 1 := rfl
                          have hfm15 := (hE2.2.2.1 m hm trivial).2
                          refine go_iload C dX4_find_75 rfl ?_
                          refine go_iconst C (-1) dX4_find_77 rfl ?_
                          refine go_icmp_eq C 134 dX4_find_78 (by decide) (fun h78 => ?_) (fun h78 => ?_)
                          · exact absurd h78 (oI_ne (by omega))
                          · refine go_iload C dX4_find_81 rfl ?_
                            refine go_sipush C (nI 2304) dX4_find_83 rfl ?_
                            refine go_icmp_geN C 134 dX4_find_86 (by decide) (by omega) (by omega) (fun h86 => ?_) (fun h86 => ?_)
                            · exact absurd h86 (by omega)
                            · refine go_aload C dX4_find_89 rfl ?_
                              refine go_aload_n C dX4_find_91 rfl ?_
                              refine go_getR C gf_X4_18 dX4_find_92 (by decide) rfl rfl ?_
                              refine go_iload C dX4_find_95 rfl ?_
                              refine go_ialdN C dX4_find_97 (by decide) rfl (by decide) (by omega) ?_
                              refine go_top _ hce ?_
                              refine go_ialdN C dX4_find_98 (by decide) rfl (by decide) (by omega) ?_
                              refine go_top _ (hE2.2.2.1 _ hm trivial).1 ?_
                              refine go_iload C dX4_find_99 rfl ?_
                              refine go_icmp_neN C 119 dX4_find_101 (by decide) (by omega) (by omega) (fun h101 => ?_) (fun h101 => ?_)
                              · skip
                                refine go_aload_n C dX4_find_119 rfl ?_
                                refine go_getR C gf_X4_15 dX4_find_120 (by decide) rfl rfl ?_
                                refine go_iload C dX4_find_123 rfl ?_
                                refine go_ialdN C dX4_find_125 (by decide) rfl (by decide) (by omega) ?_
                                refine go_istore C dX4_find_126 (by decide) rfl rfl ?_
                                refine go_iincN C 1 dX4_find_128 rfl rfl (by decide) rfl rfl ?_
                                refine go_goto C 75 dX4_find_131 (by decide) ?_
                                exact ihd (nd - 1) (by omega) Lr (ρ2 12 en) (cn + 1) ρ2 f2 G2 E2 rz2 Dd (by omega) hnx (by omega) hP2 hE2 hR2 hF2 (fun z hz => hLc z (List.mem_cons_of_mem _ hz)) (fun z hz hfz => by
                    rcases hcov z hz hfz with h | h
                    · rcases List.mem_cons.mp h with rfl | h
                      · exact absurd hfz h101
                      · exact Or.inl h
                    · exact Or.inr h)
                              · skip
                                refine go_aload_n C dX4_find_104 rfl ?_
                                refine go_aload_n C dX4_find_105 rfl ?_
                                refine go_iload_n C dX4_find_106 rfl ?_
                                refine go_aload_n C dX4_find_107 rfl ?_
                                refine go_getR C gf_X4_18 dX4_find_108 (by decide) rfl rfl ?_
                                refine go_iload C dX4_find_111 rfl ?_
                                refine go_ialdN C dX4_find_113 (by decide) rfl (by decide) (by omega) ?_
                                refine go_top _ hce ?_
                                refine go_aload C dX4_find_114 rfl ?_
                                refine go_V4V C ok_X4_give lk_X4_33 dX4_find_116 (by decide) rfl rfl rfl (k_X4_give hO hW2 hc hm (by omega) h101 hE2 hP2 hR2) (by decide) (Nat.le_of_ble_eq_true rfl) (fun τ hp => ?_)
                                refine go_aload_n C dX4_find_119 rfl ?_
                                refine go_getR C gf_X4_15 dX4_find_120 (by decide) rfl rfl ?_
                                refine go_iload C dX4_find_123 rfl ?_
                                refine go_ialdN C dX4_find_125 (by decide) rfl (by decide) (by omega) ?_
                                refine go_istore C dX4_find_126 (by decide) rfl rfl ?_
                                refine go_iincN C 1 dX4_find_128 rfl rfl (by decide) rfl rfl ?_
                                refine go_goto C 75 dX4_find_131 (by decide) ?_
                                obtain ⟨f3, G3, E3, rz3, p1, p2, p3, p4, p5, p6, p7⟩ := hp
                                rw [(p4 en hen).1]
                                exact ihd (nd - 1) (by omega) Lr (ρ2 12 en) (cn + 1) τ f3 G3 E3 rz3 _ (by omega) (chn_keep p4 p5 _ _ hnx) (by omega) p1 p2 p3 (hF2.trans p6) (fun z hz => hLc z (List.mem_cons_of_mem _ hz)) (fun z hz hfz => by
                    rcases hcov z hz (p7 z hz hfz) with h | h
                    · rcases List.mem_cons.mp h with rfl | h
                      · exact Or.inr (fun y d hd => Or.inr ⟨rfl, d, hd⟩)
                      · exact Or.inl h
                    · exact Or.inr (fun y d hd => Or.inl (h y d hd)))
          obtain ⟨c1, c2, c3⟩ := hE1.2.2.2.1 lv (by omega)
          refine go_aload_n C dX4_find_63 rfl ?_
          refine go_getR C gf_X4_9 dX4_find_64 (by decide) rfl rfl ?_
          refine go_iload C dX4_find_67 rfl ?_
          refine go_ialdN C dX4_find_69 (by decide) rfl (by decide) (by omega) ?_
          refine go_istore C dX4_find_70 (by decide) rfl rfl ?_
          refine go_iconst C (nI 0) dX4_find_72 rfl ?_
          refine go_istore C dX4_find_73 (by decide) rfl rfl ?_
          exact Ld (G1 lv).length (G1 lv) (ρ 11 lv) 0 ρ f1 G1 E1 rz1 _ rfl c1 (by omega) hP1 hE1 hR1 hF1 c3 (fun z hz hfz => Or.inl (hfz ▸ hE1.2.2.2.2 z hz trivial (by omega)))
    have J : ∀ (τ : Mem) (G1 : Nat → List Nat) (E1 : Nat) (v5 v6 v7 : Option Value), Ent τ (fun _ => True) (srcQ w c q 0) G1 E1 → E1 ≤ 1152 → FrL σ τ → Go objC NC X 53 [some (.ref 10), some (.ref 1), some (.int (nI c)), some (.int u), some (.ref 14), v5, v6, v7] [] τ := by
      intro τ G1 E1 v5 v6 v7 hE1 hEb hF1
      refine go_bipush C (nI 15) dX4_find_53 rfl ?_
      refine go_istore C dX4_find_55 (by decide) rfl rfl ?_
      exact L 14 15 τ (srcQ w c q 0) G1 E1 (fun _ => False) _ _ ⟨rfl, by decide⟩ (PI_0 (srcQ_le hO hc (by decide)) (fun _ _ => rfl)) hE1 ⟨by omega, fun _ _ h => h.elim⟩ hF1
    have A : ∀ (n : Nat) (i : Nat) (ρ : Mem), (i + n = 16) → (ρ 10 3 = nI 0) → (∀ j, j < i → ρ 11 j = -1) → (FrL σ ρ) → Go objC NC X 8 [some (.ref 10), some (.ref 1), some (.int (nI c)), some (.int u), some (.ref 14), some (.int (nI i)), none, none] [] ρ := by
      intro n
      induction n using Nat.strongRecOn with
      | _ n ih =>
        intro i ρ hi h10 h11 hF1
        refine go_iload C dX4_find_8 rfl ?_
        refine go_bipush C (nI 15) dX4_find_10 rfl ?_
        refine go_icmp_gtN C 29 dX4_find_12 (by decide) (by omega) (by omega) (fun h12 => ?_) (fun h12 => ?_)
        · obtain rfl : i = 16 := by omega
          have hE1 : Ent ρ (fun _ => False) (srcQ w c q 0) (fun _ => []) 0 := ⟨by decide, h10, fun _ _ h => h.elim, fun v hv => ⟨h11 v hv, Nat.zero_le _, fun c h => by cases h⟩, fun _ _ h => h.elim⟩
          refine go_iload_n C dX4_find_29 rfl ?_
          refine go_iconst C (nI 3) dX4_find_30 rfl ?_
          refine go_icmp_neN C 44 dX4_find_31 (by decide) (by omega) (by omega) (fun h31 => ?_) (fun h31 => ?_)
          · refine go_aload_n C dX4_find_44 rfl ?_
            refine go_aload_n C dX4_find_45 rfl ?_
            refine go_iload_n C dX4_find_46 rfl ?_
            refine go_iload_n C dX4_find_47 rfl ?_
            refine go_aload C dX4_find_48 rfl ?_
            refine go_V4V C ok_X4_enterEmissions lk_X4_29 dX4_find_50 (by decide) rfl rfl rfl (k_X4_enterEmissions hO (hF1.W hW) hc h31 hu hE1) (by decide) (Nat.le_of_ble_eq_true rfl) (fun τ hp => ?_)
            obtain ⟨G2, E2, q1, q2, q3⟩ := hp
            exact J τ G2 E2 _ _ _ q1 q2 (hF1.trans q3)
          · subst h31
            refine go_aload_n C dX4_find_34 rfl ?_
            refine go_aload_n C dX4_find_35 rfl ?_
            refine go_aload C dX4_find_36 rfl ?_
            refine go_V2V C ok_X4_enterSun lk_X4_25 dX4_find_38 (by decide) rfl rfl rfl (k_X4_enterSun hO (hF1.W hW) hE1) (by decide) (Nat.le_of_ble_eq_true rfl) (fun τ hp => ?_)
            obtain ⟨G2, E2, q1, q2, q3⟩ := hp
            refine go_goto C 53 dX4_find_41 (by decide) ?_
            exact J τ G2 E2 _ _ _ q1 q2 (hF1.trans q3)
        · refine go_aload_n C dX4_find_15 rfl ?_
          refine go_getR C gf_X4_9 dX4_find_16 (by decide) rfl rfl ?_
          refine go_iload C dX4_find_19 rfl ?_
          refine go_iconst C (-1) dX4_find_21 rfl ?_
          refine go_iastN C dX4_find_22 (by decide) rfl (by decide) (by omega) ?_
          refine go_iincN C 1 dX4_find_23 rfl rfl (by decide) rfl rfl ?_
          refine go_goto C 8 dX4_find_26 (by decide) ?_
          exact ih (n - 1) (by omega) (i + 1) _ (by omega) h10 (fun j hj => by
              show upd (ρ 11) i (-1) j = -1
              by_cases e : j = i
              · subst e; exact pk_us
              · rw [pk_un e]; exact h11 j (by omega)) (hF1.trans (fun q a b c d e => updR_n b))
    refine go_aload_n C dX4_find_0 rfl ?_
    refine go_iconst C (nI 0) dX4_find_1 rfl ?_
    refine go_putI C gf_X4_21 dX4_find_2 (by decide) rfl rfl rfl rfl rfl ?_
    refine go_iconst C (nI 0) dX4_find_5 rfl ?_
    refine go_istore C dX4_find_6 (by decide) rfl rfl ?_
    exact A 16 0 _ (by omega) rfl (fun j h => absurd h (Nat.not_lt_zero j)) (fun q a b c d e => updR_n a)
