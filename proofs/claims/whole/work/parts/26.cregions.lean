set_option maxHeartbeats 4000000 in
set_option maxRecDepth 100000 in
theorem k_X6_leaveRegion {σ : Mem} {k : Nat} {op : Nat → Prop} (hk : k < 1152) (hop : ∀ j, j < 1152 → σ 14 j = bP (op j)) (hok : op k) : CtV objC NC yX6_leaveRegion cX6_leaveRegion 6 2 41 [.ref 0, .int (nI k)] σ (fun τ => (∀ j, j < 1152 → τ 14 j = bP (bfs 1152 (rm op k) [k] j)) ∧ ∀ z, z ≠ 14 → z ≠ 15 → τ z = σ z) := by
  refine ct_ofV rfl ?_ (Nat.le_of_ble_eq_true rfl) (fun X C hr => ?_)
  · intro v hv; simp only [List.mem_cons, List.not_mem_nil, or_false] at hv; rcases hv with rfl | rfl <;> rfl
  · have L : ∀ (n : Nat) (t : Nat) (ct : Nat) (op1 : Nat → Prop) (Q0 : List Nat) (ρ : Mem) (v4 : Option Value) (v5 : Option Value), (t + n = 1152) → (Q0.length + t = ct) → (ct + cnt op1 1152 ≤ 1152) → (∀ i c, Q0[i]? = some c → ρ 15 (t + i) = nI c ∧ c < 1152) → (∀ j, j < 1152 → ρ 14 j = bP (op1 j)) → (bfs n op1 Q0 = bfs 1152 (rm op k) [k]) → (∀ z, z ≠ 14 → z ≠ 15 → ρ z = σ z) → Go objC NC X 18 [some (.ref 0), some (.int (nI k)), some (.int (nI ct)), some (.int (nI t)), v4, v5] [] ρ := by
      intro n
      induction n using Nat.strongRecOn with
      | _ n ih =>
        intro t ct op1 Q0 ρ v4 v5 ht hQ hcn hv hop1 he hF1
        cases Q0 with
        | nil =>
          rw [bfs_nil] at he
          have hQ1 : t = ct := by rw [← hQ]; show t = 0 + t; omega
          refine go_iload_n C dX6_leaveRegion_18 rfl ?_
          refine go_iload_n C dX6_leaveRegion_19 rfl ?_
          refine go_icmp_geN C 108 dX6_leaveRegion_20 (by decide) (by omega) (by omega) (fun h20 => ?_) (fun h20 => ?_)
          · refine go_vret hr dX6_leaveRegion_108 ?_
            exact ⟨fun j hj => by rw [← he]; exact hop1 j hj, hF1⟩
          · exact absurd h20 (by omega)
        | cons c Q =>
          have hQ1 : Q.length + 1 + t = ct := hQ
          obtain ⟨hct, hc⟩ := hv 0 c rfl
          rw [Nat.add_zero] at hct
          obtain ⟨n, rfl⟩ : ∃ n2, n = n2 + 1 := ⟨n - 1, by omega⟩
          have Lb : ∀ (nb : Nat) (d : Nat) (ct2 : Nat) (op2 : Nat → Prop) (Q2 : List Nat) (ρ2 : Mem) (v5 : Option Value), (d + nb = 6) → (Q2.length + (t + 1) = ct2) → (ct2 + cnt op2 1152 ≤ 1152) → (∀ i c, Q2[i]? = some c → ρ2 15 (t + 1 + i) = nI c ∧ c < 1152) → (∀ j, j < 1152 → ρ2 14 j = bP (op2 j)) → (ρ2 15 t = nI c) → (bfsD c nb d (op2, Q2) = bfsD c 6 0 (op1, Q)) → (∀ z, z ≠ 14 → z ≠ 15 → ρ2 z = σ z) → Go objC NC X 33 [some (.ref 0), some (.int (nI k)), some (.int (nI ct2)), some (.int (nI t)), some (.int (nI d)), v5] [] ρ2 := by
            intro nb
            induction nb using Nat.strongRecOn with
            | _ nb ihb =>
              intro d ct2 op2 Q2 ρ2 v5 hd hQ2 hcn2 hv2 hop2 hct he2 hF2
              refine go_iload C dX6_leaveRegion_33 rfl ?_
              refine go_bipush C (nI 6) dX6_leaveRegion_35 rfl ?_
              refine go_icmp_geN C 102 dX6_leaveRegion_37 (by decide) (by omega) (by omega) (fun h37 => ?_) (fun h37 => ?_)
              · obtain rfl : nb = 0 := by omega
                have e3 : (op2, Q2) = bfsD c 6 0 (op1, Q) := he2
                refine go_iincN C 1 dX6_leaveRegion_102 rfl rfl (by decide) rfl rfl ?_
                refine go_goto C 18 dX6_leaveRegion_105 (by decide) ?_
                have e4 : bfs n op2 Q2 = bfs 1152 (rm op k) [k] := by rw [← he]; show _ = bfs n (bfsD c 6 0 (op1, Q)).1 (bfsD c 6 0 (op1, Q)).2; rw [← e3]
                exact ih n (by omega) (t + 1) ct2 op2 Q2 ρ2 _ _ (by omega) hQ2 hcn2 hv2 hop2 e4 hF2
              · obtain ⟨nb, rfl⟩ : ∃ n2, nb = n2 + 1 := ⟨nb - 1, by omega⟩
                refine go_aload_n C dX6_leaveRegion_40 rfl ?_
                refine go_getR C gf_X6_32 dX6_leaveRegion_41 (by decide) rfl rfl ?_
                refine go_iload_n C dX6_leaveRegion_44 rfl ?_
                refine go_ialdN C dX6_leaveRegion_45 (by decide) rfl (by decide) (by omega) ?_
                refine go_top _ hct ?_
                refine go_iload C dX6_leaveRegion_46 rfl ?_
                refine go_S2P C ok_X2_neighbor lk_X6_185 dX6_leaveRegion_48 (k_X2_neighbor hc (by omega)) (by decide) (Nat.le_of_ble_eq_true rfl) ?_
                refine go_istore C dX6_leaveRegion_51 (by decide) rfl rfl ?_
                refine go_iload C dX6_leaveRegion_53 rfl ?_
                refine go_iconst C (-1) dX6_leaveRegion_55 rfl ?_
                refine go_icmp_eqO C 96 dX6_leaveRegion_56 (by decide) (fun j hj => by have := nbr_lt hc hj; omega) (fun h56 => ?_) (fun h56 => ?_)
                · have e3 := bfsD_n (n := nb) (s := (op2, Q2)) h56
                  refine go_iincN C 1 dX6_leaveRegion_96 rfl rfl (by decide) rfl rfl ?_
                  refine go_goto C 33 dX6_leaveRegion_99 (by decide) ?_
                  exact ihb nb (by omega) (d + 1) ct2 op2 Q2 ρ2 _ (by omega) hQ2 hcn2 hv2 hop2 hct (e3 ▸ he2) hF2
                · obtain ⟨m, hm⟩ := h56
                  have hml := nbr_lt hc hm
                  rw [hm]
                  dsimp only [oI]
                  refine go_aload_n C dX6_leaveRegion_59 rfl ?_
                  refine go_getR C gf_X6_28 dX6_leaveRegion_60 (by decide) rfl rfl ?_
                  refine go_iload C dX6_leaveRegion_63 rfl ?_
                  refine go_ialdN C dX6_leaveRegion_65 (by decide) rfl (by decide) (by omega) ?_
                  refine go_top _ (hop2 _ hml) ?_
                  refine go_iconst C (nI 1) dX6_leaveRegion_66 rfl ?_
                  refine go_icmp_neB C 96 dX6_leaveRegion_67 (by decide) (fun h67 => ?_) (fun h67 => ?_)
                  · have e3 := bfsD_f (n := nb) (s := (op2, Q2)) hm h67
                    refine go_iincN C 1 dX6_leaveRegion_96 rfl rfl (by decide) rfl rfl ?_
                    refine go_goto C 33 dX6_leaveRegion_99 (by decide) ?_
                    exact ihb nb (by omega) (d + 1) ct2 op2 Q2 ρ2 _ (by omega) hQ2 hcn2 hv2 hop2 hct (e3 ▸ he2) hF2
                  · have e3 := bfsD_t (n := nb) (s := (op2, Q2)) hm h67
                    have hcr := cnt_rm h67 hml
                    refine go_iload_n C dX6_leaveRegion_70 rfl ?_
                    refine go_sipush C (nI 1152) dX6_leaveRegion_71 rfl ?_
                    refine go_icmp_geN C 96 dX6_leaveRegion_74 (by decide) (by omega) (by omega) (fun h74 => ?_) (fun h74 => ?_)
                    · exact absurd h74 (by omega)
                    · refine go_aload_n C dX6_leaveRegion_77 rfl ?_
                      refine go_getR C gf_X6_28 dX6_leaveRegion_78 (by decide) rfl rfl ?_
                      refine go_iload C dX6_leaveRegion_81 rfl ?_
                      refine go_iconst C (nI 0) dX6_leaveRegion_83 rfl ?_
                      refine go_iastN C dX6_leaveRegion_84 (by decide) rfl (by decide) (by omega) ?_
                      refine go_aload_n C dX6_leaveRegion_85 rfl ?_
                      refine go_getR C gf_X6_32 dX6_leaveRegion_86 (by decide) rfl rfl ?_
                      refine go_iload_n C dX6_leaveRegion_89 rfl ?_
                      refine go_iload C dX6_leaveRegion_90 rfl ?_
                      refine go_iastN C dX6_leaveRegion_92 (by decide) rfl (by decide) (by omega) ?_
                      refine go_iincN C 1 dX6_leaveRegion_93 rfl rfl (by decide) rfl rfl ?_
                      refine go_iincN C 1 dX6_leaveRegion_96 rfl rfl (by decide) rfl rfl ?_
                      refine go_goto C 33 dX6_leaveRegion_99 (by decide) ?_
                      exact ihb nb (by omega) (d + 1) (ct2 + 1) (rm op2 m) (Q2 ++ [m]) _ _ (by omega) (by rw [List.length_append]; show Q2.length + 1 + (t + 1) = ct2 + 1; omega) (by omega) (fun i c2 hi => by
                        show upd (ρ2 15) ct2 (nI m) (t + 1 + i) = nI c2 ∧ c2 < 1152
                        by_cases hl : i < Q2.length
                        · rw [List.getElem?_append_left hl] at hi
                          rw [pk_un (by omega)]
                          exact hv2 i c2 hi
                        · rw [List.getElem?_append_right (by omega)] at hi
                          have hi0 : i - Q2.length < 1 := (List.getElem?_eq_some_iff.mp hi).1
                          rw [show i - Q2.length = 0 by omega] at hi
                          cases hi
                          rw [show t + 1 + i = ct2 by omega, pk_us]
                          exact ⟨rfl, hml⟩) (updP hop2) (by show upd (ρ2 15) ct2 (nI m) t = nI c; rw [pk_un (by omega)]; exact hct) (e3 ▸ he2) (fun z z1 z2 => by rw [updR_n z2, updR_n z1]; exact hF2 z z1 z2)
          refine go_iload_n C dX6_leaveRegion_18 rfl ?_
          refine go_iload_n C dX6_leaveRegion_19 rfl ?_
          refine go_icmp_geN C 108 dX6_leaveRegion_20 (by decide) (by omega) (by omega) (fun h20 => ?_) (fun h20 => ?_)
          · exact absurd h20 (by omega)
          · refine go_iload_n C dX6_leaveRegion_23 rfl ?_
            refine go_sipush C (nI 1152) dX6_leaveRegion_24 rfl ?_
            refine go_icmp_geN C 108 dX6_leaveRegion_27 (by decide) (by omega) (by omega) (fun h27 => ?_) (fun h27 => ?_)
            · exact absurd h27 (by omega)
            · refine go_iconst C (nI 0) dX6_leaveRegion_30 rfl ?_
              refine go_istore C dX6_leaveRegion_31 (by decide) rfl rfl ?_
              exact Lb 6 0 ct op1 Q ρ _ (by omega) (by omega) hcn (fun i c2 hi => by have := hv (i + 1) c2 hi; rw [show t + 1 + i = t + (i + 1) by omega]; exact this) hop1 hct rfl hF1
    refine go_iconst C (nI 1) dX6_leaveRegion_0 rfl ?_
    refine go_istore_n C dX6_leaveRegion_1 (by decide) rfl rfl ?_
    refine go_aload_n C dX6_leaveRegion_2 rfl ?_
    refine go_getR C gf_X6_32 dX6_leaveRegion_3 (by decide) rfl rfl ?_
    refine go_iconst C (nI 0) dX6_leaveRegion_6 rfl ?_
    refine go_iload_n C dX6_leaveRegion_7 rfl ?_
    refine go_iastN C dX6_leaveRegion_8 (by decide) rfl (by decide) (by omega) ?_
    refine go_aload_n C dX6_leaveRegion_9 rfl ?_
    refine go_getR C gf_X6_28 dX6_leaveRegion_10 (by decide) rfl rfl ?_
    refine go_iload_n C dX6_leaveRegion_13 rfl ?_
    refine go_iconst C (nI 0) dX6_leaveRegion_14 rfl ?_
    refine go_iastN C dX6_leaveRegion_15 (by decide) rfl (by decide) (by omega) ?_
    refine go_iconst C (nI 0) dX6_leaveRegion_16 rfl ?_
    refine go_istore_n C dX6_leaveRegion_17 (by decide) rfl rfl ?_
    exact L 1152 0 1 (rm op k) [k] _ _ _ (by omega) rfl (by have := cnt_rm hok hk; have := cnt_le (p := op) 1152; omega) (fun i c hi => by
      have hi0 : i < 1 := (List.getElem?_eq_some_iff.mp hi).1
      obtain rfl : i = 0 := by omega
      cases hi
      exact ⟨show upd (σ 15) 0 (nI k) 0 = nI k from pk_us, hk⟩) (updP hop) rfl (fun z z1 z2 => by rw [updR_n z1, updR_n z2])
set_option maxHeartbeats 4000000 in
set_option maxRecDepth 100000 in
theorem k_X6_regions {σ : Mem} {S : St} (hR : RepC σ S) (x : Int32) : CtI objC NC yX6_regions cX6_regions 4 .int 3 66 [.ref 0, .int x] σ (RQ (aRegions S x) S) := by
  obtain ⟨hS, hW, hL, hEf, hB, hH, hSv, hX, hFt⟩ := id hR
  have hO := hS.1
  have hOL := hS.2.1
  refine ct_ofI rfl ?_ (Nat.le_of_ble_eq_true rfl) (fun X C hr => ?_)
  · intro v hv; simp only [List.mem_cons, List.not_mem_nil, or_false] at hv; rcases hv with rfl | rfl <;> rfl
  · refine go_iload_n C dX6_regions_0 rfl ?_
    refine go_iconst C (nI 1) dX6_regions_1 rfl ?_
    refine go_icmp_lt C 11 dX6_regions_2 (by decide) (fun h2 => ?_) (fun h2 => ?_)
    · refine go_bipush C (-2) dX6_regions_11 rfl ?_
      refine go_iret hr dX6_regions_13 rfl ?_
      exact ⟨(pI_f (fun z => by first | exact z.1 h2 | exact z.2 (Int32.not_le.mp h8))).symm, hR⟩
    · skip
      refine go_iload_n C dX6_regions_5 rfl ?_
      refine go_bipush C (nI 15) dX6_regions_6 rfl ?_
      refine go_icmp_le C 14 dX6_regions_8 (by decide) (fun h8 => ?_) (fun h8 => ?_)
      · have hlv : lvR x := ⟨h2, by rw [Int32.not_lt]; exact h8⟩
        obtain ⟨l, hl1, hl, rfl⟩ := lvR_nat (id hlv)
        have L2 : ∀ (n2 : Nat) (i : Nat) (ρ2 : Mem), (i + n2 = 1152) → (∀ j, j < 1152 → ρ2 14 j = bP ((regF (sW S) l i).1 j)) → (∀ z, z ≠ 14 → z ≠ 15 → ρ2 z = σ z) → Go objC NC X 53 [some (.ref 0), some (.int (nI l)), some (.int (nI (regF (sW S) l i).2)), some (.int (nI i))] [] ρ2 := by
          intro n2
          induction n2 using Nat.strongRecOn with
          | _ n2 ih2 =>
            intro i ρ2 hi hop hF
            refine go_iload_n C dX6_regions_53 rfl ?_
            refine go_sipush C (nI 1152) dX6_regions_54 rfl ?_
            refine go_icmp_geN C 84 dX6_regions_57 (by decide) (by omega) (by omega) (fun h57 => ?_) (fun h57 => ?_)
            · obtain rfl : i = 1152 := by omega
              refine go_iload_n C dX6_regions_84 rfl ?_
              refine go_iret hr dX6_regions_85 rfl ?_
              exact ⟨by unfold aRegions; rw [pI_t hlv, nI_clamp (by omega)], hR.fr (fun q _ h2 => hF q (by omega) (by omega))⟩
            · have hk : i < 1152 := by omega
              refine go_aload_n C dX6_regions_60 rfl ?_
              refine go_getR C gf_X6_28 dX6_regions_61 (by decide) rfl rfl ?_
              refine go_iload_n C dX6_regions_64 rfl ?_
              refine go_ialdN C dX6_regions_65 (by decide) rfl (by decide) (by omega) ?_
              refine go_top _ (hop _ hk) ?_
              refine go_iconst C (nI 1) dX6_regions_66 rfl ?_
              refine go_icmp_neB C 78 dX6_regions_67 (by decide) (fun h67 => ?_) (fun h67 => ?_)
              · have e2 := regF_f h67
                refine go_iincN C 1 dX6_regions_78 rfl rfl (by decide) rfl rfl ?_
                refine go_goto C 53 dX6_regions_81 (by decide) ?_
                have q := ih2 (n2 - 1) (by omega) (i + 1) ρ2 (by omega) (by rw [e2]; exact hop) hF
                rw [e2] at q
                exact q
              · have e2 := regF_t h67
                refine go_iincN C 1 dX6_regions_70 rfl rfl (by decide) rfl rfl ?_
                refine go_aload_n C dX6_regions_73 rfl ?_
                refine go_iload_n C dX6_regions_74 rfl ?_
                refine go_V1V C ok_X6_leaveRegion lk_X6_188 dX6_regions_75 (by decide) rfl rfl rfl (k_X6_leaveRegion hk hop h67) (by decide) (Nat.le_of_ble_eq_true rfl) (fun τ hp => ?_)
                refine go_iincN C 1 dX6_regions_78 rfl rfl (by decide) rfl rfl ?_
                refine go_goto C 53 dX6_regions_81 (by decide) ?_
                have q := ih2 (n2 - 1) (by omega) (i + 1) τ (by omega) (by rw [e2]; exact hp.1) (fun z z1 z2 => (hp.2 z z1 z2).trans (hF z z1 z2))
                rw [e2] at q
                exact q
        have L1 : ∀ (n : Nat) (i : Nat) (ρ : Mem), (i + n = 1152) → (∀ j, j < i → ρ 14 j = bP (op0 (sW S) l j)) → (∀ z, z ≠ 14 → z ≠ 15 → ρ z = σ z) → Go objC NC X 16 [some (.ref 0), some (.int (nI l)), some (.int (nI i)), none] [] ρ := by
          intro n
          induction n using Nat.strongRecOn with
          | _ n ih =>
            intro i ρ hi hop hF
            have hR1 : RepC ρ S := hR.fr (fun q _ h2 => hF q (by omega) (by omega))
            refine go_iload_n C dX6_regions_16 rfl ?_
            refine go_sipush C (nI 1152) dX6_regions_17 rfl ?_
            refine go_icmp_geN C 49 dX6_regions_20 (by decide) (by omega) (by omega) (fun h20 => ?_) (fun h20 => ?_)
            · obtain rfl : i = 1152 := by omega
              refine go_iconst C (nI 0) dX6_regions_49 rfl ?_
              refine go_istore_n C dX6_regions_50 (by decide) rfl rfl ?_
              refine go_iconst C (nI 0) dX6_regions_51 rfl ?_
              refine go_istore_n C dX6_regions_52 (by decide) rfl rfl ?_
              exact L2 1152 0 ρ (by omega) hop hF
            · have hk : i < 1152 := by omega
              have h0 := lit_lt hOL (c := 0) (by decide) hk
              have h1 := lit_lt hOL (c := 1) (by decide) hk
              have h2 := lit_lt hOL (c := 2) (by decide) hk
              refine go_aload_n C dX6_regions_23 rfl ?_
              refine go_getR C gf_X6_28 dX6_regions_24 (by decide) rfl rfl ?_
              refine go_iload_n C dX6_regions_27 rfl ?_
              refine go_aload_n C dX6_regions_28 rfl ?_
              refine go_iload_n C dX6_regions_29 rfl ?_
              refine go_V1P C ok_X6_brightestColor lk_X6_182 dX6_regions_30 (by decide) rfl rfl rfl (k_X6_brightestColor hR1 hk) (by decide) (Nat.le_of_ble_eq_true rfl) ?_
              refine go_iload_n C dX6_regions_33 rfl ?_
              refine go_icmp_ltN C 41 dX6_regions_34 (by decide) (by omega) (by omega) (fun h34 => ?_) (fun h34 => ?_)
              · have hb : nI 0 = bP (op0 (sW S) l i) := bP_f (fun z => by unfold op0 at z; omega)
                refine go_iconst C (nI 0) dX6_regions_41 rfl ?_
                refine go_iastN C dX6_regions_42 (by decide) rfl (by decide) (by omega) ?_
                refine go_iincN C 1 dX6_regions_43 rfl rfl (by decide) rfl rfl ?_
                refine go_goto C 16 dX6_regions_46 (by decide) ?_
                exact ih (n - 1) (by omega) (i + 1) _ (by omega) (fun j hj => by
                  show upd (ρ 14) i _ j = _
                  by_cases e : j = i
                  · subst e; rw [pk_us]; exact hb
                  · rw [pk_un e]; exact hop j (by omega)) (fun z z1 z2 => (updR_n z1).trans (hF z z1 z2))
              · have hb : nI 1 = bP (op0 (sW S) l i) := bP_t (by unfold op0; omega)
                refine go_iconst C (nI 1) dX6_regions_37 rfl ?_
                refine go_goto C 42 dX6_regions_38 (by decide) ?_
                refine go_iastN C dX6_regions_42 (by decide) rfl (by decide) (by omega) ?_
                refine go_iincN C 1 dX6_regions_43 rfl rfl (by decide) rfl rfl ?_
                refine go_goto C 16 dX6_regions_46 (by decide) ?_
                exact ih (n - 1) (by omega) (i + 1) _ (by omega) (fun j hj => by
                  show upd (ρ 14) i _ j = _
                  by_cases e : j = i
                  · subst e; rw [pk_us]; exact hb
                  · rw [pk_un e]; exact hop j (by omega)) (fun z z1 z2 => (updR_n z1).trans (hF z z1 z2))
        refine go_iconst C (nI 0) dX6_regions_14 rfl ?_
        refine go_istore_n C dX6_regions_15 (by decide) rfl rfl ?_
        exact L1 1152 0 σ (by omega) (fun j h => absurd h (Nat.not_lt_zero _)) (fun _ _ _ => rfl)
      · refine go_bipush C (-2) dX6_regions_11 rfl ?_
        refine go_iret hr dX6_regions_13 rfl ?_
        exact ⟨(pI_f (fun z => by first | exact z.1 h2 | exact z.2 (Int32.not_le.mp h8))).symm, hR⟩
