theorem updPB {f : Nat → Int32} {op : Nat → Prop} {m : Nat} (h : ∀ j, j < 1152 → f j = bP (op j)) : ∀ j, j < 1152 → upd f m (vp_nar .boolean (nI 0)) j = bP (rm op m j) := updP h
set_option maxHeartbeats 4000000 in
set_option maxRecDepth 100000 in
theorem k_X7_takeRegion {σ : Mem} {k : Nat} {op : Nat → Prop} (hk : k < 1152) (hop : ∀ j, j < 1152 → σ 11 j = bP (op j)) (hok : op k) : CtV objM NM yX7_takeRegion cX7_takeRegion 6 3 69 [.ref 0, .int (nI k)] σ (fun τ => (∀ j, j < 1152 → τ 11 j = bP (bfs 1152 (rm op k) [k] j)) ∧ ∀ z, z ≠ 11 → z ≠ 12 → τ z = σ z) := by
  refine ct_ofV rfl ?_ (Nat.le_of_ble_eq_true rfl) (fun X C hr => ?_)
  · intro v hv; simp only [List.mem_cons, List.not_mem_nil, or_false] at hv; rcases hv with rfl | rfl <;> rfl
  · have L : ∀ (n : Nat) (t : Nat) (ct : Nat) (op1 : Nat → Prop) (Q0 : List Nat) (ρ : Mem) (v4 : Option Value) (v5 : Option Value), (t + n = 1152) → (Q0.length + t = ct) → (ct + cnt op1 1152 ≤ 1152) → (∀ i c, Q0[i]? = some c → ρ 12 (t + i) = nI c ∧ c < 1152) → (∀ j, j < 1152 → ρ 11 j = bP (op1 j)) → (bfs n op1 Q0 = bfs 1152 (rm op k) [k]) → (∀ z, z ≠ 11 → z ≠ 12 → ρ z = σ z) → Go objM NM X 18 [some (.ref 0), some (.int (nI k)), some (.int (nI ct)), some (.int (nI t)), v4, v5] [] ρ := by
      intro n
      induction n using Nat.strongRecOn with
      | _ n ih =>
        intro t ct op1 Q0 ρ v4 v5 ht hQ hcn hv hop1 he hF1
        cases Q0 with
        | nil =>
          rw [bfs_nil] at he
          have hQ1 : t = ct := by rw [← hQ]; show t = 0 + t; omega
          refine go_iload_n C dX7_takeRegion_18 rfl ?_
          refine go_iload_n C dX7_takeRegion_19 rfl ?_
          refine go_icmp_geN C 92 dX7_takeRegion_20 (by decide) (by omega) (by omega) (fun h20 => ?_) (fun h20 => ?_)
          · refine go_vret hr dX7_takeRegion_92 ?_
            exact ⟨fun j hj => by rw [← he]; exact hop1 j hj, hF1⟩
          · exact absurd h20 (by omega)
        | cons c Q =>
          have hQ1 : Q.length + 1 + t = ct := hQ
          obtain ⟨hct, hc⟩ := hv 0 c rfl
          rw [Nat.add_zero] at hct
          obtain ⟨n, rfl⟩ : ∃ n2, n = n2 + 1 := ⟨n - 1, by omega⟩
          have Lb : ∀ (nb : Nat) (d : Nat) (ct2 : Nat) (op2 : Nat → Prop) (Q2 : List Nat) (ρ2 : Mem) (v5 : Option Value), (d + nb = 6) → (Q2.length + (t + 1) = ct2) → (ct2 + cnt op2 1152 ≤ 1152) → (∀ i c, Q2[i]? = some c → ρ2 12 (t + 1 + i) = nI c ∧ c < 1152) → (∀ j, j < 1152 → ρ2 11 j = bP (op2 j)) → (ρ2 12 t = nI c) → (bfsD c nb d (op2, Q2) = bfsD c 6 0 (op1, Q)) → (∀ z, z ≠ 11 → z ≠ 12 → ρ2 z = σ z) → Go objM NM X 26 [some (.ref 0), some (.int (nI k)), some (.int (nI ct2)), some (.int (nI t)), some (.int (nI d)), v5] [] ρ2 := by
            intro nb
            induction nb using Nat.strongRecOn with
            | _ nb ihb =>
              intro d ct2 op2 Q2 ρ2 v5 hd hQ2 hcn2 hv2 hop2 hct he2 hF2
              refine go_iload C dX7_takeRegion_26 rfl ?_
              refine go_bipush C (nI 6) dX7_takeRegion_28 rfl ?_
              refine go_icmp_geN C 86 dX7_takeRegion_30 (by decide) (by omega) (by omega) (fun h30 => ?_) (fun h30 => ?_)
              · obtain rfl : nb = 0 := by omega
                have e3 : (op2, Q2) = bfsD c 6 0 (op1, Q) := he2
                refine go_iincN C 1 dX7_takeRegion_86 rfl rfl (by decide) rfl rfl ?_
                refine go_goto C 18 dX7_takeRegion_89 (by decide) ?_
                have e4 : bfs n op2 Q2 = bfs 1152 (rm op k) [k] := by rw [← he]; show _ = bfs n (bfsD c 6 0 (op1, Q)).1 (bfsD c 6 0 (op1, Q)).2; rw [← e3]
                exact ih n (by omega) (t + 1) ct2 op2 Q2 ρ2 _ _ (by omega) hQ2 hcn2 hv2 hop2 e4 hF2
              · obtain ⟨nb, rfl⟩ : ∃ n2, nb = n2 + 1 := ⟨nb - 1, by omega⟩
                refine go_aload_n C dX7_takeRegion_33 rfl ?_
                refine go_getR C gf_X7_51 dX7_takeRegion_34 (by decide) rfl rfl ?_
                refine go_iload_n C dX7_takeRegion_37 rfl ?_
                refine go_ialdN C dX7_takeRegion_38 (by decide) rfl (by decide) (by omega) ?_
                refine go_top _ hct ?_
                refine go_iload C dX7_takeRegion_39 rfl ?_
                refine go_S2P C ok_X7_next lk_X7_100 dX7_takeRegion_41 (k_X7_next hc (by omega)) (by decide) (Nat.le_of_ble_eq_true rfl) ?_
                refine go_istore C dX7_takeRegion_44 (by decide) rfl rfl ?_
                refine go_iload C dX7_takeRegion_46 rfl ?_
                refine go_if_ltO C 80 dX7_takeRegion_48 (by decide) (fun j hj => by have := nbr_lt hc hj; omega) (fun h48 => ?_) (fun h48 => ?_)
                · have e3 := bfsD_n (n := nb) (s := (op2, Q2)) h48
                  refine go_iincN C 1 dX7_takeRegion_80 rfl rfl (by decide) rfl rfl ?_
                  refine go_goto C 26 dX7_takeRegion_83 (by decide) ?_
                  exact ihb nb (by omega) (d + 1) ct2 op2 Q2 ρ2 _ (by omega) hQ2 hcn2 hv2 hop2 hct (e3 ▸ he2) hF2
                · obtain ⟨m, hm⟩ := h48
                  have hml := nbr_lt hc hm
                  rw [hm]
                  dsimp only [oI]
                  refine go_aload_n C dX7_takeRegion_51 rfl ?_
                  refine go_getR C gf_X7_48 dX7_takeRegion_52 (by decide) rfl rfl ?_
                  refine go_iload C dX7_takeRegion_55 rfl ?_
                  refine go_zaldN C dX7_takeRegion_57 (by decide) rfl (by decide) (by omega) ?_
                  refine go_top _ (hop2 _ hml) ?_
                  refine go_if_eqB C 80 dX7_takeRegion_58 (by decide) (fun h58 => ?_) (fun h58 => ?_)
                  · have e3 := bfsD_f (n := nb) (s := (op2, Q2)) hm h58
                    refine go_iincN C 1 dX7_takeRegion_80 rfl rfl (by decide) rfl rfl ?_
                    refine go_goto C 26 dX7_takeRegion_83 (by decide) ?_
                    exact ihb nb (by omega) (d + 1) ct2 op2 Q2 ρ2 _ (by omega) hQ2 hcn2 hv2 hop2 hct (e3 ▸ he2) hF2
                  · have e3 := bfsD_t (n := nb) (s := (op2, Q2)) hm h58
                    have hcr := cnt_rm h58 hml
                    refine go_aload_n C dX7_takeRegion_61 rfl ?_
                    refine go_getR C gf_X7_48 dX7_takeRegion_62 (by decide) rfl rfl ?_
                    refine go_iload C dX7_takeRegion_65 rfl ?_
                    refine go_iconst C (nI 0) dX7_takeRegion_67 rfl ?_
                    refine go_zastN C dX7_takeRegion_68 (by decide) rfl (by decide) (by omega) ?_
                    refine go_aload_n C dX7_takeRegion_69 rfl ?_
                    refine go_getR C gf_X7_51 dX7_takeRegion_70 (by decide) rfl rfl ?_
                    refine go_iload_n C dX7_takeRegion_73 rfl ?_
                    refine go_iload C dX7_takeRegion_74 rfl ?_
                    refine go_iastN C dX7_takeRegion_76 (by decide) rfl (by decide) (by omega) ?_
                    refine go_iincN C 1 dX7_takeRegion_77 rfl rfl (by decide) rfl rfl ?_
                    refine go_iincN C 1 dX7_takeRegion_80 rfl rfl (by decide) rfl rfl ?_
                    refine go_goto C 26 dX7_takeRegion_83 (by decide) ?_
                    exact ihb nb (by omega) (d + 1) (ct2 + 1) (rm op2 m) (Q2 ++ [m]) _ _ (by omega) (by rw [List.length_append]; show Q2.length + 1 + (t + 1) = ct2 + 1; omega) (by omega) (fun i c2 hi => by
                      show upd (ρ2 12) ct2 (nI m) (t + 1 + i) = nI c2 ∧ c2 < 1152
                      by_cases hl : i < Q2.length
                      · rw [List.getElem?_append_left hl] at hi
                        rw [pk_un (by omega)]
                        exact hv2 i c2 hi
                      · rw [List.getElem?_append_right (by omega)] at hi
                        have hi0 : i - Q2.length < 1 := (List.getElem?_eq_some_iff.mp hi).1
                        rw [show i - Q2.length = 0 by omega] at hi
                        cases hi
                        rw [show t + 1 + i = ct2 by omega, pk_us]
                        exact ⟨rfl, hml⟩) (updPB hop2) (by show upd (ρ2 12) ct2 (nI m) t = nI c; rw [pk_un (by omega)]; exact hct) (e3 ▸ he2) (fun z z1 z2 => by rw [updR_n z2, updR_n z1]; exact hF2 z z1 z2)
          refine go_iload_n C dX7_takeRegion_18 rfl ?_
          refine go_iload_n C dX7_takeRegion_19 rfl ?_
          refine go_icmp_geN C 92 dX7_takeRegion_20 (by decide) (by omega) (by omega) (fun h20 => ?_) (fun h20 => ?_)
          · exact absurd h20 (by omega)
          · refine go_iconst C (nI 0) dX7_takeRegion_23 rfl ?_
            refine go_istore C dX7_takeRegion_24 (by decide) rfl rfl ?_
            exact Lb 6 0 ct op1 Q ρ _ (by omega) (by omega) hcn (fun i c2 hi => by have := hv (i + 1) c2 hi; rw [show t + 1 + i = t + (i + 1) by omega]; exact this) hop1 hct rfl hF1
    refine go_iconst C (nI 1) dX7_takeRegion_0 rfl ?_
    refine go_istore_n C dX7_takeRegion_1 (by decide) rfl rfl ?_
    refine go_aload_n C dX7_takeRegion_2 rfl ?_
    refine go_getR C gf_X7_51 dX7_takeRegion_3 (by decide) rfl rfl ?_
    refine go_iconst C (nI 0) dX7_takeRegion_6 rfl ?_
    refine go_iload_n C dX7_takeRegion_7 rfl ?_
    refine go_iastN C dX7_takeRegion_8 (by decide) rfl (by decide) (by omega) ?_
    refine go_aload_n C dX7_takeRegion_9 rfl ?_
    refine go_getR C gf_X7_48 dX7_takeRegion_10 (by decide) rfl rfl ?_
    refine go_iload_n C dX7_takeRegion_13 rfl ?_
    refine go_iconst C (nI 0) dX7_takeRegion_14 rfl ?_
    refine go_zastN C dX7_takeRegion_15 (by decide) rfl (by decide) (by omega) ?_
    refine go_iconst C (nI 0) dX7_takeRegion_16 rfl ?_
    refine go_istore_n C dX7_takeRegion_17 (by decide) rfl rfl ?_
    exact L 1152 0 1 (rm op k) [k] _ _ _ (by omega) rfl (by have := cnt_rm hok hk; have := cnt_le (p := op) 1152; omega) (fun i c hi => by
      have hi0 : i < 1 := (List.getElem?_eq_some_iff.mp hi).1
      obtain rfl : i = 0 := by omega
      cases hi
      exact ⟨show upd (σ 12) 0 (nI k) 0 = nI k from pk_us, hk⟩) (updPB hop) rfl (fun z z1 z2 => by rw [updR_n z1, updR_n z2])
set_option maxHeartbeats 4000000 in
set_option maxRecDepth 100000 in
theorem k_X7_regions {σ : Mem} {S : St} (hR : RepM σ S) (x : Int32) : CtI objM NM yX7_regions cX7_regions 4 .int 4 94 [.ref 0, .int x] σ (RQM (aRegions S x) S) := by
  obtain ⟨hS, hM, hL, hEf, hB, hH, hSv, hX, hFt, hoc⟩ := id hR
  have hO := hS.1
  have hOL := hS.2.1
  have hV := hR.V
  have hT : ∀ j, j < 1152 → σ 1 j = nI (wT (sW S) j) := fun j hj => by have := hM.1 j hj; rw [Nat.zero_add] at this; exact this
  have hLs := hV.2.2.2.1
  have hEm := hV.2.2.2.2.1
  refine ct_ofI rfl ?_ (Nat.le_of_ble_eq_true rfl) (fun X C hr => ?_)
  · intro v hv; simp only [List.mem_cons, List.not_mem_nil, or_false] at hv; rcases hv with rfl | rfl <;> rfl
  · refine go_iload_n C dX7_regions_0 rfl ?_
    refine go_iconst C (nI 1) dX7_regions_1 rfl ?_
    refine go_bipush C (nI 15) dX7_regions_2 rfl ?_
    refine go_S3P C ok_X7_in lk_X7_57 dX7_regions_4 (k_X7_in0 _ _ _) (by decide) (Nat.le_of_ble_eq_true rfl) ?_
    refine go_if_neB C 13 dX7_regions_7 (by decide) (fun h7 => ?_) (fun h7 => ?_)
    · obtain ⟨l, hl1, hl, rfl⟩ := lvR_nat h7
      have L2 : ∀ (n2 : Nat) (i : Nat) (ρ2 : Mem), (i + n2 = 1152) → (∀ j, j < 1152 → ρ2 11 j = bP ((regF (sW S) l i).1 j)) → (∀ z, z ≠ 11 → z ≠ 12 → ρ2 z = σ z) → Go objM NM X 73 [some (.ref 0), some (.int (nI l)), some (.int (nI (regF (sW S) l i).2)), some (.int (nI i))] [] ρ2 := by
        intro n2
        induction n2 using Nat.strongRecOn with
        | _ n2 ih2 =>
          intro i ρ2 hi hop hF
          refine go_iload_n C dX7_regions_73 rfl ?_
          refine go_sipush C (nI 1152) dX7_regions_74 rfl ?_
          refine go_icmp_geN C 103 dX7_regions_77 (by decide) (by omega) (by omega) (fun h77 => ?_) (fun h77 => ?_)
          · obtain rfl : i = 1152 := by omega
            refine go_iload_n C dX7_regions_103 rfl ?_
            refine go_iret hr dX7_regions_104 rfl ?_
            exact ⟨by unfold aRegions; rw [pI_t (show lvR (nI l) from h7), nI_clamp (by omega)], hR.fr (fun q _ _ _ _ q1 q2 => hF q q1 q2) (fun j _ => by rw [hF 0 (by decide) (by decide)])⟩
          · have hk : i < 1152 := by omega
            refine go_aload_n C dX7_regions_80 rfl ?_
            refine go_getR C gf_X7_48 dX7_regions_81 (by decide) rfl rfl ?_
            refine go_iload_n C dX7_regions_84 rfl ?_
            refine go_zaldN C dX7_regions_85 (by decide) rfl (by decide) (by omega) ?_
            refine go_top _ (hop _ hk) ?_
            refine go_if_eqB C 97 dX7_regions_86 (by decide) (fun h86 => ?_) (fun h86 => ?_)
            · have e2 := regF_f h86
              refine go_iincN C 1 dX7_regions_97 rfl rfl (by decide) rfl rfl ?_
              refine go_goto C 73 dX7_regions_100 (by decide) ?_
              have q := ih2 (n2 - 1) (by omega) (i + 1) ρ2 (by omega) (by rw [e2]; exact hop) hF
              rw [e2] at q
              exact q
            · have e2 := regF_t h86
              refine go_aload_n C dX7_regions_89 rfl ?_
              refine go_iload_n C dX7_regions_90 rfl ?_
              refine go_V1V C ok_X7_takeRegion lk_X7_202 dX7_regions_91 (by decide) rfl rfl rfl (k_X7_takeRegion hk hop h86) (by decide) (Nat.le_of_ble_eq_true rfl) (fun τ hp => ?_)
              refine go_iincN C 1 dX7_regions_94 rfl rfl (by decide) rfl rfl ?_
              refine go_iincN C 1 dX7_regions_97 rfl rfl (by decide) rfl rfl ?_
              refine go_goto C 73 dX7_regions_100 (by decide) ?_
              have q := ih2 (n2 - 1) (by omega) (i + 1) τ (by omega) (by rw [e2]; exact hp.1) (fun z z1 z2 => (hp.2 z z1 z2).trans (hF z z1 z2))
              rw [e2] at q
              exact q
      have L1 : ∀ (n : Nat) (i : Nat) (ρ : Mem), (i + n = 1152) → (∀ j, j < i → ρ 11 j = bP (op0 (sW S) l j)) → (∀ z, z ≠ 11 → z ≠ 12 → ρ z = σ z) → Go objM NM X 15 [some (.ref 0), some (.int (nI l)), some (.int (nI i)), none] [] ρ := by
        intro n
        induction n using Nat.strongRecOn with
        | _ n ih =>
          intro i ρ hi hop hF
          have hL1 : LitM ρ (lit (sW S)) := fun c hc j hj => by rw [hF 4 (by decide) (by decide)]; exact hL c hc j hj
          refine go_iload_n C dX7_regions_15 rfl ?_
          refine go_sipush C (nI 1152) dX7_regions_16 rfl ?_
          refine go_icmp_geN C 69 dX7_regions_19 (by decide) (by omega) (by omega) (fun h19 => ?_) (fun h19 => ?_)
          · obtain rfl : i = 1152 := by omega
            refine go_iconst C (nI 0) dX7_regions_69 rfl ?_
            refine go_istore_n C dX7_regions_70 (by decide) rfl rfl ?_
            refine go_iconst C (nI 0) dX7_regions_71 rfl ?_
            refine go_istore_n C dX7_regions_72 (by decide) rfl rfl ?_
            exact L2 1152 0 ρ (by omega) hop hF
          · have hk : i < 1152 := by omega
            have h0 := lit_lt hOL (c := 0) (by decide) hk
            have h1 := lit_lt hOL (c := 1) (by decide) hk
            have h2 := lit_lt hOL (c := 2) (by decide) hk
            refine go_aload_n C dX7_regions_22 rfl ?_
            refine go_getR C gf_X7_48 dX7_regions_23 (by decide) rfl rfl ?_
            refine go_iload_n C dX7_regions_26 rfl ?_
            refine go_aload_n C dX7_regions_27 rfl ?_
            refine go_iload_n C dX7_regions_28 rfl ?_
            refine go_iconst C (nI 0) dX7_regions_29 rfl ?_
            refine go_V2P C ok_X7_lightOf lk_X7_177 dX7_regions_30 (by decide) rfl rfl rfl (k_X7_lightOf hL1 hk (c := 0) (by decide)) (by decide) (Nat.le_of_ble_eq_true rfl) ?_
            refine go_iload_n C dX7_regions_33 rfl ?_
            refine go_icmp_geN C 57 dX7_regions_34 (by decide) (by omega) (by omega) (fun h34 => ?_) (fun h34 => ?_)
            · have hb : vp_nar .boolean (nI 1) = bP (op0 (sW S) l i) := bP_t (Or.inl h34)
              refine go_iconst C (nI 1) dX7_regions_57 rfl ?_
              refine go_goto C 62 dX7_regions_58 (by decide) ?_
              refine go_zastN C dX7_regions_62 (by decide) rfl (by decide) (by omega) ?_
              refine go_iincN C 1 dX7_regions_63 rfl rfl (by decide) rfl rfl ?_
              refine go_goto C 15 dX7_regions_66 (by decide) ?_
              exact ih (n - 1) (by omega) (i + 1) _ (by omega) (fun j hj => by
                show upd (ρ 11) i _ j = _
                by_cases e : j = i
                · subst e; rw [pk_us]; exact hb
                · rw [pk_un e]; exact hop j (by omega)) (fun z z1 z2 => (updR_n z1).trans (hF z z1 z2))
            · refine go_aload_n C dX7_regions_37 rfl ?_
              refine go_iload_n C dX7_regions_38 rfl ?_
              refine go_iconst C (nI 1) dX7_regions_39 rfl ?_
              refine go_V2P C ok_X7_lightOf lk_X7_177 dX7_regions_40 (by decide) rfl rfl rfl (k_X7_lightOf hL1 hk (c := 1) (by decide)) (by decide) (Nat.le_of_ble_eq_true rfl) ?_
              refine go_iload_n C dX7_regions_43 rfl ?_
              refine go_icmp_geN C 57 dX7_regions_44 (by decide) (by omega) (by omega) (fun h44 => ?_) (fun h44 => ?_)
              · have hb : vp_nar .boolean (nI 1) = bP (op0 (sW S) l i) := bP_t (Or.inr (Or.inl h44))
                refine go_iconst C (nI 1) dX7_regions_57 rfl ?_
                refine go_goto C 62 dX7_regions_58 (by decide) ?_
                refine go_zastN C dX7_regions_62 (by decide) rfl (by decide) (by omega) ?_
                refine go_iincN C 1 dX7_regions_63 rfl rfl (by decide) rfl rfl ?_
                refine go_goto C 15 dX7_regions_66 (by decide) ?_
                exact ih (n - 1) (by omega) (i + 1) _ (by omega) (fun j hj => by
                  show upd (ρ 11) i _ j = _
                  by_cases e : j = i
                  · subst e; rw [pk_us]; exact hb
                  · rw [pk_un e]; exact hop j (by omega)) (fun z z1 z2 => (updR_n z1).trans (hF z z1 z2))
              · refine go_aload_n C dX7_regions_47 rfl ?_
                refine go_iload_n C dX7_regions_48 rfl ?_
                refine go_iconst C (nI 2) dX7_regions_49 rfl ?_
                refine go_V2P C ok_X7_lightOf lk_X7_177 dX7_regions_50 (by decide) rfl rfl rfl (k_X7_lightOf hL1 hk (c := 2) (by decide)) (by decide) (Nat.le_of_ble_eq_true rfl) ?_
                refine go_iload_n C dX7_regions_53 rfl ?_
                refine go_icmp_ltN C 61 dX7_regions_54 (by decide) (by omega) (by omega) (fun h54 => ?_) (fun h54 => ?_)
                · have hb : vp_nar .boolean (nI 0) = bP (op0 (sW S) l i) := bP_f (fun z => by unfold op0 at z; omega)
                  refine go_iconst C (nI 0) dX7_regions_61 rfl ?_
                  refine go_zastN C dX7_regions_62 (by decide) rfl (by decide) (by omega) ?_
                  refine go_iincN C 1 dX7_regions_63 rfl rfl (by decide) rfl rfl ?_
                  refine go_goto C 15 dX7_regions_66 (by decide) ?_
                  exact ih (n - 1) (by omega) (i + 1) _ (by omega) (fun j hj => by
                    show upd (ρ 11) i _ j = _
                    by_cases e : j = i
                    · subst e; rw [pk_us]; exact hb
                    · rw [pk_un e]; exact hop j (by omega)) (fun z z1 z2 => (updR_n z1).trans (hF z z1 z2))
                · have hb : vp_nar .boolean (nI 1) = bP (op0 (sW S) l i) := bP_t (Or.inr (Or.inr h54))
                  refine go_iconst C (nI 1) dX7_regions_57 rfl ?_
                  refine go_goto C 62 dX7_regions_58 (by decide) ?_
                  refine go_zastN C dX7_regions_62 (by decide) rfl (by decide) (by omega) ?_
                  refine go_iincN C 1 dX7_regions_63 rfl rfl (by decide) rfl rfl ?_
                  refine go_goto C 15 dX7_regions_66 (by decide) ?_
                  exact ih (n - 1) (by omega) (i + 1) _ (by omega) (fun j hj => by
                    show upd (ρ 11) i _ j = _
                    by_cases e : j = i
                    · subst e; rw [pk_us]; exact hb
                    · rw [pk_un e]; exact hop j (by omega)) (fun z z1 z2 => (updR_n z1).trans (hF z z1 z2))
      refine go_iconst C (nI 0) dX7_regions_13 rfl ?_
      refine go_istore_n C dX7_regions_14 (by decide) rfl rfl ?_
      exact L1 1152 0 σ (by omega) (fun j h => absurd h (Nat.not_lt_zero _)) (fun _ _ _ => rfl)
    · refine go_bipush C (-2) dX7_regions_10 rfl ?_
      refine go_iret hr dX7_regions_12 rfl ?_
      exact ⟨(pI_f h7).symm, hR⟩
