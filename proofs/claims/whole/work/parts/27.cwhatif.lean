theorem hu_no : ∀ k, k < 1152 → (nI k = -1 ↔ k = 1152) := fun k hk => ⟨fun q => absurd q (oI_ne (by omega)), fun q => absurd q (by omega)⟩
theorem FrL.R {σ τ : Mem} (h : FrL σ τ) {S : St} (hR : RepC σ S) : RepC τ S := hR.fr (fun q _ h2 => h q (by omega) (by omega) (by omega) (by omega) (by omega))
set_option maxHeartbeats 4000000 in
set_option maxRecDepth 100000 in
theorem k_X6_isConsistent {σ : Mem} {S : St} (hR : RepC σ S)  : CtI objC NC yX6_isConsistent cX6_isConsistent 3 .int 4 96 [.ref 0] σ (RQ (nI 1) S) := by
  obtain ⟨hS, hW, hL, hEf, hB, hH, hSv, hX, hFt⟩ := id hR
  have hO := hS.1
  have hOL := hS.2.1
  refine ct_ofI rfl ?_ (Nat.le_of_ble_eq_true rfl) (fun X C hr => ?_)
  · intro v hv; simp only [List.mem_cons, List.not_mem_nil, or_false] at hv; rcases hv with rfl <;> rfl
  · have L : ∀ (n : Nat) (c : Nat) (v2 : Option Value) (ρ : Mem), (c + n = 4) → (RepC ρ S) → Go objC NC X 2 [some (.ref 0), some (.int (nI c)), v2] [] ρ := by
      intro n
      induction n using Nat.strongRecOn with
      | _ n ih =>
        intro c v2 ρ hi hR1
        have hW1 := hR1.2.1
        refine go_iload_n C dX6_isConsistent_2 rfl ?_
        refine go_iconst C (nI 4) dX6_isConsistent_3 rfl ?_
        refine go_icmp_geN C 64 dX6_isConsistent_4 (by decide) (by omega) (by omega) (fun h4 => ?_) (fun h4 => ?_)
        · refine go_iconst C (nI 1) dX6_isConsistent_64 rfl ?_
          refine go_iret hr dX6_isConsistent_65 rfl ?_
          exact ⟨rfl, hR1⟩
        · have hc : c < 4 := by omega
          refine go_aload_n C dX6_isConsistent_7 rfl ?_
          refine go_getR C gf_X6_24 dX6_isConsistent_8 (by decide) rfl rfl ?_
          refine go_aload_n C dX6_isConsistent_11 rfl ?_
          refine go_getR C gf_X6_12 dX6_isConsistent_12 (by decide) rfl rfl ?_
          refine go_iload_n C dX6_isConsistent_15 rfl ?_
          refine go_iconst C (-1) dX6_isConsistent_16 rfl ?_
          refine go_aload_n C dX6_isConsistent_17 rfl ?_
          refine go_getR C gf_X6_28 dX6_isConsistent_18 (by decide) rfl rfl ?_
          refine go_V4V C ok_X4_find lk_X6_172 dX6_isConsistent_21 (by decide) rfl rfl rfl (k_X4_find hO hW1 hc hu_no) (by decide) (Nat.le_of_ble_eq_true rfl) (fun τ hp => ?_)
          have hL1 := (hp.1.R hR1).2.2.1
          have L2 : ∀ (n2 : Nat) (i : Nat), (i + n2 = 1152) → Go objC NC X 26 [some (.ref 0), some (.int (nI c)), some (.int (nI i))] [] τ := by
            intro n2
            induction n2 using Nat.strongRecOn with
            | _ n2 ih2 =>
              intro i hi
              refine go_iload_n C dX6_isConsistent_26 rfl ?_
              refine go_sipush C (nI 1152) dX6_isConsistent_27 rfl ?_
              refine go_icmp_geN C 58 dX6_isConsistent_30 (by decide) (by omega) (by omega) (fun h30 => ?_) (fun h30 => ?_)
              · skip
                refine go_iincN C 1 dX6_isConsistent_58 rfl rfl (by decide) rfl rfl ?_
                refine go_goto C 2 dX6_isConsistent_61 (by decide) ?_
                exact ih (n - 1) (by omega) (c + 1) _ τ (by omega) (hp.1.R hR1)
              · have h1 := lit_lt hOL hc (show i < 1152 by omega)
                have h1b : litQ (sW S) c 1152 0 i < 16 := h1
                refine go_aload_n C dX6_isConsistent_33 rfl ?_
                refine go_getR C gf_X6_28 dX6_isConsistent_34 (by decide) rfl rfl ?_
                refine go_iload_n C dX6_isConsistent_37 rfl ?_
                refine go_ialdN C dX6_isConsistent_38 (by decide) rfl (by decide) (by omega) ?_
                refine go_top _ (hp.2.2 _ (by omega)) ?_
                refine go_aload_n C dX6_isConsistent_39 rfl ?_
                refine go_getR C gf_X6_18 dX6_isConsistent_40 (by decide) rfl rfl ?_
                refine go_iload_n C dX6_isConsistent_43 rfl ?_
                refine go_aald C dX6_isConsistent_44 (by decide) rfl (Or.inl rfl) (by decide) (jsL hc) ?_
                refine go_iload_n C dX6_isConsistent_45 rfl ?_
                refine go_ialdN C dX6_isConsistent_46 (Nat.lt_of_lt_of_le (Nat.add_lt_add_left hc 6) (by decide)) (hoL hc) (by decide) (by omega) ?_
                refine go_top _ (hL1 c hc _ (by omega)) ?_
                refine go_icmp_eqN C 52 dX6_isConsistent_47 (by decide) (by omega) (by omega) (fun h47 => ?_) (fun h47 => ?_)
                · refine go_iincN C 1 dX6_isConsistent_52 rfl rfl (by decide) rfl rfl ?_
                  refine go_goto C 26 dX6_isConsistent_55 (by decide) ?_
                  exact ih2 (n2 - 1) (by omega) (i + 1) (by omega)
                · exact absurd rfl h47
          refine go_iconst C (nI 0) dX6_isConsistent_24 rfl ?_
          refine go_istore_n C dX6_isConsistent_25 (by decide) rfl rfl ?_
          exact L2 1152 0 (by omega)
    refine go_iconst C (nI 0) dX6_isConsistent_0 rfl ?_
    refine go_istore_n C dX6_isConsistent_1 (by decide) rfl rfl ?_
    exact L 4 0 _ σ (by omega) hR
set_option maxHeartbeats 4000000 in
set_option maxRecDepth 100000 in
theorem k_X6_spread {σ : Mem} {S : St} (hR : RepC σ S) (x y z c : Int32) : CtI objC NC yX6_spread cX6_spread 7 .int 4 96 [.ref 0, .int x, .int y, .int z, .int c] σ (RQ (aSpread S x y z c) S) := by
  obtain ⟨hS, hW, hL, hEf, hB, hH, hSv, hX, hFt⟩ := id hR
  have hO := hS.1
  have hOL := hS.2.1
  refine ct_ofI rfl ?_ (Nat.le_of_ble_eq_true rfl) (fun X C hr => ?_)
  · intro v hv; simp only [List.mem_cons, List.not_mem_nil, or_false] at hv; rcases hv with rfl | rfl | rfl | rfl | rfl <;> rfl
  · refine go_iload_n C dX6_spread_0 rfl ?_
    refine go_iload_n C dX6_spread_1 rfl ?_
    refine go_iload_n C dX6_spread_2 rfl ?_
    refine go_S3P C ok_X2_has lk_X6_74 dX6_spread_3 (k_X2_has _ _ _) (by decide) (Nat.le_of_ble_eq_true rfl) ?_
    refine go_if_eqB C 17 dX6_spread_6 (by decide) (fun h6 => ?_) (fun h6 => ?_)
    · refine go_iconst C (-1) dX6_spread_17 rfl ?_
      refine go_iret hr dX6_spread_18 rfl ?_
      exact ⟨(pI_f (fun q => by first | exact h6 q.1 | exact h14 q.2)).symm, hR⟩
    · refine go_iload C dX6_spread_9 rfl ?_
      refine go_S1P C ok_X6_isColor lk_X6_128 dX6_spread_11 (k_X6_isColor _) (by decide) (Nat.le_of_ble_eq_true rfl) ?_
      refine go_if_neB C 19 dX6_spread_14 (by decide) (fun h14 => ?_) (fun h14 => ?_)
      · obtain ⟨r1, r2, r3⟩ := id h6
        obtain ⟨a, ha, rfl⟩ := rng_nat (by decide) r1
        obtain ⟨b, hb, rfl⟩ := rng_nat (by decide) r2
        obtain ⟨cz, hcz, rfl⟩ := rng_nat (by decide) r3
        have hk := cel_lt ha hb hcz
        obtain ⟨cn, hc3, rfl⟩ := rng_nat (by decide) (id h14)
        have hc : cn < 4 := by omega
        refine go_aload_n C dX6_spread_19 rfl ?_
        refine go_getR C gf_X6_24 dX6_spread_20 (by decide) rfl rfl ?_
        refine go_aload_n C dX6_spread_23 rfl ?_
        refine go_getR C gf_X6_12 dX6_spread_24 (by decide) rfl rfl ?_
        refine go_iload C dX6_spread_27 rfl ?_
        refine go_iload_n C dX6_spread_29 rfl ?_
        refine go_iload_n C dX6_spread_30 rfl ?_
        refine go_iload_n C dX6_spread_31 rfl ?_
        refine go_S3P C ok_X2_cell lk_X6_84 dX6_spread_32 k_X2_cell (by decide) (Nat.le_of_ble_eq_true rfl) ?_
        refine go_aload_n C dX6_spread_35 rfl ?_
        refine go_getR C gf_X6_28 dX6_spread_36 (by decide) rfl rfl ?_
        refine go_V4V C ok_X4_find lk_X6_172 dX6_spread_39 (by decide) rfl rfl rfl (k_X4_find hO hW hc (q := cel a b cz) (fun k hk1 => nI_eq (by omega) (by omega))) (by decide) (Nat.le_of_ble_eq_true rfl) (fun τ hp => ?_)
        have hL1 := (hp.1.R hR).2.2.1
        have L : ∀ (n : Nat) (i : Nat), (i + n = 1152) → Go objC NC X 48 [some (.ref 0), some (.int (nI a)), some (.int (nI b)), some (.int (nI cz)), some (.int (nI cn)), some (.int (nI (cnt (fun j => litQ (sW S) cn (cel a b cz) 0 j < lit (sW S) cn j) i))), some (.int (nI i))] [] τ := by
          intro n
          induction n using Nat.strongRecOn with
          | _ n ih =>
            intro i hi
            refine go_iload C dX6_spread_48 rfl ?_
            refine go_sipush C (nI 1152) dX6_spread_50 rfl ?_
            refine go_icmp_geN C 85 dX6_spread_53 (by decide) (by omega) (by omega) (fun h53 => ?_) (fun h53 => ?_)
            · obtain rfl : i = 1152 := by omega
              refine go_iload C dX6_spread_85 rfl ?_
              refine go_iret hr dX6_spread_87 rfl ?_
              exact ⟨by unfold aSpread; rw [pI_t ⟨h6, h14⟩, nI_clamp (by omega), ixC_nI ha hb hcz], hp.1.R hR⟩
            · have h1 := lit_lt hOL hc (show i < 1152 by omega)
              have h2 := (hp.2.1.1 i (by omega)).2
              refine go_aload_n C dX6_spread_56 rfl ?_
              refine go_getR C gf_X6_28 dX6_spread_57 (by decide) rfl rfl ?_
              refine go_iload C dX6_spread_60 rfl ?_
              refine go_ialdN C dX6_spread_62 (by decide) rfl (by decide) (by omega) ?_
              refine go_top _ (hp.2.2 _ (by omega)) ?_
              refine go_aload_n C dX6_spread_63 rfl ?_
              refine go_getR C gf_X6_18 dX6_spread_64 (by decide) rfl rfl ?_
              refine go_iload C dX6_spread_67 rfl ?_
              refine go_aald C dX6_spread_69 (by decide) rfl (Or.inl rfl) (by decide) (jsL hc) ?_
              refine go_iload C dX6_spread_70 rfl ?_
              refine go_ialdN C dX6_spread_72 (Nat.lt_of_lt_of_le (Nat.add_lt_add_left hc 6) (by decide)) (hoL hc) (by decide) (by omega) ?_
              refine go_top _ (hL1 cn hc _ (by omega)) ?_
              refine go_icmp_geN C 79 dX6_spread_73 (by decide) (by omega) (by omega) (fun h73 => ?_) (fun h73 => ?_)
              · have e2 : cnt (fun j => litQ (sW S) cn (cel a b cz) 0 j < lit (sW S) cn j) (i + 1) = cnt (fun j => litQ (sW S) cn (cel a b cz) 0 j < lit (sW S) cn j) i := cnt_0 (by omega)
                refine go_iincN C 1 dX6_spread_79 rfl rfl (by decide) rfl rfl ?_
                refine go_goto C 48 dX6_spread_82 (by decide) ?_
                have q := ih (n - 1) (by omega) (i + 1) (by omega)
                rw [e2] at q
                exact q
              · have e2 : cnt (fun j => litQ (sW S) cn (cel a b cz) 0 j < lit (sW S) cn j) (i + 1) = cnt (fun j => litQ (sW S) cn (cel a b cz) 0 j < lit (sW S) cn j) i + 1 := cnt_1 h73
                refine go_iincN C 1 dX6_spread_76 rfl rfl (by decide) rfl rfl ?_
                refine go_iincN C 1 dX6_spread_79 rfl rfl (by decide) rfl rfl ?_
                refine go_goto C 48 dX6_spread_82 (by decide) ?_
                have q := ih (n - 1) (by omega) (i + 1) (by omega)
                rw [e2] at q
                exact q
        refine go_iconst C (nI 0) dX6_spread_42 rfl ?_
        refine go_istore C dX6_spread_43 (by decide) rfl rfl ?_
        refine go_iconst C (nI 0) dX6_spread_45 rfl ?_
        refine go_istore C dX6_spread_46 (by decide) rfl rfl ?_
        exact L 1152 0 (by omega)
      · refine go_iconst C (-1) dX6_spread_17 rfl ?_
        refine go_iret hr dX6_spread_18 rfl ?_
        exact ⟨(pI_f (fun q => by first | exact h6 q.1 | exact h14 q.2)).symm, hR⟩
set_option maxHeartbeats 4000000 in
set_option maxRecDepth 100000 in
theorem k_X6_needed {σ : Mem} {S : St} (hR : RepC σ S) (x y z c v : Int32) : CtI objC NC yX6_needed cX6_needed 9 .int 4 96 [.ref 0, .int x, .int y, .int z, .int c, .int v] σ (RQ (aNeeded S x y z c v) S) := by
  obtain ⟨hS, hW, hL, hEf, hB, hH, hSv, hX, hFt⟩ := id hR
  have hO := hS.1
  have hOL := hS.2.1
  refine ct_ofI rfl ?_ (Nat.le_of_ble_eq_true rfl) (fun X C hr => ?_)
  · intro v hv; simp only [List.mem_cons, List.not_mem_nil, or_false] at hv; rcases hv with rfl | rfl | rfl | rfl | rfl | rfl <;> rfl
  · refine go_iload_n C dX6_needed_0 rfl ?_
    refine go_iload_n C dX6_needed_1 rfl ?_
    refine go_iload_n C dX6_needed_2 rfl ?_
    refine go_S3P C ok_X2_has lk_X6_74 dX6_needed_3 (k_X2_has _ _ _) (by decide) (Nat.le_of_ble_eq_true rfl) ?_
    refine go_if_eqB C 23 dX6_needed_6 (by decide) (fun h6 => ?_) (fun h6 => ?_)
    · refine go_iconst C (-1) dX6_needed_23 rfl ?_
      refine go_iret hr dX6_needed_24 rfl ?_
      first | exact ⟨by rw [hans]; unfold needF; rw [if_pos h79], hp.1.R hR⟩ | exact ⟨by rw [hans]; unfold needF; rw [if_neg (by omega), if_neg (by omega)], hp.1.R hR⟩ | exact ⟨by rw [hans]; unfold needF; rw [if_neg (by omega), if_pos (by omega)], hp.1.R hR⟩ | exact ⟨by unfold aNeeded; rw [pI_t hcond, pI_f h30], hR⟩ | exact ⟨(pI_f (fun q => by first | exact h6 q.1 | exact h14 q.2.1 | exact q.2.2 h20)).symm, hR⟩
    · refine go_iload C dX6_needed_9 rfl ?_
      refine go_S1P C ok_X6_isColor lk_X6_128 dX6_needed_11 (k_X6_isColor _) (by decide) (Nat.le_of_ble_eq_true rfl) ?_
      refine go_if_eqB C 23 dX6_needed_14 (by decide) (fun h14 => ?_) (fun h14 => ?_)
      · refine go_iconst C (-1) dX6_needed_23 rfl ?_
        refine go_iret hr dX6_needed_24 rfl ?_
        first | exact ⟨by rw [hans]; unfold needF; rw [if_pos h79], hp.1.R hR⟩ | exact ⟨by rw [hans]; unfold needF; rw [if_neg (by omega), if_neg (by omega)], hp.1.R hR⟩ | exact ⟨by rw [hans]; unfold needF; rw [if_neg (by omega), if_pos (by omega)], hp.1.R hR⟩ | exact ⟨by unfold aNeeded; rw [pI_t hcond, pI_f h30], hR⟩ | exact ⟨(pI_f (fun q => by first | exact h6 q.1 | exact h14 q.2.1 | exact q.2.2 h20)).symm, hR⟩
      · refine go_iload_n C dX6_needed_17 rfl ?_
        refine go_bipush C (nI 7) dX6_needed_18 rfl ?_
        refine go_icmp_ne C 25 dX6_needed_20 (by decide) (fun h20 => ?_) (fun h20 => ?_)
        · have hcond : isC x y z ∧ rng 3 c ∧ y ≠ nI 7 := ⟨h6, h14, h20⟩
          refine go_iload C dX6_needed_25 rfl ?_
          refine go_S1P C ok_X6_isStrength lk_X6_122 dX6_needed_27 (k_X6_isStrength _) (by decide) (Nat.le_of_ble_eq_true rfl) ?_
          refine go_if_neB C 36 dX6_needed_30 (by decide) (fun h30 => ?_) (fun h30 => ?_)
          · obtain ⟨r1, r2, r3⟩ := id h6
            obtain ⟨a, ha, rfl⟩ := rng_nat (by decide) r1
            obtain ⟨b, hb, rfl⟩ := rng_nat (by decide) r2
            obtain ⟨cz, hcz, rfl⟩ := rng_nat (by decide) r3
            have hk := cel_lt ha hb hcz
            obtain ⟨cn, hc3, rfl⟩ := rng_nat (by decide) (id h14)
            obtain ⟨vn, hvn, rfl⟩ := rng_nat (by decide) (id h30)
            have hc : cn < 4 := by omega
            have hb7 : b < 7 := by
              have : b ≠ 7 := fun q => h20 (by rw [q])
              omega
            have hk12 : cel a b cz + 12 < 1152 := by unfold cel; omega
            have hls := lossN_lt hO hc hk12
            refine go_iload_n C dX6_needed_36 rfl ?_
            refine go_iload_n C dX6_needed_37 rfl ?_
            refine go_iload_n C dX6_needed_38 rfl ?_
            refine go_S3P C ok_X2_cell lk_X6_84 dX6_needed_39 k_X2_cell (by decide) (Nat.le_of_ble_eq_true rfl) ?_
            refine go_istore C dX6_needed_42 (by decide) rfl rfl ?_
            refine go_iload C dX6_needed_44 rfl ?_
            refine go_bipush C (nI 12) dX6_needed_46 rfl ?_
            refine go_iaddN C dX6_needed_48 ?_
            refine go_istore C dX6_needed_49 (by decide) rfl rfl ?_
            refine go_aload_n C dX6_needed_51 rfl ?_
            refine go_getR C gf_X6_24 dX6_needed_52 (by decide) rfl rfl ?_
            refine go_aload_n C dX6_needed_55 rfl ?_
            refine go_getR C gf_X6_12 dX6_needed_56 (by decide) rfl rfl ?_
            refine go_iload C dX6_needed_59 rfl ?_
            refine go_iload C dX6_needed_61 rfl ?_
            refine go_aload_n C dX6_needed_63 rfl ?_
            refine go_getR C gf_X6_28 dX6_needed_64 (by decide) rfl rfl ?_
            refine go_V4V C ok_X4_find lk_X6_172 dX6_needed_67 (by decide) rfl rfl rfl (k_X4_find hO hW hc (q := cel a b cz) (fun k hk1 => nI_eq (by omega) (by omega))) (by decide) (Nat.le_of_ble_eq_true rfl) (fun τ hp => ?_)
            have hf15 := (hp.2.1.1 _ hk12).2
            have hW1 := hp.1.W hW
            have hans : aNeeded S (nI a) (nI b) (nI cz) (nI cn) (nI vn) = needF (sW S) cn (cel a b cz) vn := by unfold aNeeded; rw [pI_t hcond, pI_t h30, nI_clamp (by omega), nI_clamp (by omega), ixC_nI ha hb hcz]
            refine go_aload_n C dX6_needed_70 rfl ?_
            refine go_getR C gf_X6_28 dX6_needed_71 (by decide) rfl rfl ?_
            refine go_iload C dX6_needed_74 rfl ?_
            refine go_ialdN C dX6_needed_76 (by decide) rfl (by decide) (by omega) ?_
            refine go_top _ (hp.2.2 _ hk12) ?_
            refine go_iload C dX6_needed_77 rfl ?_
            refine go_icmp_ltN C 84 dX6_needed_79 (by decide) (by omega) (by omega) (fun h79 => ?_) (fun h79 => ?_)
            · refine go_iload C dX6_needed_84 rfl ?_
              refine go_iconst C (nI 1) dX6_needed_86 rfl ?_
              refine go_iaddN C dX6_needed_87 ?_
              refine go_aload_n C dX6_needed_88 rfl ?_
              refine go_getR C gf_X6_12 dX6_needed_89 (by decide) rfl rfl ?_
              refine go_iload C dX6_needed_92 rfl ?_
              refine go_iload C dX6_needed_94 rfl ?_
              refine go_V2P C ok_X5_lossAt lk_X6_176 dX6_needed_96 (by decide) rfl rfl rfl (k_X5_lossAt hO hW1 hk12 hc) (by decide) (Nat.le_of_ble_eq_true rfl) ?_
              refine go_iaddN C dX6_needed_99 ?_
              refine go_istore C dX6_needed_100 (by decide) rfl rfl ?_
              refine go_iload C dX6_needed_102 rfl ?_
              refine go_bipush C (nI 15) dX6_needed_104 rfl ?_
              refine go_icmp_gtN C 114 dX6_needed_106 (by decide) (by omega) (by omega) (fun h106 => ?_) (fun h106 => ?_)
              · refine go_bipush C (-4) dX6_needed_114 rfl ?_
                refine go_iret hr dX6_needed_116 rfl ?_
                first | exact ⟨by rw [hans]; unfold needF; rw [if_pos h79], hp.1.R hR⟩ | exact ⟨by rw [hans]; unfold needF; rw [if_neg (by omega), if_neg (by omega)], hp.1.R hR⟩ | exact ⟨by rw [hans]; unfold needF; rw [if_neg (by omega), if_pos (by omega)], hp.1.R hR⟩ | exact ⟨by unfold aNeeded; rw [pI_t hcond, pI_f h30], hR⟩ | exact ⟨(pI_f (fun q => by first | exact h6 q.1 | exact h14 q.2.1 | exact q.2.2 h20)).symm, hR⟩
              · refine go_iload C dX6_needed_109 rfl ?_
                refine go_goto C 116 dX6_needed_111 (by decide) ?_
                refine go_iret hr dX6_needed_116 rfl ?_
                first | exact ⟨by rw [hans]; unfold needF; rw [if_pos h79], hp.1.R hR⟩ | exact ⟨by rw [hans]; unfold needF; rw [if_neg (by omega), if_neg (by omega)], hp.1.R hR⟩ | exact ⟨by rw [hans]; unfold needF; rw [if_neg (by omega), if_pos (by omega)], hp.1.R hR⟩ | exact ⟨by unfold aNeeded; rw [pI_t hcond, pI_f h30], hR⟩ | exact ⟨(pI_f (fun q => by first | exact h6 q.1 | exact h14 q.2.1 | exact q.2.2 h20)).symm, hR⟩
            · refine go_iconst C (nI 0) dX6_needed_82 rfl ?_
              refine go_iret hr dX6_needed_83 rfl ?_
              first | exact ⟨by rw [hans]; unfold needF; rw [if_pos h79], hp.1.R hR⟩ | exact ⟨by rw [hans]; unfold needF; rw [if_neg (by omega), if_neg (by omega)], hp.1.R hR⟩ | exact ⟨by rw [hans]; unfold needF; rw [if_neg (by omega), if_pos (by omega)], hp.1.R hR⟩ | exact ⟨by unfold aNeeded; rw [pI_t hcond, pI_f h30], hR⟩ | exact ⟨(pI_f (fun q => by first | exact h6 q.1 | exact h14 q.2.1 | exact q.2.2 h20)).symm, hR⟩
          · refine go_bipush C (-2) dX6_needed_33 rfl ?_
            refine go_iret hr dX6_needed_35 rfl ?_
            first | exact ⟨by rw [hans]; unfold needF; rw [if_pos h79], hp.1.R hR⟩ | exact ⟨by rw [hans]; unfold needF; rw [if_neg (by omega), if_neg (by omega)], hp.1.R hR⟩ | exact ⟨by rw [hans]; unfold needF; rw [if_neg (by omega), if_pos (by omega)], hp.1.R hR⟩ | exact ⟨by unfold aNeeded; rw [pI_t hcond, pI_f h30], hR⟩ | exact ⟨(pI_f (fun q => by first | exact h6 q.1 | exact h14 q.2.1 | exact q.2.2 h20)).symm, hR⟩
        · refine go_iconst C (-1) dX6_needed_23 rfl ?_
          refine go_iret hr dX6_needed_24 rfl ?_
          first | exact ⟨by rw [hans]; unfold needF; rw [if_pos h79], hp.1.R hR⟩ | exact ⟨by rw [hans]; unfold needF; rw [if_neg (by omega), if_neg (by omega)], hp.1.R hR⟩ | exact ⟨by rw [hans]; unfold needF; rw [if_neg (by omega), if_pos (by omega)], hp.1.R hR⟩ | exact ⟨by unfold aNeeded; rw [pI_t hcond, pI_f h30], hR⟩ | exact ⟨(pI_f (fun q => by first | exact h6 q.1 | exact h14 q.2.1 | exact q.2.2 h20)).symm, hR⟩
set_option maxHeartbeats 4000000 in
set_option maxRecDepth 100000 in
theorem k_X6_lightIf {σ : Mem} {S : St} (hR : RepC σ S) (x y z t c : Int32) : CtI objC NC yX6_lightIf cX6_lightIf 10 .int 4 96 [.ref 0, .int x, .int y, .int z, .int t, .int c] σ (RQ (aLightIf S x y z t c) S) := by
  obtain ⟨hS, hW, hL, hEf, hB, hH, hSv, hX, hFt⟩ := id hR
  have hO := hS.1
  have hOL := hS.2.1
  refine ct_ofI rfl ?_ (Nat.le_of_ble_eq_true rfl) (fun X C hr => ?_)
  · intro v hv; simp only [List.mem_cons, List.not_mem_nil, or_false] at hv; rcases hv with rfl | rfl | rfl | rfl | rfl | rfl <;> rfl
  · refine go_iload_n C dX6_lightIf_0 rfl ?_
    refine go_iload_n C dX6_lightIf_1 rfl ?_
    refine go_iload_n C dX6_lightIf_2 rfl ?_
    refine go_S3P C ok_X2_has lk_X6_74 dX6_lightIf_3 (k_X2_has _ _ _) (by decide) (Nat.le_of_ble_eq_true rfl) ?_
    refine go_if_eqB C 25 dX6_lightIf_6 (by decide) (fun h6 => ?_) (fun h6 => ?_)
    · refine go_iconst C (-1) dX6_lightIf_25 rfl ?_
      refine go_iret hr dX6_lightIf_26 rfl ?_
      exact ⟨(pI_f (fun q => by first | exact h6 q.1 | exact h14 q.2.1 | exact h22 q.2.2)).symm, hR⟩
    · refine go_iload C dX6_lightIf_9 rfl ?_
      refine go_S1P C ok_X6_isType lk_X6_80 dX6_lightIf_11 (k_X6_isType _) (by decide) (Nat.le_of_ble_eq_true rfl) ?_
      refine go_if_eqB C 25 dX6_lightIf_14 (by decide) (fun h14 => ?_) (fun h14 => ?_)
      · refine go_iconst C (-1) dX6_lightIf_25 rfl ?_
        refine go_iret hr dX6_lightIf_26 rfl ?_
        exact ⟨(pI_f (fun q => by first | exact h6 q.1 | exact h14 q.2.1 | exact h22 q.2.2)).symm, hR⟩
      · refine go_iload C dX6_lightIf_17 rfl ?_
        refine go_S1P C ok_X6_isChannel lk_X6_119 dX6_lightIf_19 (k_X6_isChannel _) (by decide) (Nat.le_of_ble_eq_true rfl) ?_
        refine go_if_neB C 27 dX6_lightIf_22 (by decide) (fun h22 => ?_) (fun h22 => ?_)
        · obtain ⟨r1, r2, r3⟩ := id h6
          obtain ⟨a, ha, rfl⟩ := rng_nat (by decide) r1
          obtain ⟨b, hb, rfl⟩ := rng_nat (by decide) r2
          obtain ⟨cz, hcz, rfl⟩ := rng_nat (by decide) r3
          have hk := cel_lt ha hb hcz
          obtain ⟨tn, ht, rfl⟩ := rng_nat (by decide) (id h14)
          obtain ⟨cn, hc, rfl⟩ := rng_nat (by decide) (id h22)
          have hO2 := setT_ok (k := cel a b cz) hO ht
          have hW2 : HasW (updR σ 2 (upd (σ 2) (cel a b cz) (nI tn))) 1 (setT (sW S) (cel a b cz) tn) := ⟨fun j hj => by
            show upd (σ 2) _ _ j = nI (un (wT (sW S)) _ _ j)
            by_cases e : j = cel a b cz
            · subst e; rw [pk_us, un_s]
            · rw [pk_un e, un_n e]; exact hW.1 j hj, hW.2.1, hW.2.2⟩
          refine go_iload_n C dX6_lightIf_27 rfl ?_
          refine go_iload_n C dX6_lightIf_28 rfl ?_
          refine go_iload_n C dX6_lightIf_29 rfl ?_
          refine go_S3P C ok_X2_cell lk_X6_84 dX6_lightIf_30 k_X2_cell (by decide) (Nat.le_of_ble_eq_true rfl) ?_
          refine go_istore C dX6_lightIf_33 (by decide) rfl rfl ?_
          refine go_aload_n C dX6_lightIf_35 rfl ?_
          refine go_getR C gf_X6_12 dX6_lightIf_36 (by decide) rfl rfl ?_
          refine go_getR C gf_X6_99 dX6_lightIf_39 (by decide) rfl rfl ?_
          refine go_iload C dX6_lightIf_42 rfl ?_
          refine go_ialdN C dX6_lightIf_44 (by decide) rfl (by decide) (by omega) ?_
          refine go_top _ (hW.1 _ (by omega)) ?_
          refine go_istore C dX6_lightIf_45 (by decide) rfl rfl ?_
          refine go_aload_n C dX6_lightIf_47 rfl ?_
          refine go_getR C gf_X6_12 dX6_lightIf_48 (by decide) rfl rfl ?_
          refine go_getR C gf_X6_99 dX6_lightIf_51 (by decide) rfl rfl ?_
          refine go_iload C dX6_lightIf_54 rfl ?_
          refine go_iload C dX6_lightIf_56 rfl ?_
          refine go_iastN C dX6_lightIf_58 (by decide) rfl (by decide) (by omega) ?_
          refine go_aload_n C dX6_lightIf_59 rfl ?_
          refine go_getR C gf_X6_24 dX6_lightIf_60 (by decide) rfl rfl ?_
          refine go_aload_n C dX6_lightIf_63 rfl ?_
          refine go_getR C gf_X6_12 dX6_lightIf_64 (by decide) rfl rfl ?_
          refine go_iload C dX6_lightIf_67 rfl ?_
          refine go_iconst C (-1) dX6_lightIf_69 rfl ?_
          refine go_aload_n C dX6_lightIf_70 rfl ?_
          refine go_getR C gf_X6_28 dX6_lightIf_71 (by decide) rfl rfl ?_
          refine go_V4V C ok_X4_find lk_X6_172 dX6_lightIf_74 (by decide) rfl rfl rfl (k_X4_find hO2 hW2 hc hu_no) (by decide) (Nat.le_of_ble_eq_true rfl) (fun τ hp => ?_)
          refine go_aload_n C dX6_lightIf_77 rfl ?_
          refine go_getR C gf_X6_12 dX6_lightIf_78 (by decide) rfl rfl ?_
          refine go_getR C gf_X6_99 dX6_lightIf_81 (by decide) rfl rfl ?_
          refine go_iload C dX6_lightIf_84 rfl ?_
          refine go_iload C dX6_lightIf_86 rfl ?_
          refine go_iastN C dX6_lightIf_88 (by decide) rfl (by decide) (by omega) ?_
          obtain ⟨τ2, hτ2⟩ : ∃ τ2, τ2 = updR τ 2 (upd (τ 2) (cel a b cz) (nI (wT (sW S) (cel a b cz)))) := ⟨_, rfl⟩
          rw [← hτ2]
          have hR2 : RepC τ2 S := hR.fr (fun q _ h2 => by
            rw [hτ2]
            by_cases e : q = 2
            · subst e
              rw [updR_s, hp.1 2 (by decide) (by decide) (by decide) (by decide) (by decide), updR_s]
              funext j
              by_cases e2 : j = cel a b cz
              · subst e2; rw [pk_us]; exact (hW.1 _ hk).symm
              · rw [pk_un e2, pk_un e2]
            · rw [updR_n e, hp.1 q (by omega) (by omega) (by omega) (by omega) (by omega), updR_n e])
          have h14v : ∀ j, j < 1152 → τ2 14 j = nI ((lit (setT (sW S) (cel a b cz) tn) cn) j) := fun j hj => by rw [hτ2]; exact hp.2.2 j hj
          have L : ∀ (n : Nat) (i : Nat), (i + n = 1152) → Go objC NC X 95 [some (.ref 0), some (.int (nI a)), some (.int (nI b)), some (.int (nI cz)), some (.int (nI tn)), some (.int (nI cn)), some (.int (nI (cel a b cz))), some (.int (nI (wT (sW S) (cel a b cz)))), some (.int (nI (sumN (lit (setT (sW S) (cel a b cz) tn) cn) i))), some (.int (nI i))] [] τ2 := by
            intro n
            induction n using Nat.strongRecOn with
            | _ n ih =>
              intro i hi
              refine go_iload C dX6_lightIf_95 rfl ?_
              refine go_sipush C (nI 1152) dX6_lightIf_97 rfl ?_
              refine go_icmp_geN C 121 dX6_lightIf_100 (by decide) (by omega) (by omega) (fun h100 => ?_) (fun h100 => ?_)
              · obtain rfl : i = 1152 := by omega
                refine go_iload C dX6_lightIf_121 rfl ?_
                refine go_iret hr dX6_lightIf_123 rfl ?_
                exact ⟨by unfold aLightIf; rw [pI_t ⟨h6, h14, h22⟩, nI_clamp (by omega), nI_clamp (by omega), ixC_nI ha hb hcz], hR2⟩
              · refine go_iload C dX6_lightIf_103 rfl ?_
                refine go_aload_n C dX6_lightIf_105 rfl ?_
                refine go_getR C gf_X6_28 dX6_lightIf_106 (by decide) rfl rfl ?_
                refine go_iload C dX6_lightIf_109 rfl ?_
                refine go_ialdN C dX6_lightIf_111 (by decide) rfl (by decide) (by omega) ?_
                refine go_top _ (h14v _ (by omega)) ?_
                refine go_iaddN C dX6_lightIf_112 ?_
                refine go_istore C dX6_lightIf_113 (by decide) rfl rfl ?_
                refine go_iincN C 1 dX6_lightIf_115 rfl rfl (by decide) rfl rfl ?_
                refine go_goto C 95 dX6_lightIf_118 (by decide) ?_
                exact ih (n - 1) (by omega) (i + 1) (by omega)
          refine go_iconst C (nI 0) dX6_lightIf_89 rfl ?_
          refine go_istore C dX6_lightIf_90 (by decide) rfl rfl ?_
          refine go_iconst C (nI 0) dX6_lightIf_92 rfl ?_
          refine go_istore C dX6_lightIf_93 (by decide) rfl rfl ?_
          exact L 1152 0 (by omega)
        · refine go_iconst C (-1) dX6_lightIf_25 rfl ?_
          refine go_iret hr dX6_lightIf_26 rfl ?_
          exact ⟨(pI_f (fun q => by first | exact h6 q.1 | exact h14 q.2.1 | exact h22 q.2.2)).symm, hR⟩
