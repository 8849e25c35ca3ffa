set_option maxHeartbeats 4000000 in
set_option maxRecDepth 100000 in
theorem k_X6_type {σ : Mem} {S : St} (hR : RepC σ S) (x y z : Int32) : CtI objC NC yX6_type cX6_type 4 .int 1 22 [.ref 0, .int x, .int y, .int z] σ (RQ (aType S x y z) S) := by
  obtain ⟨hS, hW, hL, hEf, hB, hH, hSv, hX, hFt⟩ := id hR
  have hO := hS.1
  have hOL := hS.2.1
  refine ct_ofI rfl ?_ (Nat.le_of_ble_eq_true rfl) (fun X C hr => ?_)
  · intro v hv; simp only [List.mem_cons, List.not_mem_nil, or_false] at hv; rcases hv with rfl | rfl | rfl | rfl <;> rfl
  · refine go_iload_n C dX6_type_0 rfl ?_
    refine go_iload_n C dX6_type_1 rfl ?_
    refine go_iload_n C dX6_type_2 rfl ?_
    refine go_S3P C ok_X2_has lk_X6_74 dX6_type_3 (k_X2_has _ _ _) (by decide) (Nat.le_of_ble_eq_true rfl) ?_
    refine go_if_eqB C 26 dX6_type_6 (by decide) (fun h6 => ?_) (fun h6 => ?_)
    · refine go_iconst C (-1) dX6_type_26 rfl ?_
      refine go_iret hr dX6_type_27 rfl ?_
      first | exact ⟨(pI_f h6).symm, hR⟩ | exact ⟨by unfold aType; rw [pI_t h6, ixC_nI ha hb hcz], hR⟩
    · obtain ⟨r1, r2, r3⟩ := id h6
      obtain ⟨a, ha, rfl⟩ := rng_nat (by decide) r1
      obtain ⟨b, hb, rfl⟩ := rng_nat (by decide) r2
      obtain ⟨cz, hcz, rfl⟩ := rng_nat (by decide) r3
      have hk := cel_lt ha hb hcz
      refine go_aload_n C dX6_type_9 rfl ?_
      refine go_getR C gf_X6_12 dX6_type_10 (by decide) rfl rfl ?_
      refine go_getR C gf_X6_99 dX6_type_13 (by decide) rfl rfl ?_
      refine go_iload_n C dX6_type_16 rfl ?_
      refine go_iload_n C dX6_type_17 rfl ?_
      refine go_iload_n C dX6_type_18 rfl ?_
      refine go_S3P C ok_X2_cell lk_X6_84 dX6_type_19 k_X2_cell (by decide) (Nat.le_of_ble_eq_true rfl) ?_
      refine go_ialdN C dX6_type_22 (by decide) rfl (by decide) (by omega) ?_
      refine go_top _ (hW.1 _ (by omega)) ?_
      refine go_goto C 27 dX6_type_23 (by decide) ?_
      refine go_iret hr dX6_type_27 rfl ?_
      first | exact ⟨(pI_f h6).symm, hR⟩ | exact ⟨by unfold aType; rw [pI_t h6, ixC_nI ha hb hcz], hR⟩
set_option maxHeartbeats 4000000 in
set_option maxRecDepth 100000 in
theorem k_X6_loss {σ : Mem} {S : St} (hR : RepC σ S) (t c : Int32) : CtI objC NC yX6_loss cX6_loss 3 .int 1 20 [.ref 0, .int t, .int c] σ (RQ (aLoss S t c) S) := by
  obtain ⟨hS, hW, hL, hEf, hB, hH, hSv, hX, hFt⟩ := id hR
  have hO := hS.1
  have hOL := hS.2.1
  refine ct_ofI rfl ?_ (Nat.le_of_ble_eq_true rfl) (fun X C hr => ?_)
  · intro v hv; simp only [List.mem_cons, List.not_mem_nil, or_false] at hv; rcases hv with rfl | rfl | rfl <;> rfl
  · refine go_iload_n C dX6_loss_0 rfl ?_
    refine go_S1P C ok_X6_isType lk_X6_80 dX6_loss_1 (k_X6_isType _) (by decide) (Nat.le_of_ble_eq_true rfl) ?_
    refine go_if_eqB C 30 dX6_loss_4 (by decide) (fun h4 => ?_) (fun h4 => ?_)
    · refine go_iconst C (-1) dX6_loss_30 rfl ?_
      refine go_iret hr dX6_loss_31 rfl ?_
      first | exact ⟨(pI_f (fun q => by first | exact h4 q.1 | exact h11 q.2)).symm, hR⟩ | exact ⟨by unfold aLoss; rw [pI_t ⟨h4, h11⟩, nI_clamp (by omega), nI_clamp (by omega), Nat.mul_comm 4], hR⟩
    · refine go_iload_n C dX6_loss_7 rfl ?_
      refine go_S1P C ok_X6_isChannel lk_X6_119 dX6_loss_8 (k_X6_isChannel _) (by decide) (Nat.le_of_ble_eq_true rfl) ?_
      refine go_if_eqB C 30 dX6_loss_11 (by decide) (fun h11 => ?_) (fun h11 => ?_)
      · refine go_iconst C (-1) dX6_loss_30 rfl ?_
        refine go_iret hr dX6_loss_31 rfl ?_
        first | exact ⟨(pI_f (fun q => by first | exact h4 q.1 | exact h11 q.2)).symm, hR⟩ | exact ⟨by unfold aLoss; rw [pI_t ⟨h4, h11⟩, nI_clamp (by omega), nI_clamp (by omega), Nat.mul_comm 4], hR⟩
      · obtain ⟨tn, ht, rfl⟩ := rng_nat (by decide) (id h4)
        obtain ⟨cn, hcn, rfl⟩ := rng_nat (by decide) (id h11)
        refine go_aload_n C dX6_loss_14 rfl ?_
        refine go_getR C gf_X6_12 dX6_loss_15 (by decide) rfl rfl ?_
        refine go_getR C gf_X6_125 dX6_loss_18 (by decide) rfl rfl ?_
        refine go_iload_n C dX6_loss_21 rfl ?_
        refine go_iconst C (nI 4) dX6_loss_22 rfl ?_
        refine go_imulN C dX6_loss_23 ?_
        refine go_iload_n C dX6_loss_24 rfl ?_
        refine go_iaddN C dX6_loss_25 ?_
        refine go_ialdN C dX6_loss_26 (by decide) rfl (by decide) (by omega) ?_
        refine go_top _ (hW.2.1 _ (by omega)) ?_
        refine go_goto C 31 dX6_loss_27 (by decide) ?_
        refine go_iret hr dX6_loss_31 rfl ?_
        first | exact ⟨(pI_f (fun q => by first | exact h4 q.1 | exact h11 q.2)).symm, hR⟩ | exact ⟨by unfold aLoss; rw [pI_t ⟨h4, h11⟩, nI_clamp (by omega), nI_clamp (by omega), Nat.mul_comm 4], hR⟩
set_option maxHeartbeats 4000000 in
set_option maxRecDepth 100000 in
theorem k_X6_emission {σ : Mem} {S : St} (hR : RepC σ S) (t c : Int32) : CtI objC NC yX6_emission cX6_emission 3 .int 1 20 [.ref 0, .int t, .int c] σ (RQ (aEm S t c) S) := by
  obtain ⟨hS, hW, hL, hEf, hB, hH, hSv, hX, hFt⟩ := id hR
  have hO := hS.1
  have hOL := hS.2.1
  refine ct_ofI rfl ?_ (Nat.le_of_ble_eq_true rfl) (fun X C hr => ?_)
  · intro v hv; simp only [List.mem_cons, List.not_mem_nil, or_false] at hv; rcases hv with rfl | rfl | rfl <;> rfl
  · refine go_iload_n C dX6_emission_0 rfl ?_
    refine go_S1P C ok_X6_isType lk_X6_80 dX6_emission_1 (k_X6_isType _) (by decide) (Nat.le_of_ble_eq_true rfl) ?_
    refine go_if_eqB C 30 dX6_emission_4 (by decide) (fun h4 => ?_) (fun h4 => ?_)
    · refine go_iconst C (-1) dX6_emission_30 rfl ?_
      refine go_iret hr dX6_emission_31 rfl ?_
      first | exact ⟨(pI_f (fun q => by first | exact h4 q.1 | exact h11 q.2)).symm, hR⟩ | exact ⟨by unfold aEm; rw [pI_t ⟨h4, h11⟩, nI_clamp (by omega), nI_clamp (by omega), Nat.mul_comm 4], hR⟩
    · refine go_iload_n C dX6_emission_7 rfl ?_
      refine go_S1P C ok_X6_isColor lk_X6_128 dX6_emission_8 (k_X6_isColor _) (by decide) (Nat.le_of_ble_eq_true rfl) ?_
      refine go_if_eqB C 30 dX6_emission_11 (by decide) (fun h11 => ?_) (fun h11 => ?_)
      · refine go_iconst C (-1) dX6_emission_30 rfl ?_
        refine go_iret hr dX6_emission_31 rfl ?_
        first | exact ⟨(pI_f (fun q => by first | exact h4 q.1 | exact h11 q.2)).symm, hR⟩ | exact ⟨by unfold aEm; rw [pI_t ⟨h4, h11⟩, nI_clamp (by omega), nI_clamp (by omega), Nat.mul_comm 4], hR⟩
      · obtain ⟨tn, ht, rfl⟩ := rng_nat (by decide) (id h4)
        obtain ⟨cn, hcn, rfl⟩ := rng_nat (by decide) (id h11)
        refine go_aload_n C dX6_emission_14 rfl ?_
        refine go_getR C gf_X6_12 dX6_emission_15 (by decide) rfl rfl ?_
        refine go_getR C gf_X6_131 dX6_emission_18 (by decide) rfl rfl ?_
        refine go_iload_n C dX6_emission_21 rfl ?_
        refine go_iconst C (nI 4) dX6_emission_22 rfl ?_
        refine go_imulN C dX6_emission_23 ?_
        refine go_iload_n C dX6_emission_24 rfl ?_
        refine go_iaddN C dX6_emission_25 ?_
        refine go_ialdN C dX6_emission_26 (by decide) rfl (by decide) (by omega) ?_
        refine go_top _ (hW.2.2 _ (by omega)) ?_
        refine go_goto C 31 dX6_emission_27 (by decide) ?_
        refine go_iret hr dX6_emission_31 rfl ?_
        first | exact ⟨(pI_f (fun q => by first | exact h4 q.1 | exact h11 q.2)).symm, hR⟩ | exact ⟨by unfold aEm; rw [pI_t ⟨h4, h11⟩, nI_clamp (by omega), nI_clamp (by omega), Nat.mul_comm 4], hR⟩
set_option maxHeartbeats 4000000 in
set_option maxRecDepth 100000 in
theorem k_X6_light {σ : Mem} {S : St} (hR : RepC σ S) (x y z c : Int32) : CtI objC NC yX6_light cX6_light 5 .int 1 22 [.ref 0, .int x, .int y, .int z, .int c] σ (RQ (aLight S x y z c) S) := by
  obtain ⟨hS, hW, hL, hEf, hB, hH, hSv, hX, hFt⟩ := id hR
  have hO := hS.1
  have hOL := hS.2.1
  refine ct_ofI rfl ?_ (Nat.le_of_ble_eq_true rfl) (fun X C hr => ?_)
  · intro v hv; simp only [List.mem_cons, List.not_mem_nil, or_false] at hv; rcases hv with rfl | rfl | rfl | rfl | rfl <;> rfl
  · refine go_iload_n C dX6_light_0 rfl ?_
    refine go_iload_n C dX6_light_1 rfl ?_
    refine go_iload_n C dX6_light_2 rfl ?_
    refine go_S3P C ok_X2_has lk_X6_74 dX6_light_3 (k_X2_has _ _ _) (by decide) (Nat.le_of_ble_eq_true rfl) ?_
    refine go_if_eqB C 34 dX6_light_6 (by decide) (fun h6 => ?_) (fun h6 => ?_)
    · refine go_iconst C (-1) dX6_light_34 rfl ?_
      refine go_iret hr dX6_light_35 rfl ?_
      first | exact ⟨(pI_f (fun q => by first | exact h6 q.1 | exact h14 q.2)).symm, hR⟩ | exact ⟨by unfold aLight; rw [pI_t ⟨h6, h14⟩, nI_clamp (by omega), ixC_nI ha hb hcz], hR⟩
    · refine go_iload C dX6_light_9 rfl ?_
      refine go_S1P C ok_X6_isChannel lk_X6_119 dX6_light_11 (k_X6_isChannel _) (by decide) (Nat.le_of_ble_eq_true rfl) ?_
      refine go_if_eqB C 34 dX6_light_14 (by decide) (fun h14 => ?_) (fun h14 => ?_)
      · refine go_iconst C (-1) dX6_light_34 rfl ?_
        refine go_iret hr dX6_light_35 rfl ?_
        first | exact ⟨(pI_f (fun q => by first | exact h6 q.1 | exact h14 q.2)).symm, hR⟩ | exact ⟨by unfold aLight; rw [pI_t ⟨h6, h14⟩, nI_clamp (by omega), ixC_nI ha hb hcz], hR⟩
      · obtain ⟨r1, r2, r3⟩ := id h6
        obtain ⟨a, ha, rfl⟩ := rng_nat (by decide) r1
        obtain ⟨b, hb, rfl⟩ := rng_nat (by decide) r2
        obtain ⟨cz, hcz, rfl⟩ := rng_nat (by decide) r3
        have hk := cel_lt ha hb hcz
        obtain ⟨cn, hc, rfl⟩ := rng_nat (by decide) (id h14)
        refine go_aload_n C dX6_light_17 rfl ?_
        refine go_getR C gf_X6_18 dX6_light_18 (by decide) rfl rfl ?_
        refine go_iload C dX6_light_21 rfl ?_
        refine go_aald C dX6_light_23 (by decide) rfl (Or.inl rfl) (by decide) (jsL hc) ?_
        refine go_iload_n C dX6_light_24 rfl ?_
        refine go_iload_n C dX6_light_25 rfl ?_
        refine go_iload_n C dX6_light_26 rfl ?_
        refine go_S3P C ok_X2_cell lk_X6_84 dX6_light_27 k_X2_cell (by decide) (Nat.le_of_ble_eq_true rfl) ?_
        refine go_ialdN C dX6_light_30 (Nat.lt_of_lt_of_le (Nat.add_lt_add_left hc 6) (by decide)) (hoL hc) (by decide) (by omega) ?_
        refine go_top _ (hL cn hc _ hk) ?_
        refine go_goto C 35 dX6_light_31 (by decide) ?_
        refine go_iret hr dX6_light_35 rfl ?_
        first | exact ⟨(pI_f (fun q => by first | exact h6 q.1 | exact h14 q.2)).symm, hR⟩ | exact ⟨by unfold aLight; rw [pI_t ⟨h6, h14⟩, nI_clamp (by omega), ixC_nI ha hb hcz], hR⟩
set_option maxHeartbeats 4000000 in
set_option maxRecDepth 100000 in
theorem k_X6_packedLights {σ : Mem} {S : St} (hR : RepC σ S) {k : Nat} (hk : k < 1152) : CtI objC NC yX6_packedLights cX6_packedLights 2 .int 0 0 [.ref 0, .int (nI k)] σ (Pv (nI (pkL (sW S) k)) σ) := by
  obtain ⟨hS, hW, hL, hEf, hB, hH, hSv, hX, hFt⟩ := id hR
  have hO := hS.1
  have hOL := hS.2.1
  have h0 := lit_lt hOL (c := 0) (by decide) hk
  have h1 := lit_lt hOL (c := 1) (by decide) hk
  have h2 := lit_lt hOL (c := 2) (by decide) hk
  have h3 := lit_lt hOL (c := 3) (by decide) hk
  refine ct_ofI rfl ?_ (Nat.le_of_ble_eq_true rfl) (fun X C hr => ?_)
  · intro v hv; simp only [List.mem_cons, List.not_mem_nil, or_false] at hv; rcases hv with rfl | rfl <;> rfl
  · refine go_aload_n C dX6_packedLights_0 rfl ?_
    refine go_getR C gf_X6_18 dX6_packedLights_1 (by decide) rfl rfl ?_
    refine go_iconst C (nI 0) dX6_packedLights_4 rfl ?_
    refine go_aald C dX6_packedLights_5 (by decide) rfl (Or.inl rfl) (by decide) rfl ?_
    refine go_iload_n C dX6_packedLights_6 rfl ?_
    refine go_ialdN C dX6_packedLights_7 (by decide) rfl (by decide) (by omega) ?_
    refine go_top _ (hL 0 (by decide) _ hk) ?_
    refine go_aload_n C dX6_packedLights_8 rfl ?_
    refine go_getR C gf_X6_18 dX6_packedLights_9 (by decide) rfl rfl ?_
    refine go_iconst C (nI 1) dX6_packedLights_12 rfl ?_
    refine go_aald C dX6_packedLights_13 (by decide) rfl (Or.inl rfl) (by decide) rfl ?_
    refine go_iload_n C dX6_packedLights_14 rfl ?_
    refine go_ialdN C dX6_packedLights_15 (by decide) rfl (by decide) (by omega) ?_
    refine go_top _ (hL 1 (by decide) _ hk) ?_
    refine go_iconst C (nI 4) dX6_packedLights_16 rfl ?_
    refine go_ishl C dX6_packedLights_17 ?_
    refine go_top _ (pk_shlN _ 4 (by decide) (by omega)) ?_
    refine go_iaddN C dX6_packedLights_18 ?_
    refine go_aload_n C dX6_packedLights_19 rfl ?_
    refine go_getR C gf_X6_18 dX6_packedLights_20 (by decide) rfl rfl ?_
    refine go_iconst C (nI 2) dX6_packedLights_23 rfl ?_
    refine go_aald C dX6_packedLights_24 (by decide) rfl (Or.inl rfl) (by decide) rfl ?_
    refine go_iload_n C dX6_packedLights_25 rfl ?_
    refine go_ialdN C dX6_packedLights_26 (by decide) rfl (by decide) (by omega) ?_
    refine go_top _ (hL 2 (by decide) _ hk) ?_
    refine go_bipush C (nI 8) dX6_packedLights_27 rfl ?_
    refine go_ishl C dX6_packedLights_29 ?_
    refine go_top _ (pk_shlN _ 8 (by decide) (by omega)) ?_
    refine go_iaddN C dX6_packedLights_30 ?_
    refine go_aload_n C dX6_packedLights_31 rfl ?_
    refine go_getR C gf_X6_18 dX6_packedLights_32 (by decide) rfl rfl ?_
    refine go_iconst C (nI 3) dX6_packedLights_35 rfl ?_
    refine go_aald C dX6_packedLights_36 (by decide) rfl (Or.inl rfl) (by decide) rfl ?_
    refine go_iload_n C dX6_packedLights_37 rfl ?_
    refine go_ialdN C dX6_packedLights_38 (by decide) rfl (by decide) (by omega) ?_
    refine go_top _ (hL 3 (by decide) _ hk) ?_
    refine go_bipush C (nI 12) dX6_packedLights_39 rfl ?_
    refine go_ishl C dX6_packedLights_41 ?_
    refine go_top _ (pk_shlN _ 12 (by decide) (by omega)) ?_
    refine go_iaddN C dX6_packedLights_42 ?_
    refine go_iret hr dX6_packedLights_43 rfl ?_
    exact ⟨congrArg nI (by unfold pkL; omega), rfl⟩
set_option maxHeartbeats 4000000 in
set_option maxRecDepth 100000 in
theorem k_X6_brightestColor {σ : Mem} {S : St} (hR : RepC σ S) {k : Nat} (hk : k < 1152) : CtI objC NC yX6_brightestColor cX6_brightestColor 2 .int 1 19 [.ref 0, .int (nI k)] σ (Pv (nI (max (lit (sW S) 0 k) (max (lit (sW S) 1 k) (lit (sW S) 2 k)))) σ) := by
  obtain ⟨hS, hW, hL, hEf, hB, hH, hSv, hX, hFt⟩ := id hR
  have hO := hS.1
  have hOL := hS.2.1
  have h0 := lit_lt hOL (c := 0) (by decide) hk
  have h1 := lit_lt hOL (c := 1) (by decide) hk
  have h2 := lit_lt hOL (c := 2) (by decide) hk
  have h3 := lit_lt hOL (c := 3) (by decide) hk
  refine ct_ofI rfl ?_ (Nat.le_of_ble_eq_true rfl) (fun X C hr => ?_)
  · intro v hv; simp only [List.mem_cons, List.not_mem_nil, or_false] at hv; rcases hv with rfl | rfl <;> rfl
  · refine go_aload_n C dX6_brightestColor_0 rfl ?_
    refine go_getR C gf_X6_18 dX6_brightestColor_1 (by decide) rfl rfl ?_
    refine go_iconst C (nI 0) dX6_brightestColor_4 rfl ?_
    refine go_aald C dX6_brightestColor_5 (by decide) rfl (Or.inl rfl) (by decide) rfl ?_
    refine go_iload_n C dX6_brightestColor_6 rfl ?_
    refine go_ialdN C dX6_brightestColor_7 (by decide) rfl (by decide) (by omega) ?_
    refine go_top _ (hL 0 (by decide) _ hk) ?_
    refine go_aload_n C dX6_brightestColor_8 rfl ?_
    refine go_getR C gf_X6_18 dX6_brightestColor_9 (by decide) rfl rfl ?_
    refine go_iconst C (nI 1) dX6_brightestColor_12 rfl ?_
    refine go_aald C dX6_brightestColor_13 (by decide) rfl (Or.inl rfl) (by decide) rfl ?_
    refine go_iload_n C dX6_brightestColor_14 rfl ?_
    refine go_ialdN C dX6_brightestColor_15 (by decide) rfl (by decide) (by omega) ?_
    refine go_top _ (hL 1 (by decide) _ hk) ?_
    refine go_aload_n C dX6_brightestColor_16 rfl ?_
    refine go_getR C gf_X6_18 dX6_brightestColor_17 (by decide) rfl rfl ?_
    refine go_iconst C (nI 2) dX6_brightestColor_20 rfl ?_
    refine go_aald C dX6_brightestColor_21 (by decide) rfl (Or.inl rfl) (by decide) rfl ?_
    refine go_iload_n C dX6_brightestColor_22 rfl ?_
    refine go_ialdN C dX6_brightestColor_23 (by decide) rfl (by decide) (by omega) ?_
    refine go_top _ (hL 2 (by decide) _ hk) ?_
    refine go_maxN C lk_X6_211 dX6_brightestColor_24 (by decide) (Nat.le_of_ble_eq_true rfl) (by omega) (by omega) ?_
    refine go_maxN C lk_X6_211 dX6_brightestColor_27 (by decide) (Nat.le_of_ble_eq_true rfl) (by omega) (by omega) ?_
    refine go_iret hr dX6_brightestColor_30 rfl ?_
    exact ⟨rfl, rfl⟩
set_option maxHeartbeats 4000000 in
set_option maxRecDepth 100000 in
theorem k_X6_lights {σ : Mem} {S : St} (hR : RepC σ S) (x y z : Int32) : CtI objC NC yX6_lights cX6_lights 4 .int 1 22 [.ref 0, .int x, .int y, .int z] σ (RQ (aLights S x y z) S) := by
  obtain ⟨hS, hW, hL, hEf, hB, hH, hSv, hX, hFt⟩ := id hR
  have hO := hS.1
  have hOL := hS.2.1
  refine ct_ofI rfl ?_ (Nat.le_of_ble_eq_true rfl) (fun X C hr => ?_)
  · intro v hv; simp only [List.mem_cons, List.not_mem_nil, or_false] at hv; rcases hv with rfl | rfl | rfl | rfl <;> rfl
  · refine go_iload_n C dX6_lights_0 rfl ?_
    refine go_iload_n C dX6_lights_1 rfl ?_
    refine go_iload_n C dX6_lights_2 rfl ?_
    refine go_S3P C ok_X2_has lk_X6_74 dX6_lights_3 (k_X2_has _ _ _) (by decide) (Nat.le_of_ble_eq_true rfl) ?_
    refine go_if_eqB C 22 dX6_lights_6 (by decide) (fun h6 => ?_) (fun h6 => ?_)
    · refine go_iconst C (-1) dX6_lights_22 rfl ?_
      refine go_iret hr dX6_lights_23 rfl ?_
      first | exact ⟨(pI_f h6).symm, hR⟩ | exact ⟨by unfold aLights; rw [pI_t h6, ixC_nI ha hb hcz], hR⟩
    · obtain ⟨r1, r2, r3⟩ := id h6
      obtain ⟨a, ha, rfl⟩ := rng_nat (by decide) r1
      obtain ⟨b, hb, rfl⟩ := rng_nat (by decide) r2
      obtain ⟨cz, hcz, rfl⟩ := rng_nat (by decide) r3
      have hk := cel_lt ha hb hcz
      refine go_aload_n C dX6_lights_9 rfl ?_
      refine go_iload_n C dX6_lights_10 rfl ?_
      refine go_iload_n C dX6_lights_11 rfl ?_
      refine go_iload_n C dX6_lights_12 rfl ?_
      refine go_S3P C ok_X2_cell lk_X6_84 dX6_lights_13 k_X2_cell (by decide) (Nat.le_of_ble_eq_true rfl) ?_
      refine go_V1P C ok_X6_packedLights lk_X6_157 dX6_lights_16 (by decide) rfl rfl rfl (k_X6_packedLights hR hk) (by decide) (Nat.le_of_ble_eq_true rfl) ?_
      refine go_goto C 23 dX6_lights_19 (by decide) ?_
      refine go_iret hr dX6_lights_23 rfl ?_
      first | exact ⟨(pI_f h6).symm, hR⟩ | exact ⟨by unfold aLights; rw [pI_t h6, ixC_nI ha hb hcz], hR⟩
set_option maxHeartbeats 4000000 in
set_option maxRecDepth 100000 in
theorem k_X6_batchSize {σ : Mem} {S : St} (hR : RepC σ S) : CtI objC NC yX6_batchSize cX6_batchSize 1 .int 0 0 [.ref 0] σ (RQ (aBatch S) S) := by
  obtain ⟨hS, hW, hL, hEf, hB, hH, hSv, hX, hFt⟩ := id hR
  have hO := hS.1
  have hOL := hS.2.1
  refine ct_ofI rfl ?_ (Nat.le_of_ble_eq_true rfl) (fun X C hr => ?_)
  · intro v hv; simp only [List.mem_cons, List.not_mem_nil, or_false] at hv; rcases hv with rfl <;> rfl
  · cases hb : sB S with
    | none =>
      rw [hb] at hB
      refine go_aload_n C dX6_batchSize_0 rfl ?_
      refine go_getR C gf_X6_46 dX6_batchSize_1 (by decide) rfl rfl ?_
      refine go_getI C gf_X6_88 dX6_batchSize_4 (by decide) rfl rfl ?_
      refine go_top _ hB.1 ?_
      refine go_if_eqN C 20 dX6_batchSize_7 (by decide) (by omega) (fun h7 => ?_) (fun h7 => ?_)
      · refine go_bipush C (-5) dX6_batchSize_20 rfl ?_
        refine go_iret hr dX6_batchSize_22 rfl ?_
        exact ⟨by unfold aBatch; rw [hb], hR⟩
      · exact absurd h7 (by decide)
    | some es =>
      rw [hb] at hB
      refine go_aload_n C dX6_batchSize_0 rfl ?_
      refine go_getR C gf_X6_46 dX6_batchSize_1 (by decide) rfl rfl ?_
      refine go_getI C gf_X6_88 dX6_batchSize_4 (by decide) rfl rfl ?_
      refine go_top _ hB.1 ?_
      refine go_if_eqN C 20 dX6_batchSize_7 (by decide) (by omega) (fun h7 => ?_) (fun h7 => ?_)
      · exact absurd h7 (by decide)
      · refine go_aload_n C dX6_batchSize_10 rfl ?_
        refine go_getR C gf_X6_46 dX6_batchSize_11 (by decide) rfl rfl ?_
        refine go_getI C gf_X6_112 dX6_batchSize_14 (by decide) rfl rfl ?_
        refine go_top _ hB.2.1 ?_
        refine go_goto C 22 dX6_batchSize_17 (by decide) ?_
        refine go_iret hr dX6_batchSize_22 rfl ?_
        exact ⟨by unfold aBatch; rw [hb], hR⟩
set_option maxHeartbeats 4000000 in
set_option maxRecDepth 100000 in
theorem k_X6_effect {σ : Mem} {S : St} (hR : RepC σ S) (x : Int32) : CtI objC NC yX6_effect cX6_effect 4 .int 2 40 [.ref 0, .int x] σ (RQ (aEffect S x) S) := by
  obtain ⟨hS, hW, hL, hEf, hB, hH, hSv, hX, hFt⟩ := id hR
  have hO := hS.1
  have hOL := hS.2.1
  refine ct_ofI rfl ?_ (Nat.le_of_ble_eq_true rfl) (fun X C hr => ?_)
  · intro v hv; simp only [List.mem_cons, List.not_mem_nil, or_false] at hv; rcases hv with rfl | rfl <;> rfl
  · refine go_iload_n C dX6_effect_0 rfl ?_
    refine go_iconst C (-1) dX6_effect_1 rfl ?_
    refine go_icmp_ge C 8 dX6_effect_2 (by decide) (fun h2 => ?_) (fun h2 => ?_)
    · refine go_iload_n C dX6_effect_8 rfl ?_
      refine go_iconst C (-1) dX6_effect_9 rfl ?_
      refine go_icmp_ne C 18 dX6_effect_10 (by decide) (fun h10 => ?_) (fun h10 => ?_)
      · obtain ⟨x, hx31, rfl⟩ := ge_m1 h2 h10
        have hans : aEffect S (nI x) = effAt (sE S) 1152 0 x := by unfold aEffect; rw [pI_f (fun z => z h2), pI_f h10, nI_clamp hx31]
        have L : ∀ (n : Nat) (k : Nat) (i : Nat), (k + n = 1152) → (i < 2 ^ 31) → (effAt (sE S) n k i = effAt (sE S) 1152 0 x) → Go objC NC X 22 [some (.ref 0), some (.int (nI x)), some (.int (nI i)), some (.int (nI k))] [] σ := by
          intro n
          induction n using Nat.strongRecOn with
          | _ n ih =>
            intro k i hk hi he
            refine go_iload_n C dX6_effect_22 rfl ?_
            refine go_sipush C (nI 1152) dX6_effect_23 rfl ?_
            refine go_icmp_geN C 56 dX6_effect_26 (by decide) (by omega) (by omega) (fun h26 => ?_) (fun h26 => ?_)
            · obtain rfl : n = 0 := by omega
              refine go_bipush C (-4) dX6_effect_56 rfl ?_
              refine go_iret hr dX6_effect_58 rfl ?_
              first | exact ⟨by rw [hans, ← he]; rfl, hR⟩ | exact ⟨by rw [hans, ← he, e2], hR⟩
            · obtain ⟨n, rfl⟩ : ∃ n2, n = n2 + 1 := ⟨n - 1, by omega⟩
              refine go_aload_n C dX6_effect_29 rfl ?_
              refine go_getR C gf_X6_35 dX6_effect_30 (by decide) rfl rfl ?_
              refine go_iload_n C dX6_effect_33 rfl ?_
              refine go_zaldN C dX6_effect_34 (by decide) rfl (by decide) (by omega) ?_
              refine go_top _ (hEf.1 _ (by omega)) ?_
              refine go_if_eqB C 50 dX6_effect_35 (by decide) (fun h35 => ?_) (fun h35 => ?_)
              · have e2 : effAt (sE S) (n + 1) k i = effAt (sE S) n (k + 1) i := by rw [effAt, pI_f h35]
                refine go_iincN C 1 dX6_effect_50 rfl rfl (by decide) rfl rfl ?_
                refine go_goto C 22 dX6_effect_53 (by decide) ?_
                exact ih n (by omega) (k + 1) i (by omega) (by omega) (e2 ▸ he)
              · have e2 : effAt (sE S) (n + 1) k i = if i = 0 then nI (cod k) else effAt (sE S) n (k + 1) (i - 1) := by rw [effAt, pI_t h35]
                refine go_iload_n C dX6_effect_38 rfl ?_
                refine go_if_neN C 47 dX6_effect_39 (by decide) (by omega) (fun h39 => ?_) (fun h39 => ?_)
                · rw [if_neg h39] at e2
                  refine go_iinc C (nI (i - 1)) dX6_effect_47 rfl (dec_n (by omega)) (by decide) rfl rfl ?_
                  refine go_iincN C 1 dX6_effect_50 rfl rfl (by decide) rfl rfl ?_
                  refine go_goto C 22 dX6_effect_53 (by decide) ?_
                  exact ih n (by omega) (k + 1) (i - 1) (by omega) (by omega) (e2 ▸ he)
                · rw [if_pos h39] at e2
                  refine go_iload_n C dX6_effect_42 rfl ?_
                  refine go_S1P C ok_X2_number lk_X6_166 dX6_effect_43 (k_X2_number (by omega)) (by decide) (Nat.le_of_ble_eq_true rfl) ?_
                  refine go_iret hr dX6_effect_46 rfl ?_
                  first | exact ⟨by rw [hans, ← he]; rfl, hR⟩ | exact ⟨by rw [hans, ← he, e2], hR⟩
        refine go_iload_n C dX6_effect_18 rfl ?_
        refine go_istore_n C dX6_effect_19 (by decide) rfl rfl ?_
        refine go_iconst C (nI 0) dX6_effect_20 rfl ?_
        refine go_istore_n C dX6_effect_21 (by decide) rfl rfl ?_
        exact L 1152 0 x (by omega) hx31 rfl
      · skip
        refine go_aload_n C dX6_effect_13 rfl ?_
        refine go_getI C gf_X6_39 dX6_effect_14 (by decide) rfl rfl ?_
        refine go_top _ hEf.2 ?_
        refine go_iret hr dX6_effect_17 rfl ?_
        exact ⟨by unfold aEffect; rw [pI_f (fun z => z h2), pI_t h10], hR⟩
    · refine go_bipush C (-2) dX6_effect_5 rfl ?_
      refine go_iret hr dX6_effect_7 rfl ?_
      exact ⟨(pI_t h2).symm, hR⟩
set_option maxHeartbeats 4000000 in
set_option maxRecDepth 100000 in
theorem k_X6_effectChunks {σ : Mem} {S : St} (hR : RepC σ S)  : CtI objC NC yX6_effectChunks cX6_effectChunks 3 .int 2 40 [.ref 0] σ (RQ (effCh (sE S) 1152) S) := by
  obtain ⟨hS, hW, hL, hEf, hB, hH, hSv, hX, hFt⟩ := id hR
  have hO := hS.1
  have hOL := hS.2.1
  refine ct_ofI rfl ?_ (Nat.le_of_ble_eq_true rfl) (fun X C hr => ?_)
  · intro v hv; simp only [List.mem_cons, List.not_mem_nil, or_false] at hv; rcases hv with rfl <;> rfl
  · have L : ∀ (n : Nat) (i : Nat), (i + n = 1152) → Go objC NC X 4 [some (.ref 0), some (.int (effCh (sE S) i)), some (.int (nI i))] [] σ := by
      intro n
      induction n using Nat.strongRecOn with
      | _ n ih =>
        intro i hi
        refine go_iload_n C dX6_effectChunks_4 rfl ?_
        refine go_sipush C (nI 1152) dX6_effectChunks_5 rfl ?_
        refine go_icmp_geN C 35 dX6_effectChunks_8 (by decide) (by omega) (by omega) (fun h8 => ?_) (fun h8 => ?_)
        · obtain rfl : i = 1152 := by omega
          refine go_iload_n C dX6_effectChunks_35 rfl ?_
          refine go_iret hr dX6_effectChunks_36 rfl ?_
          exact ⟨rfl, hR⟩
        · refine go_aload_n C dX6_effectChunks_11 rfl ?_
          refine go_getR C gf_X6_35 dX6_effectChunks_12 (by decide) rfl rfl ?_
          refine go_iload_n C dX6_effectChunks_15 rfl ?_
          refine go_zaldN C dX6_effectChunks_16 (by decide) rfl (by decide) (by omega) ?_
          refine go_top _ (hEf.1 _ (by omega)) ?_
          refine go_if_eqB C 29 dX6_effectChunks_17 (by decide) (fun h17 => ?_) (fun h17 => ?_)
          · have e2 : effCh (sE S) (i + 1) = effCh (sE S) i := by rw [effCh, pI_f h17]
            refine go_iincN C 1 dX6_effectChunks_29 rfl rfl (by decide) rfl rfl ?_
            refine go_goto C 4 dX6_effectChunks_32 (by decide) ?_
            have q := ih (n - 1) (by omega) (i + 1) (by omega)
            rw [e2] at q
            exact q
          · have e2 : effCh (sE S) (i + 1) = effCh (sE S) i ||| (nI 1 <<< (nI (chk i) &&& 31)) := by rw [effCh, pI_t h17]
            refine go_iload_n C dX6_effectChunks_20 rfl ?_
            refine go_iconst C (nI 1) dX6_effectChunks_21 rfl ?_
            refine go_iload_n C dX6_effectChunks_22 rfl ?_
            refine go_S1P C ok_X2_chunk lk_X6_169 dX6_effectChunks_23 (k_X2_chunk (by omega)) (by decide) (Nat.le_of_ble_eq_true rfl) ?_
            refine go_ishl C dX6_effectChunks_26 ?_
            refine go_ior C dX6_effectChunks_27 ?_
            refine go_istore_n C dX6_effectChunks_28 (by decide) rfl rfl ?_
            refine go_iincN C 1 dX6_effectChunks_29 rfl rfl (by decide) rfl rfl ?_
            refine go_goto C 4 dX6_effectChunks_32 (by decide) ?_
            have q := ih (n - 1) (by omega) (i + 1) (by omega)
            rw [e2] at q
            exact q
    refine go_iconst C (nI 0) dX6_effectChunks_0 rfl ?_
    refine go_istore_n C dX6_effectChunks_1 (by decide) rfl rfl ?_
    refine go_iconst C (nI 0) dX6_effectChunks_2 rfl ?_
    refine go_istore_n C dX6_effectChunks_3 (by decide) rfl rfl ?_
    exact L 1152 0 (by omega)
set_option maxHeartbeats 4000000 in
set_option maxRecDepth 100000 in
theorem k_X6_chunkSum {σ : Mem} {S : St} (hR : RepC σ S) (qc c : Int32) : CtI objC NC yX6_chunkSum cX6_chunkSum 5 .int 2 40 [.ref 0, .int qc, .int c] σ (RQ (aChunk S qc c) S) := by
  obtain ⟨hS, hW, hL, hEf, hB, hH, hSv, hX, hFt⟩ := id hR
  have hO := hS.1
  have hOL := hS.2.1
  refine ct_ofI rfl ?_ (Nat.le_of_ble_eq_true rfl) (fun X C hr => ?_)
  · intro v hv; simp only [List.mem_cons, List.not_mem_nil, or_false] at hv; rcases hv with rfl | rfl | rfl <;> rfl
  · refine go_iload_n C dX6_chunkSum_0 rfl ?_
    refine go_S1P C ok_X6_isChunk lk_X6_179 dX6_chunkSum_1 (k_X6_isChunk _) (by decide) (Nat.le_of_ble_eq_true rfl) ?_
    refine go_if_eqB C 14 dX6_chunkSum_4 (by decide) (fun h4 => ?_) (fun h4 => ?_)
    · refine go_iconst C (-1) dX6_chunkSum_14 rfl ?_
      refine go_iret hr dX6_chunkSum_15 rfl ?_
      exact ⟨(pI_f (fun z => by first | exact h4 z.1 | exact h11 z.2)).symm, hR⟩
    · refine go_iload_n C dX6_chunkSum_7 rfl ?_
      refine go_S1P C ok_X6_isChannel lk_X6_119 dX6_chunkSum_8 (k_X6_isChannel _) (by decide) (Nat.le_of_ble_eq_true rfl) ?_
      refine go_if_neB C 16 dX6_chunkSum_11 (by decide) (fun h11 => ?_) (fun h11 => ?_)
      · obtain ⟨qn, hqn, rfl⟩ := rng_nat (by decide) (id h4)
        obtain ⟨cn, hc, rfl⟩ := rng_nat (by decide) (id h11)
        have L : ∀ (n : Nat) (i : Nat), (i + n = 1152) → Go objC NC X 21 [some (.ref 0), some (.int (nI qn)), some (.int (nI cn)), some (.int (nI (csum (sW S) cn qn i))), some (.int (nI i))] [] σ := by
          intro n
          induction n using Nat.strongRecOn with
          | _ n ih =>
            intro i hi
            refine go_iload C dX6_chunkSum_21 rfl ?_
            refine go_sipush C (nI 1152) dX6_chunkSum_23 rfl ?_
            refine go_icmp_geN C 56 dX6_chunkSum_26 (by decide) (by omega) (by omega) (fun h26 => ?_) (fun h26 => ?_)
            · obtain rfl : i = 1152 := by omega
              refine go_iload_n C dX6_chunkSum_56 rfl ?_
              refine go_iret hr dX6_chunkSum_57 rfl ?_
              exact ⟨by unfold aChunk; rw [pI_t ⟨h4, h11⟩, nI_clamp (by omega), nI_clamp (by omega)], hR⟩
            · refine go_iload C dX6_chunkSum_29 rfl ?_
              refine go_S1P C ok_X2_chunk lk_X6_169 dX6_chunkSum_31 (k_X2_chunk (by omega)) (by decide) (Nat.le_of_ble_eq_true rfl) ?_
              refine go_iload_n C dX6_chunkSum_34 rfl ?_
              have hch : chk i < 9 := by unfold chk; have := cX_lt i; have := cZ_lt (show i < 1152 by omega); omega
              refine go_icmp_neN C 50 dX6_chunkSum_35 (by decide) (by omega) (by omega) (fun h35 => ?_) (fun h35 => ?_)
              · have e2 : csum (sW S) cn qn (i + 1) = csum (sW S) cn qn i := by rw [csum, if_neg h35]; rfl
                refine go_iincN C 1 dX6_chunkSum_50 rfl rfl (by decide) rfl rfl ?_
                refine go_goto C 21 dX6_chunkSum_53 (by decide) ?_
                have q := ih (n - 1) (by omega) (i + 1) (by omega)
                rw [e2] at q
                exact q
              · have e2 : csum (sW S) cn qn (i + 1) = csum (sW S) cn qn i + lit (sW S) cn i := by rw [csum, if_pos h35]
                refine go_iload_n C dX6_chunkSum_38 rfl ?_
                refine go_aload_n C dX6_chunkSum_39 rfl ?_
                refine go_getR C gf_X6_18 dX6_chunkSum_40 (by decide) rfl rfl ?_
                refine go_iload_n C dX6_chunkSum_43 rfl ?_
                refine go_aald C dX6_chunkSum_44 (by decide) rfl (Or.inl rfl) (by decide) (jsL hc) ?_
                refine go_iload C dX6_chunkSum_45 rfl ?_
                refine go_ialdN C dX6_chunkSum_47 (Nat.lt_of_lt_of_le (Nat.add_lt_add_left hc 6) (by decide)) (hoL hc) (by decide) (by omega) ?_
                refine go_top _ (hL cn hc _ (by omega)) ?_
                refine go_iaddN C dX6_chunkSum_48 ?_
                refine go_istore_n C dX6_chunkSum_49 (by decide) rfl rfl ?_
                refine go_iincN C 1 dX6_chunkSum_50 rfl rfl (by decide) rfl rfl ?_
                refine go_goto C 21 dX6_chunkSum_53 (by decide) ?_
                have q := ih (n - 1) (by omega) (i + 1) (by omega)
                rw [e2] at q
                exact q
        refine go_iconst C (nI 0) dX6_chunkSum_16 rfl ?_
        refine go_istore_n C dX6_chunkSum_17 (by decide) rfl rfl ?_
        refine go_iconst C (nI 0) dX6_chunkSum_18 rfl ?_
        refine go_istore C dX6_chunkSum_19 (by decide) rfl rfl ?_
        exact L 1152 0 (by omega)
      · refine go_iconst C (-1) dX6_chunkSum_14 rfl ?_
        refine go_iret hr dX6_chunkSum_15 rfl ?_
        exact ⟨(pI_f (fun z => by first | exact h4 z.1 | exact h11 z.2)).symm, hR⟩
