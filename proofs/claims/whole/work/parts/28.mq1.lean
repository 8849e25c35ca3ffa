theorem bP_a1 {P : Prop} : bP P &&& nI 1 = bP P := by
  by_cases h : P
  · rw [← bP_t h]; decide
  · rw [← bP_f h]; decide
theorem bP_a0 {P : Prop} : bP P &&& nI 0 = nI 0 := by
  by_cases h : P
  · rw [← bP_t h]; decide
  · rw [← bP_f h]; decide
set_option maxHeartbeats 4000000 in
set_option maxRecDepth 100000 in
theorem k_X7_type {σ : Mem} {S : St} (hR : RepM σ S) (x y z : Int32) : CtI objM NM yX7_type cX7_type 4 .int 2 44 [.ref 0, .int x, .int y, .int z] σ (RQM (aType S x y z) S) := by
  obtain ⟨hS, hM, hL, hEf, hB, hH, hSv, hX, hFt, hoc⟩ := id hR
  have hO := hS.1
  have hOL := hS.2.1
  have hV := hR.V
  have hT : ∀ j, j < 1152 → σ 1 j = nI (wT (sW S) j) := fun j hj => by have := hM.1 j hj; rw [Nat.zero_add] at this; exact this
  have hLs := hV.2.2.2.1
  have hEm := hV.2.2.2.2.1
  refine ct_ofI rfl ?_ (Nat.le_of_ble_eq_true rfl) (fun X C hr => ?_)
  · intro v hv; simp only [List.mem_cons, List.not_mem_nil, or_false] at hv; rcases hv with rfl | rfl | rfl | rfl <;> rfl
  · refine go_iload_n C dX7_type_0 rfl ?_
    refine go_iload_n C dX7_type_1 rfl ?_
    refine go_iload_n C dX7_type_2 rfl ?_
    refine go_S3P C ok_X7_isCell lk_X7_71 dX7_type_3 (k_X7_isCell _ _ _) (by decide) (Nat.le_of_ble_eq_true rfl) ?_
    refine go_if_eqB C 23 dX7_type_6 (by decide) (fun h6 => ?_) (fun h6 => ?_)
    · refine go_iconst C (-1) dX7_type_23 rfl ?_
      refine go_iret hr dX7_type_24 rfl ?_
      first | exact ⟨(pI_f h6).symm, hR⟩ | exact ⟨by unfold aType; rw [pI_t h6, ixC_nI ha hb hcz], hR⟩
    · obtain ⟨r1, r2, r3⟩ := id h6
      obtain ⟨a, ha, rfl⟩ := rng_nat (by decide) r1
      obtain ⟨b, hb, rfl⟩ := rng_nat (by decide) r2
      obtain ⟨cz, hcz, rfl⟩ := rng_nat (by decide) r3
      have hk := cel_lt ha hb hcz
      refine go_aload_n C dX7_type_9 rfl ?_
      refine go_getR C gf_X7_9 dX7_type_10 (by decide) rfl rfl ?_
      refine go_iload_n C dX7_type_13 rfl ?_
      refine go_iload_n C dX7_type_14 rfl ?_
      refine go_iload_n C dX7_type_15 rfl ?_
      refine go_S3P C ok_X7_cell lk_X7_74 dX7_type_16 k_X7_cell (by decide) (Nat.le_of_ble_eq_true rfl) ?_
      refine go_ialdN C dX7_type_19 (by decide) rfl (by decide) (by omega) ?_
      refine go_top _ (hT _ (by omega)) ?_
      refine go_goto C 24 dX7_type_20 (by decide) ?_
      refine go_iret hr dX7_type_24 rfl ?_
      first | exact ⟨(pI_f h6).symm, hR⟩ | exact ⟨by unfold aType; rw [pI_t h6, ixC_nI ha hb hcz], hR⟩
set_option maxHeartbeats 4000000 in
set_option maxRecDepth 100000 in
theorem k_X7_loss {σ : Mem} {S : St} (hR : RepM σ S) (t c : Int32) : CtI objM NM yX7_loss cX7_loss 3 .int 2 42 [.ref 0, .int t, .int c] σ (RQM (aLoss S t c) S) := by
  obtain ⟨hS, hM, hL, hEf, hB, hH, hSv, hX, hFt, hoc⟩ := id hR
  have hO := hS.1
  have hOL := hS.2.1
  have hV := hR.V
  have hT : ∀ j, j < 1152 → σ 1 j = nI (wT (sW S) j) := fun j hj => by have := hM.1 j hj; rw [Nat.zero_add] at this; exact this
  have hLs := hV.2.2.2.1
  have hEm := hV.2.2.2.2.1
  refine ct_ofI rfl ?_ (Nat.le_of_ble_eq_true rfl) (fun X C hr => ?_)
  · intro v hv; simp only [List.mem_cons, List.not_mem_nil, or_false] at hv; rcases hv with rfl | rfl | rfl <;> rfl
  · refine go_iload_n C dX7_loss_0 rfl ?_
    refine go_S1P C ok_X7_isType lk_X7_123 dX7_loss_1 (k_X7_isType _) (by decide) (Nat.le_of_ble_eq_true rfl) ?_
    refine go_if_eqB C 33 dX7_loss_4 (by decide) (fun h4 => ?_) (fun h4 => ?_)
    · refine go_iconst C (-1) dX7_loss_33 rfl ?_
      refine go_iret hr dX7_loss_34 rfl ?_
      first | exact ⟨(pI_f (fun q => by first | exact h4 q.1 | exact h13 q.2)).symm, hR⟩ | exact ⟨by unfold aLoss; rw [pI_t ⟨h4, h13⟩, nI_clamp (by omega), nI_clamp (by omega)], hR⟩
    · refine go_iload_n C dX7_loss_7 rfl ?_
      refine go_iconst C (nI 0) dX7_loss_8 rfl ?_
      refine go_iconst C (nI 3) dX7_loss_9 rfl ?_
      refine go_S3P C ok_X7_in lk_X7_57 dX7_loss_10 (k_X7_in (by decide) _) (by decide) (Nat.le_of_ble_eq_true rfl) ?_
      refine go_if_eqB C 33 dX7_loss_13 (by decide) (fun h13 => ?_) (fun h13 => ?_)
      · refine go_iconst C (-1) dX7_loss_33 rfl ?_
        refine go_iret hr dX7_loss_34 rfl ?_
        first | exact ⟨(pI_f (fun q => by first | exact h4 q.1 | exact h13 q.2)).symm, hR⟩ | exact ⟨by unfold aLoss; rw [pI_t ⟨h4, h13⟩, nI_clamp (by omega), nI_clamp (by omega)], hR⟩
      · obtain ⟨tn, ht, rfl⟩ := rng_nat (by decide) (id h4)
        obtain ⟨cn, hcn, rfl⟩ := rng_nat (by decide) (id h13)
        refine go_aload_n C dX7_loss_16 rfl ?_
        refine go_getR C gf_X7_9 dX7_loss_17 (by decide) rfl rfl ?_
        refine go_sipush C (nI 1152) dX7_loss_20 rfl ?_
        refine go_iconst C (nI 4) dX7_loss_23 rfl ?_
        refine go_iload_n C dX7_loss_24 rfl ?_
        refine go_imulN C dX7_loss_25 ?_
        refine go_iaddN C dX7_loss_26 ?_
        refine go_iload_n C dX7_loss_27 rfl ?_
        refine go_iaddN C dX7_loss_28 ?_
        refine go_ialdN C dX7_loss_29 (by decide) rfl (by decide) (by omega) ?_
        refine go_top (nI (wL (sW S) (4 * tn + cn))) (by rw [Nat.add_assoc]; exact hLs _ (by omega)) ?_
        refine go_goto C 34 dX7_loss_30 (by decide) ?_
        refine go_iret hr dX7_loss_34 rfl ?_
        first | exact ⟨(pI_f (fun q => by first | exact h4 q.1 | exact h13 q.2)).symm, hR⟩ | exact ⟨by unfold aLoss; rw [pI_t ⟨h4, h13⟩, nI_clamp (by omega), nI_clamp (by omega)], hR⟩
set_option maxHeartbeats 4000000 in
set_option maxRecDepth 100000 in
theorem k_X7_emission {σ : Mem} {S : St} (hR : RepM σ S) (t c : Int32) : CtI objM NM yX7_emission cX7_emission 3 .int 2 42 [.ref 0, .int t, .int c] σ (RQM (aEm S t c) S) := by
  obtain ⟨hS, hM, hL, hEf, hB, hH, hSv, hX, hFt, hoc⟩ := id hR
  have hO := hS.1
  have hOL := hS.2.1
  have hV := hR.V
  have hT : ∀ j, j < 1152 → σ 1 j = nI (wT (sW S) j) := fun j hj => by have := hM.1 j hj; rw [Nat.zero_add] at this; exact this
  have hLs := hV.2.2.2.1
  have hEm := hV.2.2.2.2.1
  refine ct_ofI rfl ?_ (Nat.le_of_ble_eq_true rfl) (fun X C hr => ?_)
  · intro v hv; simp only [List.mem_cons, List.not_mem_nil, or_false] at hv; rcases hv with rfl | rfl | rfl <;> rfl
  · refine go_iload_n C dX7_emission_0 rfl ?_
    refine go_S1P C ok_X7_isType lk_X7_123 dX7_emission_1 (k_X7_isType _) (by decide) (Nat.le_of_ble_eq_true rfl) ?_
    refine go_if_eqB C 33 dX7_emission_4 (by decide) (fun h4 => ?_) (fun h4 => ?_)
    · refine go_iconst C (-1) dX7_emission_33 rfl ?_
      refine go_iret hr dX7_emission_34 rfl ?_
      first | exact ⟨(pI_f (fun q => by first | exact h4 q.1 | exact h13 q.2)).symm, hR⟩ | exact ⟨by unfold aEm; rw [pI_t ⟨h4, h13⟩, nI_clamp (by omega), nI_clamp (by omega)], hR⟩
    · refine go_iload_n C dX7_emission_7 rfl ?_
      refine go_iconst C (nI 0) dX7_emission_8 rfl ?_
      refine go_iconst C (nI 2) dX7_emission_9 rfl ?_
      refine go_S3P C ok_X7_in lk_X7_57 dX7_emission_10 (k_X7_in (by decide) _) (by decide) (Nat.le_of_ble_eq_true rfl) ?_
      refine go_if_eqB C 33 dX7_emission_13 (by decide) (fun h13 => ?_) (fun h13 => ?_)
      · refine go_iconst C (-1) dX7_emission_33 rfl ?_
        refine go_iret hr dX7_emission_34 rfl ?_
        first | exact ⟨(pI_f (fun q => by first | exact h4 q.1 | exact h13 q.2)).symm, hR⟩ | exact ⟨by unfold aEm; rw [pI_t ⟨h4, h13⟩, nI_clamp (by omega), nI_clamp (by omega)], hR⟩
      · obtain ⟨tn, ht, rfl⟩ := rng_nat (by decide) (id h4)
        obtain ⟨cn, hcn, rfl⟩ := rng_nat (by decide) (id h13)
        refine go_aload_n C dX7_emission_16 rfl ?_
        refine go_getR C gf_X7_9 dX7_emission_17 (by decide) rfl rfl ?_
        refine go_sipush C (nI 1184) dX7_emission_20 rfl ?_
        refine go_iconst C (nI 4) dX7_emission_23 rfl ?_
        refine go_iload_n C dX7_emission_24 rfl ?_
        refine go_imulN C dX7_emission_25 ?_
        refine go_iaddN C dX7_emission_26 ?_
        refine go_iload_n C dX7_emission_27 rfl ?_
        refine go_iaddN C dX7_emission_28 ?_
        refine go_ialdN C dX7_emission_29 (by decide) rfl (by decide) (by omega) ?_
        refine go_top (nI (wE (sW S) (4 * tn + cn))) (by rw [Nat.add_assoc]; exact hEm _ (by omega)) ?_
        refine go_goto C 34 dX7_emission_30 (by decide) ?_
        refine go_iret hr dX7_emission_34 rfl ?_
        first | exact ⟨(pI_f (fun q => by first | exact h4 q.1 | exact h13 q.2)).symm, hR⟩ | exact ⟨by unfold aEm; rw [pI_t ⟨h4, h13⟩, nI_clamp (by omega), nI_clamp (by omega)], hR⟩
set_option maxHeartbeats 4000000 in
set_option maxRecDepth 100000 in
theorem k_X7_lightOf {σ : Mem} {L : Nat → Nat → Nat} (hL : LitM σ L) {k c : Nat} (hk : k < 1152) (hc : c < 4) : CtI objM NM yX7_lightOf cX7_lightOf 3 .int 0 0 [.ref 0, .int (nI k), .int (nI c)] σ (Pv (nI (L c k)) σ) := by
  refine ct_ofI rfl ?_ (Nat.le_of_ble_eq_true rfl) (fun X C hr => ?_)
  · intro v hv; simp only [List.mem_cons, List.not_mem_nil, or_false] at hv; rcases hv with rfl | rfl | rfl <;> rfl
  · refine go_aload_n C dX7_lightOf_0 rfl ?_
    refine go_getR C gf_X7_19 dX7_lightOf_1 (by decide) rfl rfl ?_
    refine go_sipush C (nI 1152) dX7_lightOf_4 rfl ?_
    refine go_iload_n C dX7_lightOf_7 rfl ?_
    refine go_imulN C dX7_lightOf_8 ?_
    refine go_iload_n C dX7_lightOf_9 rfl ?_
    refine go_iaddN C dX7_lightOf_10 ?_
    refine go_ialdN C dX7_lightOf_11 (by decide) rfl (by decide) (by omega) ?_
    refine go_iret hr dX7_lightOf_12 rfl ?_
    exact ⟨hL c hc k hk, rfl⟩
set_option maxHeartbeats 4000000 in
set_option maxRecDepth 100000 in
theorem k_X7_light {σ : Mem} {S : St} (hR : RepM σ S) (x y z c : Int32) : CtI objM NM yX7_light cX7_light 5 .int 2 44 [.ref 0, .int x, .int y, .int z, .int c] σ (RQM (aLight S x y z c) S) := by
  obtain ⟨hS, hM, hL, hEf, hB, hH, hSv, hX, hFt, hoc⟩ := id hR
  have hO := hS.1
  have hOL := hS.2.1
  have hV := hR.V
  have hT : ∀ j, j < 1152 → σ 1 j = nI (wT (sW S) j) := fun j hj => by have := hM.1 j hj; rw [Nat.zero_add] at this; exact this
  have hLs := hV.2.2.2.1
  have hEm := hV.2.2.2.2.1
  refine ct_ofI rfl ?_ (Nat.le_of_ble_eq_true rfl) (fun X C hr => ?_)
  · intro v hv; simp only [List.mem_cons, List.not_mem_nil, or_false] at hv; rcases hv with rfl | rfl | rfl | rfl | rfl <;> rfl
  · refine go_iload_n C dX7_light_0 rfl ?_
    refine go_iload_n C dX7_light_1 rfl ?_
    refine go_iload_n C dX7_light_2 rfl ?_
    refine go_S3P C ok_X7_isCell lk_X7_71 dX7_light_3 (k_X7_isCell _ _ _) (by decide) (Nat.le_of_ble_eq_true rfl) ?_
    refine go_if_eqB C 34 dX7_light_6 (by decide) (fun h6 => ?_) (fun h6 => ?_)
    · refine go_iconst C (-1) dX7_light_34 rfl ?_
      refine go_iret hr dX7_light_35 rfl ?_
      first | exact ⟨(pI_f (fun q => by first | exact h6 q.1 | exact h16 q.2)).symm, hR⟩ | exact ⟨by unfold aLight; rw [pI_t ⟨h6, h16⟩, nI_clamp (by omega), ixC_nI ha hb hcz], hR⟩
    · refine go_iload C dX7_light_9 rfl ?_
      refine go_iconst C (nI 0) dX7_light_11 rfl ?_
      refine go_iconst C (nI 3) dX7_light_12 rfl ?_
      refine go_S3P C ok_X7_in lk_X7_57 dX7_light_13 (k_X7_in (by decide) _) (by decide) (Nat.le_of_ble_eq_true rfl) ?_
      refine go_if_eqB C 34 dX7_light_16 (by decide) (fun h16 => ?_) (fun h16 => ?_)
      · refine go_iconst C (-1) dX7_light_34 rfl ?_
        refine go_iret hr dX7_light_35 rfl ?_
        first | exact ⟨(pI_f (fun q => by first | exact h6 q.1 | exact h16 q.2)).symm, hR⟩ | exact ⟨by unfold aLight; rw [pI_t ⟨h6, h16⟩, nI_clamp (by omega), ixC_nI ha hb hcz], hR⟩
      · obtain ⟨r1, r2, r3⟩ := id h6
        obtain ⟨a, ha, rfl⟩ := rng_nat (by decide) r1
        obtain ⟨b, hb, rfl⟩ := rng_nat (by decide) r2
        obtain ⟨cz, hcz, rfl⟩ := rng_nat (by decide) r3
        have hk := cel_lt ha hb hcz
        obtain ⟨cn, hc, rfl⟩ := rng_nat (by decide) (id h16)
        refine go_aload_n C dX7_light_19 rfl ?_
        refine go_iload_n C dX7_light_20 rfl ?_
        refine go_iload_n C dX7_light_21 rfl ?_
        refine go_iload_n C dX7_light_22 rfl ?_
        refine go_S3P C ok_X7_cell lk_X7_74 dX7_light_23 k_X7_cell (by decide) (Nat.le_of_ble_eq_true rfl) ?_
        refine go_iload C dX7_light_26 rfl ?_
        refine go_V2P C ok_X7_lightOf lk_X7_177 dX7_light_28 (by decide) rfl rfl rfl (k_X7_lightOf hL hk hc) (by decide) (Nat.le_of_ble_eq_true rfl) ?_
        refine go_goto C 35 dX7_light_31 (by decide) ?_
        refine go_iret hr dX7_light_35 rfl ?_
        first | exact ⟨(pI_f (fun q => by first | exact h6 q.1 | exact h16 q.2)).symm, hR⟩ | exact ⟨by unfold aLight; rw [pI_t ⟨h6, h16⟩, nI_clamp (by omega), ixC_nI ha hb hcz], hR⟩
set_option maxHeartbeats 4000000 in
set_option maxRecDepth 100000 in
theorem k_X7_lightsOf {σ : Mem} {w : Wd} (hL : LitM σ (lit w)) {k : Nat} (hk : k < 1152) : CtI objM NM yX7_lightsOf cX7_lightsOf 2 .int 1 22 [.ref 0, .int (nI k)] σ (Pv (nI (pkL w k)) σ) := by
  refine ct_ofI rfl ?_ (Nat.le_of_ble_eq_true rfl) (fun X C hr => ?_)
  · intro v hv; simp only [List.mem_cons, List.not_mem_nil, or_false] at hv; rcases hv with rfl | rfl <;> rfl
  · refine go_aload_n C dX7_lightsOf_0 rfl ?_
    refine go_iload_n C dX7_lightsOf_1 rfl ?_
    refine go_iconst C (nI 0) dX7_lightsOf_2 rfl ?_
    refine go_V2P C ok_X7_lightOf lk_X7_177 dX7_lightsOf_3 (by decide) rfl rfl rfl (k_X7_lightOf hL hk (c := 0) (by decide)) (by decide) (Nat.le_of_ble_eq_true rfl) ?_
    refine go_bipush C (nI 16) dX7_lightsOf_6 rfl ?_
    refine go_aload_n C dX7_lightsOf_8 rfl ?_
    refine go_iload_n C dX7_lightsOf_9 rfl ?_
    refine go_iconst C (nI 1) dX7_lightsOf_10 rfl ?_
    refine go_V2P C ok_X7_lightOf lk_X7_177 dX7_lightsOf_11 (by decide) rfl rfl rfl (k_X7_lightOf hL hk (c := 1) (by decide)) (by decide) (Nat.le_of_ble_eq_true rfl) ?_
    refine go_imulN C dX7_lightsOf_14 ?_
    refine go_iaddN C dX7_lightsOf_15 ?_
    refine go_sipush C (nI 256) dX7_lightsOf_16 rfl ?_
    refine go_aload_n C dX7_lightsOf_19 rfl ?_
    refine go_iload_n C dX7_lightsOf_20 rfl ?_
    refine go_iconst C (nI 2) dX7_lightsOf_21 rfl ?_
    refine go_V2P C ok_X7_lightOf lk_X7_177 dX7_lightsOf_22 (by decide) rfl rfl rfl (k_X7_lightOf hL hk (c := 2) (by decide)) (by decide) (Nat.le_of_ble_eq_true rfl) ?_
    refine go_imulN C dX7_lightsOf_25 ?_
    refine go_iaddN C dX7_lightsOf_26 ?_
    refine go_sipush C (nI 4096) dX7_lightsOf_27 rfl ?_
    refine go_aload_n C dX7_lightsOf_30 rfl ?_
    refine go_iload_n C dX7_lightsOf_31 rfl ?_
    refine go_iconst C (nI 3) dX7_lightsOf_32 rfl ?_
    refine go_V2P C ok_X7_lightOf lk_X7_177 dX7_lightsOf_33 (by decide) rfl rfl rfl (k_X7_lightOf hL hk (c := 3) (by decide)) (by decide) (Nat.le_of_ble_eq_true rfl) ?_
    refine go_imulN C dX7_lightsOf_36 ?_
    refine go_iaddN C dX7_lightsOf_37 ?_
    refine go_iret hr dX7_lightsOf_38 rfl ?_
    exact ⟨rfl, rfl⟩
set_option maxHeartbeats 4000000 in
set_option maxRecDepth 100000 in
theorem k_X7_lights {σ : Mem} {S : St} (hR : RepM σ S) (x y z : Int32) : CtI objM NM yX7_lights cX7_lights 4 .int 2 44 [.ref 0, .int x, .int y, .int z] σ (RQM (aLights S x y z) S) := by
  obtain ⟨hS, hM, hL, hEf, hB, hH, hSv, hX, hFt, hoc⟩ := id hR
  have hO := hS.1
  have hOL := hS.2.1
  have hV := hR.V
  have hT : ∀ j, j < 1152 → σ 1 j = nI (wT (sW S) j) := fun j hj => by have := hM.1 j hj; rw [Nat.zero_add] at this; exact this
  have hLs := hV.2.2.2.1
  have hEm := hV.2.2.2.2.1
  refine ct_ofI rfl ?_ (Nat.le_of_ble_eq_true rfl) (fun X C hr => ?_)
  · intro v hv; simp only [List.mem_cons, List.not_mem_nil, or_false] at hv; rcases hv with rfl | rfl | rfl | rfl <;> rfl
  · refine go_iload_n C dX7_lights_0 rfl ?_
    refine go_iload_n C dX7_lights_1 rfl ?_
    refine go_iload_n C dX7_lights_2 rfl ?_
    refine go_S3P C ok_X7_isCell lk_X7_71 dX7_lights_3 (k_X7_isCell _ _ _) (by decide) (Nat.le_of_ble_eq_true rfl) ?_
    refine go_if_eqB C 22 dX7_lights_6 (by decide) (fun h6 => ?_) (fun h6 => ?_)
    · refine go_iconst C (-1) dX7_lights_22 rfl ?_
      refine go_iret hr dX7_lights_23 rfl ?_
      first | exact ⟨(pI_f h6).symm, hR⟩ | exact ⟨by unfold aLights; rw [pI_t h6, ixC_nI ha hb hcz], hR⟩
    · obtain ⟨r1, r2, r3⟩ := id h6
      obtain ⟨a, ha, rfl⟩ := rng_nat (by decide) r1
      obtain ⟨b, hb, rfl⟩ := rng_nat (by decide) r2
      obtain ⟨cz, hcz, rfl⟩ := rng_nat (by decide) r3
      have hk := cel_lt ha hb hcz
      refine go_aload_n C dX7_lights_9 rfl ?_
      refine go_iload_n C dX7_lights_10 rfl ?_
      refine go_iload_n C dX7_lights_11 rfl ?_
      refine go_iload_n C dX7_lights_12 rfl ?_
      refine go_S3P C ok_X7_cell lk_X7_74 dX7_lights_13 k_X7_cell (by decide) (Nat.le_of_ble_eq_true rfl) ?_
      refine go_V1P C ok_X7_lightsOf lk_X7_180 dX7_lights_16 (by decide) rfl rfl rfl (k_X7_lightsOf hL hk) (by decide) (Nat.le_of_ble_eq_true rfl) ?_
      refine go_goto C 23 dX7_lights_19 (by decide) ?_
      refine go_iret hr dX7_lights_23 rfl ?_
      first | exact ⟨(pI_f h6).symm, hR⟩ | exact ⟨by unfold aLights; rw [pI_t h6, ixC_nI ha hb hcz], hR⟩
set_option maxHeartbeats 4000000 in
set_option maxRecDepth 100000 in
theorem k_X7_batchSize {σ : Mem} {S : St} (hR : RepM σ S) : CtI objM NM yX7_batchSize cX7_batchSize 1 .int 0 0 [.ref 0] σ (RQM (aBatch S) S) := by
  obtain ⟨hS, hM, hL, hEf, hB, hH, hSv, hX, hFt, hoc⟩ := id hR
  have hO := hS.1
  have hOL := hS.2.1
  have hV := hR.V
  have hT : ∀ j, j < 1152 → σ 1 j = nI (wT (sW S) j) := fun j hj => by have := hM.1 j hj; rw [Nat.zero_add] at this; exact this
  have hLs := hV.2.2.2.1
  have hEm := hV.2.2.2.2.1
  refine ct_ofI rfl ?_ (Nat.le_of_ble_eq_true rfl) (fun X C hr => ?_)
  · intro v hv; simp only [List.mem_cons, List.not_mem_nil, or_false] at hv; rcases hv with rfl <;> rfl
  · cases hb : sB S with
    | none =>
      rw [hb] at hB
      refine go_aload_n C dX7_batchSize_0 rfl ?_
      refine go_getI C gf_X7_127 dX7_batchSize_1 (by decide) rfl rfl ?_
      refine go_top (nI 0) hB ?_
      refine go_if_eqN C 14 dX7_batchSize_4 (by decide) (by omega) (fun h4 => ?_) (fun h4 => ?_)
      · refine go_bipush C (-5) dX7_batchSize_14 rfl ?_
        refine go_iret hr dX7_batchSize_16 rfl ?_
        exact ⟨by unfold aBatch; rw [hb], hR⟩
      · exact absurd h4 (by decide)
    | some es =>
      rw [hb] at hB
      refine go_aload_n C dX7_batchSize_0 rfl ?_
      refine go_getI C gf_X7_127 dX7_batchSize_1 (by decide) rfl rfl ?_
      refine go_top _ hB.1 ?_
      refine go_if_eqN C 14 dX7_batchSize_4 (by decide) (by omega) (fun h4 => ?_) (fun h4 => ?_)
      · exact absurd h4 (by decide)
      · refine go_aload_n C dX7_batchSize_7 rfl ?_
        refine go_getI C gf_X7_120 dX7_batchSize_8 (by decide) rfl rfl ?_
        refine go_top _ hB.2.1 ?_
        refine go_goto C 16 dX7_batchSize_11 (by decide) ?_
        refine go_iret hr dX7_batchSize_16 rfl ?_
        exact ⟨by unfold aBatch; rw [hb], hR⟩
set_option maxHeartbeats 4000000 in
set_option maxRecDepth 100000 in
theorem k_X7_effectMany {σ : Mem} {E : Nat → Prop} (hEf : EffM σ E) : CtI objM NM yX7_effectMany cX7_effectMany 3 .int 0 0 [.ref 0] σ (Pv (nI (cnt E 1152)) σ) := by
  refine ct_ofI rfl ?_ (Nat.le_of_ble_eq_true rfl) (fun X C hr => ?_)
  · intro v hv; simp only [List.mem_cons, List.not_mem_nil, or_false] at hv; rcases hv with rfl <;> rfl
  · have L : ∀ (n : Nat) (i : Nat), (i + n = 1152) → Go objM NM X 4 [some (.ref 0), some (.int (nI (cnt E i))), some (.int (nI i))] [] σ := by
      intro n
      induction n using Nat.strongRecOn with
      | _ n ih =>
        intro i hi
        refine go_iload_n C dX7_effectMany_4 rfl ?_
        refine go_sipush C (nI 1152) dX7_effectMany_5 rfl ?_
        refine go_icmp_geN C 34 dX7_effectMany_8 (by decide) (by omega) (by omega) (fun h8 => ?_) (fun h8 => ?_)
        · obtain rfl : i = 1152 := by omega
          refine go_iload_n C dX7_effectMany_34 rfl ?_
          refine go_iret hr dX7_effectMany_35 rfl ?_
          exact ⟨rfl, rfl⟩
        · refine go_iload_n C dX7_effectMany_11 rfl ?_
          refine go_aload_n C dX7_effectMany_12 rfl ?_
          refine go_getR C gf_X7_22 dX7_effectMany_13 (by decide) rfl rfl ?_
          refine go_iload_n C dX7_effectMany_16 rfl ?_
          refine go_zaldN C dX7_effectMany_17 (by decide) rfl (by decide) (by omega) ?_
          refine go_top _ (hEf _ (by omega)) ?_
          refine go_if_eqB C 25 dX7_effectMany_18 (by decide) (fun h18 => ?_) (fun h18 => ?_)
          · have e2 : cnt E (i + 1) = cnt E i + 0 := cnt_0 h18
            refine go_iconst C (nI 0) dX7_effectMany_25 rfl ?_
            refine go_iaddN C dX7_effectMany_26 ?_
            refine go_istore_n C dX7_effectMany_27 (by decide) rfl rfl ?_
            refine go_iincN C 1 dX7_effectMany_28 rfl rfl (by decide) rfl rfl ?_
            refine go_goto C 4 dX7_effectMany_31 (by decide) ?_
            have q := ih (n - 1) (by omega) (i + 1) (by omega)
            rw [e2] at q
            exact q
          · have e2 : cnt E (i + 1) = cnt E i + 1 := cnt_1 h18
            refine go_iconst C (nI 1) dX7_effectMany_21 rfl ?_
            refine go_goto C 26 dX7_effectMany_22 (by decide) ?_
            refine go_iaddN C dX7_effectMany_26 ?_
            refine go_istore_n C dX7_effectMany_27 (by decide) rfl rfl ?_
            refine go_iincN C 1 dX7_effectMany_28 rfl rfl (by decide) rfl rfl ?_
            refine go_goto C 4 dX7_effectMany_31 (by decide) ?_
            have q := ih (n - 1) (by omega) (i + 1) (by omega)
            rw [e2] at q
            exact q
    refine go_iconst C (nI 0) dX7_effectMany_0 rfl ?_
    refine go_istore_n C dX7_effectMany_1 (by decide) rfl rfl ?_
    refine go_iconst C (nI 0) dX7_effectMany_2 rfl ?_
    refine go_istore_n C dX7_effectMany_3 (by decide) rfl rfl ?_
    exact L 1152 0 (by omega)
set_option maxHeartbeats 4000000 in
set_option maxRecDepth 100000 in
theorem k_X7_effect {σ : Mem} {S : St} (hR : RepM σ S) (x : Int32) : CtI objM NM yX7_effect cX7_effect 4 .int 2 40 [.ref 0, .int x] σ (RQM (aEffect S x) S) := by
  obtain ⟨hS, hM, hL, hEf, hB, hH, hSv, hX, hFt, hoc⟩ := id hR
  have hO := hS.1
  have hOL := hS.2.1
  have hV := hR.V
  have hT : ∀ j, j < 1152 → σ 1 j = nI (wT (sW S) j) := fun j hj => by have := hM.1 j hj; rw [Nat.zero_add] at this; exact this
  have hLs := hV.2.2.2.1
  have hEm := hV.2.2.2.2.1
  refine ct_ofI rfl ?_ (Nat.le_of_ble_eq_true rfl) (fun X C hr => ?_)
  · intro v hv; simp only [List.mem_cons, List.not_mem_nil, or_false] at hv; rcases hv with rfl | rfl <;> rfl
  · refine go_iload_n C dX7_effect_0 rfl ?_
    refine go_iconst C (-1) dX7_effect_1 rfl ?_
    refine go_icmp_ge C 8 dX7_effect_2 (by decide) (fun h2 => ?_) (fun h2 => ?_)
    · refine go_iload_n C dX7_effect_8 rfl ?_
      refine go_iconst C (-1) dX7_effect_9 rfl ?_
      refine go_icmp_ne C 18 dX7_effect_10 (by decide) (fun h10 => ?_) (fun h10 => ?_)
      · obtain ⟨x, hx31, rfl⟩ := ge_m1 h2 h10
        have hans : aEffect S (nI x) = effAt (sE S) 1152 0 x := by unfold aEffect; rw [pI_f (fun z => z h2), pI_f h10, nI_clamp hx31]
        have L : ∀ (n : Nat) (k : Nat) (i : Nat), (k + n = 1152) → (i < 2 ^ 31) → (effAt (sE S) n k i = effAt (sE S) 1152 0 x) → Go objM NM X 22 [some (.ref 0), some (.int (nI x)), some (.int (nI i)), some (.int (nI k))] [] σ := by
          intro n
          induction n using Nat.strongRecOn with
          | _ n ih =>
            intro k i hk hi he
            refine go_iload_n C dX7_effect_22 rfl ?_
            refine go_sipush C (nI 1152) dX7_effect_23 rfl ?_
            refine go_icmp_geN C 56 dX7_effect_26 (by decide) (by omega) (by omega) (fun h26 => ?_) (fun h26 => ?_)
            · obtain rfl : n = 0 := by omega
              refine go_bipush C (-4) dX7_effect_56 rfl ?_
              refine go_iret hr dX7_effect_58 rfl ?_
              first | exact ⟨by rw [hans, ← he]; rfl, hR⟩ | exact ⟨by rw [hans, ← he, e2], hR⟩
            · obtain ⟨n, rfl⟩ : ∃ n2, n = n2 + 1 := ⟨n - 1, by omega⟩
              refine go_aload_n C dX7_effect_29 rfl ?_
              refine go_getR C gf_X7_22 dX7_effect_30 (by decide) rfl rfl ?_
              refine go_iload_n C dX7_effect_33 rfl ?_
              refine go_zaldN C dX7_effect_34 (by decide) rfl (by decide) (by omega) ?_
              refine go_top _ (hEf _ (by omega)) ?_
              refine go_if_eqB C 50 dX7_effect_35 (by decide) (fun h35 => ?_) (fun h35 => ?_)
              · have e2 : effAt (sE S) (n + 1) k i = effAt (sE S) n (k + 1) i := by rw [effAt, pI_f h35]
                refine go_iincN C 1 dX7_effect_50 rfl rfl (by decide) rfl rfl ?_
                refine go_goto C 22 dX7_effect_53 (by decide) ?_
                exact ih n (by omega) (k + 1) i (by omega) (by omega) (e2 ▸ he)
              · have e2 : effAt (sE S) (n + 1) k i = if i = 0 then nI (cod k) else effAt (sE S) n (k + 1) (i - 1) := by rw [effAt, pI_t h35]
                refine go_iload_n C dX7_effect_38 rfl ?_
                refine go_if_neN C 47 dX7_effect_39 (by decide) (by omega) (fun h39 => ?_) (fun h39 => ?_)
                · rw [if_neg h39] at e2
                  refine go_iinc C (nI (i - 1)) dX7_effect_47 rfl (dec_n (by omega)) (by decide) rfl rfl ?_
                  refine go_iincN C 1 dX7_effect_50 rfl rfl (by decide) rfl rfl ?_
                  refine go_goto C 22 dX7_effect_53 (by decide) ?_
                  exact ih n (by omega) (k + 1) (i - 1) (by omega) (by omega) (e2 ▸ he)
                · rw [if_pos h39] at e2
                  refine go_iload_n C dX7_effect_42 rfl ?_
                  refine go_S1P C ok_X7_code lk_X7_192 dX7_effect_43 (k_X7_code (by omega)) (by decide) (Nat.le_of_ble_eq_true rfl) ?_
                  refine go_iret hr dX7_effect_46 rfl ?_
                  first | exact ⟨by rw [hans, ← he]; rfl, hR⟩ | exact ⟨by rw [hans, ← he, e2], hR⟩
        refine go_iload_n C dX7_effect_18 rfl ?_
        refine go_istore_n C dX7_effect_19 (by decide) rfl rfl ?_
        refine go_iconst C (nI 0) dX7_effect_20 rfl ?_
        refine go_istore_n C dX7_effect_21 (by decide) rfl rfl ?_
        exact L 1152 0 x (by omega) hx31 rfl
      · skip
        refine go_aload_n C dX7_effect_13 rfl ?_
        refine go_V0P C ok_X7_effectMany lk_X7_116 dX7_effect_14 (by decide) rfl rfl rfl (k_X7_effectMany hEf) (by decide) (Nat.le_of_ble_eq_true rfl) ?_
        refine go_iret hr dX7_effect_17 rfl ?_
        exact ⟨by unfold aEffect; rw [pI_f (fun z => z h2), pI_t h10], hR⟩
    · refine go_bipush C (-2) dX7_effect_5 rfl ?_
      refine go_iret hr dX7_effect_7 rfl ?_
      exact ⟨(pI_t h2).symm, hR⟩
set_option maxHeartbeats 4000000 in
set_option maxRecDepth 100000 in
theorem k_X7_effectChunks {σ : Mem} {S : St} (hR : RepM σ S)  : CtI objM NM yX7_effectChunks cX7_effectChunks 3 .int 2 40 [.ref 0] σ (RQM (effCh (sE S) 1152) S) := by
  obtain ⟨hS, hM, hL, hEf, hB, hH, hSv, hX, hFt, hoc⟩ := id hR
  have hO := hS.1
  have hOL := hS.2.1
  have hV := hR.V
  have hT : ∀ j, j < 1152 → σ 1 j = nI (wT (sW S) j) := fun j hj => by have := hM.1 j hj; rw [Nat.zero_add] at this; exact this
  have hLs := hV.2.2.2.1
  have hEm := hV.2.2.2.2.1
  refine ct_ofI rfl ?_ (Nat.le_of_ble_eq_true rfl) (fun X C hr => ?_)
  · intro v hv; simp only [List.mem_cons, List.not_mem_nil, or_false] at hv; rcases hv with rfl <;> rfl
  · have L : ∀ (n : Nat) (i : Nat), (i + n = 1152) → Go objM NM X 4 [some (.ref 0), some (.int (effCh (sE S) i)), some (.int (nI i))] [] σ := by
      intro n
      induction n using Nat.strongRecOn with
      | _ n ih =>
        intro i hi
        refine go_iload_n C dX7_effectChunks_4 rfl ?_
        refine go_sipush C (nI 1152) dX7_effectChunks_5 rfl ?_
        refine go_icmp_geN C 39 dX7_effectChunks_8 (by decide) (by omega) (by omega) (fun h8 => ?_) (fun h8 => ?_)
        · obtain rfl : i = 1152 := by omega
          refine go_iload_n C dX7_effectChunks_39 rfl ?_
          refine go_iret hr dX7_effectChunks_40 rfl ?_
          exact ⟨rfl, hR⟩
        · refine go_iload_n C dX7_effectChunks_11 rfl ?_
          refine go_aload_n C dX7_effectChunks_12 rfl ?_
          refine go_getR C gf_X7_22 dX7_effectChunks_13 (by decide) rfl rfl ?_
          refine go_iload_n C dX7_effectChunks_16 rfl ?_
          refine go_zaldN C dX7_effectChunks_17 (by decide) rfl (by decide) (by omega) ?_
          refine go_top _ (hEf _ (by omega)) ?_
          refine go_if_eqB C 30 dX7_effectChunks_18 (by decide) (fun h18 => ?_) (fun h18 => ?_)
          · have e2 : effCh (sE S) (i + 1) = effCh (sE S) i ||| nI 0 := by rw [effCh, pI_f h18]; exact (Int32.or_zero).symm
            refine go_iconst C (nI 0) dX7_effectChunks_30 rfl ?_
            refine go_ior C dX7_effectChunks_31 ?_
            refine go_istore_n C dX7_effectChunks_32 (by decide) rfl rfl ?_
            refine go_iincN C 1 dX7_effectChunks_33 rfl rfl (by decide) rfl rfl ?_
            refine go_goto C 4 dX7_effectChunks_36 (by decide) ?_
            have q := ih (n - 1) (by omega) (i + 1) (by omega)
            rw [e2] at q
            exact q
          · have e2 : effCh (sE S) (i + 1) = effCh (sE S) i ||| (nI 1 <<< (nI (chk i) &&& 31)) := by rw [effCh, pI_t h18]
            refine go_iconst C (nI 1) dX7_effectChunks_21 rfl ?_
            refine go_iload_n C dX7_effectChunks_22 rfl ?_
            refine go_S1P C ok_X7_chunkOf lk_X7_195 dX7_effectChunks_23 (k_X7_chunkOf (by omega)) (by decide) (Nat.le_of_ble_eq_true rfl) ?_
            refine go_ishl C dX7_effectChunks_26 ?_
            refine go_goto C 31 dX7_effectChunks_27 (by decide) ?_
            refine go_ior C dX7_effectChunks_31 ?_
            refine go_istore_n C dX7_effectChunks_32 (by decide) rfl rfl ?_
            refine go_iincN C 1 dX7_effectChunks_33 rfl rfl (by decide) rfl rfl ?_
            refine go_goto C 4 dX7_effectChunks_36 (by decide) ?_
            have q := ih (n - 1) (by omega) (i + 1) (by omega)
            rw [e2] at q
            exact q
    refine go_iconst C (nI 0) dX7_effectChunks_0 rfl ?_
    refine go_istore_n C dX7_effectChunks_1 (by decide) rfl rfl ?_
    refine go_iconst C (nI 0) dX7_effectChunks_2 rfl ?_
    refine go_istore_n C dX7_effectChunks_3 (by decide) rfl rfl ?_
    exact L 1152 0 (by omega)
set_option maxHeartbeats 4000000 in
set_option maxRecDepth 100000 in
theorem k_X7_chunkSum {σ : Mem} {S : St} (hR : RepM σ S) (qc c : Int32) : CtI objM NM yX7_chunkSum cX7_chunkSum 5 .int 2 40 [.ref 0, .int qc, .int c] σ (RQM (aChunk S qc c) S) := by
  obtain ⟨hS, hM, hL, hEf, hB, hH, hSv, hX, hFt, hoc⟩ := id hR
  have hO := hS.1
  have hOL := hS.2.1
  have hV := hR.V
  have hT : ∀ j, j < 1152 → σ 1 j = nI (wT (sW S) j) := fun j hj => by have := hM.1 j hj; rw [Nat.zero_add] at this; exact this
  have hLs := hV.2.2.2.1
  have hEm := hV.2.2.2.2.1
  refine ct_ofI rfl ?_ (Nat.le_of_ble_eq_true rfl) (fun X C hr => ?_)
  · intro v hv; simp only [List.mem_cons, List.not_mem_nil, or_false] at hv; rcases hv with rfl | rfl | rfl <;> rfl
  · refine go_iload_n C dX7_chunkSum_0 rfl ?_
    refine go_iconst C (nI 0) dX7_chunkSum_1 rfl ?_
    refine go_bipush C (nI 8) dX7_chunkSum_2 rfl ?_
    refine go_S3P C ok_X7_in lk_X7_57 dX7_chunkSum_4 (k_X7_in (by decide) _) (by decide) (Nat.le_of_ble_eq_true rfl) ?_
    refine go_if_eqB C 19 dX7_chunkSum_7 (by decide) (fun h7 => ?_) (fun h7 => ?_)
    · refine go_iconst C (-1) dX7_chunkSum_19 rfl ?_
      refine go_iret hr dX7_chunkSum_20 rfl ?_
      exact ⟨(pI_f (fun z => by first | exact h7 z.1 | exact h16 z.2)).symm, hR⟩
    · refine go_iload_n C dX7_chunkSum_10 rfl ?_
      refine go_iconst C (nI 0) dX7_chunkSum_11 rfl ?_
      refine go_iconst C (nI 3) dX7_chunkSum_12 rfl ?_
      refine go_S3P C ok_X7_in lk_X7_57 dX7_chunkSum_13 (k_X7_in (by decide) _) (by decide) (Nat.le_of_ble_eq_true rfl) ?_
      refine go_if_neB C 21 dX7_chunkSum_16 (by decide) (fun h16 => ?_) (fun h16 => ?_)
      · obtain ⟨qn, hqn, rfl⟩ := rng_nat (by decide) (id h7)
        obtain ⟨cn, hc, rfl⟩ := rng_nat (by decide) (id h16)
        have L : ∀ (n : Nat) (i : Nat), (i + n = 1152) → Go objM NM X 26 [some (.ref 0), some (.int (nI qn)), some (.int (nI cn)), some (.int (nI (csum (sW S) cn qn i))), some (.int (nI i))] [] σ := by
          intro n
          induction n using Nat.strongRecOn with
          | _ n ih =>
            intro i hi
            refine go_iload C dX7_chunkSum_26 rfl ?_
            refine go_sipush C (nI 1152) dX7_chunkSum_28 rfl ?_
            refine go_icmp_geN C 63 dX7_chunkSum_31 (by decide) (by omega) (by omega) (fun h31 => ?_) (fun h31 => ?_)
            · obtain rfl : i = 1152 := by omega
              refine go_iload_n C dX7_chunkSum_63 rfl ?_
              refine go_iret hr dX7_chunkSum_64 rfl ?_
              exact ⟨by unfold aChunk; rw [pI_t ⟨h7, h16⟩, nI_clamp (by omega), nI_clamp (by omega)], hR⟩
            · refine go_iload_n C dX7_chunkSum_34 rfl ?_
              refine go_iload C dX7_chunkSum_35 rfl ?_
              refine go_S1P C ok_X7_chunkOf lk_X7_195 dX7_chunkSum_37 (k_X7_chunkOf (by omega)) (by decide) (Nat.le_of_ble_eq_true rfl) ?_
              refine go_iload_n C dX7_chunkSum_40 rfl ?_
              have hch : chk i < 9 := by unfold chk; have := cX_lt i; have := cZ_lt (show i < 1152 by omega); omega
              refine go_icmp_neN C 54 dX7_chunkSum_41 (by decide) (by omega) (by omega) (fun h41 => ?_) (fun h41 => ?_)
              · have e2 : csum (sW S) cn qn (i + 1) = csum (sW S) cn qn i + 0 := by rw [csum, if_neg h41]
                refine go_iconst C (nI 0) dX7_chunkSum_54 rfl ?_
                refine go_iaddN C dX7_chunkSum_55 ?_
                refine go_istore_n C dX7_chunkSum_56 (by decide) rfl rfl ?_
                refine go_iincN C 1 dX7_chunkSum_57 rfl rfl (by decide) rfl rfl ?_
                refine go_goto C 26 dX7_chunkSum_60 (by decide) ?_
                have q := ih (n - 1) (by omega) (i + 1) (by omega)
                rw [e2] at q
                exact q
              · have e2 : csum (sW S) cn qn (i + 1) = csum (sW S) cn qn i + lit (sW S) cn i := by rw [csum, if_pos h41]
                refine go_aload_n C dX7_chunkSum_44 rfl ?_
                refine go_iload C dX7_chunkSum_45 rfl ?_
                refine go_iload_n C dX7_chunkSum_47 rfl ?_
                refine go_V2P C ok_X7_lightOf lk_X7_177 dX7_chunkSum_48 (by decide) rfl rfl rfl (k_X7_lightOf hL (show i < 1152 by omega) hc) (by decide) (Nat.le_of_ble_eq_true rfl) ?_
                refine go_goto C 55 dX7_chunkSum_51 (by decide) ?_
                refine go_iaddN C dX7_chunkSum_55 ?_
                refine go_istore_n C dX7_chunkSum_56 (by decide) rfl rfl ?_
                refine go_iincN C 1 dX7_chunkSum_57 rfl rfl (by decide) rfl rfl ?_
                refine go_goto C 26 dX7_chunkSum_60 (by decide) ?_
                have q := ih (n - 1) (by omega) (i + 1) (by omega)
                rw [e2] at q
                exact q
        refine go_iconst C (nI 0) dX7_chunkSum_21 rfl ?_
        refine go_istore_n C dX7_chunkSum_22 (by decide) rfl rfl ?_
        refine go_iconst C (nI 0) dX7_chunkSum_23 rfl ?_
        refine go_istore C dX7_chunkSum_24 (by decide) rfl rfl ?_
        exact L 1152 0 (by omega)
      · refine go_iconst C (-1) dX7_chunkSum_19 rfl ?_
        refine go_iret hr dX7_chunkSum_20 rfl ?_
        exact ⟨(pI_f (fun z => by first | exact h7 z.1 | exact h16 z.2)).symm, hR⟩
set_option maxHeartbeats 4000000 in
set_option maxRecDepth 100000 in
theorem k_X7_dark {σ : Mem} {S : St} (hR : RepM σ S) (lv : Int32) : CtI objM NM yX7_dark cX7_dark 6 .int 1 22 [.ref 0, .int lv] σ (RQM (aDark S lv) S) := by
  obtain ⟨hS, hM, hL, hEf, hB, hH, hSv, hX, hFt, hoc⟩ := id hR
  have hO := hS.1
  have hOL := hS.2.1
  have hV := hR.V
  have hT : ∀ j, j < 1152 → σ 1 j = nI (wT (sW S) j) := fun j hj => by have := hM.1 j hj; rw [Nat.zero_add] at this; exact this
  have hLs := hV.2.2.2.1
  have hEm := hV.2.2.2.2.1
  refine ct_ofI rfl ?_ (Nat.le_of_ble_eq_true rfl) (fun X C hr => ?_)
  · intro v hv; simp only [List.mem_cons, List.not_mem_nil, or_false] at hv; rcases hv with rfl | rfl <;> rfl
  · refine go_iload_n C dX7_dark_0 rfl ?_
    refine go_iconst C (nI 0) dX7_dark_1 rfl ?_
    refine go_bipush C (nI 15) dX7_dark_2 rfl ?_
    refine go_S3P C ok_X7_in lk_X7_57 dX7_dark_4 (k_X7_in (by decide) _) (by decide) (Nat.le_of_ble_eq_true rfl) ?_
    refine go_if_neB C 13 dX7_dark_7 (by decide) (fun h7 => ?_) (fun h7 => ?_)
    · obtain ⟨l, hl, rfl⟩ := rng_nat (by decide) (id h7)
      have L : ∀ (n : Nat) (i : Nat) (v4 : Option Value) (v5 : Option Value), (i + n = 1152) → Go objM NM X 17 [some (.ref 0), some (.int (nI l)), some (.int (nI (cnt (dkP (sW S) l) i))), some (.int (nI i)), v4, v5] [] σ := by
        intro n
        induction n using Nat.strongRecOn with
        | _ n ih =>
          intro i v4 v5 hi
          refine go_iload_n C dX7_dark_17 rfl ?_
          refine go_sipush C (nI 1152) dX7_dark_18 rfl ?_
          refine go_icmp_geN C 82 dX7_dark_21 (by decide) (by omega) (by omega) (fun h21 => ?_) (fun h21 => ?_)
          · obtain rfl : i = 1152 := by omega
            refine go_iload_n C dX7_dark_82 rfl ?_
            refine go_iret hr dX7_dark_83 rfl ?_
            exact ⟨by unfold aDark; rw [pI_t h7, nI_clamp (by omega)], hR⟩
          · have hk : i < 1152 := by omega
            have L2 : ∀ (n2 : Nat) (c : Nat), (c + n2 = 4) → Go objM NM X 30 [some (.ref 0), some (.int (nI l)), some (.int (nI (cnt (dkP (sW S) l) i))), some (.int (nI i)), some (.int (bP (∀ c2, c2 < c → lit (sW S) c2 i ≤ l))), some (.int (nI c))] [] σ := by
              intro n2
              induction n2 using Nat.strongRecOn with
              | _ n2 ih2 =>
                intro c hc5
                refine go_iload C dX7_dark_30 rfl ?_
                refine go_iconst C (nI 4) dX7_dark_32 rfl ?_
                refine go_icmp_geN C 63 dX7_dark_33 (by decide) (by omega) (by omega) (fun h33 => ?_) (fun h33 => ?_)
                · obtain rfl : c = 4 := by omega
                  have hdk : dkP (sW S) l i ↔ ∀ c2, c2 < 4 → lit (sW S) c2 i ≤ l := ⟨fun z c2 hc2 => by
                    obtain ⟨z1, z2, z3, z4⟩ := z
                    rcases (show c2 = 0 ∨ c2 = 1 ∨ c2 = 2 ∨ c2 = 3 by omega) with rfl | rfl | rfl | rfl <;> assumption, fun z => ⟨z 0 (by decide), z 1 (by decide), z 2 (by decide), z 3 (by decide)⟩⟩
                  refine go_iload_n C dX7_dark_63 rfl ?_
                  refine go_iload C dX7_dark_64 rfl ?_
                  refine go_if_eqB C 73 dX7_dark_66 (by decide) (fun h66 => ?_) (fun h66 => ?_)
                  · have e2 : cnt (dkP (sW S) l) (i + 1) = cnt (dkP (sW S) l) i + 0 := cnt_0 (fun z => h66 (hdk.mp z))
                    refine go_iconst C (nI 0) dX7_dark_73 rfl ?_
                    refine go_iaddN C dX7_dark_74 ?_
                    refine go_istore_n C dX7_dark_75 (by decide) rfl rfl ?_
                    refine go_iincN C 1 dX7_dark_76 rfl rfl (by decide) rfl rfl ?_
                    refine go_goto C 17 dX7_dark_79 (by decide) ?_
                    have q := fun u v => ih (n - 1) (by omega) (i + 1) u v (by omega)
                    rw [e2] at q
                    exact q _ _
                  · have e2 : cnt (dkP (sW S) l) (i + 1) = cnt (dkP (sW S) l) i + 1 := cnt_1 (hdk.mpr h66)
                    refine go_iconst C (nI 1) dX7_dark_69 rfl ?_
                    refine go_goto C 74 dX7_dark_70 (by decide) ?_
                    refine go_iaddN C dX7_dark_74 ?_
                    refine go_istore_n C dX7_dark_75 (by decide) rfl rfl ?_
                    refine go_iincN C 1 dX7_dark_76 rfl rfl (by decide) rfl rfl ?_
                    refine go_goto C 17 dX7_dark_79 (by decide) ?_
                    have q := fun u v => ih (n - 1) (by omega) (i + 1) u v (by omega)
                    rw [e2] at q
                    exact q _ _
                · have hl := lit_lt hOL (show c < 4 by omega) hk
                  refine go_iload C dX7_dark_36 rfl ?_
                  refine go_aload_n C dX7_dark_38 rfl ?_
                  refine go_iload_n C dX7_dark_39 rfl ?_
                  refine go_iload C dX7_dark_40 rfl ?_
                  refine go_V2P C ok_X7_lightOf lk_X7_177 dX7_dark_42 (by decide) rfl rfl rfl (k_X7_lightOf hL hk (show c < 4 by omega)) (by decide) (Nat.le_of_ble_eq_true rfl) ?_
                  refine go_iload_n C dX7_dark_45 rfl ?_
                  refine go_icmp_gtN C 53 dX7_dark_46 (by decide) (by omega) (by omega) (fun h46 => ?_) (fun h46 => ?_)
                  · have e3 : bP (∀ c2, c2 < c → lit (sW S) c2 i ≤ l) &&& nI 0 = bP (∀ c2, c2 < c + 1 → lit (sW S) c2 i ≤ l) := by rw [bP_a0]; exact bP_f (fun z => by have := z c (by omega); omega)
                    refine go_iconst C (nI 0) dX7_dark_53 rfl ?_
                    refine go_iand C dX7_dark_54 ?_
                    rw [e3]
                    refine go_istore C dX7_dark_55 (by decide) rfl rfl ?_
                    refine go_iincN C 1 dX7_dark_57 rfl rfl (by decide) rfl rfl ?_
                    refine go_goto C 30 dX7_dark_60 (by decide) ?_
                    exact ih2 (n2 - 1) (by omega) (c + 1) (by omega)
                  · have e3 : bP (∀ c2, c2 < c → lit (sW S) c2 i ≤ l) &&& nI 1 = bP (∀ c2, c2 < c + 1 → lit (sW S) c2 i ≤ l) := by rw [bP_a1]; exact bP_c ⟨fun z c2 h => by
                      rcases Nat.lt_or_ge c2 c with q | q
                      · exact z c2 q
                      · rw [show c2 = c by omega]; exact h46, fun z c2 h => z c2 (by omega)⟩
                    refine go_iconst C (nI 1) dX7_dark_49 rfl ?_
                    refine go_goto C 54 dX7_dark_50 (by decide) ?_
                    refine go_iand C dX7_dark_54 ?_
                    rw [e3]
                    refine go_istore C dX7_dark_55 (by decide) rfl rfl ?_
                    refine go_iincN C 1 dX7_dark_57 rfl rfl (by decide) rfl rfl ?_
                    refine go_goto C 30 dX7_dark_60 (by decide) ?_
                    exact ih2 (n2 - 1) (by omega) (c + 1) (by omega)
            refine go_iconst C (nI 1) dX7_dark_24 rfl ?_
            refine go_istore C dX7_dark_25 (by decide) rfl rfl ?_
            refine go_iconst C (nI 0) dX7_dark_27 rfl ?_
            refine go_istore C dX7_dark_28 (by decide) rfl rfl ?_
            have q := L2 4 0 (by omega)
            rw [← bP_t (fun c2 h => absurd h (Nat.not_lt_zero _))] at q
            exact q
      refine go_iconst C (nI 0) dX7_dark_13 rfl ?_
      refine go_istore_n C dX7_dark_14 (by decide) rfl rfl ?_
      refine go_iconst C (nI 0) dX7_dark_15 rfl ?_
      refine go_istore_n C dX7_dark_16 (by decide) rfl rfl ?_
      exact L 1152 0 _ _ (by omega)
    · refine go_bipush C (-2) dX7_dark_10 rfl ?_
      refine go_iret hr dX7_dark_12 rfl ?_
      exact ⟨(pI_f h7).symm, hR⟩
