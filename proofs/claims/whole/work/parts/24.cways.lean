set_option maxHeartbeats 4000000 in
set_option maxRecDepth 100000 in
theorem k_X6_origin {σ : Mem} {S : St} (hR : RepC σ S) (x y z c : Int32) : CtI objC NC yX6_origin cX6_origin 5 .int 3 67 [.ref 0, .int x, .int y, .int z, .int c] σ (RQ (aOrigin S x y z c) S) := by
  obtain ⟨hS, hW, hL, hEf, hB, hH, hSv, hX, hFt⟩ := id hR
  have hO := hS.1
  have hOL := hS.2.1
  refine ct_ofI rfl ?_ (Nat.le_of_ble_eq_true rfl) (fun X C hr => ?_)
  · intro v hv; simp only [List.mem_cons, List.not_mem_nil, or_false] at hv; rcases hv with rfl | rfl | rfl | rfl | rfl <;> rfl
  · refine go_iload_n C dX6_origin_0 rfl ?_
    refine go_iload_n C dX6_origin_1 rfl ?_
    refine go_iload_n C dX6_origin_2 rfl ?_
    refine go_S3P C ok_X2_has lk_X6_74 dX6_origin_3 (k_X2_has _ _ _) (by decide) (Nat.le_of_ble_eq_true rfl) ?_
    refine go_if_eqB C 17 dX6_origin_6 (by decide) (fun h6 => ?_) (fun h6 => ?_)
    · refine go_iconst C (-1) dX6_origin_17 rfl ?_
      refine go_iret hr dX6_origin_18 rfl ?_
      first | exact ⟨(pI_f (fun q => by first | exact h6 q.1 | exact h14 q.2)).symm, hR⟩ | exact ⟨by unfold aOrigin; rw [pI_t ⟨h6, h14⟩, nI_clamp (by omega), ixC_nI ha hb hcz], hR⟩
    · refine go_iload C dX6_origin_9 rfl ?_
      refine go_S1P C ok_X6_isChannel lk_X6_119 dX6_origin_11 (k_X6_isChannel _) (by decide) (Nat.le_of_ble_eq_true rfl) ?_
      refine go_if_neB C 19 dX6_origin_14 (by decide) (fun h14 => ?_) (fun h14 => ?_)
      · obtain ⟨r1, r2, r3⟩ := id h6
        obtain ⟨a, ha, rfl⟩ := rng_nat (by decide) r1
        obtain ⟨b, hb, rfl⟩ := rng_nat (by decide) r2
        obtain ⟨cz, hcz, rfl⟩ := rng_nat (by decide) r3
        have hk := cel_lt ha hb hcz
        obtain ⟨cn, hc, rfl⟩ := rng_nat (by decide) (id h14)
        refine go_aload_n C dX6_origin_19 rfl ?_
        refine go_iload_n C dX6_origin_20 rfl ?_
        refine go_iload_n C dX6_origin_21 rfl ?_
        refine go_iload_n C dX6_origin_22 rfl ?_
        refine go_S3P C ok_X2_cell lk_X6_84 dX6_origin_23 k_X2_cell (by decide) (Nat.le_of_ble_eq_true rfl) ?_
        refine go_iload C dX6_origin_26 rfl ?_
        refine go_V2P C ok_X6_originOf lk_X6_160 dX6_origin_28 (by decide) rfl rfl rfl (k_X6_originOf hR hk hc) (by decide) (Nat.le_of_ble_eq_true rfl) ?_
        refine go_iret hr dX6_origin_31 rfl ?_
        first | exact ⟨(pI_f (fun q => by first | exact h6 q.1 | exact h14 q.2)).symm, hR⟩ | exact ⟨by unfold aOrigin; rw [pI_t ⟨h6, h14⟩, nI_clamp (by omega), ixC_nI ha hb hcz], hR⟩
      · refine go_iconst C (-1) dX6_origin_17 rfl ?_
        refine go_iret hr dX6_origin_18 rfl ?_
        first | exact ⟨(pI_f (fun q => by first | exact h6 q.1 | exact h14 q.2)).symm, hR⟩ | exact ⟨by unfold aOrigin; rw [pI_t ⟨h6, h14⟩, nI_clamp (by omega), ixC_nI ha hb hcz], hR⟩
set_option maxHeartbeats 4000000 in
set_option maxRecDepth 100000 in
theorem k_X6_giverOf {σ : Mem} {S : St} (hR : RepC σ S) {k c : Nat} (hk : k < 1152) (hc : c < 4) : CtI objC NC yX6_giverOf cX6_giverOf 4 .int 3 67 [.ref 0, .int (nI k), .int (nI c)] σ (Pv (oI (giver (sW S) c k)) σ) := by
  obtain ⟨hS, hW, hL, hEf, hB, hH, hSv, hX, hFt⟩ := id hR
  have hO := hS.1
  have hOL := hS.2.1
  refine ct_ofI rfl ?_ (Nat.le_of_ble_eq_true rfl) (fun X C hr => ?_)
  · intro v hv; simp only [List.mem_cons, List.not_mem_nil, or_false] at hv; rcases hv with rfl | rfl | rfl <;> rfl
  · by_cases h0 : lit (sW S) c k = 0
    · have e : orgI (sW S) c k = -4 := by unfold orgI; rw [if_pos h0]
      refine go_aload_n C dX6_giverOf_0 rfl ?_
      refine go_iload_n C dX6_giverOf_1 rfl ?_
      refine go_iload_n C dX6_giverOf_2 rfl ?_
      refine go_V2P C ok_X6_originOf lk_X6_160 dX6_giverOf_3 (by decide) rfl rfl rfl (k_X6_originOf hR hk hc) (by decide) (Nat.le_of_ble_eq_true rfl) ?_
      rw [e]
      refine go_istore_n C dX6_giverOf_6 (by decide) rfl rfl ?_
      refine go_iload_n C dX6_giverOf_7 rfl ?_
      refine go_bipush C (nI 8) dX6_giverOf_8 rfl ?_
      refine go_icmp_ne C 19 dX6_giverOf_10 (by decide) (fun h10 => ?_) (fun h10 => ?_)
      · refine go_iload_n C dX6_giverOf_19 rfl ?_
        refine go_if_lt C 37 dX6_giverOf_20 (by decide) (fun h20 => ?_) (fun h20 => ?_)
        · refine go_iconst C (-1) dX6_giverOf_37 rfl ?_
          refine go_iret hr dX6_giverOf_38 rfl ?_
          exact ⟨by unfold giver; rw [if_pos h0]; rfl, rfl⟩
        · exact absurd (show (-4 : Int32) < 0 by decide) h20
      · exact absurd h10 (by decide)
    · have e : orgI (sW S) c k = nI (org (sW S) c k) := by unfold orgI; rw [if_neg h0]
      obtain ⟨g9, -, -⟩ := org_lt hOL hc hk (by omega)
      refine go_aload_n C dX6_giverOf_0 rfl ?_
      refine go_iload_n C dX6_giverOf_1 rfl ?_
      refine go_iload_n C dX6_giverOf_2 rfl ?_
      refine go_V2P C ok_X6_originOf lk_X6_160 dX6_giverOf_3 (by decide) rfl rfl rfl (k_X6_originOf hR hk hc) (by decide) (Nat.le_of_ble_eq_true rfl) ?_
      rw [e]
      refine go_istore_n C dX6_giverOf_6 (by decide) rfl rfl ?_
      refine go_iload_n C dX6_giverOf_7 rfl ?_
      refine go_bipush C (nI 8) dX6_giverOf_8 rfl ?_
      refine go_icmp_neN C 19 dX6_giverOf_10 (by decide) (by omega) (by omega) (fun h10 => ?_) (fun h10 => ?_)
      · refine go_iload_n C dX6_giverOf_19 rfl ?_
        refine go_if_ltN C 37 dX6_giverOf_20 (by decide) (by omega) (fun h20 => ?_) (fun h20 => ?_)
        · exact absurd h20 (by omega)
        · refine go_iload_n C dX6_giverOf_23 rfl ?_
          refine go_bipush C (nI 6) dX6_giverOf_24 rfl ?_
          refine go_icmp_geN C 37 dX6_giverOf_26 (by decide) (by omega) (by omega) (fun h26 => ?_) (fun h26 => ?_)
          · refine go_iconst C (-1) dX6_giverOf_37 rfl ?_
            refine go_iret hr dX6_giverOf_38 rfl ?_
            first | exact ⟨by unfold giver; rw [if_neg h0, if_pos h10], rfl⟩ | exact ⟨by unfold giver; rw [if_neg h0, if_neg h10, if_pos (by omega)], rfl⟩ | exact ⟨by unfold giver; rw [if_neg h0, if_neg h10, if_neg (by omega)]; rfl, rfl⟩
          · refine go_iload_n C dX6_giverOf_29 rfl ?_
            refine go_iload_n C dX6_giverOf_30 rfl ?_
            refine go_S2P C ok_X2_neighbor lk_X6_185 dX6_giverOf_31 (k_X2_neighbor hk (by omega)) (by decide) (Nat.le_of_ble_eq_true rfl) ?_
            refine go_goto C 38 dX6_giverOf_34 (by decide) ?_
            refine go_iret hr dX6_giverOf_38 rfl ?_
            first | exact ⟨by unfold giver; rw [if_neg h0, if_pos h10], rfl⟩ | exact ⟨by unfold giver; rw [if_neg h0, if_neg h10, if_pos (by omega)], rfl⟩ | exact ⟨by unfold giver; rw [if_neg h0, if_neg h10, if_neg (by omega)]; rfl, rfl⟩
      · refine go_iload_n C dX6_giverOf_13 rfl ?_
        refine go_iconst C (nI 3) dX6_giverOf_14 rfl ?_
        refine go_S2P C ok_X2_neighbor lk_X6_185 dX6_giverOf_15 (k_X2_neighbor hk (by decide)) (by decide) (Nat.le_of_ble_eq_true rfl) ?_
        refine go_iret hr dX6_giverOf_18 rfl ?_
        first | exact ⟨by unfold giver; rw [if_neg h0, if_pos h10], rfl⟩ | exact ⟨by unfold giver; rw [if_neg h0, if_neg h10, if_pos (by omega)], rfl⟩ | exact ⟨by unfold giver; rw [if_neg h0, if_neg h10, if_neg (by omega)]; rfl, rfl⟩
set_option maxHeartbeats 4000000 in
set_option maxRecDepth 100000 in
theorem k_X6_wayLength {σ : Mem} {S : St} (hR : RepC σ S) (x y z c : Int32) : CtI objC NC yX6_wayLength cX6_wayLength 8 .int 4 90 [.ref 0, .int x, .int y, .int z, .int c] σ (RQ (aWayL S x y z c) S) := by
  obtain ⟨hS, hW, hL, hEf, hB, hH, hSv, hX, hFt⟩ := id hR
  have hO := hS.1
  have hOL := hS.2.1
  refine ct_ofI rfl ?_ (Nat.le_of_ble_eq_true rfl) (fun X C hr => ?_)
  · intro v hv; simp only [List.mem_cons, List.not_mem_nil, or_false] at hv; rcases hv with rfl | rfl | rfl | rfl | rfl <;> rfl
  · refine go_iload_n C dX6_wayLength_0 rfl ?_
    refine go_iload_n C dX6_wayLength_1 rfl ?_
    refine go_iload_n C dX6_wayLength_2 rfl ?_
    refine go_S3P C ok_X2_has lk_X6_74 dX6_wayLength_3 (k_X2_has _ _ _) (by decide) (Nat.le_of_ble_eq_true rfl) ?_
    refine go_if_eqB C 17 dX6_wayLength_6 (by decide) (fun h6 => ?_) (fun h6 => ?_)
    · refine go_iconst C (-1) dX6_wayLength_17 rfl ?_
      refine go_iret hr dX6_wayLength_18 rfl ?_
      first | exact ⟨(pI_f (fun q => by first | exact h6 q.1 | exact h14 q.2)).symm, hR⟩ | exact ⟨by unfold aWayL; rw [pI_t ⟨h6, h14⟩, nI_clamp (by omega), ixC_nI ha hb hcz, if_pos h37], hR⟩
    · refine go_iload C dX6_wayLength_9 rfl ?_
      refine go_S1P C ok_X6_isChannel lk_X6_119 dX6_wayLength_11 (k_X6_isChannel _) (by decide) (Nat.le_of_ble_eq_true rfl) ?_
      refine go_if_neB C 19 dX6_wayLength_14 (by decide) (fun h14 => ?_) (fun h14 => ?_)
      · obtain ⟨r1, r2, r3⟩ := id h6
        obtain ⟨a, ha, rfl⟩ := rng_nat (by decide) r1
        obtain ⟨b, hb, rfl⟩ := rng_nat (by decide) r2
        obtain ⟨cz, hcz, rfl⟩ := rng_nat (by decide) r3
        have hk := cel_lt ha hb hcz
        obtain ⟨cn, hc, rfl⟩ := rng_nat (by decide) (id h14)
        have hlk := lit_lt hOL hc hk
        refine go_iload_n C dX6_wayLength_19 rfl ?_
        refine go_iload_n C dX6_wayLength_20 rfl ?_
        refine go_iload_n C dX6_wayLength_21 rfl ?_
        refine go_S3P C ok_X2_cell lk_X6_84 dX6_wayLength_22 k_X2_cell (by decide) (Nat.le_of_ble_eq_true rfl) ?_
        refine go_istore C dX6_wayLength_25 (by decide) rfl rfl ?_
        refine go_aload_n C dX6_wayLength_27 rfl ?_
        refine go_getR C gf_X6_18 dX6_wayLength_28 (by decide) rfl rfl ?_
        refine go_iload C dX6_wayLength_31 rfl ?_
        refine go_aald C dX6_wayLength_33 (by decide) rfl (Or.inl rfl) (by decide) (jsL hc) ?_
        refine go_iload C dX6_wayLength_34 rfl ?_
        refine go_ialdN C dX6_wayLength_36 (Nat.lt_of_lt_of_le (Nat.add_lt_add_left hc 6) (by decide)) (hoL hc) (by decide) (by omega) ?_
        refine go_top _ (hL cn hc _ hk) ?_
        refine go_if_neN C 43 dX6_wayLength_37 (by decide) (by omega) (fun h37 => ?_) (fun h37 => ?_)
        · have L : ∀ (n : Nat) (m : Nat) (cur : Nat), (m + n = 128 ∧ cur < 1152 ∧ mu (sW S) cn cur < n) → (m + wayS (sW S) cn n cur = wayS (sW S) cn 128 (cel a b cz)) → Go objC NC X 56 [some (.ref 0), some (.int (nI a)), some (.int (nI b)), some (.int (nI cz)), some (.int (nI cn)), some (.int (nI (cel a b cz))), some (.int (nI m)), some (.int (oI (giver (sW S) cn cur)))] [] σ := by
            intro n
            induction n using Nat.strongRecOn with
            | _ n ih =>
              intro m cur hm he
              obtain ⟨hm1, hcl, hmu⟩ := hm
              obtain ⟨n, rfl⟩ : ∃ n2, n = n2 + 1 := ⟨n - 1, by omega⟩
              refine go_iload C dX6_wayLength_56 rfl ?_
              refine go_iconst C (-1) dX6_wayLength_58 rfl ?_
              refine go_icmp_eqO C 86 dX6_wayLength_59 (by decide) (fun j hj => by have := (giver_ok hOL hc hcl hj).1; omega) (fun h59 => ?_) (fun h59 => ?_)
              · have e2 : wayS (sW S) cn (n + 1) cur = 0 := by unfold wayS; rw [h59]
                refine go_iload C dX6_wayLength_86 rfl ?_
                refine go_iret hr dX6_wayLength_88 rfl ?_
                first | exact ⟨(pI_f (fun q => by first | exact h6 q.1 | exact h14 q.2)).symm, hR⟩ | exact ⟨by unfold aWayL; rw [pI_t ⟨h6, h14⟩, nI_clamp (by omega), ixC_nI ha hb hcz, if_pos h37], hR⟩ | exact ⟨by unfold aWayL; rw [pI_t ⟨h6, h14⟩, nI_clamp (by omega), ixC_nI ha hb hcz, if_neg h37, ← he, e2, Nat.add_zero], hR⟩
              · obtain ⟨j, hj⟩ := h59
                obtain ⟨hjl, -, -, hmj⟩ := giver_ok hOL hc hcl hj
                have e2 : wayS (sW S) cn (n + 1) cur = wayS (sW S) cn n j + 1 := by rw [wayS, hj]
                rw [hj]
                dsimp only [oI]
                refine go_iload C dX6_wayLength_62 rfl ?_
                refine go_sipush C (nI 1152) dX6_wayLength_64 rfl ?_
                refine go_icmp_geN C 86 dX6_wayLength_67 (by decide) (by omega) (by omega) (fun h67 => ?_) (fun h67 => ?_)
                · exact absurd h67 (by omega)
                · refine go_iincN C 1 dX6_wayLength_70 rfl rfl (by decide) rfl rfl ?_
                  refine go_aload_n C dX6_wayLength_73 rfl ?_
                  refine go_iload C dX6_wayLength_74 rfl ?_
                  refine go_iload C dX6_wayLength_76 rfl ?_
                  refine go_V2P C ok_X6_giverOf lk_X6_163 dX6_wayLength_78 (by decide) rfl rfl rfl (k_X6_giverOf hR hjl hc) (by decide) (Nat.le_of_ble_eq_true rfl) ?_
                  refine go_istore C dX6_wayLength_81 (by decide) rfl rfl ?_
                  refine go_goto C 56 dX6_wayLength_83 (by decide) ?_
                  exact ih n (by omega) (m + 1) j ⟨by omega, hjl, by omega⟩ (by rw [← he, e2]; omega)
          refine go_iconst C (nI 0) dX6_wayLength_43 rfl ?_
          refine go_istore C dX6_wayLength_44 (by decide) rfl rfl ?_
          refine go_aload_n C dX6_wayLength_46 rfl ?_
          refine go_iload C dX6_wayLength_47 rfl ?_
          refine go_iload C dX6_wayLength_49 rfl ?_
          refine go_V2P C ok_X6_giverOf lk_X6_163 dX6_wayLength_51 (by decide) rfl rfl rfl (k_X6_giverOf hR hk hc) (by decide) (Nat.le_of_ble_eq_true rfl) ?_
          refine go_istore C dX6_wayLength_54 (by decide) rfl rfl ?_
          exact L 128 0 _ ⟨by decide, hk, mu_lt⟩ (Nat.zero_add _)
        · refine go_bipush C (-4) dX6_wayLength_40 rfl ?_
          refine go_iret hr dX6_wayLength_42 rfl ?_
          first | exact ⟨(pI_f (fun q => by first | exact h6 q.1 | exact h14 q.2)).symm, hR⟩ | exact ⟨by unfold aWayL; rw [pI_t ⟨h6, h14⟩, nI_clamp (by omega), ixC_nI ha hb hcz, if_pos h37], hR⟩
      · refine go_iconst C (-1) dX6_wayLength_17 rfl ?_
        refine go_iret hr dX6_wayLength_18 rfl ?_
        first | exact ⟨(pI_f (fun q => by first | exact h6 q.1 | exact h14 q.2)).symm, hR⟩ | exact ⟨by unfold aWayL; rw [pI_t ⟨h6, h14⟩, nI_clamp (by omega), ixC_nI ha hb hcz, if_pos h37], hR⟩
set_option maxHeartbeats 4000000 in
set_option maxRecDepth 100000 in
theorem k_X6_wayEnd {σ : Mem} {S : St} (hR : RepC σ S) (x y z c : Int32) : CtI objC NC yX6_wayEnd cX6_wayEnd 9 .int 4 90 [.ref 0, .int x, .int y, .int z, .int c] σ (RQ (aWayE S x y z c) S) := by
  obtain ⟨hS, hW, hL, hEf, hB, hH, hSv, hX, hFt⟩ := id hR
  have hO := hS.1
  have hOL := hS.2.1
  refine ct_ofI rfl ?_ (Nat.le_of_ble_eq_true rfl) (fun X C hr => ?_)
  · intro v hv; simp only [List.mem_cons, List.not_mem_nil, or_false] at hv; rcases hv with rfl | rfl | rfl | rfl | rfl <;> rfl
  · refine go_iload_n C dX6_wayEnd_0 rfl ?_
    refine go_iload_n C dX6_wayEnd_1 rfl ?_
    refine go_iload_n C dX6_wayEnd_2 rfl ?_
    refine go_S3P C ok_X2_has lk_X6_74 dX6_wayEnd_3 (k_X2_has _ _ _) (by decide) (Nat.le_of_ble_eq_true rfl) ?_
    refine go_if_eqB C 17 dX6_wayEnd_6 (by decide) (fun h6 => ?_) (fun h6 => ?_)
    · refine go_iconst C (-1) dX6_wayEnd_17 rfl ?_
      refine go_iret hr dX6_wayEnd_18 rfl ?_
      first | exact ⟨(pI_f (fun q => by first | exact h6 q.1 | exact h14 q.2)).symm, hR⟩ | exact ⟨by unfold aWayE; rw [pI_t ⟨h6, h14⟩, nI_clamp (by omega), ixC_nI ha hb hcz, if_pos h37], hR⟩
    · refine go_iload C dX6_wayEnd_9 rfl ?_
      refine go_S1P C ok_X6_isChannel lk_X6_119 dX6_wayEnd_11 (k_X6_isChannel _) (by decide) (Nat.le_of_ble_eq_true rfl) ?_
      refine go_if_neB C 19 dX6_wayEnd_14 (by decide) (fun h14 => ?_) (fun h14 => ?_)
      · obtain ⟨r1, r2, r3⟩ := id h6
        obtain ⟨a, ha, rfl⟩ := rng_nat (by decide) r1
        obtain ⟨b, hb, rfl⟩ := rng_nat (by decide) r2
        obtain ⟨cz, hcz, rfl⟩ := rng_nat (by decide) r3
        have hk := cel_lt ha hb hcz
        obtain ⟨cn, hc, rfl⟩ := rng_nat (by decide) (id h14)
        have hlk := lit_lt hOL hc hk
        refine go_iload_n C dX6_wayEnd_19 rfl ?_
        refine go_iload_n C dX6_wayEnd_20 rfl ?_
        refine go_iload_n C dX6_wayEnd_21 rfl ?_
        refine go_S3P C ok_X2_cell lk_X6_84 dX6_wayEnd_22 k_X2_cell (by decide) (Nat.le_of_ble_eq_true rfl) ?_
        refine go_istore C dX6_wayEnd_25 (by decide) rfl rfl ?_
        refine go_aload_n C dX6_wayEnd_27 rfl ?_
        refine go_getR C gf_X6_18 dX6_wayEnd_28 (by decide) rfl rfl ?_
        refine go_iload C dX6_wayEnd_31 rfl ?_
        refine go_aald C dX6_wayEnd_33 (by decide) rfl (Or.inl rfl) (by decide) (jsL hc) ?_
        refine go_iload C dX6_wayEnd_34 rfl ?_
        refine go_ialdN C dX6_wayEnd_36 (Nat.lt_of_lt_of_le (Nat.add_lt_add_left hc 6) (by decide)) (hoL hc) (by decide) (by omega) ?_
        refine go_top _ (hL cn hc _ hk) ?_
        refine go_if_neN C 43 dX6_wayEnd_37 (by decide) (by omega) (fun h37 => ?_) (fun h37 => ?_)
        · have L : ∀ (n : Nat) (m : Nat) (cur : Nat), (m + n = 128 ∧ cur < 1152 ∧ mu (sW S) cn cur < n) → (wayE (sW S) cn n cur = wayE (sW S) cn 128 (cel a b cz)) → Go objC NC X 60 [some (.ref 0), some (.int (nI a)), some (.int (nI b)), some (.int (nI cz)), some (.int (nI cn)), some (.int (nI (cel a b cz))), some (.int (nI cur)), some (.int (oI (giver (sW S) cn cur))), some (.int (nI m))] [] σ := by
            intro n
            induction n using Nat.strongRecOn with
            | _ n ih =>
              intro m cur hm he
              obtain ⟨hm1, hcl, hmu⟩ := hm
              obtain ⟨n, rfl⟩ : ∃ n2, n = n2 + 1 := ⟨n - 1, by omega⟩
              refine go_iload C dX6_wayEnd_60 rfl ?_
              refine go_iconst C (-1) dX6_wayEnd_62 rfl ?_
              refine go_icmp_eqO C 94 dX6_wayEnd_63 (by decide) (fun j hj => by have := (giver_ok hOL hc hcl hj).1; omega) (fun h63 => ?_) (fun h63 => ?_)
              · have e2 : wayE (sW S) cn (n + 1) cur = cur := by unfold wayE; rw [h63]
                refine go_iload C dX6_wayEnd_94 rfl ?_
                refine go_S1P C ok_X2_number lk_X6_166 dX6_wayEnd_96 (k_X2_number hcl) (by decide) (Nat.le_of_ble_eq_true rfl) ?_
                refine go_iret hr dX6_wayEnd_99 rfl ?_
                first | exact ⟨(pI_f (fun q => by first | exact h6 q.1 | exact h14 q.2)).symm, hR⟩ | exact ⟨by unfold aWayE; rw [pI_t ⟨h6, h14⟩, nI_clamp (by omega), ixC_nI ha hb hcz, if_pos h37], hR⟩ | exact ⟨by unfold aWayE; rw [pI_t ⟨h6, h14⟩, nI_clamp (by omega), ixC_nI ha hb hcz, if_neg h37, ← he, e2], hR⟩
              · obtain ⟨j, hj⟩ := h63
                obtain ⟨hjl, -, -, hmj⟩ := giver_ok hOL hc hcl hj
                have e2 : wayE (sW S) cn (n + 1) cur = wayE (sW S) cn n j := by rw [wayE, hj]
                rw [hj]
                dsimp only [oI]
                refine go_iload C dX6_wayEnd_66 rfl ?_
                refine go_sipush C (nI 1152) dX6_wayEnd_68 rfl ?_
                refine go_icmp_geN C 94 dX6_wayEnd_71 (by decide) (by omega) (by omega) (fun h71 => ?_) (fun h71 => ?_)
                · exact absurd h71 (by omega)
                · refine go_iload C dX6_wayEnd_74 rfl ?_
                  refine go_istore C dX6_wayEnd_76 (by decide) rfl rfl ?_
                  refine go_aload_n C dX6_wayEnd_78 rfl ?_
                  refine go_iload C dX6_wayEnd_79 rfl ?_
                  refine go_iload C dX6_wayEnd_81 rfl ?_
                  refine go_V2P C ok_X6_giverOf lk_X6_163 dX6_wayEnd_83 (by decide) rfl rfl rfl (k_X6_giverOf hR hjl hc) (by decide) (Nat.le_of_ble_eq_true rfl) ?_
                  refine go_istore C dX6_wayEnd_86 (by decide) rfl rfl ?_
                  refine go_iincN C 1 dX6_wayEnd_88 rfl rfl (by decide) rfl rfl ?_
                  refine go_goto C 60 dX6_wayEnd_91 (by decide) ?_
                  exact ih n (by omega) (m + 1) j ⟨by omega, hjl, by omega⟩ (by rw [← he, e2])
          refine go_iload C dX6_wayEnd_43 rfl ?_
          refine go_istore C dX6_wayEnd_45 (by decide) rfl rfl ?_
          refine go_aload_n C dX6_wayEnd_47 rfl ?_
          refine go_iload C dX6_wayEnd_48 rfl ?_
          refine go_iload C dX6_wayEnd_50 rfl ?_
          refine go_V2P C ok_X6_giverOf lk_X6_163 dX6_wayEnd_52 (by decide) rfl rfl rfl (k_X6_giverOf hR hk hc) (by decide) (Nat.le_of_ble_eq_true rfl) ?_
          refine go_istore C dX6_wayEnd_55 (by decide) rfl rfl ?_
          refine go_iconst C (nI 0) dX6_wayEnd_57 rfl ?_
          refine go_istore C dX6_wayEnd_58 (by decide) rfl rfl ?_
          exact L 128 0 _ ⟨by decide, hk, mu_lt⟩ rfl
        · refine go_bipush C (-4) dX6_wayEnd_40 rfl ?_
          refine go_iret hr dX6_wayEnd_42 rfl ?_
          first | exact ⟨(pI_f (fun q => by first | exact h6 q.1 | exact h14 q.2)).symm, hR⟩ | exact ⟨by unfold aWayE; rw [pI_t ⟨h6, h14⟩, nI_clamp (by omega), ixC_nI ha hb hcz, if_pos h37], hR⟩
      · refine go_iconst C (-1) dX6_wayEnd_17 rfl ?_
        refine go_iret hr dX6_wayEnd_18 rfl ?_
        first | exact ⟨(pI_f (fun q => by first | exact h6 q.1 | exact h14 q.2)).symm, hR⟩ | exact ⟨by unfold aWayE; rw [pI_t ⟨h6, h14⟩, nI_clamp (by omega), ixC_nI ha hb hcz, if_pos h37], hR⟩
set_option maxHeartbeats 4000000 in
set_option maxRecDepth 100000 in
theorem k_X6_crossings {σ : Mem} {S : St} (hR : RepC σ S) (qc oc c : Int32) : CtI objC NC yX6_crossings cX6_crossings 7 .int 4 90 [.ref 0, .int qc, .int oc, .int c] σ (RQ (aCross S qc oc c) S) := by
  obtain ⟨hS, hW, hL, hEf, hB, hH, hSv, hX, hFt⟩ := id hR
  have hO := hS.1
  have hOL := hS.2.1
  refine ct_ofI rfl ?_ (Nat.le_of_ble_eq_true rfl) (fun X C hr => ?_)
  · intro v hv; simp only [List.mem_cons, List.not_mem_nil, or_false] at hv; rcases hv with rfl | rfl | rfl | rfl <;> rfl
  · refine go_iload_n C dX6_crossings_0 rfl ?_
    refine go_S1P C ok_X6_isChunk lk_X6_179 dX6_crossings_1 (k_X6_isChunk _) (by decide) (Nat.le_of_ble_eq_true rfl) ?_
    refine go_if_eqB C 21 dX6_crossings_4 (by decide) (fun h4 => ?_) (fun h4 => ?_)
    · refine go_iconst C (-1) dX6_crossings_21 rfl ?_
      refine go_iret hr dX6_crossings_22 rfl ?_
      exact ⟨(pI_f (fun z => by first | exact h4 z.1 | exact h11 z.2.1 | exact h18 z.2.2)).symm, hR⟩
    · refine go_iload_n C dX6_crossings_7 rfl ?_
      refine go_S1P C ok_X6_isChunk lk_X6_179 dX6_crossings_8 (k_X6_isChunk _) (by decide) (Nat.le_of_ble_eq_true rfl) ?_
      refine go_if_eqB C 21 dX6_crossings_11 (by decide) (fun h11 => ?_) (fun h11 => ?_)
      · refine go_iconst C (-1) dX6_crossings_21 rfl ?_
        refine go_iret hr dX6_crossings_22 rfl ?_
        exact ⟨(pI_f (fun z => by first | exact h4 z.1 | exact h11 z.2.1 | exact h18 z.2.2)).symm, hR⟩
      · refine go_iload_n C dX6_crossings_14 rfl ?_
        refine go_S1P C ok_X6_isChannel lk_X6_119 dX6_crossings_15 (k_X6_isChannel _) (by decide) (Nat.le_of_ble_eq_true rfl) ?_
        refine go_if_neB C 23 dX6_crossings_18 (by decide) (fun h18 => ?_) (fun h18 => ?_)
        · refine go_iload_n C dX6_crossings_23 rfl ?_
          refine go_iload_n C dX6_crossings_24 rfl ?_
          refine go_icmp_ne C 31 dX6_crossings_25 (by decide) (fun h25 => ?_) (fun h25 => ?_)
          · have hqo := h25
            obtain ⟨qn, hqn, rfl⟩ := rng_nat (by decide) (id h4)
            obtain ⟨on, hon, rfl⟩ := rng_nat (by decide) (id h11)
            obtain ⟨cn, hc, rfl⟩ := rng_nat (by decide) (id h18)
            have L : ∀ (n : Nat) (i : Nat) (v6 : Option Value), (i + n = 1152) → Go objC NC X 37 [some (.ref 0), some (.int (nI qn)), some (.int (nI on)), some (.int (nI cn)), some (.int (nI (cnt (crP (sW S) cn qn on) i))), some (.int (nI i)), v6] [] σ := by
              intro n
              induction n using Nat.strongRecOn with
              | _ n ih =>
                intro i v6 hi
                refine go_iload C dX6_crossings_37 rfl ?_
                refine go_sipush C (nI 1152) dX6_crossings_39 rfl ?_
                refine go_icmp_geN C 87 dX6_crossings_42 (by decide) (by omega) (by omega) (fun h42 => ?_) (fun h42 => ?_)
                · obtain rfl : i = 1152 := by omega
                  refine go_iload C dX6_crossings_87 rfl ?_
                  refine go_iret hr dX6_crossings_89 rfl ?_
                  exact ⟨by unfold aCross; rw [pI_t ⟨h4, h11, h18⟩, pI_f hqo, nI_clamp (by omega), nI_clamp (by omega), nI_clamp (by omega)], hR⟩
                · have hk : i < 1152 := by omega
                  have hch : ∀ k, k < 1152 → chk k < 9 := fun k hk => by unfold chk; have := cX_lt k; have := cZ_lt hk; omega
                  have hch1 := hch i hk
                  refine go_iload C dX6_crossings_45 rfl ?_
                  refine go_S1P C ok_X2_chunk lk_X6_169 dX6_crossings_47 (k_X2_chunk (by omega)) (by decide) (Nat.le_of_ble_eq_true rfl) ?_
                  refine go_iload_n C dX6_crossings_50 rfl ?_
                  refine go_icmp_neN C 81 dX6_crossings_51 (by decide) (by omega) (by omega) (fun h51 => ?_) (fun h51 => ?_)
                  · have e2 : cnt (crP (sW S) cn qn on) (i + 1) = cnt (crP (sW S) cn qn on) i := cnt_0 (fun z => h51 z.1)
                    refine go_iincN C 1 dX6_crossings_81 rfl rfl (by decide) rfl rfl ?_
                    refine go_goto C 37 dX6_crossings_84 (by decide) ?_
                    have q := fun v => ih (n - 1) (by omega) (i + 1) v (by omega)
                    rw [e2] at q
                    exact q _
                  · refine go_aload_n C dX6_crossings_54 rfl ?_
                    refine go_iload C dX6_crossings_55 rfl ?_
                    refine go_iload_n C dX6_crossings_57 rfl ?_
                    refine go_V2P C ok_X6_giverOf lk_X6_163 dX6_crossings_58 (by decide) rfl rfl rfl (k_X6_giverOf hR hk hc) (by decide) (Nat.le_of_ble_eq_true rfl) ?_
                    refine go_istore C dX6_crossings_61 (by decide) rfl rfl ?_
                    refine go_iload C dX6_crossings_63 rfl ?_
                    refine go_iconst C (-1) dX6_crossings_65 rfl ?_
                    refine go_icmp_eqO C 81 dX6_crossings_66 (by decide) (fun j hj => by have := (giver_ok hOL hc hk hj).1; omega) (fun h66 => ?_) (fun h66 => ?_)
                    · have e2 : cnt (crP (sW S) cn qn on) (i + 1) = cnt (crP (sW S) cn qn on) i := cnt_0 (fun z => by obtain ⟨-, j, z1, -⟩ := z; rw [h66] at z1; cases z1)
                      refine go_iincN C 1 dX6_crossings_81 rfl rfl (by decide) rfl rfl ?_
                      refine go_goto C 37 dX6_crossings_84 (by decide) ?_
                      have q := fun v => ih (n - 1) (by omega) (i + 1) v (by omega)
                      rw [e2] at q
                      exact q _
                    · obtain ⟨j, hj⟩ := h66
                      have hjl := (giver_ok hOL hc hk hj).1
                      have hch2 := hch j hjl
                      rw [hj]
                      dsimp only [oI]
                      refine go_iload C dX6_crossings_69 rfl ?_
                      refine go_S1P C ok_X2_chunk lk_X6_169 dX6_crossings_71 (k_X2_chunk (by omega)) (by decide) (Nat.le_of_ble_eq_true rfl) ?_
                      refine go_iload_n C dX6_crossings_74 rfl ?_
                      refine go_icmp_neN C 81 dX6_crossings_75 (by decide) (by omega) (by omega) (fun h75 => ?_) (fun h75 => ?_)
                      · have e2 : cnt (crP (sW S) cn qn on) (i + 1) = cnt (crP (sW S) cn qn on) i := cnt_0 (fun z => by obtain ⟨-, j2, z1, z2⟩ := z; rw [hj] at z1; cases z1; exact h75 z2)
                        refine go_iincN C 1 dX6_crossings_81 rfl rfl (by decide) rfl rfl ?_
                        refine go_goto C 37 dX6_crossings_84 (by decide) ?_
                        have q := fun v => ih (n - 1) (by omega) (i + 1) v (by omega)
                        rw [e2] at q
                        exact q _
                      · have e2 : cnt (crP (sW S) cn qn on) (i + 1) = cnt (crP (sW S) cn qn on) i + 1 := cnt_1 ⟨h51, j, hj, h75⟩
                        refine go_iincN C 1 dX6_crossings_78 rfl rfl (by decide) rfl rfl ?_
                        refine go_iincN C 1 dX6_crossings_81 rfl rfl (by decide) rfl rfl ?_
                        refine go_goto C 37 dX6_crossings_84 (by decide) ?_
                        have q := fun v => ih (n - 1) (by omega) (i + 1) v (by omega)
                        rw [e2] at q
                        exact q _
            refine go_iconst C (nI 0) dX6_crossings_31 rfl ?_
            refine go_istore C dX6_crossings_32 (by decide) rfl rfl ?_
            refine go_iconst C (nI 0) dX6_crossings_34 rfl ?_
            refine go_istore C dX6_crossings_35 (by decide) rfl rfl ?_
            exact L 1152 0 _ (by omega)
          · refine go_bipush C (-2) dX6_crossings_28 rfl ?_
            refine go_iret hr dX6_crossings_30 rfl ?_
            exact ⟨by unfold aCross; rw [pI_t ⟨h4, h11, h18⟩, pI_t h25], hR⟩
        · refine go_iconst C (-1) dX6_crossings_21 rfl ?_
          refine go_iret hr dX6_crossings_22 rfl ?_
          exact ⟨(pI_f (fun z => by first | exact h4 z.1 | exact h11 z.2.1 | exact h18 z.2.2)).symm, hR⟩
