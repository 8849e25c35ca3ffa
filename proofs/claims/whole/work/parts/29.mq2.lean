theorem giver_no {w : Wd} {c k : Nat} (h : org w c k = 6 ∨ org w c k = 7) : giver w c k = none := by
  unfold giver
  split
  · rfl
  · rw [if_neg (by omega), if_neg (by omega)]
theorem giver_go {w : Wd} (hOL : OkL w) {c k : Nat} (hc : c < 4) (hk : k < 1152) (h0 : 0 < lit w c k) (h6 : org w c k ≠ 6) (h7 : org w c k ≠ 7) : ∃ j, giver w c k = some j ∧ (org w c k = 8 → nbr k 3 = some j) ∧ (org w c k ≠ 8 → org w c k < 6 ∧ nbr k (org w c k) = some j) := by
  obtain ⟨g1, g2, g3⟩ := org_lt hOL hc hk h0
  by_cases h8 : org w c k = 8
  · obtain ⟨a, b, -⟩ := g3 h8
    have hn : nbr k 3 = some (k + 12) := by show (if cY k < 7 then some (k + 12) else none) = _; rw [if_pos b]
    exact ⟨k + 12, by unfold giver; rw [if_neg (by omega), if_pos h8, hn], fun _ => hn, fun q => absurd h8 q⟩
  · have h5 : org w c k < 6 := by omega
    obtain ⟨j, q1, -⟩ := g2 h5
    exact ⟨j, by unfold giver; rw [if_neg (by omega), if_neg h8, if_pos h5, q1], fun q => absurd q h8, fun _ => ⟨h5, q1⟩⟩
theorem chk_up {k : Nat} (h : cY k < 7) : chk (k + 12) = chk k := by
  unfold cY at h
  unfold chk cX cZ
  rw [show (k + 12) / 96 = k / 96 by omega, show (k + 12) % 12 = k % 12 by omega]
set_option maxHeartbeats 4000000 in
set_option maxRecDepth 100000 in
theorem k_X7_skyHeight {σ : Mem} {S : St} (hR : RepM σ S) (x z : Int32) : CtI objM NM yX7_skyHeight cX7_skyHeight 4 .int 2 44 [.ref 0, .int x, .int z] σ (RQM (aSky S x z) S) := by
  obtain ⟨hS, hM, hL, hEf, hB, hH, hSv, hX, hFt, hoc⟩ := id hR
  have hO := hS.1
  have hOL := hS.2.1
  have hV := hR.V
  have hT : ∀ j, j < 1152 → σ 1 j = nI (wT (sW S) j) := fun j hj => by have := hM.1 j hj; rw [Nat.zero_add] at this; exact this
  have hLs := hV.2.2.2.1
  have hEm := hV.2.2.2.2.1
  refine ct_ofI rfl ?_ (Nat.le_of_ble_eq_true rfl) (fun X C hr => ?_)
  · intro v hv; simp only [List.mem_cons, List.not_mem_nil, or_false] at hv; rcases hv with rfl | rfl | rfl <;> rfl
  · refine go_iload_n C dX7_skyHeight_0 rfl ?_
    refine go_iconst C (nI 0) dX7_skyHeight_1 rfl ?_
    refine go_iload_n C dX7_skyHeight_2 rfl ?_
    refine go_S3P C ok_X7_isCell lk_X7_71 dX7_skyHeight_3 (k_X7_isCell _ _ _) (by decide) (Nat.le_of_ble_eq_true rfl) ?_
    refine go_if_neB C 11 dX7_skyHeight_6 (by decide) (fun h6 => ?_) (fun h6 => ?_)
    · obtain ⟨r1, r2, r3⟩ := id h6
      obtain ⟨a, ha, rfl⟩ := rng_nat (by decide) r1
      obtain ⟨cz, hcz, rfl⟩ := rng_nat (by decide) r3
      have hans : aSky S (nI a) (nI cz) = nI (skyF (sW S) a cz 8) := by unfold aSky; rw [pI_t h6, nI_clamp (by omega), nI_clamp (by omega)]
      have L : ∀ (n : Nat) (y : Nat), (y = n ∧ y ≤ 8) → (skyF (sW S) a cz y = skyF (sW S) a cz 8) → Go objM NM X 14 [some (.ref 0), some (.int (nI a)), some (.int (nI cz)), some (.int (nI y))] [] σ := by
        intro n
        induction n using Nat.strongRecOn with
        | _ n ih =>
          intro y hy he
          refine go_iload_n C dX7_skyHeight_14 rfl ?_
          refine go_if_leN C 42 dX7_skyHeight_15 (by decide) (by omega) (fun h15 => ?_) (fun h15 => ?_)
          · obtain rfl : y = 0 := by omega
            have e2 : skyF (sW S) a cz 0 = 0 := rfl
            refine go_iload_n C dX7_skyHeight_42 rfl ?_
            refine go_iret hr dX7_skyHeight_43 rfl ?_
            exact ⟨by rw [hans, ← he, e2], hR⟩
          · obtain ⟨y, rfl⟩ : ∃ y2, y = y2 + 1 := ⟨y - 1, by omega⟩
            have hk := cel_lt (b := y) ha (by omega) hcz
            have hl15 := lit_lt hOL (c := 3) (by decide) hk
            refine go_aload_n C dX7_skyHeight_18 rfl ?_
            refine go_iload_n C dX7_skyHeight_19 rfl ?_
            refine go_iload_n C dX7_skyHeight_20 rfl ?_
            refine go_iconst C (nI 1) dX7_skyHeight_21 rfl ?_
            refine go_isubN C dX7_skyHeight_22 (by omega) ?_
            rw [Nat.add_sub_cancel]
            refine go_iload_n C dX7_skyHeight_23 rfl ?_
            refine go_S3P C ok_X7_cell lk_X7_74 dX7_skyHeight_24 k_X7_cell (by decide) (Nat.le_of_ble_eq_true rfl) ?_
            refine go_iconst C (nI 3) dX7_skyHeight_27 rfl ?_
            refine go_V2P C ok_X7_lightOf lk_X7_177 dX7_skyHeight_28 (by decide) rfl rfl rfl (k_X7_lightOf hL hk (by decide)) (by decide) (Nat.le_of_ble_eq_true rfl) ?_
            refine go_bipush C (nI 15) dX7_skyHeight_31 rfl ?_
            refine go_icmp_neN C 42 dX7_skyHeight_33 (by decide) (by omega) (by omega) (fun h33 => ?_) (fun h33 => ?_)
            · have e2 : skyF (sW S) a cz (y + 1) = y + 1 := by rw [skyF, if_neg h33]
              refine go_iload_n C dX7_skyHeight_42 rfl ?_
              refine go_iret hr dX7_skyHeight_43 rfl ?_
              exact ⟨by rw [hans, ← he, e2], hR⟩
            · have e2 : skyF (sW S) a cz (y + 1) = skyF (sW S) a cz y := by rw [skyF, if_pos h33]
              refine go_iinc C (nI y) dX7_skyHeight_36 rfl (dec_n (a := y + 1) (by omega)) (by decide) rfl rfl ?_
              refine go_goto C 14 dX7_skyHeight_39 (by decide) ?_
              exact ih (n - 1) (by omega) y ⟨by omega, by omega⟩ (e2 ▸ he)
      refine go_bipush C (nI 8) dX7_skyHeight_11 rfl ?_
      refine go_istore_n C dX7_skyHeight_13 (by decide) rfl rfl ?_
      exact L 8 8 ⟨rfl, by decide⟩ rfl
    · refine go_iconst C (-1) dX7_skyHeight_9 rfl ?_
      refine go_iret hr dX7_skyHeight_10 rfl ?_
      exact ⟨(pI_f h6).symm, hR⟩
set_option maxHeartbeats 4000000 in
set_option maxRecDepth 100000 in
theorem k_X7_ray {σ : Mem} {S : St} (hR : RepM σ S) (x y z d c : Int32) : CtI objM NM yX7_ray cX7_ray 9 .int 3 69 [.ref 0, .int x, .int y, .int z, .int d, .int c] σ (RQM (aRay S x y z d c) S) := by
  obtain ⟨hS, hM, hL, hEf, hB, hH, hSv, hX, hFt, hoc⟩ := id hR
  have hO := hS.1
  have hOL := hS.2.1
  have hV := hR.V
  have hT : ∀ j, j < 1152 → σ 1 j = nI (wT (sW S) j) := fun j hj => by have := hM.1 j hj; rw [Nat.zero_add] at this; exact this
  have hLs := hV.2.2.2.1
  have hEm := hV.2.2.2.2.1
  refine ct_ofI rfl ?_ (Nat.le_of_ble_eq_true rfl) (fun X C hr => ?_)
  · intro v hv; simp only [List.mem_cons, List.not_mem_nil, or_false] at hv; rcases hv with rfl | rfl | rfl | rfl | rfl | rfl <;> rfl
  · refine go_iload_n C dX7_ray_0 rfl ?_
    refine go_iload_n C dX7_ray_1 rfl ?_
    refine go_iload_n C dX7_ray_2 rfl ?_
    refine go_S3P C ok_X7_isCell lk_X7_71 dX7_ray_3 (k_X7_isCell _ _ _) (by decide) (Nat.le_of_ble_eq_true rfl) ?_
    refine go_if_eqB C 29 dX7_ray_6 (by decide) (fun h6 => ?_) (fun h6 => ?_)
    · refine go_iconst C (-1) dX7_ray_29 rfl ?_
      refine go_iret hr dX7_ray_30 rfl ?_
      exact ⟨(pI_f (fun q => by first | exact h6 q.1 | exact h16 q.2.1 | exact h26 q.2.2)).symm, hR⟩
    · refine go_iload C dX7_ray_9 rfl ?_
      refine go_iconst C (nI 0) dX7_ray_11 rfl ?_
      refine go_iconst C (nI 5) dX7_ray_12 rfl ?_
      refine go_S3P C ok_X7_in lk_X7_57 dX7_ray_13 (k_X7_in (by decide) _) (by decide) (Nat.le_of_ble_eq_true rfl) ?_
      refine go_if_eqB C 29 dX7_ray_16 (by decide) (fun h16 => ?_) (fun h16 => ?_)
      · refine go_iconst C (-1) dX7_ray_29 rfl ?_
        refine go_iret hr dX7_ray_30 rfl ?_
        exact ⟨(pI_f (fun q => by first | exact h6 q.1 | exact h16 q.2.1 | exact h26 q.2.2)).symm, hR⟩
      · refine go_iload C dX7_ray_19 rfl ?_
        refine go_iconst C (nI 0) dX7_ray_21 rfl ?_
        refine go_iconst C (nI 3) dX7_ray_22 rfl ?_
        refine go_S3P C ok_X7_in lk_X7_57 dX7_ray_23 (k_X7_in (by decide) _) (by decide) (Nat.le_of_ble_eq_true rfl) ?_
        refine go_if_neB C 31 dX7_ray_26 (by decide) (fun h26 => ?_) (fun h26 => ?_)
        · obtain ⟨r1, r2, r3⟩ := id h6
          obtain ⟨a, ha, rfl⟩ := rng_nat (by decide) r1
          obtain ⟨b, hb, rfl⟩ := rng_nat (by decide) r2
          obtain ⟨cz, hcz, rfl⟩ := rng_nat (by decide) r3
          have hk := cel_lt ha hb hcz
          obtain ⟨dn, hd, rfl⟩ := rng_nat (by decide) (id h16)
          obtain ⟨cn, hc, rfl⟩ := rng_nat (by decide) (id h26)
          have hans : aRay S (nI a) (nI b) (nI cz) (nI dn) (nI cn) = nI (rayF (sW S) dn cn 12 (nbr (cel a b cz) dn) 0 15) := by unfold aRay; rw [pI_t ⟨h6, h16, h26⟩, nI_clamp (by omega), nI_clamp (by omega), ixC_nI ha hb hcz]
          have L : ∀ (n : Nat) (o : Option Nat) (m : Nat) (s : Nat), (s ≤ 15 ∧ m ≤ 12) → (∀ k, o = some k → k < 1152 ∧ m + remD k dn + 1 ≤ 11 ∧ remD k dn < n) → (rayF (sW S) dn cn n o m s = rayF (sW S) dn cn 12 (nbr (cel a b cz) dn) 0 15) → Go objM NM X 51 [some (.ref 0), some (.int (nI a)), some (.int (nI b)), some (.int (nI cz)), some (.int (nI dn)), some (.int (nI cn)), some (.int (nI m)), some (.int (nI s)), some (.int (oI o))] [] σ := by
            intro n
            induction n using Nat.strongRecOn with
            | _ n ih =>
              intro o m s hs ho he
              refine go_iload C dX7_ray_51 rfl ?_
              refine go_if_ltO C 97 dX7_ray_53 (by decide) (fun j hj => by have := (ho j hj).1; omega) (fun h53 => ?_) (fun h53 => ?_)
              · subst h53
                have e2 : rayF (sW S) dn cn n none m s = 16 * m + s := by cases n <;> rfl
                refine go_bipush C (nI 16) dX7_ray_97 rfl ?_
                refine go_iload C dX7_ray_99 rfl ?_
                refine go_imulN C dX7_ray_101 ?_
                refine go_iload C dX7_ray_102 rfl ?_
                refine go_iaddN C dX7_ray_104 ?_
                refine go_iret hr dX7_ray_105 rfl ?_
                exact ⟨by rw [hans, ← he, e2], hR⟩
              · obtain ⟨k, rfl⟩ := h53
                obtain ⟨hk, hrm, hrn⟩ := ho k rfl
                have hl16 := lossN_lt hO hc hk
                obtain ⟨n, rfl⟩ : ∃ n2, n = n2 + 1 := ⟨n - 1, by omega⟩
                dsimp only [oI]
                refine go_iload C dX7_ray_56 rfl ?_
                refine go_aload_n C dX7_ray_58 rfl ?_
                refine go_iload C dX7_ray_59 rfl ?_
                refine go_iload C dX7_ray_61 rfl ?_
                refine go_V2P C ok_X7_lossOf lk_X7_93 dX7_ray_63 (by decide) rfl rfl rfl (k_X7_lossOf hO hV hk hc) (by decide) (Nat.le_of_ble_eq_true rfl) ?_
                refine go_icmp_leN C 97 dX7_ray_66 (by decide) (by omega) (by omega) (fun h66 => ?_) (fun h66 => ?_)
                · have e2 : rayF (sW S) dn cn (n + 1) (some k) m s = 16 * m + s := by rw [rayF, if_pos (by omega)]
                  refine go_bipush C (nI 16) dX7_ray_97 rfl ?_
                  refine go_iload C dX7_ray_99 rfl ?_
                  refine go_imulN C dX7_ray_101 ?_
                  refine go_iload C dX7_ray_102 rfl ?_
                  refine go_iaddN C dX7_ray_104 ?_
                  refine go_iret hr dX7_ray_105 rfl ?_
                  exact ⟨by rw [hans, ← he, e2], hR⟩
                · have e2 : rayF (sW S) dn cn (n + 1) (some k) m s = rayF (sW S) dn cn n (nbr k dn) (m + 1) (s - lossN (sW S) cn k) := by rw [rayF, if_neg (by omega)]
                  refine go_iload C dX7_ray_69 rfl ?_
                  refine go_aload_n C dX7_ray_71 rfl ?_
                  refine go_iload C dX7_ray_72 rfl ?_
                  refine go_iload C dX7_ray_74 rfl ?_
                  refine go_V2P C ok_X7_lossOf lk_X7_93 dX7_ray_76 (by decide) rfl rfl rfl (k_X7_lossOf hO hV hk hc) (by decide) (Nat.le_of_ble_eq_true rfl) ?_
                  refine go_isubN C dX7_ray_79 (by omega) ?_
                  refine go_istore C dX7_ray_80 (by decide) rfl rfl ?_
                  refine go_iincN C 1 dX7_ray_82 rfl rfl (by decide) rfl rfl ?_
                  refine go_iload C dX7_ray_85 rfl ?_
                  refine go_iload C dX7_ray_87 rfl ?_
                  refine go_S2P C ok_X7_next lk_X7_100 dX7_ray_89 (k_X7_next hk (by omega)) (by decide) (Nat.le_of_ble_eq_true rfl) ?_
                  refine go_istore C dX7_ray_92 (by decide) rfl rfl ?_
                  refine go_goto C 51 dX7_ray_94 (by decide) ?_
                  exact ih n (by omega) _ (m + 1) (s - lossN (sW S) cn k) ⟨by omega, by omega⟩ (fun k2 hk2 => ⟨nbr_lt hk hk2, by have := remD_nbr hk hk2; omega, by have := remD_nbr hk hk2; omega⟩) (e2 ▸ he)
          refine go_iconst C (nI 0) dX7_ray_31 rfl ?_
          refine go_istore C dX7_ray_32 (by decide) rfl rfl ?_
          refine go_bipush C (nI 15) dX7_ray_34 rfl ?_
          refine go_istore C dX7_ray_36 (by decide) rfl rfl ?_
          refine go_iload_n C dX7_ray_38 rfl ?_
          refine go_iload_n C dX7_ray_39 rfl ?_
          refine go_iload_n C dX7_ray_40 rfl ?_
          refine go_S3P C ok_X7_cell lk_X7_74 dX7_ray_41 k_X7_cell (by decide) (Nat.le_of_ble_eq_true rfl) ?_
          refine go_iload C dX7_ray_44 rfl ?_
          refine go_S2P C ok_X7_next lk_X7_100 dX7_ray_46 (k_X7_next hk (by omega)) (by decide) (Nat.le_of_ble_eq_true rfl) ?_
          refine go_istore C dX7_ray_49 (by decide) rfl rfl ?_
          exact L 12 _ 0 15 ⟨by decide, by decide⟩ (fun k2 hk2 => ⟨nbr_lt hk hk2, by have := remD_nbr hk hk2; have := remD_le hk dn; omega, by have := remD_nbr hk hk2; have := remD_le hk dn; omega⟩) rfl
        · refine go_iconst C (-1) dX7_ray_29 rfl ?_
          refine go_iret hr dX7_ray_30 rfl ?_
          exact ⟨(pI_f (fun q => by first | exact h6 q.1 | exact h16 q.2.1 | exact h26 q.2.2)).symm, hR⟩
set_option maxHeartbeats 4000000 in
set_option maxRecDepth 100000 in
theorem k_X7_brightest {σ : Mem} {S : St} (hR : RepM σ S) (c : Int32) : CtI objM NM yX7_brightest cX7_brightest 4 .int 2 40 [.ref 0, .int c] σ (RQM (aBri S c) S) := by
  obtain ⟨hS, hM, hL, hEf, hB, hH, hSv, hX, hFt, hoc⟩ := id hR
  have hO := hS.1
  have hOL := hS.2.1
  have hV := hR.V
  have hT : ∀ j, j < 1152 → σ 1 j = nI (wT (sW S) j) := fun j hj => by have := hM.1 j hj; rw [Nat.zero_add] at this; exact this
  have hLs := hV.2.2.2.1
  have hEm := hV.2.2.2.2.1
  refine ct_ofI rfl ?_ (Nat.le_of_ble_eq_true rfl) (fun X C hr => ?_)
  · intro v hv; simp only [List.mem_cons, List.not_mem_nil, or_false] at hv; rcases hv with rfl | rfl <;> rfl
  · refine go_iload_n C dX7_brightest_0 rfl ?_
    refine go_iconst C (nI 0) dX7_brightest_1 rfl ?_
    refine go_iconst C (nI 3) dX7_brightest_2 rfl ?_
    refine go_S3P C ok_X7_in lk_X7_57 dX7_brightest_3 (k_X7_in (by decide) _) (by decide) (Nat.le_of_ble_eq_true rfl) ?_
    refine go_if_neB C 11 dX7_brightest_6 (by decide) (fun h6 => ?_) (fun h6 => ?_)
    · obtain ⟨cn, hc, rfl⟩ := rng_nat (by decide) (id h6)
      have L : ∀ (n : Nat) (i : Nat), (i + n = 1151) → Go objM NM X 15 [some (.ref 0), some (.int (nI cn)), some (.int (nI (briF (sW S) cn i))), some (.int (nI (i + 1)))] [] σ := by
        intro n
        induction n using Nat.strongRecOn with
        | _ n ih =>
          intro i hi
          have hbi := briF_le (w := sW S) (c := cn) i
          refine go_iload_n C dX7_brightest_15 rfl ?_
          refine go_sipush C (nI 1152) dX7_brightest_16 rfl ?_
          refine go_icmp_geN C 49 dX7_brightest_19 (by decide) (by omega) (by omega) (fun h19 => ?_) (fun h19 => ?_)
          · obtain rfl : i = 1151 := by omega
            have hbl := lit_lt hOL hc (show briF (sW S) cn 1151 < 1152 by omega)
            refine go_aload_n C dX7_brightest_49 rfl ?_
            refine go_iload_n C dX7_brightest_50 rfl ?_
            refine go_iload_n C dX7_brightest_51 rfl ?_
            refine go_V2P C ok_X7_lightOf lk_X7_177 dX7_brightest_52 (by decide) rfl rfl rfl (k_X7_lightOf hL (show briF (sW S) cn 1151 < 1152 by omega) hc) (by decide) (Nat.le_of_ble_eq_true rfl) ?_
            refine go_if_neN C 63 dX7_brightest_55 (by decide) (by omega) (fun h55 => ?_) (fun h55 => ?_)
            · refine go_iload_n C dX7_brightest_63 rfl ?_
              refine go_S1P C ok_X7_code lk_X7_192 dX7_brightest_64 (k_X7_code (by omega)) (by decide) (Nat.le_of_ble_eq_true rfl) ?_
              refine go_iret hr dX7_brightest_67 rfl ?_
              first | exact ⟨by unfold aBri; rw [pI_t h6, nI_clamp (by omega), if_pos (by omega)], hR⟩ | exact ⟨by unfold aBri; rw [pI_t h6, nI_clamp (by omega), if_neg (by omega)], hR⟩
            · refine go_bipush C (-4) dX7_brightest_58 rfl ?_
              refine go_goto C 67 dX7_brightest_60 (by decide) ?_
              refine go_iret hr dX7_brightest_67 rfl ?_
              first | exact ⟨by unfold aBri; rw [pI_t h6, nI_clamp (by omega), if_pos (by omega)], hR⟩ | exact ⟨by unfold aBri; rw [pI_t h6, nI_clamp (by omega), if_neg (by omega)], hR⟩
          · have hb1 := lit_lt hOL hc (show i + 1 < 1152 by omega)
            have hb2 := lit_lt hOL hc (show briF (sW S) cn i < 1152 by omega)
            refine go_aload_n C dX7_brightest_22 rfl ?_
            refine go_iload_n C dX7_brightest_23 rfl ?_
            refine go_iload_n C dX7_brightest_24 rfl ?_
            refine go_V2P C ok_X7_lightOf lk_X7_177 dX7_brightest_25 (by decide) rfl rfl rfl (k_X7_lightOf hL (show i + 1 < 1152 by omega) hc) (by decide) (Nat.le_of_ble_eq_true rfl) ?_
            refine go_aload_n C dX7_brightest_28 rfl ?_
            refine go_iload_n C dX7_brightest_29 rfl ?_
            refine go_iload_n C dX7_brightest_30 rfl ?_
            refine go_V2P C ok_X7_lightOf lk_X7_177 dX7_brightest_31 (by decide) rfl rfl rfl (k_X7_lightOf hL (show briF (sW S) cn i < 1152 by omega) hc) (by decide) (Nat.le_of_ble_eq_true rfl) ?_
            refine go_icmp_leN C 41 dX7_brightest_34 (by decide) (by omega) (by omega) (fun h34 => ?_) (fun h34 => ?_)
            · have e2 : briF (sW S) cn (i + 1) = briF (sW S) cn i := by rw [briF, if_neg (by omega)]
              refine go_iload_n C dX7_brightest_41 rfl ?_
              refine go_istore_n C dX7_brightest_42 (by decide) rfl rfl ?_
              refine go_iincN C 1 dX7_brightest_43 rfl rfl (by decide) rfl rfl ?_
              refine go_goto C 15 dX7_brightest_46 (by decide) ?_
              have q := ih (n - 1) (by omega) (i + 1) (by omega)
              rw [e2] at q
              exact q
            · have e2 : briF (sW S) cn (i + 1) = i + 1 := by rw [briF, if_pos (by omega)]
              refine go_iload_n C dX7_brightest_37 rfl ?_
              refine go_goto C 42 dX7_brightest_38 (by decide) ?_
              refine go_istore_n C dX7_brightest_42 (by decide) rfl rfl ?_
              refine go_iincN C 1 dX7_brightest_43 rfl rfl (by decide) rfl rfl ?_
              refine go_goto C 15 dX7_brightest_46 (by decide) ?_
              have q := ih (n - 1) (by omega) (i + 1) (by omega)
              rw [e2] at q
              exact q
      refine go_iconst C (nI 0) dX7_brightest_11 rfl ?_
      refine go_istore_n C dX7_brightest_12 (by decide) rfl rfl ?_
      refine go_iconst C (nI 1) dX7_brightest_13 rfl ?_
      refine go_istore_n C dX7_brightest_14 (by decide) rfl rfl ?_
      exact L 1151 0 (by omega)
    · refine go_iconst C (-1) dX7_brightest_9 rfl ?_
      refine go_iret hr dX7_brightest_10 rfl ?_
      exact ⟨(pI_f h6).symm, hR⟩
set_option maxHeartbeats 4000000 in
set_option maxRecDepth 100000 in
theorem k_X7_histogram {σ : Mem} {S : St} (hR : RepM σ S) (c lt : Int32) : CtI objM NM yX7_histogram cX7_histogram 5 .int 1 22 [.ref 0, .int c, .int lt] σ (RQM (aHist S c lt) S) := by
  obtain ⟨hS, hM, hL, hEf, hB, hH, hSv, hX, hFt, hoc⟩ := id hR
  have hO := hS.1
  have hOL := hS.2.1
  have hV := hR.V
  have hT : ∀ j, j < 1152 → σ 1 j = nI (wT (sW S) j) := fun j hj => by have := hM.1 j hj; rw [Nat.zero_add] at this; exact this
  have hLs := hV.2.2.2.1
  have hEm := hV.2.2.2.2.1
  refine ct_ofI rfl ?_ (Nat.le_of_ble_eq_true rfl) (fun X C hr => ?_)
  · intro v hv; simp only [List.mem_cons, List.not_mem_nil, or_false] at hv; rcases hv with rfl | rfl | rfl <;> rfl
  · refine go_iload_n C dX7_histogram_0 rfl ?_
    refine go_iconst C (nI 0) dX7_histogram_1 rfl ?_
    refine go_iconst C (nI 3) dX7_histogram_2 rfl ?_
    refine go_S3P C ok_X7_in lk_X7_57 dX7_histogram_3 (k_X7_in (by decide) _) (by decide) (Nat.le_of_ble_eq_true rfl) ?_
    refine go_if_neB C 11 dX7_histogram_6 (by decide) (fun h6 => ?_) (fun h6 => ?_)
    · refine go_iload_n C dX7_histogram_11 rfl ?_
      refine go_iconst C (nI 0) dX7_histogram_12 rfl ?_
      refine go_bipush C (nI 15) dX7_histogram_13 rfl ?_
      refine go_S3P C ok_X7_in lk_X7_57 dX7_histogram_15 (k_X7_in (by decide) _) (by decide) (Nat.le_of_ble_eq_true rfl) ?_
      refine go_if_neB C 24 dX7_histogram_18 (by decide) (fun h18 => ?_) (fun h18 => ?_)
      · obtain ⟨cn, hc, rfl⟩ := rng_nat (by decide) (id h6)
        obtain ⟨l, hl, rfl⟩ := rng_nat (by decide) (id h18)
        have L : ∀ (n : Nat) (i : Nat), (i + n = 1152) → Go objM NM X 29 [some (.ref 0), some (.int (nI cn)), some (.int (nI l)), some (.int (nI (cnt (fun j => lit (sW S) cn j = l) i))), some (.int (nI i))] [] σ := by
          intro n
          induction n using Nat.strongRecOn with
          | _ n ih =>
            intro i hi
            refine go_iload C dX7_histogram_29 rfl ?_
            refine go_sipush C (nI 1152) dX7_histogram_31 rfl ?_
            refine go_icmp_geN C 62 dX7_histogram_34 (by decide) (by omega) (by omega) (fun h34 => ?_) (fun h34 => ?_)
            · obtain rfl : i = 1152 := by omega
              refine go_iload_n C dX7_histogram_62 rfl ?_
              refine go_iret hr dX7_histogram_63 rfl ?_
              exact ⟨by unfold aHist; rw [pI_t h6, pI_t h18, nI_clamp (by omega), nI_clamp (by omega)], hR⟩
            · refine go_iload_n C dX7_histogram_37 rfl ?_
              refine go_aload_n C dX7_histogram_38 rfl ?_
              refine go_iload C dX7_histogram_39 rfl ?_
              refine go_iload_n C dX7_histogram_41 rfl ?_
              refine go_V2P C ok_X7_lightOf lk_X7_177 dX7_histogram_42 (by decide) rfl rfl rfl (k_X7_lightOf hL (show i < 1152 by omega) hc) (by decide) (Nat.le_of_ble_eq_true rfl) ?_
              refine go_iload_n C dX7_histogram_45 rfl ?_
              have hb1 := lit_lt hOL hc (show i < 1152 by omega)
              refine go_icmp_neN C 53 dX7_histogram_46 (by decide) (by omega) (by omega) (fun h46 => ?_) (fun h46 => ?_)
              · have e2 : cnt (fun j => lit (sW S) cn j = l) (i + 1) = cnt (fun j => lit (sW S) cn j = l) i + 0 := cnt_0 h46
                refine go_iconst C (nI 0) dX7_histogram_53 rfl ?_
                refine go_iaddN C dX7_histogram_54 ?_
                refine go_istore_n C dX7_histogram_55 (by decide) rfl rfl ?_
                refine go_iincN C 1 dX7_histogram_56 rfl rfl (by decide) rfl rfl ?_
                refine go_goto C 29 dX7_histogram_59 (by decide) ?_
                have q := ih (n - 1) (by omega) (i + 1) (by omega)
                rw [e2] at q
                exact q
              · have e2 : cnt (fun j => lit (sW S) cn j = l) (i + 1) = cnt (fun j => lit (sW S) cn j = l) i + 1 := cnt_1 h46
                refine go_iconst C (nI 1) dX7_histogram_49 rfl ?_
                refine go_goto C 54 dX7_histogram_50 (by decide) ?_
                refine go_iaddN C dX7_histogram_54 ?_
                refine go_istore_n C dX7_histogram_55 (by decide) rfl rfl ?_
                refine go_iincN C 1 dX7_histogram_56 rfl rfl (by decide) rfl rfl ?_
                refine go_goto C 29 dX7_histogram_59 (by decide) ?_
                have q := ih (n - 1) (by omega) (i + 1) (by omega)
                rw [e2] at q
                exact q
        refine go_iconst C (nI 0) dX7_histogram_24 rfl ?_
        refine go_istore_n C dX7_histogram_25 (by decide) rfl rfl ?_
        refine go_iconst C (nI 0) dX7_histogram_26 rfl ?_
        refine go_istore C dX7_histogram_27 (by decide) rfl rfl ?_
        exact L 1152 0 (by omega)
      · refine go_bipush C (-2) dX7_histogram_21 rfl ?_
        refine go_iret hr dX7_histogram_23 rfl ?_
        first | exact ⟨(pI_f h6).symm, hR⟩ | exact ⟨by unfold aHist; rw [pI_t h6, pI_f h18], hR⟩
    · refine go_iconst C (-1) dX7_histogram_9 rfl ?_
      refine go_iret hr dX7_histogram_10 rfl ?_
      first | exact ⟨(pI_f h6).symm, hR⟩ | exact ⟨by unfold aHist; rw [pI_t h6, pI_f h18], hR⟩
set_option maxHeartbeats 4000000 in
set_option maxRecDepth 100000 in
theorem k_X7_checksum {σ : Mem} {S : St} (hR : RepM σ S)  : CtL objM NM yX7_checksum cX7_checksum 4 2 43 [.ref 0] σ (fun r τ => r = lN (chS (sW S) 1152) ∧ RepM τ S) := by
  obtain ⟨hS, hM, hL, hEf, hB, hH, hSv, hX, hFt, hoc⟩ := id hR
  have hO := hS.1
  have hOL := hS.2.1
  have hV := hR.V
  have hT : ∀ j, j < 1152 → σ 1 j = nI (wT (sW S) j) := fun j hj => by have := hM.1 j hj; rw [Nat.zero_add] at this; exact this
  have hLs := hV.2.2.2.1
  have hEm := hV.2.2.2.2.1
  refine ct_ofL rfl ?_ (Nat.le_of_ble_eq_true rfl) (fun X C hr => ?_)
  · intro v hv; simp only [List.mem_cons, List.not_mem_nil, or_false] at hv; rcases hv with rfl <;> rfl
  · have L : ∀ (n : Nat) (i : Nat), (i + n = 1152) → Go objM NM X 6 [some (.ref 0), some (.long (lN (chS (sW S) i))), none, some (.int (nI i))] [] σ := by
      intro n
      induction n using Nat.strongRecOn with
      | _ n ih =>
        intro i hi
        refine go_iload_n C dX7_checksum_6 rfl ?_
        refine go_sipush C (nI 1152) dX7_checksum_7 rfl ?_
        refine go_icmp_geN C 44 dX7_checksum_10 (by decide) (by omega) (by omega) (fun h10 => ?_) (fun h10 => ?_)
        · obtain rfl : i = 1152 := by omega
          refine go_lload_n C dX7_checksum_44 rfl ?_
          refine go_lret hr dX7_checksum_45 ?_
          exact ⟨rfl, hR⟩
        · have hk : i < 1152 := by omega
          have ht8 := hO.1 i hk
          have hp := pkL_lt hOL hk
          have e2 : 31 * lN (chS (sW S) i) + (nI (wT (sW S) i)).toInt64 + 8 * (nI (pkL (sW S) i)).toInt64 = lN (chS (sW S) (i + 1)) := by rw [nI_l (by omega), nI_l (by omega), show (31 : Int64) = lN 31 from rfl, show (8 : Int64) = lN 8 from rfl, lN_mul, lN_mul, lN_add, lN_add, Nat.mul_comm 31]; rfl
          refine go_ldc2 C _ lc_X7_207 dX7_checksum_13 ?_
          refine go_lload_n C dX7_checksum_16 rfl ?_
          refine go_lmul C dX7_checksum_17 ?_
          refine go_aload_n C dX7_checksum_18 rfl ?_
          refine go_getR C gf_X7_9 dX7_checksum_19 (by decide) rfl rfl ?_
          refine go_iload_n C dX7_checksum_22 rfl ?_
          refine go_ialdN C dX7_checksum_23 (by decide) rfl (by decide) (by omega) ?_
          refine go_top _ (hT _ (by omega)) ?_
          refine go_i2l C _ dX7_checksum_24 rfl ?_
          refine go_ladd C dX7_checksum_25 ?_
          refine go_ldc2 C _ lc_X7_209 dX7_checksum_26 ?_
          refine go_aload_n C dX7_checksum_29 rfl ?_
          refine go_iload_n C dX7_checksum_30 rfl ?_
          refine go_V1P C ok_X7_lightsOf lk_X7_180 dX7_checksum_31 (by decide) rfl rfl rfl (k_X7_lightsOf hL hk) (by decide) (Nat.le_of_ble_eq_true rfl) ?_
          refine go_i2l C _ dX7_checksum_34 rfl ?_
          refine go_lmul C dX7_checksum_35 ?_
          refine go_ladd C dX7_checksum_36 ?_
          refine go_lstore_n C dX7_checksum_37 (by decide) rfl rfl ?_
          refine go_iincN C 1 dX7_checksum_38 rfl rfl (by decide) rfl rfl ?_
          refine go_goto C 6 dX7_checksum_41 (by decide) ?_
          have q := ih (n - 1) (by omega) (i + 1) (by omega)
          rw [← e2] at q
          exact q
    refine go_ldc2 C _ lc_X7_205 dX7_checksum_0 ?_
    refine go_lstore_n C dX7_checksum_3 (by decide) rfl rfl ?_
    refine go_iconst C (nI 0) dX7_checksum_4 rfl ?_
    refine go_istore_n C dX7_checksum_5 (by decide) rfl rfl ?_
    exact L 1152 0 (by omega)
set_option maxHeartbeats 4000000 in
set_option maxRecDepth 100000 in
theorem k_X7_faultPosition {σ : Mem} {S : St} (hR : RepM σ S)  : CtI objM NM yX7_faultPosition cX7_faultPosition 1 .int 0 0 [.ref 0] σ (RQM (sF S) S) := by
  obtain ⟨hS, hM, hL, hEf, hB, hH, hSv, hX, hFt, hoc⟩ := id hR
  have hO := hS.1
  have hOL := hS.2.1
  have hV := hR.V
  have hT : ∀ j, j < 1152 → σ 1 j = nI (wT (sW S) j) := fun j hj => by have := hM.1 j hj; rw [Nat.zero_add] at this; exact this
  have hLs := hV.2.2.2.1
  have hEm := hV.2.2.2.2.1
  refine ct_ofI rfl ?_ (Nat.le_of_ble_eq_true rfl) (fun X C hr => ?_)
  · intro v hv; simp only [List.mem_cons, List.not_mem_nil, or_false] at hv; rcases hv with rfl <;> rfl
  · refine go_aload_n C dX7_faultPosition_0 rfl ?_
    refine go_getI C gf_X7_42 dX7_faultPosition_1 (by decide) rfl rfl ?_
    refine go_iret hr dX7_faultPosition_4 rfl ?_
    exact ⟨hFt, hR⟩
set_option maxHeartbeats 4000000 in
set_option maxRecDepth 100000 in
theorem k_X7_originOf {σ : Mem} {S : St} (hR : RepM σ S) {k c : Nat} (hk : k < 1152) (hc : c < 4) (h0 : 0 < lit (sW S) c k) : CtI objM NM yX7_originOf cX7_originOf 6 .int 3 69 [.ref 0, .int (nI k), .int (nI c)] σ (Pv (nI (org (sW S) c k)) σ) := by
  obtain ⟨hS, hM, hL, hEf, hB, hH, hSv, hX, hFt, hoc⟩ := id hR
  have hO := hS.1
  have hOL := hS.2.1
  have hV := hR.V
  have hT : ∀ j, j < 1152 → σ 1 j = nI (wT (sW S) j) := fun j hj => by have := hM.1 j hj; rw [Nat.zero_add] at this; exact this
  have hLs := hV.2.2.2.1
  have hEm := hV.2.2.2.2.1
  have hlk := lit_lt hOL hc hk
  have hls := lossN_lt hO hc hk
  have hek := emN_lt hO hc hk
  refine ct_ofI rfl ?_ (Nat.le_of_ble_eq_true rfl) (fun X C hr => ?_)
  · intro v hv; simp only [List.mem_cons, List.not_mem_nil, or_false] at hv; rcases hv with rfl | rfl | rfl <;> rfl
  · have L : ∀ (n : Nat) (d : Nat), (d + n = 6) → (dirF (sW S) c k n d = dirF (sW S) c k 6 0) → (¬ o6 (sW S) c k) → (¬ o7 (sW S) c k) → (¬ o8 (sW S) c k) → Go objM NM X 105 [some (.ref 0), some (.int (nI k)), some (.int (nI c)), some (.int (nI (lit (sW S) c k))), some (.int (oI (nbr k 3))), some (.int (nI d))] [] σ := by
      intro n
      induction n using Nat.strongRecOn with
      | _ n ih =>
        intro d hd he h6 h7 h8
        have hor := org_d h6 h7 h8
        obtain ⟨hhit, hh6⟩ := org_hit hOL hc hk h0 h6 h7 h8
        obtain ⟨n, rfl⟩ : ∃ n2, n = n2 + 1 := ⟨n - 1, by
          rcases Nat.eq_zero_or_pos n with z | z
          · subst z; exact absurd (show dirF (sW S) c k 6 0 = 6 by rw [← he]; show d = 6; omega) (by omega)
          · omega⟩
        refine go_iload_n C dX7_originOf_105 rfl ?_
        refine go_iload C dX7_originOf_106 rfl ?_
        refine go_S2P C ok_X7_next lk_X7_100 dX7_originOf_108 (k_X7_next hk (by omega)) (by decide) (Nat.le_of_ble_eq_true rfl) ?_
        refine go_if_ltO C 138 dX7_originOf_111 (by decide) (fun j hj => by have := nbr_lt hk hj; omega) (fun h111 => ?_) (fun h111 => ?_)
        · have e2 := dirF_f (w := sW S) (c := c) (k := k) (n := n) (d := d) (fun z => by obtain ⟨j, z1, -⟩ := z; rw [h111] at z1; cases z1)
          refine go_iincN C 1 dX7_originOf_138 rfl rfl (by decide) rfl rfl ?_
          refine go_goto C 105 dX7_originOf_141 (by decide) ?_
          exact ih n (by omega) (d + 1) (by omega) (e2 ▸ he) h6 h7 h8
        · obtain ⟨j, hj⟩ := h111
          have hjl := nbr_lt hk hj
          have hlj := lit_lt hOL hc hjl
          refine go_aload_n C dX7_originOf_114 rfl ?_
          refine go_iload_n C dX7_originOf_115 rfl ?_
          refine go_iload C dX7_originOf_116 rfl ?_
          refine go_S2P C ok_X7_next lk_X7_100 dX7_originOf_118 (k_X7_next hk (by omega)) (by decide) (Nat.le_of_ble_eq_true rfl) ?_
          rw [hj]
          dsimp only [oI]
          refine go_iload_n C dX7_originOf_121 rfl ?_
          refine go_V2P C ok_X7_lightOf lk_X7_177 dX7_originOf_122 (by decide) rfl rfl rfl (k_X7_lightOf hL hjl hc) (by decide) (Nat.le_of_ble_eq_true rfl) ?_
          refine go_iconst C (nI 1) dX7_originOf_125 rfl ?_
          refine go_isub C dX7_originOf_126 ?_
          refine go_aload_n C dX7_originOf_127 rfl ?_
          refine go_iload_n C dX7_originOf_128 rfl ?_
          refine go_iload_n C dX7_originOf_129 rfl ?_
          refine go_V2P C ok_X7_lossOf lk_X7_93 dX7_originOf_130 (by decide) rfl rfl rfl (k_X7_lossOf hO hV hk hc) (by decide) (Nat.le_of_ble_eq_true rfl) ?_
          refine go_isub C dX7_originOf_133 ?_
          refine go_iload_n C dX7_originOf_134 rfl ?_
          refine go_icmp_eq C 144 dX7_originOf_135 (by decide) (fun h135 => ?_) (fun h135 => ?_)
          · rw [sub3 (by omega) (by omega) (by omega)] at h135
            have e2 := dirF_t (w := sW S) (c := c) (k := k) (n := n) (d := d) ⟨j, hj, h135⟩
            refine go_iload C dX7_originOf_144 rfl ?_
            refine go_iret hr dX7_originOf_146 rfl ?_
            exact ⟨by rw [hor, ← he, e2], rfl⟩
          · rw [sub3 (by omega) (by omega) (by omega)] at h135
            have e2 := dirF_f (w := sW S) (c := c) (k := k) (n := n) (d := d) (fun z => by obtain ⟨j2, z1, z2⟩ := z; rw [hj] at z1; cases z1; exact h135 z2)
            refine go_iincN C 1 dX7_originOf_138 rfl rfl (by decide) rfl rfl ?_
            refine go_goto C 105 dX7_originOf_141 (by decide) ?_
            exact ih n (by omega) (d + 1) (by omega) (e2 ▸ he) h6 h7 h8
    refine go_aload_n C dX7_originOf_0 rfl ?_
    refine go_iload_n C dX7_originOf_1 rfl ?_
    refine go_iload_n C dX7_originOf_2 rfl ?_
    refine go_V2P C ok_X7_lightOf lk_X7_177 dX7_originOf_3 (by decide) rfl rfl rfl (k_X7_lightOf hL hk hc) (by decide) (Nat.le_of_ble_eq_true rfl) ?_
    refine go_istore_n C dX7_originOf_6 (by decide) rfl rfl ?_
    refine go_iload_n C dX7_originOf_7 rfl ?_
    refine go_iconst C (nI 3) dX7_originOf_8 rfl ?_
    refine go_icmp_geN C 25 dX7_originOf_9 (by decide) (by omega) (by omega) (fun h9 => ?_) (fun h9 => ?_)
    · have hn6 : ¬ o6 (sW S) c k := fun z => by have := z.1; omega
      refine go_iload_n C dX7_originOf_25 rfl ?_
      refine go_iconst C (nI 3) dX7_originOf_26 rfl ?_
      refine go_icmp_neN C 55 dX7_originOf_27 (by decide) (by omega) (by omega) (fun h27 => ?_) (fun h27 => ?_)
      · have hn7 : ¬ o7 (sW S) c k := fun z => h27 z.1
        refine go_iload_n C dX7_originOf_55 rfl ?_
        refine go_iconst C (nI 3) dX7_originOf_56 rfl ?_
        refine go_S2P C ok_X7_next lk_X7_100 dX7_originOf_57 (k_X7_next hk (by decide)) (by decide) (Nat.le_of_ble_eq_true rfl) ?_
        have hup : nbr k 3 = if cY k < 7 then some (k + 12) else none := rfl
        refine go_istore C dX7_originOf_60 (by decide) rfl rfl ?_
        refine go_iload_n C dX7_originOf_62 rfl ?_
        refine go_iconst C (nI 3) dX7_originOf_63 rfl ?_
        refine go_icmp_neN C 102 dX7_originOf_64 (by decide) (by omega) (by omega) (fun h64 => ?_) (fun h64 => ?_)
        · have hn8 : ¬ o8 (sW S) c k := fun z => h64 z.1
          refine go_iconst C (nI 0) dX7_originOf_102 rfl ?_
          refine go_istore C dX7_originOf_103 (by decide) rfl rfl ?_
          exact L 6 0 (by omega) rfl hn6 hn7 hn8
        · exact absurd h64 h27
      · subst h27
        refine go_iload_n C dX7_originOf_30 rfl ?_
        refine go_S1P C ok_X7_yOf lk_X7_65 dX7_originOf_31 (k_X7_yOf (by omega)) (by decide) (Nat.le_of_ble_eq_true rfl) ?_
        refine go_bipush C (nI 7) dX7_originOf_34 rfl ?_
        have hy8 := cY_lt k
        refine go_icmp_neN C 55 dX7_originOf_36 (by decide) (by omega) (by omega) (fun h36 => ?_) (fun h36 => ?_)
        · have hn7 : ¬ o7 (sW S) 3 k := fun z => h36 z.2.1
          refine go_iload_n C dX7_originOf_55 rfl ?_
          refine go_iconst C (nI 3) dX7_originOf_56 rfl ?_
          refine go_S2P C ok_X7_next lk_X7_100 dX7_originOf_57 (k_X7_next hk (by decide)) (by decide) (Nat.le_of_ble_eq_true rfl) ?_
          have hup : nbr k 3 = if cY k < 7 then some (k + 12) else none := rfl
          refine go_istore C dX7_originOf_60 (by decide) rfl rfl ?_
          refine go_iload_n C dX7_originOf_62 rfl ?_
          refine go_iconst C (nI 3) dX7_originOf_63 rfl ?_
          refine go_icmp_neN C 102 dX7_originOf_64 (by decide) (by omega) (by omega) (fun h64 => ?_) (fun h64 => ?_)
          · exact absurd rfl h64
          · skip
            refine go_iload_n C dX7_originOf_67 rfl ?_
            refine go_bipush C (nI 15) dX7_originOf_68 rfl ?_
            refine go_icmp_neN C 102 dX7_originOf_70 (by decide) (by omega) (by omega) (fun h70 => ?_) (fun h70 => ?_)
            · have hn8 : ¬ o8 (sW S) 3 k := fun z => h70 z.2.2.1
              refine go_iconst C (nI 0) dX7_originOf_102 rfl ?_
              refine go_istore C dX7_originOf_103 (by decide) rfl rfl ?_
              exact L 6 0 (by omega) rfl hn6 hn7 hn8
            · refine go_iload C dX7_originOf_73 rfl ?_
              refine go_if_ltO C 102 dX7_originOf_75 (by decide) (fun j hj => by have := nbr_lt hk hj; omega) (fun h75 => ?_) (fun h75 => ?_)
              · have hn8 : ¬ o8 (sW S) 3 k := fun z => by rw [h75, if_pos z.2.1] at hup; cases hup
                refine go_iconst C (nI 0) dX7_originOf_102 rfl ?_
                refine go_istore C dX7_originOf_103 (by decide) rfl rfl ?_
                exact L 6 0 (by omega) rfl hn6 hn7 hn8
              · obtain ⟨j, hj⟩ := h75
                have hy7 : cY k < 7 := by
                  rw [hj] at hup
                  by_cases z : cY k < 7
                  · exact z
                  · rw [if_neg z] at hup; cases hup
                have hj12 : j = k + 12 := by rw [hj, if_pos hy7] at hup; cases hup; rfl
                have hjl := nbr_lt hk hj
                have hlj := lit_lt hOL (c := 3) (by decide) hjl
                rw [hj]
                dsimp only [oI]
                refine go_aload_n C dX7_originOf_78 rfl ?_
                refine go_iload C dX7_originOf_79 rfl ?_
                refine go_iconst C (nI 3) dX7_originOf_81 rfl ?_
                refine go_V2P C ok_X7_lightOf lk_X7_177 dX7_originOf_82 (by decide) rfl rfl rfl (k_X7_lightOf hL hjl (by decide)) (by decide) (Nat.le_of_ble_eq_true rfl) ?_
                refine go_bipush C (nI 15) dX7_originOf_85 rfl ?_
                refine go_icmp_neN C 102 dX7_originOf_87 (by decide) (by omega) (by omega) (fun h87 => ?_) (fun h87 => ?_)
                · have hn8 : ¬ o8 (sW S) 3 k := fun z => h87 (by rw [hj12]; exact z.2.2.2.1)
                  refine go_iconst C (nI 0) dX7_originOf_102 rfl ?_
                  refine go_istore C dX7_originOf_103 (by decide) rfl rfl ?_
                  have q := L 6 0 (by omega) rfl hn6 hn7 hn8
                  rw [hj] at q
                  exact q
                · refine go_aload_n C dX7_originOf_90 rfl ?_
                  refine go_iload_n C dX7_originOf_91 rfl ?_
                  refine go_iconst C (nI 3) dX7_originOf_92 rfl ?_
                  refine go_V2P C ok_X7_lossOf lk_X7_93 dX7_originOf_93 (by decide) rfl rfl rfl (k_X7_lossOf hO hV hk (by decide)) (by decide) (Nat.le_of_ble_eq_true rfl) ?_
                  refine go_if_neN C 102 dX7_originOf_96 (by decide) (by omega) (fun h96 => ?_) (fun h96 => ?_)
                  · have hn8 : ¬ o8 (sW S) 3 k := fun z => h96 z.2.2.2.2
                    refine go_iconst C (nI 0) dX7_originOf_102 rfl ?_
                    refine go_istore C dX7_originOf_103 (by decide) rfl rfl ?_
                    have q := L 6 0 (by omega) rfl hn6 hn7 hn8
                    rw [hj] at q
                    exact q
                  · have hq8 : o8 (sW S) 3 k := ⟨rfl, hy7, h70, by rw [← hj12]; exact h87, h96⟩
                    refine go_bipush C (nI 8) dX7_originOf_99 rfl ?_
                    refine go_iret hr dX7_originOf_101 rfl ?_
                    first | exact ⟨by rw [org_6 hq6], rfl⟩ | exact ⟨by rw [org_7 hn6 hq7], rfl⟩ | exact ⟨by rw [org_8 hn6 hn7 hq8], rfl⟩
        · refine go_iload_n C dX7_originOf_39 rfl ?_
          refine go_bipush C (nI 15) dX7_originOf_40 rfl ?_
          refine go_aload_n C dX7_originOf_42 rfl ?_
          refine go_iload_n C dX7_originOf_43 rfl ?_
          refine go_iconst C (nI 3) dX7_originOf_44 rfl ?_
          refine go_V2P C ok_X7_lossOf lk_X7_93 dX7_originOf_45 (by decide) rfl rfl rfl (k_X7_lossOf hO hV hk (by decide)) (by decide) (Nat.le_of_ble_eq_true rfl) ?_
          refine go_isubN C dX7_originOf_48 (by omega) ?_
          refine go_icmp_neN C 55 dX7_originOf_49 (by decide) (by omega) (by omega) (fun h49 => ?_) (fun h49 => ?_)
          · have hn7 : ¬ o7 (sW S) 3 k := fun z => h49 z.2.2
            refine go_iload_n C dX7_originOf_55 rfl ?_
            refine go_iconst C (nI 3) dX7_originOf_56 rfl ?_
            refine go_S2P C ok_X7_next lk_X7_100 dX7_originOf_57 (k_X7_next hk (by decide)) (by decide) (Nat.le_of_ble_eq_true rfl) ?_
            have hup : nbr k 3 = if cY k < 7 then some (k + 12) else none := rfl
            refine go_istore C dX7_originOf_60 (by decide) rfl rfl ?_
            refine go_iload_n C dX7_originOf_62 rfl ?_
            refine go_iconst C (nI 3) dX7_originOf_63 rfl ?_
            refine go_icmp_neN C 102 dX7_originOf_64 (by decide) (by omega) (by omega) (fun h64 => ?_) (fun h64 => ?_)
            · exact absurd rfl h64
            · skip
              refine go_iload_n C dX7_originOf_67 rfl ?_
              refine go_bipush C (nI 15) dX7_originOf_68 rfl ?_
              refine go_icmp_neN C 102 dX7_originOf_70 (by decide) (by omega) (by omega) (fun h70 => ?_) (fun h70 => ?_)
              · have hn8 : ¬ o8 (sW S) 3 k := fun z => h70 z.2.2.1
                refine go_iconst C (nI 0) dX7_originOf_102 rfl ?_
                refine go_istore C dX7_originOf_103 (by decide) rfl rfl ?_
                exact L 6 0 (by omega) rfl hn6 hn7 hn8
              · refine go_iload C dX7_originOf_73 rfl ?_
                refine go_if_ltO C 102 dX7_originOf_75 (by decide) (fun j hj => by have := nbr_lt hk hj; omega) (fun h75 => ?_) (fun h75 => ?_)
                · have hn8 : ¬ o8 (sW S) 3 k := fun z => by rw [h75, if_pos z.2.1] at hup; cases hup
                  refine go_iconst C (nI 0) dX7_originOf_102 rfl ?_
                  refine go_istore C dX7_originOf_103 (by decide) rfl rfl ?_
                  exact L 6 0 (by omega) rfl hn6 hn7 hn8
                · obtain ⟨j, hj⟩ := h75
                  have hy7 : cY k < 7 := by
                    rw [hj] at hup
                    by_cases z : cY k < 7
                    · exact z
                    · rw [if_neg z] at hup; cases hup
                  have hj12 : j = k + 12 := by rw [hj, if_pos hy7] at hup; cases hup; rfl
                  have hjl := nbr_lt hk hj
                  have hlj := lit_lt hOL (c := 3) (by decide) hjl
                  rw [hj]
                  dsimp only [oI]
                  refine go_aload_n C dX7_originOf_78 rfl ?_
                  refine go_iload C dX7_originOf_79 rfl ?_
                  refine go_iconst C (nI 3) dX7_originOf_81 rfl ?_
                  refine go_V2P C ok_X7_lightOf lk_X7_177 dX7_originOf_82 (by decide) rfl rfl rfl (k_X7_lightOf hL hjl (by decide)) (by decide) (Nat.le_of_ble_eq_true rfl) ?_
                  refine go_bipush C (nI 15) dX7_originOf_85 rfl ?_
                  refine go_icmp_neN C 102 dX7_originOf_87 (by decide) (by omega) (by omega) (fun h87 => ?_) (fun h87 => ?_)
                  · have hn8 : ¬ o8 (sW S) 3 k := fun z => h87 (by rw [hj12]; exact z.2.2.2.1)
                    refine go_iconst C (nI 0) dX7_originOf_102 rfl ?_
                    refine go_istore C dX7_originOf_103 (by decide) rfl rfl ?_
                    have q := L 6 0 (by omega) rfl hn6 hn7 hn8
                    rw [hj] at q
                    exact q
                  · refine go_aload_n C dX7_originOf_90 rfl ?_
                    refine go_iload_n C dX7_originOf_91 rfl ?_
                    refine go_iconst C (nI 3) dX7_originOf_92 rfl ?_
                    refine go_V2P C ok_X7_lossOf lk_X7_93 dX7_originOf_93 (by decide) rfl rfl rfl (k_X7_lossOf hO hV hk (by decide)) (by decide) (Nat.le_of_ble_eq_true rfl) ?_
                    refine go_if_neN C 102 dX7_originOf_96 (by decide) (by omega) (fun h96 => ?_) (fun h96 => ?_)
                    · have hn8 : ¬ o8 (sW S) 3 k := fun z => h96 z.2.2.2.2
                      refine go_iconst C (nI 0) dX7_originOf_102 rfl ?_
                      refine go_istore C dX7_originOf_103 (by decide) rfl rfl ?_
                      have q := L 6 0 (by omega) rfl hn6 hn7 hn8
                      rw [hj] at q
                      exact q
                    · have hq8 : o8 (sW S) 3 k := ⟨rfl, hy7, h70, by rw [← hj12]; exact h87, h96⟩
                      refine go_bipush C (nI 8) dX7_originOf_99 rfl ?_
                      refine go_iret hr dX7_originOf_101 rfl ?_
                      first | exact ⟨by rw [org_6 hq6], rfl⟩ | exact ⟨by rw [org_7 hn6 hq7], rfl⟩ | exact ⟨by rw [org_8 hn6 hn7 hq8], rfl⟩
          · have hq7 : o7 (sW S) 3 k := ⟨rfl, h36, h49⟩
            refine go_bipush C (nI 7) dX7_originOf_52 rfl ?_
            refine go_iret hr dX7_originOf_54 rfl ?_
            first | exact ⟨by rw [org_6 hq6], rfl⟩ | exact ⟨by rw [org_7 hn6 hq7], rfl⟩ | exact ⟨by rw [org_8 hn6 hn7 hq8], rfl⟩
    · refine go_iload_n C dX7_originOf_12 rfl ?_
      refine go_aload_n C dX7_originOf_13 rfl ?_
      refine go_iload_n C dX7_originOf_14 rfl ?_
      refine go_iload_n C dX7_originOf_15 rfl ?_
      refine go_V2P C ok_X7_emissionOf lk_X7_103 dX7_originOf_16 (by decide) rfl rfl rfl (k_X7_emissionOf hO hV hk hc) (by decide) (Nat.le_of_ble_eq_true rfl) ?_
      rw [if_neg (by omega)]
      refine go_icmp_neN C 25 dX7_originOf_19 (by decide) (by omega) (by omega) (fun h19 => ?_) (fun h19 => ?_)
      · have hn6 : ¬ o6 (sW S) c k := fun z => h19 z.2
        refine go_iload_n C dX7_originOf_25 rfl ?_
        refine go_iconst C (nI 3) dX7_originOf_26 rfl ?_
        refine go_icmp_neN C 55 dX7_originOf_27 (by decide) (by omega) (by omega) (fun h27 => ?_) (fun h27 => ?_)
        · have hn7 : ¬ o7 (sW S) c k := fun z => h27 z.1
          refine go_iload_n C dX7_originOf_55 rfl ?_
          refine go_iconst C (nI 3) dX7_originOf_56 rfl ?_
          refine go_S2P C ok_X7_next lk_X7_100 dX7_originOf_57 (k_X7_next hk (by decide)) (by decide) (Nat.le_of_ble_eq_true rfl) ?_
          have hup : nbr k 3 = if cY k < 7 then some (k + 12) else none := rfl
          refine go_istore C dX7_originOf_60 (by decide) rfl rfl ?_
          refine go_iload_n C dX7_originOf_62 rfl ?_
          refine go_iconst C (nI 3) dX7_originOf_63 rfl ?_
          refine go_icmp_neN C 102 dX7_originOf_64 (by decide) (by omega) (by omega) (fun h64 => ?_) (fun h64 => ?_)
          · have hn8 : ¬ o8 (sW S) c k := fun z => h64 z.1
            refine go_iconst C (nI 0) dX7_originOf_102 rfl ?_
            refine go_istore C dX7_originOf_103 (by decide) rfl rfl ?_
            exact L 6 0 (by omega) rfl hn6 hn7 hn8
          · exact absurd h64 h27
        · subst h27
          refine go_iload_n C dX7_originOf_30 rfl ?_
          refine go_S1P C ok_X7_yOf lk_X7_65 dX7_originOf_31 (k_X7_yOf (by omega)) (by decide) (Nat.le_of_ble_eq_true rfl) ?_
          refine go_bipush C (nI 7) dX7_originOf_34 rfl ?_
          have hy8 := cY_lt k
          refine go_icmp_neN C 55 dX7_originOf_36 (by decide) (by omega) (by omega) (fun h36 => ?_) (fun h36 => ?_)
          · have hn7 : ¬ o7 (sW S) 3 k := fun z => h36 z.2.1
            refine go_iload_n C dX7_originOf_55 rfl ?_
            refine go_iconst C (nI 3) dX7_originOf_56 rfl ?_
            refine go_S2P C ok_X7_next lk_X7_100 dX7_originOf_57 (k_X7_next hk (by decide)) (by decide) (Nat.le_of_ble_eq_true rfl) ?_
            have hup : nbr k 3 = if cY k < 7 then some (k + 12) else none := rfl
            refine go_istore C dX7_originOf_60 (by decide) rfl rfl ?_
            refine go_iload_n C dX7_originOf_62 rfl ?_
            refine go_iconst C (nI 3) dX7_originOf_63 rfl ?_
            refine go_icmp_neN C 102 dX7_originOf_64 (by decide) (by omega) (by omega) (fun h64 => ?_) (fun h64 => ?_)
            · exact absurd rfl h64
            · skip
              refine go_iload_n C dX7_originOf_67 rfl ?_
              refine go_bipush C (nI 15) dX7_originOf_68 rfl ?_
              refine go_icmp_neN C 102 dX7_originOf_70 (by decide) (by omega) (by omega) (fun h70 => ?_) (fun h70 => ?_)
              · have hn8 : ¬ o8 (sW S) 3 k := fun z => h70 z.2.2.1
                refine go_iconst C (nI 0) dX7_originOf_102 rfl ?_
                refine go_istore C dX7_originOf_103 (by decide) rfl rfl ?_
                exact L 6 0 (by omega) rfl hn6 hn7 hn8
              · refine go_iload C dX7_originOf_73 rfl ?_
                refine go_if_ltO C 102 dX7_originOf_75 (by decide) (fun j hj => by have := nbr_lt hk hj; omega) (fun h75 => ?_) (fun h75 => ?_)
                · have hn8 : ¬ o8 (sW S) 3 k := fun z => by rw [h75, if_pos z.2.1] at hup; cases hup
                  refine go_iconst C (nI 0) dX7_originOf_102 rfl ?_
                  refine go_istore C dX7_originOf_103 (by decide) rfl rfl ?_
                  exact L 6 0 (by omega) rfl hn6 hn7 hn8
                · obtain ⟨j, hj⟩ := h75
                  have hy7 : cY k < 7 := by
                    rw [hj] at hup
                    by_cases z : cY k < 7
                    · exact z
                    · rw [if_neg z] at hup; cases hup
                  have hj12 : j = k + 12 := by rw [hj, if_pos hy7] at hup; cases hup; rfl
                  have hjl := nbr_lt hk hj
                  have hlj := lit_lt hOL (c := 3) (by decide) hjl
                  rw [hj]
                  dsimp only [oI]
                  refine go_aload_n C dX7_originOf_78 rfl ?_
                  refine go_iload C dX7_originOf_79 rfl ?_
                  refine go_iconst C (nI 3) dX7_originOf_81 rfl ?_
                  refine go_V2P C ok_X7_lightOf lk_X7_177 dX7_originOf_82 (by decide) rfl rfl rfl (k_X7_lightOf hL hjl (by decide)) (by decide) (Nat.le_of_ble_eq_true rfl) ?_
                  refine go_bipush C (nI 15) dX7_originOf_85 rfl ?_
                  refine go_icmp_neN C 102 dX7_originOf_87 (by decide) (by omega) (by omega) (fun h87 => ?_) (fun h87 => ?_)
                  · have hn8 : ¬ o8 (sW S) 3 k := fun z => h87 (by rw [hj12]; exact z.2.2.2.1)
                    refine go_iconst C (nI 0) dX7_originOf_102 rfl ?_
                    refine go_istore C dX7_originOf_103 (by decide) rfl rfl ?_
                    have q := L 6 0 (by omega) rfl hn6 hn7 hn8
                    rw [hj] at q
                    exact q
                  · refine go_aload_n C dX7_originOf_90 rfl ?_
                    refine go_iload_n C dX7_originOf_91 rfl ?_
                    refine go_iconst C (nI 3) dX7_originOf_92 rfl ?_
                    refine go_V2P C ok_X7_lossOf lk_X7_93 dX7_originOf_93 (by decide) rfl rfl rfl (k_X7_lossOf hO hV hk (by decide)) (by decide) (Nat.le_of_ble_eq_true rfl) ?_
                    refine go_if_neN C 102 dX7_originOf_96 (by decide) (by omega) (fun h96 => ?_) (fun h96 => ?_)
                    · have hn8 : ¬ o8 (sW S) 3 k := fun z => h96 z.2.2.2.2
                      refine go_iconst C (nI 0) dX7_originOf_102 rfl ?_
                      refine go_istore C dX7_originOf_103 (by decide) rfl rfl ?_
                      have q := L 6 0 (by omega) rfl hn6 hn7 hn8
                      rw [hj] at q
                      exact q
                    · have hq8 : o8 (sW S) 3 k := ⟨rfl, hy7, h70, by rw [← hj12]; exact h87, h96⟩
                      refine go_bipush C (nI 8) dX7_originOf_99 rfl ?_
                      refine go_iret hr dX7_originOf_101 rfl ?_
                      first | exact ⟨by rw [org_6 hq6], rfl⟩ | exact ⟨by rw [org_7 hn6 hq7], rfl⟩ | exact ⟨by rw [org_8 hn6 hn7 hq8], rfl⟩
          · refine go_iload_n C dX7_originOf_39 rfl ?_
            refine go_bipush C (nI 15) dX7_originOf_40 rfl ?_
            refine go_aload_n C dX7_originOf_42 rfl ?_
            refine go_iload_n C dX7_originOf_43 rfl ?_
            refine go_iconst C (nI 3) dX7_originOf_44 rfl ?_
            refine go_V2P C ok_X7_lossOf lk_X7_93 dX7_originOf_45 (by decide) rfl rfl rfl (k_X7_lossOf hO hV hk (by decide)) (by decide) (Nat.le_of_ble_eq_true rfl) ?_
            refine go_isubN C dX7_originOf_48 (by omega) ?_
            refine go_icmp_neN C 55 dX7_originOf_49 (by decide) (by omega) (by omega) (fun h49 => ?_) (fun h49 => ?_)
            · have hn7 : ¬ o7 (sW S) 3 k := fun z => h49 z.2.2
              refine go_iload_n C dX7_originOf_55 rfl ?_
              refine go_iconst C (nI 3) dX7_originOf_56 rfl ?_
              refine go_S2P C ok_X7_next lk_X7_100 dX7_originOf_57 (k_X7_next hk (by decide)) (by decide) (Nat.le_of_ble_eq_true rfl) ?_
              have hup : nbr k 3 = if cY k < 7 then some (k + 12) else none := rfl
              refine go_istore C dX7_originOf_60 (by decide) rfl rfl ?_
              refine go_iload_n C dX7_originOf_62 rfl ?_
              refine go_iconst C (nI 3) dX7_originOf_63 rfl ?_
              refine go_icmp_neN C 102 dX7_originOf_64 (by decide) (by omega) (by omega) (fun h64 => ?_) (fun h64 => ?_)
              · exact absurd rfl h64
              · skip
                refine go_iload_n C dX7_originOf_67 rfl ?_
                refine go_bipush C (nI 15) dX7_originOf_68 rfl ?_
                refine go_icmp_neN C 102 dX7_originOf_70 (by decide) (by omega) (by omega) (fun h70 => ?_) (fun h70 => ?_)
                · have hn8 : ¬ o8 (sW S) 3 k := fun z => h70 z.2.2.1
                  refine go_iconst C (nI 0) dX7_originOf_102 rfl ?_
                  refine go_istore C dX7_originOf_103 (by decide) rfl rfl ?_
                  exact L 6 0 (by omega) rfl hn6 hn7 hn8
                · refine go_iload C dX7_originOf_73 rfl ?_
                  refine go_if_ltO C 102 dX7_originOf_75 (by decide) (fun j hj => by have := nbr_lt hk hj; omega) (fun h75 => ?_) (fun h75 => ?_)
                  · have hn8 : ¬ o8 (sW S) 3 k := fun z => by rw [h75, if_pos z.2.1] at hup; cases hup
                    refine go_iconst C (nI 0) dX7_originOf_102 rfl ?_
                    refine go_istore C dX7_originOf_103 (by decide) rfl rfl ?_
                    exact L 6 0 (by omega) rfl hn6 hn7 hn8
                  · obtain ⟨j, hj⟩ := h75
                    have hy7 : cY k < 7 := by
                      rw [hj] at hup
                      by_cases z : cY k < 7
                      · exact z
                      · rw [if_neg z] at hup; cases hup
                    have hj12 : j = k + 12 := by rw [hj, if_pos hy7] at hup; cases hup; rfl
                    have hjl := nbr_lt hk hj
                    have hlj := lit_lt hOL (c := 3) (by decide) hjl
                    rw [hj]
                    dsimp only [oI]
                    refine go_aload_n C dX7_originOf_78 rfl ?_
                    refine go_iload C dX7_originOf_79 rfl ?_
                    refine go_iconst C (nI 3) dX7_originOf_81 rfl ?_
                    refine go_V2P C ok_X7_lightOf lk_X7_177 dX7_originOf_82 (by decide) rfl rfl rfl (k_X7_lightOf hL hjl (by decide)) (by decide) (Nat.le_of_ble_eq_true rfl) ?_
                    refine go_bipush C (nI 15) dX7_originOf_85 rfl ?_
                    refine go_icmp_neN C 102 dX7_originOf_87 (by decide) (by omega) (by omega) (fun h87 => ?_) (fun h87 => ?_)
                    · have hn8 : ¬ o8 (sW S) 3 k := fun z => h87 (by rw [hj12]; exact z.2.2.2.1)
                      refine go_iconst C (nI 0) dX7_originOf_102 rfl ?_
                      refine go_istore C dX7_originOf_103 (by decide) rfl rfl ?_
                      have q := L 6 0 (by omega) rfl hn6 hn7 hn8
                      rw [hj] at q
                      exact q
                    · refine go_aload_n C dX7_originOf_90 rfl ?_
                      refine go_iload_n C dX7_originOf_91 rfl ?_
                      refine go_iconst C (nI 3) dX7_originOf_92 rfl ?_
                      refine go_V2P C ok_X7_lossOf lk_X7_93 dX7_originOf_93 (by decide) rfl rfl rfl (k_X7_lossOf hO hV hk (by decide)) (by decide) (Nat.le_of_ble_eq_true rfl) ?_
                      refine go_if_neN C 102 dX7_originOf_96 (by decide) (by omega) (fun h96 => ?_) (fun h96 => ?_)
                      · have hn8 : ¬ o8 (sW S) 3 k := fun z => h96 z.2.2.2.2
                        refine go_iconst C (nI 0) dX7_originOf_102 rfl ?_
                        refine go_istore C dX7_originOf_103 (by decide) rfl rfl ?_
                        have q := L 6 0 (by omega) rfl hn6 hn7 hn8
                        rw [hj] at q
                        exact q
                      · have hq8 : o8 (sW S) 3 k := ⟨rfl, hy7, h70, by rw [← hj12]; exact h87, h96⟩
                        refine go_bipush C (nI 8) dX7_originOf_99 rfl ?_
                        refine go_iret hr dX7_originOf_101 rfl ?_
                        first | exact ⟨by rw [org_6 hq6], rfl⟩ | exact ⟨by rw [org_7 hn6 hq7], rfl⟩ | exact ⟨by rw [org_8 hn6 hn7 hq8], rfl⟩
            · have hq7 : o7 (sW S) 3 k := ⟨rfl, h36, h49⟩
              refine go_bipush C (nI 7) dX7_originOf_52 rfl ?_
              refine go_iret hr dX7_originOf_54 rfl ?_
              first | exact ⟨by rw [org_6 hq6], rfl⟩ | exact ⟨by rw [org_7 hn6 hq7], rfl⟩ | exact ⟨by rw [org_8 hn6 hn7 hq8], rfl⟩
      · have hq6 : o6 (sW S) c k := ⟨by omega, h19⟩
        refine go_bipush C (nI 6) dX7_originOf_22 rfl ?_
        refine go_iret hr dX7_originOf_24 rfl ?_
        first | exact ⟨by rw [org_6 hq6], rfl⟩ | exact ⟨by rw [org_7 hn6 hq7], rfl⟩ | exact ⟨by rw [org_8 hn6 hn7 hq8], rfl⟩
