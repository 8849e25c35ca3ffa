set_option maxHeartbeats 4000000 in
set_option maxRecDepth 100000 in
theorem k_X6_dark {σ : Mem} {S : St} (hR : RepC σ S) (lv : Int32) : CtI objC NC yX6_dark cX6_dark 4 .int 2 40 [.ref 0, .int lv] σ (RQ (aDark S lv) S) := by
  obtain ⟨hS, hW, hL, hEf, hB, hH, hSv, hX, hFt⟩ := id hR
  have hO := hS.1
  have hOL := hS.2.1
  refine ct_ofI rfl ?_ (Nat.le_of_ble_eq_true rfl) (fun X C hr => ?_)
  · intro v hv; simp only [List.mem_cons, List.not_mem_nil, or_false] at hv; rcases hv with rfl | rfl <;> rfl
  · refine go_iload_n C dX6_dark_0 rfl ?_
    refine go_S1P C ok_X6_isStrength lk_X6_122 dX6_dark_1 (k_X6_isStrength _) (by decide) (Nat.le_of_ble_eq_true rfl) ?_
    refine go_if_neB C 10 dX6_dark_4 (by decide) (fun h4 => ?_) (fun h4 => ?_)
    · obtain ⟨l, hl, rfl⟩ := rng_nat (by decide) (id h4)
      have L : ∀ (n : Nat) (i : Nat), (i + n = 1152) → Go objC NC X 14 [some (.ref 0), some (.int (nI l)), some (.int (nI (cnt (dkP (sW S) l) i))), some (.int (nI i))] [] σ := by
        intro n
        induction n using Nat.strongRecOn with
        | _ n ih =>
          intro i hi
          have hc0 := cnt_le (p := dkP (sW S) l) i
          refine go_iload_n C dX6_dark_14 rfl ?_
          refine go_sipush C (nI 1152) dX6_dark_15 rfl ?_
          refine go_icmp_geN C 51 dX6_dark_18 (by decide) (by omega) (by omega) (fun h18 => ?_) (fun h18 => ?_)
          · obtain rfl : i = 1152 := by omega
            refine go_iload_n C dX6_dark_51 rfl ?_
            refine go_iret hr dX6_dark_52 rfl ?_
            exact ⟨by unfold aDark; rw [pI_t h4, nI_clamp (by omega)], hR⟩
          · have hk : i < 1152 := by omega
            have h0 := lit_lt hOL (c := 0) (by decide) hk
            have h1 := lit_lt hOL (c := 1) (by decide) hk
            have h2 := lit_lt hOL (c := 2) (by decide) hk
            have h3 := lit_lt hOL (c := 3) (by decide) hk
            refine go_aload_n C dX6_dark_21 rfl ?_
            refine go_iload_n C dX6_dark_22 rfl ?_
            refine go_V1P C ok_X6_brightestColor lk_X6_182 dX6_dark_23 (by decide) rfl rfl rfl (k_X6_brightestColor hR (by omega)) (by decide) (Nat.le_of_ble_eq_true rfl) ?_
            refine go_iload_n C dX6_dark_26 rfl ?_
            refine go_icmp_gtN C 45 dX6_dark_27 (by decide) (by omega) (by omega) (fun h27 => ?_) (fun h27 => ?_)
            · have e2 : cnt (dkP (sW S) l) (i + 1) = cnt (dkP (sW S) l) i := cnt_0 (fun z => by obtain ⟨z1, z2, z3, z4⟩ := z; omega)
              refine go_iincN C 1 dX6_dark_45 rfl rfl (by decide) rfl rfl ?_
              refine go_goto C 14 dX6_dark_48 (by decide) ?_
              have q := ih (n - 1) (by omega) (i + 1) (by omega)
              rw [e2] at q
              exact q
            · refine go_aload_n C dX6_dark_30 rfl ?_
              refine go_getR C gf_X6_18 dX6_dark_31 (by decide) rfl rfl ?_
              refine go_iconst C (nI 3) dX6_dark_34 rfl ?_
              refine go_aald C dX6_dark_35 (by decide) rfl (Or.inl rfl) (by decide) rfl ?_
              refine go_iload_n C dX6_dark_36 rfl ?_
              refine go_ialdN C dX6_dark_37 (by decide) rfl (by decide) (by omega) ?_
              refine go_top _ (hL 3 (by decide) _ hk) ?_
              refine go_iload_n C dX6_dark_38 rfl ?_
              refine go_icmp_gtN C 45 dX6_dark_39 (by decide) (by omega) (by omega) (fun h39 => ?_) (fun h39 => ?_)
              · have e2 : cnt (dkP (sW S) l) (i + 1) = cnt (dkP (sW S) l) i := cnt_0 (fun z => by obtain ⟨z1, z2, z3, z4⟩ := z; omega)
                refine go_iincN C 1 dX6_dark_45 rfl rfl (by decide) rfl rfl ?_
                refine go_goto C 14 dX6_dark_48 (by decide) ?_
                have q := ih (n - 1) (by omega) (i + 1) (by omega)
                rw [e2] at q
                exact q
              · have e2 : cnt (dkP (sW S) l) (i + 1) = cnt (dkP (sW S) l) i + 1 := cnt_1 ⟨by omega, by omega, by omega, by omega⟩
                refine go_iincN C 1 dX6_dark_42 rfl rfl (by decide) rfl rfl ?_
                refine go_iincN C 1 dX6_dark_45 rfl rfl (by decide) rfl rfl ?_
                refine go_goto C 14 dX6_dark_48 (by decide) ?_
                have q := ih (n - 1) (by omega) (i + 1) (by omega)
                rw [e2] at q
                exact q
      refine go_iconst C (nI 0) dX6_dark_10 rfl ?_
      refine go_istore_n C dX6_dark_11 (by decide) rfl rfl ?_
      refine go_iconst C (nI 0) dX6_dark_12 rfl ?_
      refine go_istore_n C dX6_dark_13 (by decide) rfl rfl ?_
      exact L 1152 0 (by omega)
    · refine go_bipush C (-2) dX6_dark_7 rfl ?_
      refine go_iret hr dX6_dark_9 rfl ?_
      exact ⟨(pI_f h4).symm, hR⟩
set_option maxHeartbeats 4000000 in
set_option maxRecDepth 100000 in
theorem k_X6_skyHeight {σ : Mem} {S : St} (hR : RepC σ S) (x z : Int32) : CtI objC NC yX6_skyHeight cX6_skyHeight 5 .int 1 22 [.ref 0, .int x, .int z] σ (RQ (aSky S x z) S) := by
  obtain ⟨hS, hW, hL, hEf, hB, hH, hSv, hX, hFt⟩ := id hR
  have hO := hS.1
  have hOL := hS.2.1
  refine ct_ofI rfl ?_ (Nat.le_of_ble_eq_true rfl) (fun X C hr => ?_)
  · intro v hv; simp only [List.mem_cons, List.not_mem_nil, or_false] at hv; rcases hv with rfl | rfl | rfl <;> rfl
  · refine go_iload_n C dX6_skyHeight_0 rfl ?_
    refine go_iconst C (nI 0) dX6_skyHeight_1 rfl ?_
    refine go_iload_n C dX6_skyHeight_2 rfl ?_
    refine go_S3P C ok_X2_has lk_X6_74 dX6_skyHeight_3 (k_X2_has _ _ _) (by decide) (Nat.le_of_ble_eq_true rfl) ?_
    refine go_if_neB C 11 dX6_skyHeight_6 (by decide) (fun h6 => ?_) (fun h6 => ?_)
    · obtain ⟨r1, r2, r3⟩ := id h6
      obtain ⟨a, ha, rfl⟩ := rng_nat (by decide) r1
      obtain ⟨cz, hcz, rfl⟩ := rng_nat (by decide) r3
      have hans : aSky S (nI a) (nI cz) = nI (skyF (sW S) a cz 8) := by unfold aSky; rw [pI_t h6, nI_clamp (by omega), nI_clamp (by omega)]
      have L : ∀ (n : Nat) (y8 : Nat), (y8 = n ∧ y8 ≤ 8) → (skyF (sW S) a cz y8 = skyF (sW S) a cz 8) → Go objC NC X 18 [some (.ref 0), some (.int (nI a)), some (.int (nI cz)), some (.int (nI y8)), some (.int (nI y8 - 1))] [] σ := by
        intro n
        induction n using Nat.strongRecOn with
        | _ n ih =>
          intro y8 hy he
          rcases Nat.eq_zero_or_pos y8 with h0 | h0
          · subst h0
            refine go_iload C dX6_skyHeight_18 rfl ?_
            refine go_if_lt C 51 dX6_skyHeight_20 (by decide) (fun h20 => ?_) (fun h20 => ?_)
            · skip
              refine go_iload_n C dX6_skyHeight_51 rfl ?_
              refine go_iret hr dX6_skyHeight_52 rfl ?_
              exact ⟨by rw [hans, ← he]; rfl, hR⟩
            · exact absurd (show nI 0 - 1 < 0 by decide) h20
          · obtain ⟨y, rfl⟩ : ∃ y, y8 = y + 1 := ⟨y8 - 1, by omega⟩
            rw [nI_pred]
            have hk := cel_lt (b := y) ha (by omega) hcz
            have hl15 := lit_lt hOL (c := 3) (by decide) hk
            refine go_iload C dX6_skyHeight_18 rfl ?_
            refine go_if_ltN C 51 dX6_skyHeight_20 (by decide) (by omega) (fun h20 => ?_) (fun h20 => ?_)
            · exact absurd h20 (by omega)
            · refine go_aload_n C dX6_skyHeight_23 rfl ?_
              refine go_getR C gf_X6_18 dX6_skyHeight_24 (by decide) rfl rfl ?_
              refine go_iconst C (nI 3) dX6_skyHeight_27 rfl ?_
              refine go_aald C dX6_skyHeight_28 (by decide) rfl (Or.inl rfl) (by decide) rfl ?_
              refine go_iload_n C dX6_skyHeight_29 rfl ?_
              refine go_iload C dX6_skyHeight_30 rfl ?_
              refine go_iload_n C dX6_skyHeight_32 rfl ?_
              refine go_S3P C ok_X2_cell lk_X6_84 dX6_skyHeight_33 k_X2_cell (by decide) (Nat.le_of_ble_eq_true rfl) ?_
              refine go_ialdN C dX6_skyHeight_36 (by decide) rfl (by decide) (by omega) ?_
              refine go_top _ (hL 3 (by decide) _ hk) ?_
              refine go_bipush C (nI 15) dX6_skyHeight_37 rfl ?_
              refine go_icmp_neN C 51 dX6_skyHeight_39 (by decide) (by omega) (by omega) (fun h39 => ?_) (fun h39 => ?_)
              · have e2 : skyF (sW S) a cz (y + 1) = y + 1 := by rw [skyF, if_neg h39]
                refine go_iload_n C dX6_skyHeight_51 rfl ?_
                refine go_iret hr dX6_skyHeight_52 rfl ?_
                exact ⟨by rw [hans, ← he, e2], hR⟩
              · have e2 : skyF (sW S) a cz (y + 1) = skyF (sW S) a cz y := by rw [skyF, if_pos h39]
                refine go_iload C dX6_skyHeight_42 rfl ?_
                refine go_istore_n C dX6_skyHeight_44 (by decide) rfl rfl ?_
                refine go_iinc C (nI y - 1) dX6_skyHeight_45 rfl (dec_i _) (by decide) rfl rfl ?_
                refine go_goto C 18 dX6_skyHeight_48 (by decide) ?_
                exact ih (n - 1) (by omega) y ⟨by omega, by omega⟩ (e2 ▸ he)
      refine go_bipush C (nI 8) dX6_skyHeight_11 rfl ?_
      refine go_istore_n C dX6_skyHeight_13 (by decide) rfl rfl ?_
      refine go_bipush C (nI 7) dX6_skyHeight_14 rfl ?_
      refine go_istore C dX6_skyHeight_16 (by decide) rfl rfl ?_
      exact L 8 8 ⟨rfl, by decide⟩ rfl
    · refine go_iconst C (-1) dX6_skyHeight_9 rfl ?_
      refine go_iret hr dX6_skyHeight_10 rfl ?_
      exact ⟨(pI_f h6).symm, hR⟩
theorem sb_gt {g l : Nat} (hg : g < 2 ^ 30) (hl : l < 2 ^ 30) : 0 < nI g - nI l ↔ l < g := by
  rw [Int32.lt_iff_toInt_lt, pk_sub_toInt hg hl, show (0 : Int32).toInt = 0 by decide]
  omega
set_option maxHeartbeats 4000000 in
set_option maxRecDepth 100000 in
theorem k_X6_ray {σ : Mem} {S : St} (hR : RepC σ S) (x y z d c : Int32) : CtI objC NC yX6_ray cX6_ray 10 .int 2 41 [.ref 0, .int x, .int y, .int z, .int d, .int c] σ (RQ (aRay S x y z d c) S) := by
  obtain ⟨hS, hW, hL, hEf, hB, hH, hSv, hX, hFt⟩ := id hR
  have hO := hS.1
  have hOL := hS.2.1
  refine ct_ofI rfl ?_ (Nat.le_of_ble_eq_true rfl) (fun X C hr => ?_)
  · intro v hv; simp only [List.mem_cons, List.not_mem_nil, or_false] at hv; rcases hv with rfl | rfl | rfl | rfl | rfl | rfl <;> rfl
  · refine go_iload_n C dX6_ray_0 rfl ?_
    refine go_iload_n C dX6_ray_1 rfl ?_
    refine go_iload_n C dX6_ray_2 rfl ?_
    refine go_S3P C ok_X2_has lk_X6_74 dX6_ray_3 (k_X2_has _ _ _) (by decide) (Nat.le_of_ble_eq_true rfl) ?_
    refine go_if_eqB C 29 dX6_ray_6 (by decide) (fun h6 => ?_) (fun h6 => ?_)
    · refine go_iconst C (-1) dX6_ray_29 rfl ?_
      refine go_iret hr dX6_ray_30 rfl ?_
      exact ⟨(pI_f (fun q => by first | exact h6 q.1 | exact q.2.1.1 h11 | exact q.2.1.2 h18 | exact h26 q.2.2)).symm, hR⟩
    · refine go_iload C dX6_ray_9 rfl ?_
      refine go_if_lt C 29 dX6_ray_11 (by decide) (fun h11 => ?_) (fun h11 => ?_)
      · refine go_iconst C (-1) dX6_ray_29 rfl ?_
        refine go_iret hr dX6_ray_30 rfl ?_
        exact ⟨(pI_f (fun q => by first | exact h6 q.1 | exact q.2.1.1 h11 | exact q.2.1.2 h18 | exact h26 q.2.2)).symm, hR⟩
      · refine go_iload C dX6_ray_14 rfl ?_
        refine go_bipush C (nI 6) dX6_ray_16 rfl ?_
        refine go_icmp_ge C 29 dX6_ray_18 (by decide) (fun h18 => ?_) (fun h18 => ?_)
        · refine go_iconst C (-1) dX6_ray_29 rfl ?_
          refine go_iret hr dX6_ray_30 rfl ?_
          exact ⟨(pI_f (fun q => by first | exact h6 q.1 | exact q.2.1.1 h11 | exact q.2.1.2 h18 | exact h26 q.2.2)).symm, hR⟩
        · refine go_iload C dX6_ray_21 rfl ?_
          refine go_S1P C ok_X6_isChannel lk_X6_119 dX6_ray_23 (k_X6_isChannel _) (by decide) (Nat.le_of_ble_eq_true rfl) ?_
          refine go_if_neB C 31 dX6_ray_26 (by decide) (fun h26 => ?_) (fun h26 => ?_)
          · obtain ⟨r1, r2, r3⟩ := id h6
            obtain ⟨a, ha, rfl⟩ := rng_nat (by decide) r1
            obtain ⟨b, hb, rfl⟩ := rng_nat (by decide) r2
            obtain ⟨cz, hcz, rfl⟩ := rng_nat (by decide) r3
            have hk := cel_lt ha hb hcz
            have hd6 : rng 6 d := ⟨h11, h18⟩
            obtain ⟨dn, hd, rfl⟩ := rng_nat (by decide) (id hd6)
            obtain ⟨cn, hc, rfl⟩ := rng_nat (by decide) (id h26)
            have hans : aRay S (nI a) (nI b) (nI cz) (nI dn) (nI cn) = nI (rayF (sW S) dn cn 12 (nbr (cel a b cz) dn) 0 15) := by unfold aRay; rw [pI_t ⟨h6, hd6, h26⟩, nI_clamp (by omega), nI_clamp (by omega), ixC_nI ha hb hcz]
            have L : ∀ (n : Nat) (o : Option Nat) (m : Nat) (s : Nat) (v9 : Option Value), (s ≤ 15 ∧ m ≤ 12) → (∀ k, o = some k → k < 1152 ∧ m + remD k dn + 1 ≤ 11 ∧ remD k dn < n) → (rayF (sW S) dn cn n o m s = rayF (sW S) dn cn 12 (nbr (cel a b cz) dn) 0 15) → Go objC NC X 51 [some (.ref 0), some (.int (nI a)), some (.int (nI b)), some (.int (nI cz)), some (.int (nI dn)), some (.int (nI cn)), some (.int (nI s)), some (.int (nI m)), some (.int (oI o)), v9] [] σ := by
              intro n
              induction n using Nat.strongRecOn with
              | _ n ih =>
                intro o m s v9 hs ho he
                refine go_iload C dX6_ray_51 rfl ?_
                refine go_iconst C (-1) dX6_ray_53 rfl ?_
                refine go_icmp_eqO C 107 dX6_ray_54 (by decide) (fun j hj => by have := (ho j hj).1; omega) (fun h54 => ?_) (fun h54 => ?_)
                · subst h54
                  have e2 : rayF (sW S) dn cn n none m s = 16 * m + s := by cases n <;> rfl
                  refine go_bipush C (nI 16) dX6_ray_107 rfl ?_
                  refine go_iload C dX6_ray_109 rfl ?_
                  refine go_imulN C dX6_ray_111 ?_
                  refine go_iload C dX6_ray_112 rfl ?_
                  refine go_iaddN C dX6_ray_114 ?_
                  refine go_iret hr dX6_ray_115 rfl ?_
                  exact ⟨by rw [hans, ← he, e2], hR⟩
                · obtain ⟨k, rfl⟩ := h54
                  obtain ⟨hk, hrm, hrn⟩ := ho k rfl
                  have hl16 := lossN_lt hO hc hk
                  obtain ⟨n, rfl⟩ : ∃ n2, n = n2 + 1 := ⟨n - 1, by omega⟩
                  dsimp only [oI]
                  refine go_iload C dX6_ray_57 rfl ?_
                  refine go_bipush C (nI 12) dX6_ray_59 rfl ?_
                  refine go_icmp_geN C 107 dX6_ray_61 (by decide) (by omega) (by omega) (fun h61 => ?_) (fun h61 => ?_)
                  · exact absurd h61 (by omega)
                  · refine go_iload C dX6_ray_64 rfl ?_
                    refine go_aload_n C dX6_ray_66 rfl ?_
                    refine go_getR C gf_X6_12 dX6_ray_67 (by decide) rfl rfl ?_
                    refine go_iload C dX6_ray_70 rfl ?_
                    refine go_iload C dX6_ray_72 rfl ?_
                    refine go_V2P C ok_X5_lossAt lk_X6_176 dX6_ray_74 (by decide) rfl rfl rfl (k_X5_lossAt hO hW hk hc) (by decide) (Nat.le_of_ble_eq_true rfl) ?_
                    refine go_isub C dX6_ray_77 ?_
                    refine go_istore C dX6_ray_78 (by decide) rfl rfl ?_
                    refine go_iload C dX6_ray_80 rfl ?_
                    refine go_if_gt C 88 dX6_ray_82 (by decide) (fun h82 => ?_) (fun h82 => ?_)
                    · rw [sb_gt (by omega) (by omega)] at h82
                      have e2 : rayF (sW S) dn cn (n + 1) (some k) m s = rayF (sW S) dn cn n (nbr k dn) (m + 1) (s - lossN (sW S) cn k) := by rw [rayF, if_neg (by omega)]
                      have es : nI s - nI (lossN (sW S) cn k) = nI (s - lossN (sW S) cn k) := pk_sub (by omega)
                      rw [es]
                      refine go_iload C dX6_ray_88 rfl ?_
                      refine go_istore C dX6_ray_90 (by decide) rfl rfl ?_
                      refine go_iincN C 1 dX6_ray_92 rfl rfl (by decide) rfl rfl ?_
                      refine go_iload C dX6_ray_95 rfl ?_
                      refine go_iload C dX6_ray_97 rfl ?_
                      refine go_S2P C ok_X2_neighbor lk_X6_185 dX6_ray_99 (k_X2_neighbor hk (by omega)) (by decide) (Nat.le_of_ble_eq_true rfl) ?_
                      refine go_istore C dX6_ray_102 (by decide) rfl rfl ?_
                      refine go_goto C 51 dX6_ray_104 (by decide) ?_
                      exact ih n (by omega) _ (m + 1) (s - lossN (sW S) cn k) _ ⟨by omega, by omega⟩ (fun k2 hk2 => ⟨nbr_lt hk hk2, by have := remD_nbr hk hk2; omega, by have := remD_nbr hk hk2; omega⟩) (e2 ▸ he)
                    · rw [sb_gt (by omega) (by omega)] at h82
                      have e2 : rayF (sW S) dn cn (n + 1) (some k) m s = 16 * m + s := by rw [rayF, if_pos (by omega)]
                      refine go_goto C 107 dX6_ray_85 (by decide) ?_
                      refine go_bipush C (nI 16) dX6_ray_107 rfl ?_
                      refine go_iload C dX6_ray_109 rfl ?_
                      refine go_imulN C dX6_ray_111 ?_
                      refine go_iload C dX6_ray_112 rfl ?_
                      refine go_iaddN C dX6_ray_114 ?_
                      refine go_iret hr dX6_ray_115 rfl ?_
                      exact ⟨by rw [hans, ← he, e2], hR⟩
            refine go_bipush C (nI 15) dX6_ray_31 rfl ?_
            refine go_istore C dX6_ray_33 (by decide) rfl rfl ?_
            refine go_iconst C (nI 0) dX6_ray_35 rfl ?_
            refine go_istore C dX6_ray_36 (by decide) rfl rfl ?_
            refine go_iload_n C dX6_ray_38 rfl ?_
            refine go_iload_n C dX6_ray_39 rfl ?_
            refine go_iload_n C dX6_ray_40 rfl ?_
            refine go_S3P C ok_X2_cell lk_X6_84 dX6_ray_41 k_X2_cell (by decide) (Nat.le_of_ble_eq_true rfl) ?_
            refine go_iload C dX6_ray_44 rfl ?_
            refine go_S2P C ok_X2_neighbor lk_X6_185 dX6_ray_46 (k_X2_neighbor hk (by omega)) (by decide) (Nat.le_of_ble_eq_true rfl) ?_
            refine go_istore C dX6_ray_49 (by decide) rfl rfl ?_
            exact L 12 _ 0 15 _ ⟨by decide, by decide⟩ (fun k2 hk2 => ⟨nbr_lt hk hk2, by have := remD_nbr hk hk2; have := remD_le hk dn; omega, by have := remD_nbr hk hk2; have := remD_le hk dn; omega⟩) rfl
          · refine go_iconst C (-1) dX6_ray_29 rfl ?_
            refine go_iret hr dX6_ray_30 rfl ?_
            exact ⟨(pI_f (fun q => by first | exact h6 q.1 | exact q.2.1.1 h11 | exact q.2.1.2 h18 | exact h26 q.2.2)).symm, hR⟩
set_option maxHeartbeats 4000000 in
set_option maxRecDepth 100000 in
theorem k_X6_brightest {σ : Mem} {S : St} (hR : RepC σ S) (c : Int32) : CtI objC NC yX6_brightest cX6_brightest 4 .int 2 40 [.ref 0, .int c] σ (RQ (aBri S c) S) := by
  obtain ⟨hS, hW, hL, hEf, hB, hH, hSv, hX, hFt⟩ := id hR
  have hO := hS.1
  have hOL := hS.2.1
  refine ct_ofI rfl ?_ (Nat.le_of_ble_eq_true rfl) (fun X C hr => ?_)
  · intro v hv; simp only [List.mem_cons, List.not_mem_nil, or_false] at hv; rcases hv with rfl | rfl <;> rfl
  · refine go_iload_n C dX6_brightest_0 rfl ?_
    refine go_S1P C ok_X6_isChannel lk_X6_119 dX6_brightest_1 (k_X6_isChannel _) (by decide) (Nat.le_of_ble_eq_true rfl) ?_
    refine go_if_neB C 9 dX6_brightest_4 (by decide) (fun h4 => ?_) (fun h4 => ?_)
    · obtain ⟨cn, hc, rfl⟩ := rng_nat (by decide) (id h4)
      have L : ∀ (n : Nat) (i : Nat), (i + n = 1151) → Go objC NC X 13 [some (.ref 0), some (.int (nI cn)), some (.int (nI (briF (sW S) cn i))), some (.int (nI (i + 1)))] [] σ := by
        intro n
        induction n using Nat.strongRecOn with
        | _ n ih =>
          intro i hi
          have hbi := briF_le (w := sW S) (c := cn) i
          refine go_iload_n C dX6_brightest_13 rfl ?_
          refine go_sipush C (nI 1152) dX6_brightest_14 rfl ?_
          refine go_icmp_geN C 47 dX6_brightest_17 (by decide) (by omega) (by omega) (fun h17 => ?_) (fun h17 => ?_)
          · obtain rfl : i = 1151 := by omega
            have hbl := lit_lt hOL hc (show briF (sW S) cn 1151 < 1152 by omega)
            refine go_aload_n C dX6_brightest_47 rfl ?_
            refine go_getR C gf_X6_18 dX6_brightest_48 (by decide) rfl rfl ?_
            refine go_iload_n C dX6_brightest_51 rfl ?_
            refine go_aald C dX6_brightest_52 (by decide) rfl (Or.inl rfl) (by decide) (jsL hc) ?_
            refine go_iload_n C dX6_brightest_53 rfl ?_
            refine go_ialdN C dX6_brightest_54 (Nat.lt_of_lt_of_le (Nat.add_lt_add_left hc 6) (by decide)) (hoL hc) (by decide) (by omega) ?_
            refine go_top _ (hL cn hc _ (by omega)) ?_
            refine go_if_leN C 65 dX6_brightest_55 (by decide) (by omega) (fun h55 => ?_) (fun h55 => ?_)
            · refine go_bipush C (-4) dX6_brightest_65 rfl ?_
              refine go_iret hr dX6_brightest_67 rfl ?_
              first | exact ⟨by unfold aBri; rw [pI_t h4, nI_clamp (by omega), if_pos h55], hR⟩ | exact ⟨by unfold aBri; rw [pI_t h4, nI_clamp (by omega), if_neg (by omega)], hR⟩
            · refine go_iload_n C dX6_brightest_58 rfl ?_
              refine go_S1P C ok_X2_number lk_X6_166 dX6_brightest_59 (k_X2_number (by omega)) (by decide) (Nat.le_of_ble_eq_true rfl) ?_
              refine go_goto C 67 dX6_brightest_62 (by decide) ?_
              refine go_iret hr dX6_brightest_67 rfl ?_
              first | exact ⟨by unfold aBri; rw [pI_t h4, nI_clamp (by omega), if_pos h55], hR⟩ | exact ⟨by unfold aBri; rw [pI_t h4, nI_clamp (by omega), if_neg (by omega)], hR⟩
          · have hb1 := lit_lt hOL hc (show i + 1 < 1152 by omega)
            have hb2 := lit_lt hOL hc (show briF (sW S) cn i < 1152 by omega)
            refine go_aload_n C dX6_brightest_20 rfl ?_
            refine go_getR C gf_X6_18 dX6_brightest_21 (by decide) rfl rfl ?_
            refine go_iload_n C dX6_brightest_24 rfl ?_
            refine go_aald C dX6_brightest_25 (by decide) rfl (Or.inl rfl) (by decide) (jsL hc) ?_
            refine go_iload_n C dX6_brightest_26 rfl ?_
            refine go_ialdN C dX6_brightest_27 (Nat.lt_of_lt_of_le (Nat.add_lt_add_left hc 6) (by decide)) (hoL hc) (by decide) (by omega) ?_
            refine go_top _ (hL cn hc _ (by omega)) ?_
            refine go_aload_n C dX6_brightest_28 rfl ?_
            refine go_getR C gf_X6_18 dX6_brightest_29 (by decide) rfl rfl ?_
            refine go_iload_n C dX6_brightest_32 rfl ?_
            refine go_aald C dX6_brightest_33 (by decide) rfl (Or.inl rfl) (by decide) (jsL hc) ?_
            refine go_iload_n C dX6_brightest_34 rfl ?_
            refine go_ialdN C dX6_brightest_35 (Nat.lt_of_lt_of_le (Nat.add_lt_add_left hc 6) (by decide)) (hoL hc) (by decide) (by omega) ?_
            refine go_top _ (hL cn hc _ (by omega)) ?_
            refine go_icmp_leN C 41 dX6_brightest_36 (by decide) (by omega) (by omega) (fun h36 => ?_) (fun h36 => ?_)
            · have e2 : briF (sW S) cn (i + 1) = briF (sW S) cn i := by rw [briF, if_neg (by omega)]
              refine go_iincN C 1 dX6_brightest_41 rfl rfl (by decide) rfl rfl ?_
              refine go_goto C 13 dX6_brightest_44 (by decide) ?_
              have q := ih (n - 1) (by omega) (i + 1) (by omega)
              rw [e2] at q
              exact q
            · have e2 : briF (sW S) cn (i + 1) = i + 1 := by rw [briF, if_pos (by omega)]
              refine go_iload_n C dX6_brightest_39 rfl ?_
              refine go_istore_n C dX6_brightest_40 (by decide) rfl rfl ?_
              refine go_iincN C 1 dX6_brightest_41 rfl rfl (by decide) rfl rfl ?_
              refine go_goto C 13 dX6_brightest_44 (by decide) ?_
              have q := ih (n - 1) (by omega) (i + 1) (by omega)
              rw [e2] at q
              exact q
      refine go_iconst C (nI 0) dX6_brightest_9 rfl ?_
      refine go_istore_n C dX6_brightest_10 (by decide) rfl rfl ?_
      refine go_iconst C (nI 1) dX6_brightest_11 rfl ?_
      refine go_istore_n C dX6_brightest_12 (by decide) rfl rfl ?_
      exact L 1151 0 (by omega)
    · refine go_iconst C (-1) dX6_brightest_7 rfl ?_
      refine go_iret hr dX6_brightest_8 rfl ?_
      exact ⟨(pI_f h4).symm, hR⟩
set_option maxHeartbeats 4000000 in
set_option maxRecDepth 100000 in
theorem k_X6_histogram {σ : Mem} {S : St} (hR : RepC σ S) (c lt : Int32) : CtI objC NC yX6_histogram cX6_histogram 5 .int 1 20 [.ref 0, .int c, .int lt] σ (RQ (aHist S c lt) S) := by
  obtain ⟨hS, hW, hL, hEf, hB, hH, hSv, hX, hFt⟩ := id hR
  have hO := hS.1
  have hOL := hS.2.1
  refine ct_ofI rfl ?_ (Nat.le_of_ble_eq_true rfl) (fun X C hr => ?_)
  · intro v hv; simp only [List.mem_cons, List.not_mem_nil, or_false] at hv; rcases hv with rfl | rfl | rfl <;> rfl
  · refine go_iload_n C dX6_histogram_0 rfl ?_
    refine go_S1P C ok_X6_isChannel lk_X6_119 dX6_histogram_1 (k_X6_isChannel _) (by decide) (Nat.le_of_ble_eq_true rfl) ?_
    refine go_if_neB C 9 dX6_histogram_4 (by decide) (fun h4 => ?_) (fun h4 => ?_)
    · refine go_iload_n C dX6_histogram_9 rfl ?_
      refine go_S1P C ok_X6_isStrength lk_X6_122 dX6_histogram_10 (k_X6_isStrength _) (by decide) (Nat.le_of_ble_eq_true rfl) ?_
      refine go_if_neB C 19 dX6_histogram_13 (by decide) (fun h13 => ?_) (fun h13 => ?_)
      · obtain ⟨cn, hc, rfl⟩ := rng_nat (by decide) (id h4)
        obtain ⟨l, hl, rfl⟩ := rng_nat (by decide) (id h13)
        have L : ∀ (n : Nat) (i : Nat), (i + n = 1152) → Go objC NC X 24 [some (.ref 0), some (.int (nI cn)), some (.int (nI l)), some (.int (nI (cnt (fun j => lit (sW S) cn j = l) i))), some (.int (nI i))] [] σ := by
          intro n
          induction n using Nat.strongRecOn with
          | _ n ih =>
            intro i hi
            refine go_iload C dX6_histogram_24 rfl ?_
            refine go_sipush C (nI 1152) dX6_histogram_26 rfl ?_
            refine go_icmp_geN C 54 dX6_histogram_29 (by decide) (by omega) (by omega) (fun h29 => ?_) (fun h29 => ?_)
            · obtain rfl : i = 1152 := by omega
              refine go_iload_n C dX6_histogram_54 rfl ?_
              refine go_iret hr dX6_histogram_55 rfl ?_
              exact ⟨by unfold aHist; rw [pI_t h4, pI_t h13, nI_clamp (by omega), nI_clamp (by omega)], hR⟩
            · refine go_aload_n C dX6_histogram_32 rfl ?_
              refine go_getR C gf_X6_18 dX6_histogram_33 (by decide) rfl rfl ?_
              refine go_iload_n C dX6_histogram_36 rfl ?_
              refine go_aald C dX6_histogram_37 (by decide) rfl (Or.inl rfl) (by decide) (jsL hc) ?_
              refine go_iload C dX6_histogram_38 rfl ?_
              refine go_ialdN C dX6_histogram_40 (Nat.lt_of_lt_of_le (Nat.add_lt_add_left hc 6) (by decide)) (hoL hc) (by decide) (by omega) ?_
              refine go_top _ (hL cn hc _ (by omega)) ?_
              refine go_iload_n C dX6_histogram_41 rfl ?_
              have hb1 := lit_lt hOL hc (show i < 1152 by omega)
              refine go_icmp_neN C 48 dX6_histogram_42 (by decide) (by omega) (by omega) (fun h42 => ?_) (fun h42 => ?_)
              · have e2 : cnt (fun j => lit (sW S) cn j = l) (i + 1) = cnt (fun j => lit (sW S) cn j = l) i := cnt_0 h42
                refine go_iincN C 1 dX6_histogram_48 rfl rfl (by decide) rfl rfl ?_
                refine go_goto C 24 dX6_histogram_51 (by decide) ?_
                have q := ih (n - 1) (by omega) (i + 1) (by omega)
                rw [e2] at q
                exact q
              · have e2 : cnt (fun j => lit (sW S) cn j = l) (i + 1) = cnt (fun j => lit (sW S) cn j = l) i + 1 := cnt_1 h42
                refine go_iincN C 1 dX6_histogram_45 rfl rfl (by decide) rfl rfl ?_
                refine go_iincN C 1 dX6_histogram_48 rfl rfl (by decide) rfl rfl ?_
                refine go_goto C 24 dX6_histogram_51 (by decide) ?_
                have q := ih (n - 1) (by omega) (i + 1) (by omega)
                rw [e2] at q
                exact q
        refine go_iconst C (nI 0) dX6_histogram_19 rfl ?_
        refine go_istore_n C dX6_histogram_20 (by decide) rfl rfl ?_
        refine go_iconst C (nI 0) dX6_histogram_21 rfl ?_
        refine go_istore C dX6_histogram_22 (by decide) rfl rfl ?_
        exact L 1152 0 (by omega)
      · refine go_bipush C (-2) dX6_histogram_16 rfl ?_
        refine go_iret hr dX6_histogram_18 rfl ?_
        first | exact ⟨(pI_f h4).symm, hR⟩ | exact ⟨by unfold aHist; rw [pI_t h4, pI_f h13], hR⟩
    · refine go_iconst C (-1) dX6_histogram_7 rfl ?_
      refine go_iret hr dX6_histogram_8 rfl ?_
      first | exact ⟨(pI_f h4).symm, hR⟩ | exact ⟨by unfold aHist; rw [pI_t h4, pI_f h13], hR⟩
set_option maxHeartbeats 4000000 in
set_option maxRecDepth 100000 in
theorem k_X6_checksum {σ : Mem} {S : St} (hR : RepC σ S)  : CtL objC NC yX6_checksum cX6_checksum 4 1 21 [.ref 0] σ (fun r τ => r = lN (chS (sW S) 1152) ∧ RepC τ S) := by
  obtain ⟨hS, hW, hL, hEf, hB, hH, hSv, hX, hFt⟩ := id hR
  have hO := hS.1
  have hOL := hS.2.1
  refine ct_ofL rfl ?_ (Nat.le_of_ble_eq_true rfl) (fun X C hr => ?_)
  · intro v hv; simp only [List.mem_cons, List.not_mem_nil, or_false] at hv; rcases hv with rfl <;> rfl
  · have L : ∀ (n : Nat) (i : Nat), (i + n = 1152) → Go objC NC X 6 [some (.ref 0), some (.long (lN (chS (sW S) i))), none, some (.int (nI i))] [] σ := by
      intro n
      induction n using Nat.strongRecOn with
      | _ n ih =>
        intro i hi
        refine go_iload_n C dX6_checksum_6 rfl ?_
        refine go_sipush C (nI 1152) dX6_checksum_7 rfl ?_
        refine go_icmp_geN C 47 dX6_checksum_10 (by decide) (by omega) (by omega) (fun h10 => ?_) (fun h10 => ?_)
        · obtain rfl : i = 1152 := by omega
          refine go_lload_n C dX6_checksum_47 rfl ?_
          refine go_lret hr dX6_checksum_48 ?_
          exact ⟨rfl, hR⟩
        · have hk : i < 1152 := by omega
          have ht8 := hO.1 i hk
          have hp := pkL_lt hOL hk
          have e2 : lN (chS (sW S) i) * 31 + (nI (wT (sW S) i)).toInt64 + 8 * (nI (pkL (sW S) i)).toInt64 = lN (chS (sW S) (i + 1)) := by rw [nI_l (by omega), nI_l (by omega), show (31 : Int64) = lN 31 from rfl, show (8 : Int64) = lN 8 from rfl, lN_mul, lN_mul, lN_add, lN_add]; rfl
          refine go_lload_n C dX6_checksum_13 rfl ?_
          refine go_ldc2 C _ lc_X6_194 dX6_checksum_14 ?_
          refine go_lmul C dX6_checksum_17 ?_
          refine go_aload_n C dX6_checksum_18 rfl ?_
          refine go_getR C gf_X6_12 dX6_checksum_19 (by decide) rfl rfl ?_
          refine go_getR C gf_X6_99 dX6_checksum_22 (by decide) rfl rfl ?_
          refine go_iload_n C dX6_checksum_25 rfl ?_
          refine go_ialdN C dX6_checksum_26 (by decide) rfl (by decide) (by omega) ?_
          refine go_top _ (hW.1 _ (by omega)) ?_
          refine go_i2l C _ dX6_checksum_27 rfl ?_
          refine go_ladd C dX6_checksum_28 ?_
          refine go_ldc2 C _ lc_X6_196 dX6_checksum_29 ?_
          refine go_aload_n C dX6_checksum_32 rfl ?_
          refine go_iload_n C dX6_checksum_33 rfl ?_
          refine go_V1P C ok_X6_packedLights lk_X6_157 dX6_checksum_34 (by decide) rfl rfl rfl (k_X6_packedLights hR hk) (by decide) (Nat.le_of_ble_eq_true rfl) ?_
          refine go_i2l C _ dX6_checksum_37 rfl ?_
          refine go_lmul C dX6_checksum_38 ?_
          refine go_ladd C dX6_checksum_39 ?_
          refine go_lstore_n C dX6_checksum_40 (by decide) rfl rfl ?_
          refine go_iincN C 1 dX6_checksum_41 rfl rfl (by decide) rfl rfl ?_
          refine go_goto C 6 dX6_checksum_44 (by decide) ?_
          have q := ih (n - 1) (by omega) (i + 1) (by omega)
          rw [← e2] at q
          exact q
    refine go_ldc2 C _ lc_X6_192 dX6_checksum_0 ?_
    refine go_lstore_n C dX6_checksum_3 (by decide) rfl rfl ?_
    refine go_iconst C (nI 0) dX6_checksum_4 rfl ?_
    refine go_istore_n C dX6_checksum_5 (by decide) rfl rfl ?_
    exact L 1152 0 (by omega)
set_option maxHeartbeats 4000000 in
set_option maxRecDepth 100000 in
theorem k_X6_faultPosition {σ : Mem} {S : St} (hR : RepC σ S)  : CtI objC NC yX6_faultPosition cX6_faultPosition 1 .int 0 0 [.ref 0] σ (RQ (sF S) S) := by
  obtain ⟨hS, hW, hL, hEf, hB, hH, hSv, hX, hFt⟩ := id hR
  have hO := hS.1
  have hOL := hS.2.1
  refine ct_ofI rfl ?_ (Nat.le_of_ble_eq_true rfl) (fun X C hr => ?_)
  · intro v hv; simp only [List.mem_cons, List.not_mem_nil, or_false] at hv; rcases hv with rfl <;> rfl
  · refine go_aload_n C dX6_faultPosition_0 rfl ?_
    refine go_getI C gf_X6_71 dX6_faultPosition_1 (by decide) rfl rfl ?_
    refine go_iret hr dX6_faultPosition_4 rfl ?_
    exact ⟨hFt, hR⟩
