theorem RepM.f0 {σ : Mem} {S : St} (h : RepM σ S) {i : Nat} (v : Int32) (hi : i ≠ 2 ∧ i ≠ 4 ∧ i ≠ 8 ∧ i ≠ 11 ∧ i ≠ 12 ∧ i ≠ 15 ∧ i ≠ 17) : RepM (updR σ 0 (upd (σ 0) i v)) S :=
  h.fr (fun q _ h0 _ _ _ _ => updR_n h0) (fun j hj => by rw [updR_s]; exact pk_un (by omega))
theorem FrM.R {σ τ : Mem} (h : FrM σ τ) {S : St} (hR : RepM σ S) : RepM τ S := hR.fr (fun q _ _ h6 _ _ _ => h q h6) (fun j _ => by rw [h 0 (by decide)])
theorem setT_id {w : Wd} {k : Nat} : setT w k (wT w k) = w := by
  unfold setT
  rw [un_id]
  rfl
theorem need_max {w : Wd} {c k e : Nat} {f0 fe : Nat → Nat} (hc : c ≠ 3) (hk : k < 1152) (hy : cY k < 7) (h0 : IsLit (srcQ w c k 0) (lossN w c) f0) (he : IsLit (srcQ w c k e) (lossN w c) fe) : fe (k + 12) = max (f0 (k + 12)) (e - 1 - lossN w c (k + 12)) := by
  have hup : nbr k 3 = some (k + 12) := by show (if cY k < 7 then some (k + 12) else none) = _; rw [if_pos hy]
  have hk12 := nbr_lt hk hup
  obtain ⟨d, -, hd⟩ := nbr_sym hk hup
  have sk : srcQ w c k e k = e := by unfold srcQ; rw [if_neg hc, if_pos rfl]
  have sn : ∀ n, n ≠ k → srcQ w c k e n = srcQ w c k 0 n := fun n hn => by unfold srcQ; rw [if_neg hc, if_neg hc, if_neg hn, if_neg hn]
  have s0 : srcQ w c k 0 k = 0 := by unfold srcQ; rw [if_neg hc, if_pos rfl]
  apply Nat.le_antisymm
  · have := lit_le (src := srcQ w c k e) (ls := lossN w c) (f := fe) (g := fun n => max (f0 n) (if n = k then e else e - 1 - lossN w c n)) (fun n h => (he.1 n h).2) he.2.2 (fun n hn => by
      show srcQ w c k e n ≤ max _ _
      by_cases z : n = k
      · subst z; rw [sk, if_pos rfl]; exact Nat.le_max_right _ _
      · rw [sn n z]; exact Nat.le_trans (h0.1 n hn).1 (Nat.le_max_left _ _)) (fun n hn d m hd => by
      show max (f0 m) _ ≤ max (f0 n) _ + 1 + lossN w c n
      have a1 := h0.2.1 n hn d m hd
      have a2 := Nat.le_max_left (f0 n) (if n = k then e else e - 1 - lossN w c n)
      have a3 := Nat.le_max_right (f0 n) (if n = k then e else e - 1 - lossN w c n)
      have a4 : (if m = k then e else e - 1 - lossN w c m) ≤ e := by split <;> omega
      have a5 : e ≤ (if n = k then e else e - 1 - lossN w c n) + 1 + lossN w c n := by split <;> omega
      exact Nat.max_le.mpr ⟨by omega, by omega⟩) (k + 12) hk12
    have z : k + 12 ≠ k := by omega
    simpa only [if_neg z] using this
  · refine Nat.max_le.mpr ⟨?_, ?_⟩
    · exact lit_le (src := srcQ w c k 0) (fun n h => (h0.1 n h).2) h0.2.2 (fun n hn => by
        by_cases z : n = k
        · subst z; rw [s0]; exact Nat.zero_le _
        · rw [← sn n z]; exact (he.1 n hn).1) he.2.1 (k + 12) hk12
    · have a1 := he.2.1 (k + 12) hk12 d k hd
      have a2 := (he.1 k hk).1
      rw [sk] at a2
      omega
set_option maxHeartbeats 4000000 in
set_option maxRecDepth 100000 in
theorem k_X7_origin {σ : Mem} {S : St} (hR : RepM σ S) (x y z c : Int32) : CtI objM NM yX7_origin cX7_origin 6 .int 4 94 [.ref 0, .int x, .int y, .int z, .int c] σ (RQM (aOrigin S x y z c) S) := by
  obtain ⟨hS, hM, hL, hEf, hB, hH, hSv, hX, hFt, hoc⟩ := id hR
  have hO := hS.1
  have hOL := hS.2.1
  have hV := hR.V
  have hT : ∀ j, j < 1152 → σ 1 j = nI (wT (sW S) j) := fun j hj => by have := hM.1 j hj; rw [Nat.zero_add] at this; exact this
  have hLs := hV.2.2.2.1
  have hEm := hV.2.2.2.2.1
  refine ct_ofI rfl ?_ (Nat.le_of_ble_eq_true rfl) (fun X C hr => ?_)
  · intro v hv; simp only [List.mem_cons, List.not_mem_nil, or_false] at hv; rcases hv with rfl | rfl | rfl | rfl | rfl <;> rfl
  · refine go_iload_n C dX7_origin_0 rfl ?_
    refine go_iload_n C dX7_origin_1 rfl ?_
    refine go_iload_n C dX7_origin_2 rfl ?_
    refine go_S3P C ok_X7_isCell lk_X7_71 dX7_origin_3 (k_X7_isCell _ _ _) (by decide) (Nat.le_of_ble_eq_true rfl) ?_
    refine go_if_eqB C 19 dX7_origin_6 (by decide) (fun h6 => ?_) (fun h6 => ?_)
    · refine go_iconst C (-1) dX7_origin_19 rfl ?_
      refine go_iret hr dX7_origin_20 rfl ?_
      first | exact ⟨(pI_f (fun q => by first | exact h6 q.1 | exact h16 q.2)).symm, hR⟩ | exact ⟨by rw [hans]; unfold orgI; rw [if_pos h37], hR⟩ | exact ⟨by rw [hans]; unfold orgI; rw [if_neg h37], hR⟩
    · refine go_iload C dX7_origin_9 rfl ?_
      refine go_iconst C (nI 0) dX7_origin_11 rfl ?_
      refine go_iconst C (nI 3) dX7_origin_12 rfl ?_
      refine go_S3P C ok_X7_in lk_X7_57 dX7_origin_13 (k_X7_in (by decide) _) (by decide) (Nat.le_of_ble_eq_true rfl) ?_
      refine go_if_neB C 21 dX7_origin_16 (by decide) (fun h16 => ?_) (fun h16 => ?_)
      · obtain ⟨r1, r2, r3⟩ := id h6
        obtain ⟨a, ha, rfl⟩ := rng_nat (by decide) r1
        obtain ⟨b, hb, rfl⟩ := rng_nat (by decide) r2
        obtain ⟨cz, hcz, rfl⟩ := rng_nat (by decide) r3
        have hk := cel_lt ha hb hcz
        obtain ⟨cn, hc, rfl⟩ := rng_nat (by decide) (id h16)
        have hlk := lit_lt hOL hc hk
        have hans : aOrigin S (nI a) (nI b) (nI cz) (nI cn) = orgI (sW S) cn (cel a b cz) := by unfold aOrigin; rw [pI_t ⟨h6, h16⟩, nI_clamp (by omega), ixC_nI ha hb hcz]
        refine go_iload_n C dX7_origin_21 rfl ?_
        refine go_iload_n C dX7_origin_22 rfl ?_
        refine go_iload_n C dX7_origin_23 rfl ?_
        refine go_S3P C ok_X7_cell lk_X7_74 dX7_origin_24 k_X7_cell (by decide) (Nat.le_of_ble_eq_true rfl) ?_
        refine go_istore C dX7_origin_27 (by decide) rfl rfl ?_
        refine go_aload_n C dX7_origin_29 rfl ?_
        refine go_iload C dX7_origin_30 rfl ?_
        refine go_iload C dX7_origin_32 rfl ?_
        refine go_V2P C ok_X7_lightOf lk_X7_177 dX7_origin_34 (by decide) rfl rfl rfl (k_X7_lightOf hL hk hc) (by decide) (Nat.le_of_ble_eq_true rfl) ?_
        refine go_if_neN C 45 dX7_origin_37 (by decide) (by omega) (fun h37 => ?_) (fun h37 => ?_)
        · refine go_aload_n C dX7_origin_45 rfl ?_
          refine go_iload C dX7_origin_46 rfl ?_
          refine go_iload C dX7_origin_48 rfl ?_
          refine go_V2P C ok_X7_originOf lk_X7_183 dX7_origin_50 (by decide) rfl rfl rfl (k_X7_originOf hR hk hc (by omega)) (by decide) (Nat.le_of_ble_eq_true rfl) ?_
          refine go_iret hr dX7_origin_53 rfl ?_
          first | exact ⟨(pI_f (fun q => by first | exact h6 q.1 | exact h16 q.2)).symm, hR⟩ | exact ⟨by rw [hans]; unfold orgI; rw [if_pos h37], hR⟩ | exact ⟨by rw [hans]; unfold orgI; rw [if_neg h37], hR⟩
        · refine go_bipush C (-4) dX7_origin_40 rfl ?_
          refine go_goto C 53 dX7_origin_42 (by decide) ?_
          refine go_iret hr dX7_origin_53 rfl ?_
          first | exact ⟨(pI_f (fun q => by first | exact h6 q.1 | exact h16 q.2)).symm, hR⟩ | exact ⟨by rw [hans]; unfold orgI; rw [if_pos h37], hR⟩ | exact ⟨by rw [hans]; unfold orgI; rw [if_neg h37], hR⟩
      · refine go_iconst C (-1) dX7_origin_19 rfl ?_
        refine go_iret hr dX7_origin_20 rfl ?_
        first | exact ⟨(pI_f (fun q => by first | exact h6 q.1 | exact h16 q.2)).symm, hR⟩ | exact ⟨by rw [hans]; unfold orgI; rw [if_pos h37], hR⟩ | exact ⟨by rw [hans]; unfold orgI; rw [if_neg h37], hR⟩
set_option maxHeartbeats 4000000 in
set_option maxRecDepth 100000 in
theorem k_X7_goBack {σ : Mem} {S : St} (hR : RepM σ S) {k c : Nat} (hk : k < 1152) (hc : c < 4) (h0 : 0 < lit (sW S) c k) : CtI objM NM yX7_goBack cX7_goBack 5 .int 4 94 [.ref 0, .int (nI k), .int (nI c)] σ (fun r τ => r = nI (wayE (sW S) c 128 k) ∧ τ 0 23 = nI (wayS (sW S) c 128 k) ∧ RepM τ S) := by
  obtain ⟨hS, hM, hL, hEf, hB, hH, hSv, hX, hFt, hoc⟩ := id hR
  have hO := hS.1
  have hOL := hS.2.1
  have hV := hR.V
  have hT : ∀ j, j < 1152 → σ 1 j = nI (wT (sW S) j) := fun j hj => by have := hM.1 j hj; rw [Nat.zero_add] at this; exact this
  have hLs := hV.2.2.2.1
  have hEm := hV.2.2.2.2.1
  refine ct_ofI rfl ?_ (Nat.le_of_ble_eq_true rfl) (fun X C hr => ?_)
  · intro v hv; simp only [List.mem_cons, List.not_mem_nil, or_false] at hv; rcases hv with rfl | rfl | rfl <;> rfl
  · have L : ∀ (n : Nat) (m : Nat) (cur : Nat) (ρ : Mem), (m + n = 128 ∧ cur < 1152 ∧ mu (sW S) c cur < n ∧ 0 < lit (sW S) c cur) → (m + wayS (sW S) c n cur = wayS (sW S) c 128 k) → (wayE (sW S) c n cur = wayE (sW S) c 128 k) → (RepM ρ S) → (ρ 0 23 = nI m) → Go objM NM X 15 [some (.ref 0), some (.int (nI k)), some (.int (nI c)), some (.int (nI cur)), some (.int (nI (org (sW S) c cur)))] [] ρ := by
      intro n
      induction n using Nat.strongRecOn with
      | _ n ih =>
        intro m cur ρ hm hs he hR1 hw
        obtain ⟨hm1, hcl, hmu, hpos⟩ := hm
        obtain ⟨n, rfl⟩ : ∃ n2, n = n2 + 1 := ⟨n - 1, by omega⟩
        have hg9 := (org_lt hOL hc hcl hpos).1
        refine go_iload C dX7_goBack_15 rfl ?_
        refine go_bipush C (nI 6) dX7_goBack_17 rfl ?_
        refine go_icmp_eqN C 68 dX7_goBack_19 (by decide) (by omega) (by omega) (fun h19 => ?_) (fun h19 => ?_)
        · have hg := giver_no (w := sW S) (c := c) (k := cur) (Or.inl h19)
          refine go_iload_n C dX7_goBack_68 rfl ?_
          refine go_iret hr dX7_goBack_69 rfl ?_
          exact ⟨by rw [← he, wayE, hg], by rw [← hs, wayS, hg]; exact hw, hR1⟩
        · refine go_iload C dX7_goBack_22 rfl ?_
          refine go_bipush C (nI 7) dX7_goBack_24 rfl ?_
          refine go_icmp_eqN C 68 dX7_goBack_26 (by decide) (by omega) (by omega) (fun h26 => ?_) (fun h26 => ?_)
          · have hg := giver_no (w := sW S) (c := c) (k := cur) (Or.inr h26)
            refine go_iload_n C dX7_goBack_68 rfl ?_
            refine go_iret hr dX7_goBack_69 rfl ?_
            exact ⟨by rw [← he, wayE, hg], by rw [← hs, wayS, hg]; exact hw, hR1⟩
          · obtain ⟨j, hg, hg8, hg6⟩ := giver_go hOL hc hcl hpos h19 h26
            obtain ⟨hjl, -, hjp, hmj⟩ := giver_ok hOL hc hcl hg
            refine go_iload_n C dX7_goBack_29 rfl ?_
            refine go_iload C dX7_goBack_30 rfl ?_
            refine go_bipush C (nI 8) dX7_goBack_32 rfl ?_
            refine go_icmp_neN C 41 dX7_goBack_34 (by decide) (by omega) (by omega) (fun h34 => ?_) (fun h34 => ?_)
            · obtain ⟨hg5, hgn⟩ := hg6 h34
              refine go_iload C dX7_goBack_41 rfl ?_
              refine go_S2P C ok_X7_next lk_X7_100 dX7_goBack_43 (k_X7_next hcl (by omega)) (by decide) (Nat.le_of_ble_eq_true rfl) ?_
              rw [hgn]
              dsimp only [oI]
              refine go_istore_n C dX7_goBack_46 (by decide) rfl rfl ?_
              refine go_aload_n C dX7_goBack_47 rfl ?_
              refine go_dup C dX7_goBack_48 rfl ?_
              refine go_getI C gf_X7_186 dX7_goBack_49 (by decide) rfl rfl ?_
              refine go_top _ hw ?_
              refine go_iconst C (nI 1) dX7_goBack_52 rfl ?_
              refine go_iaddN C dX7_goBack_53 ?_
              refine go_putI C gf_X7_186 dX7_goBack_54 (by decide) rfl rfl rfl rfl rfl ?_
              refine go_aload_n C dX7_goBack_57 rfl ?_
              refine go_iload_n C dX7_goBack_58 rfl ?_
              refine go_iload_n C dX7_goBack_59 rfl ?_
              refine go_V2P C ok_X7_originOf lk_X7_183 dX7_goBack_60 (by decide) rfl rfl rfl (k_X7_originOf (hR1.f0 _ (by decide)) hjl hc hjp) (by decide) (Nat.le_of_ble_eq_true rfl) ?_
              refine go_istore C dX7_goBack_63 (by decide) rfl rfl ?_
              refine go_goto C 15 dX7_goBack_65 (by decide) ?_
              exact ih n (by omega) (m + 1) j _ ⟨by omega, hjl, by omega, hjp⟩ (by rw [← hs, wayS, hg]; show m + 1 + wayS (sW S) c n j = m + (wayS (sW S) c n j + 1); omega) (by rw [← he, wayE, hg]) (hR1.f0 _ (by decide)) (by rw [updR_s]; exact pk_us)
            · have hgn := hg8 h34
              refine go_iconst C (nI 3) dX7_goBack_37 rfl ?_
              refine go_goto C 43 dX7_goBack_38 (by decide) ?_
              refine go_S2P C ok_X7_next lk_X7_100 dX7_goBack_43 (k_X7_next hcl (by omega)) (by decide) (Nat.le_of_ble_eq_true rfl) ?_
              rw [hgn]
              dsimp only [oI]
              refine go_istore_n C dX7_goBack_46 (by decide) rfl rfl ?_
              refine go_aload_n C dX7_goBack_47 rfl ?_
              refine go_dup C dX7_goBack_48 rfl ?_
              refine go_getI C gf_X7_186 dX7_goBack_49 (by decide) rfl rfl ?_
              refine go_top _ hw ?_
              refine go_iconst C (nI 1) dX7_goBack_52 rfl ?_
              refine go_iaddN C dX7_goBack_53 ?_
              refine go_putI C gf_X7_186 dX7_goBack_54 (by decide) rfl rfl rfl rfl rfl ?_
              refine go_aload_n C dX7_goBack_57 rfl ?_
              refine go_iload_n C dX7_goBack_58 rfl ?_
              refine go_iload_n C dX7_goBack_59 rfl ?_
              refine go_V2P C ok_X7_originOf lk_X7_183 dX7_goBack_60 (by decide) rfl rfl rfl (k_X7_originOf (hR1.f0 _ (by decide)) hjl hc hjp) (by decide) (Nat.le_of_ble_eq_true rfl) ?_
              refine go_istore C dX7_goBack_63 (by decide) rfl rfl ?_
              refine go_goto C 15 dX7_goBack_65 (by decide) ?_
              exact ih n (by omega) (m + 1) j _ ⟨by omega, hjl, by omega, hjp⟩ (by rw [← hs, wayS, hg]; show m + 1 + wayS (sW S) c n j = m + (wayS (sW S) c n j + 1); omega) (by rw [← he, wayE, hg]) (hR1.f0 _ (by decide)) (by rw [updR_s]; exact pk_us)
    refine go_iload_n C dX7_goBack_0 rfl ?_
    refine go_istore_n C dX7_goBack_1 (by decide) rfl rfl ?_
    refine go_aload_n C dX7_goBack_2 rfl ?_
    refine go_iconst C (nI 0) dX7_goBack_3 rfl ?_
    refine go_putI C gf_X7_186 dX7_goBack_4 (by decide) rfl rfl rfl rfl rfl ?_
    refine go_aload_n C dX7_goBack_7 rfl ?_
    refine go_iload_n C dX7_goBack_8 rfl ?_
    refine go_iload_n C dX7_goBack_9 rfl ?_
    refine go_V2P C ok_X7_originOf lk_X7_183 dX7_goBack_10 (by decide) rfl rfl rfl (k_X7_originOf (hR.f0 _ (by decide)) hk hc h0) (by decide) (Nat.le_of_ble_eq_true rfl) ?_
    refine go_istore C dX7_goBack_13 (by decide) rfl rfl ?_
    exact L 128 0 k _ ⟨by decide, hk, mu_lt, h0⟩ (Nat.zero_add _) rfl (hR.f0 _ (by decide)) (by rw [updR_s]; exact pk_us)
set_option maxHeartbeats 4000000 in
set_option maxRecDepth 100000 in
theorem k_X7_wayLength {σ : Mem} {S : St} (hR : RepM σ S) (x y z c : Int32) : CtI objM NM yX7_wayLength cX7_wayLength 5 .int 5 118 [.ref 0, .int x, .int y, .int z, .int c] σ (RQM (aWayL S x y z c) S) := by
  obtain ⟨hS, hM, hL, hEf, hB, hH, hSv, hX, hFt, hoc⟩ := id hR
  have hO := hS.1
  have hOL := hS.2.1
  have hV := hR.V
  have hT : ∀ j, j < 1152 → σ 1 j = nI (wT (sW S) j) := fun j hj => by have := hM.1 j hj; rw [Nat.zero_add] at this; exact this
  have hLs := hV.2.2.2.1
  have hEm := hV.2.2.2.2.1
  refine ct_ofI rfl ?_ (Nat.le_of_ble_eq_true rfl) (fun X C hr => ?_)
  · intro v hv; simp only [List.mem_cons, List.not_mem_nil, or_false] at hv; rcases hv with rfl | rfl | rfl | rfl | rfl <;> rfl
  · refine go_iload_n C dX7_wayLength_0 rfl ?_
    refine go_iload_n C dX7_wayLength_1 rfl ?_
    refine go_iload_n C dX7_wayLength_2 rfl ?_
    refine go_S3P C ok_X7_isCell lk_X7_71 dX7_wayLength_3 (k_X7_isCell _ _ _) (by decide) (Nat.le_of_ble_eq_true rfl) ?_
    refine go_if_eqB C 19 dX7_wayLength_6 (by decide) (fun h6 => ?_) (fun h6 => ?_)
    · refine go_iconst C (-1) dX7_wayLength_19 rfl ?_
      refine go_iret hr dX7_wayLength_20 rfl ?_
      first | exact ⟨(pI_f (fun q => by first | exact h6 q.1 | exact h16 q.2)).symm, hR⟩ | exact ⟨by rw [hans, if_pos h33], hR⟩ | exact ⟨by rw [hans, if_neg h33], hp3⟩
    · refine go_iload C dX7_wayLength_9 rfl ?_
      refine go_iconst C (nI 0) dX7_wayLength_11 rfl ?_
      refine go_iconst C (nI 3) dX7_wayLength_12 rfl ?_
      refine go_S3P C ok_X7_in lk_X7_57 dX7_wayLength_13 (k_X7_in (by decide) _) (by decide) (Nat.le_of_ble_eq_true rfl) ?_
      refine go_if_neB C 21 dX7_wayLength_16 (by decide) (fun h16 => ?_) (fun h16 => ?_)
      · obtain ⟨r1, r2, r3⟩ := id h6
        obtain ⟨a, ha, rfl⟩ := rng_nat (by decide) r1
        obtain ⟨b, hb, rfl⟩ := rng_nat (by decide) r2
        obtain ⟨cz, hcz, rfl⟩ := rng_nat (by decide) r3
        have hk := cel_lt ha hb hcz
        obtain ⟨cn, hc, rfl⟩ := rng_nat (by decide) (id h16)
        have hlk := lit_lt hOL hc hk
        have hans : aWayL S (nI a) (nI b) (nI cz) (nI cn) = if lit (sW S) cn (cel a b cz) = 0 then -4 else nI (wayS (sW S) cn 128 (cel a b cz)) := by unfold aWayL; rw [pI_t ⟨h6, h16⟩, nI_clamp (by omega), ixC_nI ha hb hcz]
        refine go_aload_n C dX7_wayLength_21 rfl ?_
        refine go_iload_n C dX7_wayLength_22 rfl ?_
        refine go_iload_n C dX7_wayLength_23 rfl ?_
        refine go_iload_n C dX7_wayLength_24 rfl ?_
        refine go_S3P C ok_X7_cell lk_X7_74 dX7_wayLength_25 k_X7_cell (by decide) (Nat.le_of_ble_eq_true rfl) ?_
        refine go_iload C dX7_wayLength_28 rfl ?_
        refine go_V2P C ok_X7_lightOf lk_X7_177 dX7_wayLength_30 (by decide) rfl rfl rfl (k_X7_lightOf hL hk hc) (by decide) (Nat.le_of_ble_eq_true rfl) ?_
        refine go_if_neN C 39 dX7_wayLength_33 (by decide) (by omega) (fun h33 => ?_) (fun h33 => ?_)
        · refine go_aload_n C dX7_wayLength_39 rfl ?_
          refine go_iload_n C dX7_wayLength_40 rfl ?_
          refine go_iload_n C dX7_wayLength_41 rfl ?_
          refine go_iload_n C dX7_wayLength_42 rfl ?_
          refine go_S3P C ok_X7_cell lk_X7_74 dX7_wayLength_43 k_X7_cell (by decide) (Nat.le_of_ble_eq_true rfl) ?_
          refine go_iload C dX7_wayLength_46 rfl ?_
          refine go_V2I C ok_X7_goBack lk_X7_189 dX7_wayLength_48 (by decide) rfl rfl rfl (k_X7_goBack hR hk hc (by omega)) (by decide) (Nat.le_of_ble_eq_true rfl) (fun r τ hp => ?_)
          obtain ⟨rfl, hp2, hp3⟩ := hp
          refine go_pop C dX7_wayLength_51 rfl ?_
          refine go_aload_n C dX7_wayLength_52 rfl ?_
          refine go_getI C gf_X7_186 dX7_wayLength_53 (by decide) rfl rfl ?_
          refine go_top _ hp2 ?_
          refine go_iret hr dX7_wayLength_56 rfl ?_
          first | exact ⟨(pI_f (fun q => by first | exact h6 q.1 | exact h16 q.2)).symm, hR⟩ | exact ⟨by rw [hans, if_pos h33], hR⟩ | exact ⟨by rw [hans, if_neg h33], hp3⟩
        · refine go_bipush C (-4) dX7_wayLength_36 rfl ?_
          refine go_iret hr dX7_wayLength_38 rfl ?_
          first | exact ⟨(pI_f (fun q => by first | exact h6 q.1 | exact h16 q.2)).symm, hR⟩ | exact ⟨by rw [hans, if_pos h33], hR⟩ | exact ⟨by rw [hans, if_neg h33], hp3⟩
      · refine go_iconst C (-1) dX7_wayLength_19 rfl ?_
        refine go_iret hr dX7_wayLength_20 rfl ?_
        first | exact ⟨(pI_f (fun q => by first | exact h6 q.1 | exact h16 q.2)).symm, hR⟩ | exact ⟨by rw [hans, if_pos h33], hR⟩ | exact ⟨by rw [hans, if_neg h33], hp3⟩
set_option maxHeartbeats 4000000 in
set_option maxRecDepth 100000 in
theorem k_X7_wayEnd {σ : Mem} {S : St} (hR : RepM σ S) (x y z c : Int32) : CtI objM NM yX7_wayEnd cX7_wayEnd 5 .int 5 118 [.ref 0, .int x, .int y, .int z, .int c] σ (RQM (aWayE S x y z c) S) := by
  obtain ⟨hS, hM, hL, hEf, hB, hH, hSv, hX, hFt, hoc⟩ := id hR
  have hO := hS.1
  have hOL := hS.2.1
  have hV := hR.V
  have hT : ∀ j, j < 1152 → σ 1 j = nI (wT (sW S) j) := fun j hj => by have := hM.1 j hj; rw [Nat.zero_add] at this; exact this
  have hLs := hV.2.2.2.1
  have hEm := hV.2.2.2.2.1
  refine ct_ofI rfl ?_ (Nat.le_of_ble_eq_true rfl) (fun X C hr => ?_)
  · intro v hv; simp only [List.mem_cons, List.not_mem_nil, or_false] at hv; rcases hv with rfl | rfl | rfl | rfl | rfl <;> rfl
  · refine go_iload_n C dX7_wayEnd_0 rfl ?_
    refine go_iload_n C dX7_wayEnd_1 rfl ?_
    refine go_iload_n C dX7_wayEnd_2 rfl ?_
    refine go_S3P C ok_X7_isCell lk_X7_71 dX7_wayEnd_3 (k_X7_isCell _ _ _) (by decide) (Nat.le_of_ble_eq_true rfl) ?_
    refine go_if_eqB C 19 dX7_wayEnd_6 (by decide) (fun h6 => ?_) (fun h6 => ?_)
    · refine go_iconst C (-1) dX7_wayEnd_19 rfl ?_
      refine go_iret hr dX7_wayEnd_20 rfl ?_
      first | exact ⟨(pI_f (fun q => by first | exact h6 q.1 | exact h16 q.2)).symm, hR⟩ | exact ⟨by rw [hans, if_pos h33], hR⟩ | exact ⟨by rw [hans, if_neg h33], hp3⟩
    · refine go_iload C dX7_wayEnd_9 rfl ?_
      refine go_iconst C (nI 0) dX7_wayEnd_11 rfl ?_
      refine go_iconst C (nI 3) dX7_wayEnd_12 rfl ?_
      refine go_S3P C ok_X7_in lk_X7_57 dX7_wayEnd_13 (k_X7_in (by decide) _) (by decide) (Nat.le_of_ble_eq_true rfl) ?_
      refine go_if_neB C 21 dX7_wayEnd_16 (by decide) (fun h16 => ?_) (fun h16 => ?_)
      · obtain ⟨r1, r2, r3⟩ := id h6
        obtain ⟨a, ha, rfl⟩ := rng_nat (by decide) r1
        obtain ⟨b, hb, rfl⟩ := rng_nat (by decide) r2
        obtain ⟨cz, hcz, rfl⟩ := rng_nat (by decide) r3
        have hk := cel_lt ha hb hcz
        obtain ⟨cn, hc, rfl⟩ := rng_nat (by decide) (id h16)
        have hlk := lit_lt hOL hc hk
        have hans : aWayE S (nI a) (nI b) (nI cz) (nI cn) = if lit (sW S) cn (cel a b cz) = 0 then -4 else nI (cod (wayE (sW S) cn 128 (cel a b cz))) := by unfold aWayE; rw [pI_t ⟨h6, h16⟩, nI_clamp (by omega), ixC_nI ha hb hcz]
        refine go_aload_n C dX7_wayEnd_21 rfl ?_
        refine go_iload_n C dX7_wayEnd_22 rfl ?_
        refine go_iload_n C dX7_wayEnd_23 rfl ?_
        refine go_iload_n C dX7_wayEnd_24 rfl ?_
        refine go_S3P C ok_X7_cell lk_X7_74 dX7_wayEnd_25 k_X7_cell (by decide) (Nat.le_of_ble_eq_true rfl) ?_
        refine go_iload C dX7_wayEnd_28 rfl ?_
        refine go_V2P C ok_X7_lightOf lk_X7_177 dX7_wayEnd_30 (by decide) rfl rfl rfl (k_X7_lightOf hL hk hc) (by decide) (Nat.le_of_ble_eq_true rfl) ?_
        refine go_if_neN C 41 dX7_wayEnd_33 (by decide) (by omega) (fun h33 => ?_) (fun h33 => ?_)
        · refine go_aload_n C dX7_wayEnd_41 rfl ?_
          refine go_iload_n C dX7_wayEnd_42 rfl ?_
          refine go_iload_n C dX7_wayEnd_43 rfl ?_
          refine go_iload_n C dX7_wayEnd_44 rfl ?_
          refine go_S3P C ok_X7_cell lk_X7_74 dX7_wayEnd_45 k_X7_cell (by decide) (Nat.le_of_ble_eq_true rfl) ?_
          refine go_iload C dX7_wayEnd_48 rfl ?_
          refine go_V2I C ok_X7_goBack lk_X7_189 dX7_wayEnd_50 (by decide) rfl rfl rfl (k_X7_goBack hR hk hc (by omega)) (by decide) (Nat.le_of_ble_eq_true rfl) (fun r τ hp => ?_)
          obtain ⟨rfl, hp2, hp3⟩ := hp
          refine go_S1P C ok_X7_code lk_X7_192 dX7_wayEnd_53 (k_X7_code (wayE_lt hOL hc 128 _ hk)) (by decide) (Nat.le_of_ble_eq_true rfl) ?_
          refine go_iret hr dX7_wayEnd_56 rfl ?_
          first | exact ⟨(pI_f (fun q => by first | exact h6 q.1 | exact h16 q.2)).symm, hR⟩ | exact ⟨by rw [hans, if_pos h33], hR⟩ | exact ⟨by rw [hans, if_neg h33], hp3⟩
        · refine go_bipush C (-4) dX7_wayEnd_36 rfl ?_
          refine go_goto C 56 dX7_wayEnd_38 (by decide) ?_
          refine go_iret hr dX7_wayEnd_56 rfl ?_
          first | exact ⟨(pI_f (fun q => by first | exact h6 q.1 | exact h16 q.2)).symm, hR⟩ | exact ⟨by rw [hans, if_pos h33], hR⟩ | exact ⟨by rw [hans, if_neg h33], hp3⟩
      · refine go_iconst C (-1) dX7_wayEnd_19 rfl ?_
        refine go_iret hr dX7_wayEnd_20 rfl ?_
        first | exact ⟨(pI_f (fun q => by first | exact h6 q.1 | exact h16 q.2)).symm, hR⟩ | exact ⟨by rw [hans, if_pos h33], hR⟩ | exact ⟨by rw [hans, if_neg h33], hp3⟩
set_option maxHeartbeats 4000000 in
set_option maxRecDepth 100000 in
theorem k_X7_crossings {σ : Mem} {S : St} (hR : RepM σ S) (qc oc c : Int32) : CtI objM NM yX7_crossings cX7_crossings 7 .int 4 94 [.ref 0, .int qc, .int oc, .int c] σ (RQM (aCross S qc oc c) S) := by
  obtain ⟨hS, hM, hL, hEf, hB, hH, hSv, hX, hFt, hoc⟩ := id hR
  have hO := hS.1
  have hOL := hS.2.1
  have hV := hR.V
  have hT : ∀ j, j < 1152 → σ 1 j = nI (wT (sW S) j) := fun j hj => by have := hM.1 j hj; rw [Nat.zero_add] at this; exact this
  have hLs := hV.2.2.2.1
  have hEm := hV.2.2.2.2.1
  refine ct_ofI rfl ?_ (Nat.le_of_ble_eq_true rfl) (fun X C hr => ?_)
  · intro v hv; simp only [List.mem_cons, List.not_mem_nil, or_false] at hv; rcases hv with rfl | rfl | rfl | rfl <;> rfl
  · refine go_iload_n C dX7_crossings_0 rfl ?_
    refine go_iconst C (nI 0) dX7_crossings_1 rfl ?_
    refine go_bipush C (nI 8) dX7_crossings_2 rfl ?_
    refine go_S3P C ok_X7_in lk_X7_57 dX7_crossings_4 (k_X7_in (by decide) _) (by decide) (Nat.le_of_ble_eq_true rfl) ?_
    refine go_if_eqB C 29 dX7_crossings_7 (by decide) (fun h7 => ?_) (fun h7 => ?_)
    · refine go_iconst C (-1) dX7_crossings_29 rfl ?_
      refine go_iret hr dX7_crossings_30 rfl ?_
      exact ⟨(pI_f (fun z => by first | exact h7 z.1 | exact h17 z.2.1 | exact h26 z.2.2)).symm, hR⟩
    · refine go_iload_n C dX7_crossings_10 rfl ?_
      refine go_iconst C (nI 0) dX7_crossings_11 rfl ?_
      refine go_bipush C (nI 8) dX7_crossings_12 rfl ?_
      refine go_S3P C ok_X7_in lk_X7_57 dX7_crossings_14 (k_X7_in (by decide) _) (by decide) (Nat.le_of_ble_eq_true rfl) ?_
      refine go_if_eqB C 29 dX7_crossings_17 (by decide) (fun h17 => ?_) (fun h17 => ?_)
      · refine go_iconst C (-1) dX7_crossings_29 rfl ?_
        refine go_iret hr dX7_crossings_30 rfl ?_
        exact ⟨(pI_f (fun z => by first | exact h7 z.1 | exact h17 z.2.1 | exact h26 z.2.2)).symm, hR⟩
      · refine go_iload_n C dX7_crossings_20 rfl ?_
        refine go_iconst C (nI 0) dX7_crossings_21 rfl ?_
        refine go_iconst C (nI 3) dX7_crossings_22 rfl ?_
        refine go_S3P C ok_X7_in lk_X7_57 dX7_crossings_23 (k_X7_in (by decide) _) (by decide) (Nat.le_of_ble_eq_true rfl) ?_
        refine go_if_neB C 31 dX7_crossings_26 (by decide) (fun h26 => ?_) (fun h26 => ?_)
        · refine go_iload_n C dX7_crossings_31 rfl ?_
          refine go_iload_n C dX7_crossings_32 rfl ?_
          refine go_icmp_ne C 39 dX7_crossings_33 (by decide) (fun h33 => ?_) (fun h33 => ?_)
          · have hqo := h33
            obtain ⟨qn, hqn, rfl⟩ := rng_nat (by decide) (id h7)
            obtain ⟨on, hon, rfl⟩ := rng_nat (by decide) (id h17)
            obtain ⟨cn, hc, rfl⟩ := rng_nat (by decide) (id h26)
            have hqo2 : qn ≠ on := fun z => hqo (by rw [z])
            have L : ∀ (n : Nat) (i : Nat) (v6 : Option Value), (i + n = 1152) → Go objM NM X 45 [some (.ref 0), some (.int (nI qn)), some (.int (nI on)), some (.int (nI cn)), some (.int (nI (cnt (crP (sW S) cn qn on) i))), some (.int (nI i)), v6] [] σ := by
              intro n
              induction n using Nat.strongRecOn with
              | _ n ih =>
                intro i v6 hi
                refine go_iload C dX7_crossings_45 rfl ?_
                refine go_sipush C (nI 1152) dX7_crossings_47 rfl ?_
                refine go_icmp_geN C 118 dX7_crossings_50 (by decide) (by omega) (by omega) (fun h50 => ?_) (fun h50 => ?_)
                · obtain rfl : i = 1152 := by omega
                  refine go_iload C dX7_crossings_118 rfl ?_
                  refine go_iret hr dX7_crossings_120 rfl ?_
                  exact ⟨by unfold aCross; rw [pI_t ⟨h7, h17, h26⟩, pI_f hqo, nI_clamp (by omega), nI_clamp (by omega), nI_clamp (by omega)], hR⟩
                · have hk : i < 1152 := by omega
                  have hch : ∀ k, k < 1152 → chk k < 9 := fun k hk => by unfold chk; have := cX_lt k; have := cZ_lt hk; omega
                  have hch1 := hch i hk
                  have hlk := lit_lt hOL hc hk
                  refine go_iload C dX7_crossings_53 rfl ?_
                  refine go_S1P C ok_X7_chunkOf lk_X7_195 dX7_crossings_55 (k_X7_chunkOf (by omega)) (by decide) (Nat.le_of_ble_eq_true rfl) ?_
                  refine go_iload_n C dX7_crossings_58 rfl ?_
                  refine go_icmp_neN C 112 dX7_crossings_59 (by decide) (by omega) (by omega) (fun h59 => ?_) (fun h59 => ?_)
                  · have e2 : cnt (crP (sW S) cn qn on) (i + 1) = cnt (crP (sW S) cn qn on) i := cnt_0 (fun z => h59 z.1)
                    refine go_iincN C 1 dX7_crossings_112 rfl rfl (by decide) rfl rfl ?_
                    refine go_goto C 45 dX7_crossings_115 (by decide) ?_
                    have q := fun v => ih (n - 1) (by omega) (i + 1) v (by omega)
                    rw [e2] at q
                    exact q _
                  · refine go_aload_n C dX7_crossings_62 rfl ?_
                    refine go_iload C dX7_crossings_63 rfl ?_
                    refine go_iload_n C dX7_crossings_65 rfl ?_
                    refine go_V2P C ok_X7_lightOf lk_X7_177 dX7_crossings_66 (by decide) rfl rfl rfl (k_X7_lightOf hL hk hc) (by decide) (Nat.le_of_ble_eq_true rfl) ?_
                    refine go_if_leN C 112 dX7_crossings_69 (by decide) (by omega) (fun h69 => ?_) (fun h69 => ?_)
                    · have e2 : cnt (crP (sW S) cn qn on) (i + 1) = cnt (crP (sW S) cn qn on) i := cnt_0 (fun z => by obtain ⟨-, j, z1, -⟩ := z; unfold giver at z1; rw [if_pos (by omega)] at z1; cases z1)
                      refine go_iincN C 1 dX7_crossings_112 rfl rfl (by decide) rfl rfl ?_
                      refine go_goto C 45 dX7_crossings_115 (by decide) ?_
                      have q := fun v => ih (n - 1) (by omega) (i + 1) v (by omega)
                      rw [e2] at q
                      exact q _
                    · have hg9 := (org_lt hOL hc hk h69).1
                      refine go_aload_n C dX7_crossings_72 rfl ?_
                      refine go_iload C dX7_crossings_73 rfl ?_
                      refine go_iload_n C dX7_crossings_75 rfl ?_
                      refine go_V2P C ok_X7_originOf lk_X7_183 dX7_crossings_76 (by decide) rfl rfl rfl (k_X7_originOf hR hk hc (by omega)) (by decide) (Nat.le_of_ble_eq_true rfl) ?_
                      refine go_istore C dX7_crossings_79 (by decide) rfl rfl ?_
                      refine go_iload C dX7_crossings_81 rfl ?_
                      refine go_iload C dX7_crossings_83 rfl ?_
                      refine go_bipush C (nI 6) dX7_crossings_85 rfl ?_
                      refine go_icmp_geN C 108 dX7_crossings_87 (by decide) (by omega) (by omega) (fun h87 => ?_) (fun h87 => ?_)
                      · have e2 : cnt (crP (sW S) cn qn on) (i + 1) = cnt (crP (sW S) cn qn on) i + 0 := cnt_0 (fun z => by
                          obtain ⟨z0, j, z1, z2⟩ := z
                          by_cases h6 : org (sW S) cn i = 6
                          · rw [giver_no (Or.inl h6)] at z1; cases z1
                          · by_cases h7 : org (sW S) cn i = 7
                            · rw [giver_no (Or.inr h7)] at z1; cases z1
                            · obtain ⟨-, -, o8y, -⟩ : o8 (sW S) cn i ∧ True ∧ cY i < 7 ∧ True := ⟨(org_lt hOL hc hk h69).2.2 (by omega), trivial, ((org_lt hOL hc hk h69).2.2 (by omega)).2.1, trivial⟩
                              obtain ⟨j2, g1, g2, -⟩ := giver_go hOL hc hk h69 h6 h7
                              have g3 := g2 (by omega)
                              have g4 : nbr i 3 = some (i + 12) := by show (if cY i < 7 then some (i + 12) else none) = _; rw [if_pos o8y]
                              rw [g1] at z1; cases z1
                              rw [g4] at g3; cases g3
                              rw [chk_up o8y, z0] at z2
                              exact hqo2 z2)
                        refine go_iconst C (nI 0) dX7_crossings_108 rfl ?_
                        refine go_iaddN C dX7_crossings_109 ?_
                        refine go_istore C dX7_crossings_110 (by decide) rfl rfl ?_
                        refine go_iincN C 1 dX7_crossings_112 rfl rfl (by decide) rfl rfl ?_
                        refine go_goto C 45 dX7_crossings_115 (by decide) ?_
                        have q := fun v => ih (n - 1) (by omega) (i + 1) v (by omega)
                        rw [e2] at q
                        exact q _
                      · obtain ⟨j, g1, -, g3⟩ := giver_go hOL hc hk h69 (by omega) (by omega)
                        obtain ⟨-, g4⟩ := g3 (by omega)
                        have hjl := nbr_lt hk g4
                        have hch2 := hch j hjl
                        refine go_iload C dX7_crossings_90 rfl ?_
                        refine go_iload C dX7_crossings_92 rfl ?_
                        refine go_S2P C ok_X7_next lk_X7_100 dX7_crossings_94 (k_X7_next hk (by omega)) (by decide) (Nat.le_of_ble_eq_true rfl) ?_
                        rw [g4]
                        dsimp only [oI]
                        refine go_S1P C ok_X7_chunkOf lk_X7_195 dX7_crossings_97 (k_X7_chunkOf (by omega)) (by decide) (Nat.le_of_ble_eq_true rfl) ?_
                        refine go_iload_n C dX7_crossings_100 rfl ?_
                        refine go_icmp_neN C 108 dX7_crossings_101 (by decide) (by omega) (by omega) (fun h101 => ?_) (fun h101 => ?_)
                        · have e2 : cnt (crP (sW S) cn qn on) (i + 1) = cnt (crP (sW S) cn qn on) i + 0 := cnt_0 (fun z => by obtain ⟨-, j2, z1, z2⟩ := z; rw [g1] at z1; cases z1; exact h101 z2)
                          refine go_iconst C (nI 0) dX7_crossings_108 rfl ?_
                          refine go_iaddN C dX7_crossings_109 ?_
                          refine go_istore C dX7_crossings_110 (by decide) rfl rfl ?_
                          refine go_iincN C 1 dX7_crossings_112 rfl rfl (by decide) rfl rfl ?_
                          refine go_goto C 45 dX7_crossings_115 (by decide) ?_
                          have q := fun v => ih (n - 1) (by omega) (i + 1) v (by omega)
                          rw [e2] at q
                          exact q _
                        · have e2 : cnt (crP (sW S) cn qn on) (i + 1) = cnt (crP (sW S) cn qn on) i + 1 := cnt_1 ⟨h59, j, g1, h101⟩
                          refine go_iconst C (nI 1) dX7_crossings_104 rfl ?_
                          refine go_goto C 109 dX7_crossings_105 (by decide) ?_
                          refine go_iaddN C dX7_crossings_109 ?_
                          refine go_istore C dX7_crossings_110 (by decide) rfl rfl ?_
                          refine go_iincN C 1 dX7_crossings_112 rfl rfl (by decide) rfl rfl ?_
                          refine go_goto C 45 dX7_crossings_115 (by decide) ?_
                          have q := fun v => ih (n - 1) (by omega) (i + 1) v (by omega)
                          rw [e2] at q
                          exact q _
            refine go_iconst C (nI 0) dX7_crossings_39 rfl ?_
            refine go_istore C dX7_crossings_40 (by decide) rfl rfl ?_
            refine go_iconst C (nI 0) dX7_crossings_42 rfl ?_
            refine go_istore C dX7_crossings_43 (by decide) rfl rfl ?_
            exact L 1152 0 _ (by omega)
          · refine go_bipush C (-2) dX7_crossings_36 rfl ?_
            refine go_iret hr dX7_crossings_38 rfl ?_
            exact ⟨by unfold aCross; rw [pI_t ⟨h7, h17, h26⟩, pI_t h33], hR⟩
        · refine go_iconst C (-1) dX7_crossings_29 rfl ?_
          refine go_iret hr dX7_crossings_30 rfl ?_
          exact ⟨(pI_f (fun z => by first | exact h7 z.1 | exact h17 z.2.1 | exact h26 z.2.2)).symm, hR⟩
