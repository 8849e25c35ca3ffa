def LwP (S : St) (k t c qe e : Nat) : Mem → Prop := fun τ => RepM τ S ∧ IsLit (srcQ (setT (sW S) k t) c qe e) (lossN (setT (sW S) k t) c) (litQ (setT (sW S) k t) c qe e) ∧ ∀ j, j < 1152 → τ 6 j = nI (litQ (setT (sW S) k t) c qe e j)
set_option maxHeartbeats 4000000 in
set_option maxRecDepth 100000 in
theorem k_X7_layWith {σ : Mem} {S : St} (hR : RepM σ S) {k t c qe e : Nat} {x : Int32} (hk : k < 1152) (ht : t < 8) (hc : c < 4) (he : e < 16) (hx : (x < 0 ∧ 1152 ≤ qe) ∨ (x = nI e ∧ qe = k)) : CtV objM NM yX7_layWith cX7_layWith 5 5 116 [.ref 0, .int (nI k), .int (nI t), .int x, .int (nI c)] σ (LwP S k t c qe e) := by
  obtain ⟨hS, hM, hL, hEf, hB, hH, hSv, hX, hFt, hoc⟩ := id hR
  have hO := hS.1
  have hOL := hS.2.1
  have hV := hR.V
  have hT : ∀ j, j < 1152 → σ 1 j = nI (wT (sW S) j) := fun j hj => by have := hM.1 j hj; rw [Nat.zero_add] at this; exact this
  have hLs := hV.2.2.2.1
  have hEm := hV.2.2.2.2.1
  refine ct_ofV rfl ?_ (Nat.le_of_ble_eq_true rfl) (fun X C hr => ?_)
  · intro v hv; simp only [List.mem_cons, List.not_mem_nil, or_false] at hv; rcases hv with rfl | rfl | rfl | rfl | rfl <;> rfl
  · refine go_aload_n C dX7_layWith_0 rfl ?_
    refine go_iload_n C dX7_layWith_1 rfl ?_
    refine go_putI C gf_X7_29 dX7_layWith_2 (by decide) rfl rfl rfl rfl rfl ?_
    refine go_aload_n C dX7_layWith_5 rfl ?_
    refine go_iload_n C dX7_layWith_6 rfl ?_
    refine go_putI C gf_X7_78 dX7_layWith_7 (by decide) rfl rfl rfl rfl rfl ?_
    refine go_aload_n C dX7_layWith_10 rfl ?_
    refine go_iload_n C dX7_layWith_11 rfl ?_
    refine go_putI C gf_X7_84 dX7_layWith_12 (by decide) rfl rfl rfl rfl rfl ?_
    obtain ⟨ρ, hρ⟩ : ∃ ρ, ρ = updR (updR (updR σ 0 (upd (σ 0) 8 (nI k))) 0 (upd (updR σ 0 (upd (σ 0) 8 (nI k)) 0) 9 (nI t))) 0 (upd (updR (updR σ 0 (upd (σ 0) 8 (nI k))) 0 (upd (updR σ 0 (upd (σ 0) 8 (nI k)) 0) 9 (nI t)) 0) 10 x) := ⟨_, rfl⟩
    rw [← hρ]
    have r0 : ∀ i, ρ 0 i = if i = 10 then x else if i = 9 then nI t else if i = 8 then nI k else σ 0 i := fun i => by rw [hρ]; rfl
    have rn : ∀ z, z ≠ 0 → ρ z = σ z := fun z hz => by rw [hρ, updR_n hz, updR_n hz, updR_n hz]
    have hV2 : View ρ (setT (sW S) k t) k qe e := ⟨fun j hj => by rw [r0 8]; exact nI_eq (by omega) (by omega), fun j hj hn => by rw [rn 1 (by decide), hT j hj]; exact congrArg nI (un_n hn).symm, fun j hj hn => by subst hn; rw [r0 9]; exact congrArg nI un_s.symm, fun j hj => by rw [rn 1 (by decide)]; exact hLs j hj, fun j hj => by rw [rn 1 (by decide)]; exact hEm j hj, Or.inr (by rw [r0 10]; exact hx.imp id (fun z => ⟨z.1, z.2, he⟩))⟩
    have hO2 := setT_ok (k := k) hO ht
    refine go_aload_n C dX7_layWith_15 rfl ?_
    refine go_iload C dX7_layWith_16 rfl ?_
    refine go_V1V C ok_X7_lay lk_X7_109 dX7_layWith_18 (by decide) rfl rfl rfl (k_X7_lay hO2 hV2 he hc) (by decide) (Nat.le_of_ble_eq_true rfl) (fun τ hp => ?_)
    refine go_aload_n C dX7_layWith_21 rfl ?_
    refine go_iconst C (-1) dX7_layWith_22 rfl ?_
    refine go_putI C gf_X7_29 dX7_layWith_23 (by decide) rfl rfl rfl rfl rfl ?_
    refine go_vret hr dX7_layWith_26 ?_
    refine ⟨hR.fr (fun z _ z0 z6 _ _ _ => by rw [updR_n z0, hp.1 z z6, rn z z0]) (fun i hi => ?_), hp.2.1, hp.2.2⟩
    rw [updR_s]
    by_cases e8 : i = 8
    · subst e8; rw [pk_us]; exact hoc.symm
    · rw [pk_un e8, hp.1 0 (by decide), r0 i, if_neg (by omega), if_neg (by omega), if_neg e8]
set_option maxHeartbeats 4000000 in
set_option maxRecDepth 100000 in
theorem k_X7_lightIf {σ : Mem} {S : St} (hR : RepM σ S) (x y z t c : Int32) : CtI objM NM yX7_lightIf cX7_lightIf 8 .int 6 140 [.ref 0, .int x, .int y, .int z, .int t, .int c] σ (RQM (aLightIf S x y z t c) S) := by
  obtain ⟨hS, hM, hL, hEf, hB, hH, hSv, hX, hFt, hoc⟩ := id hR
  have hO := hS.1
  have hOL := hS.2.1
  have hV := hR.V
  have hT : ∀ j, j < 1152 → σ 1 j = nI (wT (sW S) j) := fun j hj => by have := hM.1 j hj; rw [Nat.zero_add] at this; exact this
  have hLs := hV.2.2.2.1
  have hEm := hV.2.2.2.2.1
  refine ct_ofI rfl ?_ (Nat.le_of_ble_eq_true rfl) (fun X C hr => ?_)
  · intro v hv; simp only [List.mem_cons, List.not_mem_nil, or_false] at hv; rcases hv with rfl | rfl | rfl | rfl | rfl | rfl <;> rfl
  · refine go_iload_n C dX7_lightIf_0 rfl ?_
    refine go_iload_n C dX7_lightIf_1 rfl ?_
    refine go_iload_n C dX7_lightIf_2 rfl ?_
    refine go_S3P C ok_X7_isCell lk_X7_71 dX7_lightIf_3 (k_X7_isCell _ _ _) (by decide) (Nat.le_of_ble_eq_true rfl) ?_
    refine go_if_eqB C 27 dX7_lightIf_6 (by decide) (fun h6 => ?_) (fun h6 => ?_)
    · refine go_iconst C (-1) dX7_lightIf_27 rfl ?_
      refine go_iret hr dX7_lightIf_28 rfl ?_
      exact ⟨(pI_f (fun q => by first | exact h6 q.1 | exact h14 q.2.1 | exact h24 q.2.2)).symm, hR⟩
    · refine go_iload C dX7_lightIf_9 rfl ?_
      refine go_S1P C ok_X7_isType lk_X7_123 dX7_lightIf_11 (k_X7_isType _) (by decide) (Nat.le_of_ble_eq_true rfl) ?_
      refine go_if_eqB C 27 dX7_lightIf_14 (by decide) (fun h14 => ?_) (fun h14 => ?_)
      · refine go_iconst C (-1) dX7_lightIf_27 rfl ?_
        refine go_iret hr dX7_lightIf_28 rfl ?_
        exact ⟨(pI_f (fun q => by first | exact h6 q.1 | exact h14 q.2.1 | exact h24 q.2.2)).symm, hR⟩
      · refine go_iload C dX7_lightIf_17 rfl ?_
        refine go_iconst C (nI 0) dX7_lightIf_19 rfl ?_
        refine go_iconst C (nI 3) dX7_lightIf_20 rfl ?_
        refine go_S3P C ok_X7_in lk_X7_57 dX7_lightIf_21 (k_X7_in (by decide) _) (by decide) (Nat.le_of_ble_eq_true rfl) ?_
        refine go_if_neB C 29 dX7_lightIf_24 (by decide) (fun h24 => ?_) (fun h24 => ?_)
        · obtain ⟨r1, r2, r3⟩ := id h6
          obtain ⟨a, ha, rfl⟩ := rng_nat (by decide) r1
          obtain ⟨b, hb, rfl⟩ := rng_nat (by decide) r2
          obtain ⟨cz, hcz, rfl⟩ := rng_nat (by decide) r3
          have hk := cel_lt ha hb hcz
          obtain ⟨tn, ht, rfl⟩ := rng_nat (by decide) (id h14)
          obtain ⟨cn, hc, rfl⟩ := rng_nat (by decide) (id h24)
          refine go_aload_n C dX7_lightIf_29 rfl ?_
          refine go_iload_n C dX7_lightIf_30 rfl ?_
          refine go_iload_n C dX7_lightIf_31 rfl ?_
          refine go_iload_n C dX7_lightIf_32 rfl ?_
          refine go_S3P C ok_X7_cell lk_X7_74 dX7_lightIf_33 k_X7_cell (by decide) (Nat.le_of_ble_eq_true rfl) ?_
          refine go_iload C dX7_lightIf_36 rfl ?_
          refine go_iconst C (-1) dX7_lightIf_38 rfl ?_
          refine go_iload C dX7_lightIf_39 rfl ?_
          refine go_V4V C ok_X7_layWith lk_X7_198 dX7_lightIf_41 (by decide) rfl rfl rfl (k_X7_layWith hR hk ht hc (qe := 1152) (e := 0) (by decide) (Or.inl ⟨by decide, by decide⟩)) (by decide) (Nat.le_of_ble_eq_true rfl) (fun τ hp => ?_)
          have L : ∀ (n : Nat) (i : Nat), (i + n = 1152) → Go objM NM X 50 [some (.ref 0), some (.int (nI a)), some (.int (nI b)), some (.int (nI cz)), some (.int (nI tn)), some (.int (nI cn)), some (.int (nI (sumN (lit (setT (sW S) (cel a b cz) tn) cn) i))), some (.int (nI i))] [] τ := by
            intro n
            induction n using Nat.strongRecOn with
            | _ n ih =>
              intro i hi
              refine go_iload C dX7_lightIf_50 rfl ?_
              refine go_sipush C (nI 1152) dX7_lightIf_52 rfl ?_
              refine go_icmp_geN C 76 dX7_lightIf_55 (by decide) (by omega) (by omega) (fun h55 => ?_) (fun h55 => ?_)
              · obtain rfl : i = 1152 := by omega
                refine go_iload C dX7_lightIf_76 rfl ?_
                refine go_iret hr dX7_lightIf_78 rfl ?_
                exact ⟨by unfold aLightIf; rw [pI_t ⟨h6, h14, h24⟩, nI_clamp (by omega), nI_clamp (by omega), ixC_nI ha hb hcz], hp.1⟩
              · refine go_iload C dX7_lightIf_58 rfl ?_
                refine go_aload_n C dX7_lightIf_60 rfl ?_
                refine go_getR C gf_X7_26 dX7_lightIf_61 (by decide) rfl rfl ?_
                refine go_iload C dX7_lightIf_64 rfl ?_
                refine go_ialdN C dX7_lightIf_66 (by decide) rfl (by decide) (by omega) ?_
                refine go_top _ (hp.2.2 _ (by omega)) ?_
                refine go_iaddN C dX7_lightIf_67 ?_
                refine go_istore C dX7_lightIf_68 (by decide) rfl rfl ?_
                refine go_iincN C 1 dX7_lightIf_70 rfl rfl (by decide) rfl rfl ?_
                refine go_goto C 50 dX7_lightIf_73 (by decide) ?_
                exact ih (n - 1) (by omega) (i + 1) (by omega)
          refine go_iconst C (nI 0) dX7_lightIf_44 rfl ?_
          refine go_istore C dX7_lightIf_45 (by decide) rfl rfl ?_
          refine go_iconst C (nI 0) dX7_lightIf_47 rfl ?_
          refine go_istore C dX7_lightIf_48 (by decide) rfl rfl ?_
          exact L 1152 0 (by omega)
        · refine go_iconst C (-1) dX7_lightIf_27 rfl ?_
          refine go_iret hr dX7_lightIf_28 rfl ?_
          exact ⟨(pI_f (fun q => by first | exact h6 q.1 | exact h14 q.2.1 | exact h24 q.2.2)).symm, hR⟩
set_option maxHeartbeats 4000000 in
set_option maxRecDepth 100000 in
theorem k_X7_spread {σ : Mem} {S : St} (hR : RepM σ S) (x y z c : Int32) : CtI objM NM yX7_spread cX7_spread 7 .int 6 140 [.ref 0, .int x, .int y, .int z, .int c] σ (RQM (aSpread S x y z c) S) := by
  obtain ⟨hS, hM, hL, hEf, hB, hH, hSv, hX, hFt, hoc⟩ := id hR
  have hO := hS.1
  have hOL := hS.2.1
  have hV := hR.V
  have hT : ∀ j, j < 1152 → σ 1 j = nI (wT (sW S) j) := fun j hj => by have := hM.1 j hj; rw [Nat.zero_add] at this; exact this
  have hLs := hV.2.2.2.1
  have hEm := hV.2.2.2.2.1
  refine ct_ofI rfl ?_ (Nat.le_of_ble_eq_true rfl) (fun X C hr => ?_)
  · intro v hv; simp only [List.mem_cons, List.not_mem_nil, or_false] at hv; rcases hv with rfl | rfl | rfl | rfl | rfl <;> rfl
  · refine go_iload_n C dX7_spread_0 rfl ?_
    refine go_iload_n C dX7_spread_1 rfl ?_
    refine go_iload_n C dX7_spread_2 rfl ?_
    refine go_S3P C ok_X7_isCell lk_X7_71 dX7_spread_3 (k_X7_isCell _ _ _) (by decide) (Nat.le_of_ble_eq_true rfl) ?_
    refine go_if_eqB C 19 dX7_spread_6 (by decide) (fun h6 => ?_) (fun h6 => ?_)
    · refine go_iconst C (-1) dX7_spread_19 rfl ?_
      refine go_iret hr dX7_spread_20 rfl ?_
      exact ⟨(pI_f (fun q => by first | exact h6 q.1 | exact h16 q.2)).symm, hR⟩
    · refine go_iload C dX7_spread_9 rfl ?_
      refine go_iconst C (nI 0) dX7_spread_11 rfl ?_
      refine go_iconst C (nI 2) dX7_spread_12 rfl ?_
      refine go_S3P C ok_X7_in lk_X7_57 dX7_spread_13 (k_X7_in (by decide) _) (by decide) (Nat.le_of_ble_eq_true rfl) ?_
      refine go_if_neB C 21 dX7_spread_16 (by decide) (fun h16 => ?_) (fun h16 => ?_)
      · obtain ⟨r1, r2, r3⟩ := id h6
        obtain ⟨a, ha, rfl⟩ := rng_nat (by decide) r1
        obtain ⟨b, hb, rfl⟩ := rng_nat (by decide) r2
        obtain ⟨cz, hcz, rfl⟩ := rng_nat (by decide) r3
        have hk := cel_lt ha hb hcz
        obtain ⟨cn, hc3, rfl⟩ := rng_nat (by decide) (id h16)
        have hc : cn < 4 := by omega
        have ht := hO.1 _ hk
        refine go_aload_n C dX7_spread_21 rfl ?_
        refine go_iload_n C dX7_spread_22 rfl ?_
        refine go_iload_n C dX7_spread_23 rfl ?_
        refine go_iload_n C dX7_spread_24 rfl ?_
        refine go_S3P C ok_X7_cell lk_X7_74 dX7_spread_25 k_X7_cell (by decide) (Nat.le_of_ble_eq_true rfl) ?_
        refine go_aload_n C dX7_spread_28 rfl ?_
        refine go_getR C gf_X7_9 dX7_spread_29 (by decide) rfl rfl ?_
        refine go_iload_n C dX7_spread_32 rfl ?_
        refine go_iload_n C dX7_spread_33 rfl ?_
        refine go_iload_n C dX7_spread_34 rfl ?_
        refine go_S3P C ok_X7_cell lk_X7_74 dX7_spread_35 k_X7_cell (by decide) (Nat.le_of_ble_eq_true rfl) ?_
        refine go_ialdN C dX7_spread_38 (by decide) rfl (by decide) (by omega) ?_
        refine go_top _ (hT _ (by omega)) ?_
        refine go_iconst C (nI 0) dX7_spread_39 rfl ?_
        refine go_iload C dX7_spread_40 rfl ?_
        refine go_V4V C ok_X7_layWith lk_X7_198 dX7_spread_42 (by decide) rfl rfl rfl (k_X7_layWith hR hk ht hc (x := nI 0) (qe := cel a b cz) (e := 0) (by decide) (Or.inr ⟨rfl, rfl⟩)) (by decide) (Nat.le_of_ble_eq_true rfl) (fun τ hp => ?_)
        obtain ⟨hp1, hp2⟩ := hp
        rw [setT_id] at hp2
        have L : ∀ (n : Nat) (i : Nat), (i + n = 1152) → Go objM NM X 51 [some (.ref 0), some (.int (nI a)), some (.int (nI b)), some (.int (nI cz)), some (.int (nI cn)), some (.int (nI (cnt (fun j => litQ (sW S) cn (cel a b cz) 0 j < lit (sW S) cn j) i))), some (.int (nI i))] [] τ := by
          intro n
          induction n using Nat.strongRecOn with
          | _ n ih =>
            intro i hi
            refine go_iload C dX7_spread_51 rfl ?_
            refine go_sipush C (nI 1152) dX7_spread_53 rfl ?_
            refine go_icmp_geN C 93 dX7_spread_56 (by decide) (by omega) (by omega) (fun h56 => ?_) (fun h56 => ?_)
            · obtain rfl : i = 1152 := by omega
              refine go_iload C dX7_spread_93 rfl ?_
              refine go_iret hr dX7_spread_95 rfl ?_
              exact ⟨by unfold aSpread; rw [pI_t ⟨h6, h16⟩, nI_clamp (by omega), ixC_nI ha hb hcz], hp1⟩
            · have h1 := lit_lt hOL hc (show i < 1152 by omega)
              have h2 := (hp2.1.1 i (by omega)).2
              refine go_iload C dX7_spread_59 rfl ?_
              refine go_aload_n C dX7_spread_61 rfl ?_
              refine go_getR C gf_X7_26 dX7_spread_62 (by decide) rfl rfl ?_
              refine go_iload C dX7_spread_65 rfl ?_
              refine go_ialdN C dX7_spread_67 (by decide) rfl (by decide) (by omega) ?_
              refine go_top _ (hp2.2 _ (by omega)) ?_
              refine go_aload_n C dX7_spread_68 rfl ?_
              refine go_iload C dX7_spread_69 rfl ?_
              refine go_iload C dX7_spread_71 rfl ?_
              refine go_V2P C ok_X7_lightOf lk_X7_177 dX7_spread_73 (by decide) rfl rfl rfl (k_X7_lightOf hp1.2.2.1 (show i < 1152 by omega) hc) (by decide) (Nat.le_of_ble_eq_true rfl) ?_
              refine go_icmp_geN C 83 dX7_spread_76 (by decide) (by omega) (by omega) (fun h76 => ?_) (fun h76 => ?_)
              · have e2 : cnt (fun j => litQ (sW S) cn (cel a b cz) 0 j < lit (sW S) cn j) (i + 1) = cnt (fun j => litQ (sW S) cn (cel a b cz) 0 j < lit (sW S) cn j) i + 0 := cnt_0 (by omega)
                refine go_iconst C (nI 0) dX7_spread_83 rfl ?_
                refine go_iaddN C dX7_spread_84 ?_
                refine go_istore C dX7_spread_85 (by decide) rfl rfl ?_
                refine go_iincN C 1 dX7_spread_87 rfl rfl (by decide) rfl rfl ?_
                refine go_goto C 51 dX7_spread_90 (by decide) ?_
                have q := ih (n - 1) (by omega) (i + 1) (by omega)
                rw [e2] at q
                exact q
              · have e2 : cnt (fun j => litQ (sW S) cn (cel a b cz) 0 j < lit (sW S) cn j) (i + 1) = cnt (fun j => litQ (sW S) cn (cel a b cz) 0 j < lit (sW S) cn j) i + 1 := cnt_1 h76
                refine go_iconst C (nI 1) dX7_spread_79 rfl ?_
                refine go_goto C 84 dX7_spread_80 (by decide) ?_
                refine go_iaddN C dX7_spread_84 ?_
                refine go_istore C dX7_spread_85 (by decide) rfl rfl ?_
                refine go_iincN C 1 dX7_spread_87 rfl rfl (by decide) rfl rfl ?_
                refine go_goto C 51 dX7_spread_90 (by decide) ?_
                have q := ih (n - 1) (by omega) (i + 1) (by omega)
                rw [e2] at q
                exact q
        refine go_iconst C (nI 0) dX7_spread_45 rfl ?_
        refine go_istore C dX7_spread_46 (by decide) rfl rfl ?_
        refine go_iconst C (nI 0) dX7_spread_48 rfl ?_
        refine go_istore C dX7_spread_49 (by decide) rfl rfl ?_
        exact L 1152 0 (by omega)
      · refine go_iconst C (-1) dX7_spread_19 rfl ?_
        refine go_iret hr dX7_spread_20 rfl ?_
        exact ⟨(pI_f (fun q => by first | exact h6 q.1 | exact h16 q.2)).symm, hR⟩
set_option maxHeartbeats 4000000 in
set_option maxRecDepth 100000 in
theorem k_X7_needed {σ : Mem} {S : St} (hR : RepM σ S) (x y z c v : Int32) : CtI objM NM yX7_needed cX7_needed 7 .int 6 140 [.ref 0, .int x, .int y, .int z, .int c, .int v] σ (RQM (aNeeded S x y z c v) S) := by
  obtain ⟨hS, hM, hL, hEf, hB, hH, hSv, hX, hFt, hoc⟩ := id hR
  have hO := hS.1
  have hOL := hS.2.1
  have hV := hR.V
  have hT : ∀ j, j < 1152 → σ 1 j = nI (wT (sW S) j) := fun j hj => by have := hM.1 j hj; rw [Nat.zero_add] at this; exact this
  have hLs := hV.2.2.2.1
  have hEm := hV.2.2.2.2.1
  refine ct_ofI rfl ?_ (Nat.le_of_ble_eq_true rfl) (fun X C hr => ?_)
  · intro v hv; simp only [List.mem_cons, List.not_mem_nil, or_false] at hv; rcases hv with rfl | rfl | rfl | rfl | rfl | rfl <;> rfl
  · refine go_iload_n C dX7_needed_0 rfl ?_
    refine go_iload_n C dX7_needed_1 rfl ?_
    refine go_iload_n C dX7_needed_2 rfl ?_
    refine go_S3P C ok_X7_isCell lk_X7_71 dX7_needed_3 (k_X7_isCell _ _ _) (by decide) (Nat.le_of_ble_eq_true rfl) ?_
    refine go_if_eqB C 25 dX7_needed_6 (by decide) (fun h6 => ?_) (fun h6 => ?_)
    · refine go_iconst C (-1) dX7_needed_25 rfl ?_
      refine go_iret hr dX7_needed_26 rfl ?_
      first | exact ⟨by unfold aNeeded; rw [pI_t hcond, pI_f h35], hR⟩ | exact ⟨(pI_f (fun q => by first | exact h6 q.1 | exact h16 q.2.1 | exact q.2.2 h22)).symm, hR⟩
    · refine go_iload C dX7_needed_9 rfl ?_
      refine go_iconst C (nI 0) dX7_needed_11 rfl ?_
      refine go_iconst C (nI 2) dX7_needed_12 rfl ?_
      refine go_S3P C ok_X7_in lk_X7_57 dX7_needed_13 (k_X7_in (by decide) _) (by decide) (Nat.le_of_ble_eq_true rfl) ?_
      refine go_if_eqB C 25 dX7_needed_16 (by decide) (fun h16 => ?_) (fun h16 => ?_)
      · refine go_iconst C (-1) dX7_needed_25 rfl ?_
        refine go_iret hr dX7_needed_26 rfl ?_
        first | exact ⟨by unfold aNeeded; rw [pI_t hcond, pI_f h35], hR⟩ | exact ⟨(pI_f (fun q => by first | exact h6 q.1 | exact h16 q.2.1 | exact q.2.2 h22)).symm, hR⟩
      · refine go_iload_n C dX7_needed_19 rfl ?_
        refine go_bipush C (nI 7) dX7_needed_20 rfl ?_
        refine go_icmp_ne C 27 dX7_needed_22 (by decide) (fun h22 => ?_) (fun h22 => ?_)
        · have hcond : isC x y z ∧ rng 3 c ∧ y ≠ nI 7 := ⟨h6, h16, h22⟩
          refine go_iload C dX7_needed_27 rfl ?_
          refine go_iconst C (nI 0) dX7_needed_29 rfl ?_
          refine go_bipush C (nI 15) dX7_needed_30 rfl ?_
          refine go_S3P C ok_X7_in lk_X7_57 dX7_needed_32 (k_X7_in (by decide) _) (by decide) (Nat.le_of_ble_eq_true rfl) ?_
          refine go_if_neB C 41 dX7_needed_35 (by decide) (fun h35 => ?_) (fun h35 => ?_)
          · obtain ⟨r1, r2, r3⟩ := id h6
            obtain ⟨a, ha, rfl⟩ := rng_nat (by decide) r1
            obtain ⟨b, hb, rfl⟩ := rng_nat (by decide) r2
            obtain ⟨cz, hcz, rfl⟩ := rng_nat (by decide) r3
            have hk := cel_lt ha hb hcz
            obtain ⟨cn, hc3, rfl⟩ := rng_nat (by decide) (id h16)
            obtain ⟨vn, hvn, rfl⟩ := rng_nat (by decide) (id h35)
            have hc : cn < 4 := by omega
            have hb7 : b < 7 := by
              have : b ≠ 7 := fun q => h22 (by rw [q])
              omega
            have hk12 : cel a b cz + 12 < 1152 := by unfold cel; omega
            have hy7 : cY (cel a b cz) < 7 := by rw [cY_cel ha hb]; exact hb7
            have hls := lossN_lt hO hc hk12
            have ht := hO.1 _ hk
            have hans : aNeeded S (nI a) (nI b) (nI cz) (nI cn) (nI vn) = needF (sW S) cn (cel a b cz) vn := by unfold aNeeded; rw [pI_t hcond, pI_t h35, nI_clamp (by omega), nI_clamp (by omega), ixC_nI ha hb hcz]
            have L : ∀ (n : Nat) (e : Nat) (ρ : Mem), (e + n = 16) → (RepM ρ S) → (e = 0 ∨ IsLit (srcQ (sW S) cn (cel a b cz) 0) (lossN (sW S) cn) (litQ (sW S) cn (cel a b cz) 0)) → (∀ e2, e2 < e → ¬ vn ≤ max (litQ (sW S) cn (cel a b cz) 0 (cel a b cz + 12)) (e2 - 1 - (lossN (sW S) cn (cel a b cz + 12)))) → Go objM NM X 44 [some (.ref 0), some (.int (nI a)), some (.int (nI b)), some (.int (nI cz)), some (.int (nI cn)), some (.int (nI vn)), some (.int (nI e))] [] ρ := by
              intro n
              induction n using Nat.strongRecOn with
              | _ n ih =>
                intro e ρ he hR1 hE hn0
                have hT1 : ∀ j, j < 1152 → ρ 1 j = nI (wT (sW S) j) := fun j hj => by have := hR1.2.1.1 j hj; rw [Nat.zero_add] at this; exact this
                refine go_iload C dX7_needed_44 rfl ?_
                refine go_bipush C (nI 15) dX7_needed_46 rfl ?_
                refine go_icmp_gtN C 103 dX7_needed_48 (by decide) (by omega) (by omega) (fun h48 => ?_) (fun h48 => ?_)
                · obtain rfl : e = 16 := by omega
                  have q0 := hn0 0 (by decide)
                  have q1 := hn0 15 (by decide)
                  have hnd : needF (sW S) cn (cel a b cz) vn = -4 := by
                    unfold needF
                    have a1 := Nat.le_max_left (litQ (sW S) cn (cel a b cz) 0 (cel a b cz + 12)) (0 - 1 - (lossN (sW S) cn (cel a b cz + 12)))
                    have a2 := Nat.le_max_right (litQ (sW S) cn (cel a b cz) 0 (cel a b cz + 12)) (15 - 1 - (lossN (sW S) cn (cel a b cz + 12)))
                    rw [if_neg (by omega), if_neg (by omega)]
                  refine go_bipush C (-4) dX7_needed_103 rfl ?_
                  refine go_iret hr dX7_needed_105 rfl ?_
                  first | exact ⟨by rw [hans, hnd], hp1⟩ | exact ⟨by rw [hans, hnd], hR1⟩
                · refine go_aload_n C dX7_needed_51 rfl ?_
                  refine go_iload_n C dX7_needed_52 rfl ?_
                  refine go_iload_n C dX7_needed_53 rfl ?_
                  refine go_iload_n C dX7_needed_54 rfl ?_
                  refine go_S3P C ok_X7_cell lk_X7_74 dX7_needed_55 k_X7_cell (by decide) (Nat.le_of_ble_eq_true rfl) ?_
                  refine go_aload_n C dX7_needed_58 rfl ?_
                  refine go_getR C gf_X7_9 dX7_needed_59 (by decide) rfl rfl ?_
                  refine go_iload_n C dX7_needed_62 rfl ?_
                  refine go_iload_n C dX7_needed_63 rfl ?_
                  refine go_iload_n C dX7_needed_64 rfl ?_
                  refine go_S3P C ok_X7_cell lk_X7_74 dX7_needed_65 k_X7_cell (by decide) (Nat.le_of_ble_eq_true rfl) ?_
                  refine go_ialdN C dX7_needed_68 (by decide) rfl (by decide) (by omega) ?_
                  refine go_top _ (hT1 _ hk) ?_
                  refine go_iload C dX7_needed_69 rfl ?_
                  refine go_iload C dX7_needed_71 rfl ?_
                  refine go_V4V C ok_X7_layWith lk_X7_198 dX7_needed_73 (by decide) rfl rfl rfl (k_X7_layWith hR1 hk ht hc (x := nI e) (qe := cel a b cz) (e := e) (by omega) (Or.inr ⟨rfl, rfl⟩)) (by decide) (Nat.le_of_ble_eq_true rfl) (fun τ hp => ?_)
                  obtain ⟨hp1, hp2⟩ := hp
                  rw [setT_id] at hp2
                  have hE0 : IsLit (srcQ (sW S) cn (cel a b cz) 0) (lossN (sW S) cn) (litQ (sW S) cn (cel a b cz) 0) := by
                    rcases hE with z | z
                    · subst z; exact hp2.1
                    · exact z
                  refine go_aload_n C dX7_needed_76 rfl ?_
                  refine go_getR C gf_X7_26 dX7_needed_77 (by decide) rfl rfl ?_
                  refine go_iload_n C dX7_needed_80 rfl ?_
                  refine go_iload_n C dX7_needed_81 rfl ?_
                  refine go_iconst C (nI 1) dX7_needed_82 rfl ?_
                  refine go_iaddN C dX7_needed_83 ?_
                  refine go_iload_n C dX7_needed_84 rfl ?_
                  refine go_S3P C ok_X7_cell lk_X7_74 dX7_needed_85 k_X7_cell (by decide) (Nat.le_of_ble_eq_true rfl) ?_
                  have hce : cel a (b + 1) cz = cel a b cz + 12 := by unfold cel; omega
                  rw [hce]
                  refine go_ialdN C dX7_needed_88 (by decide) rfl (by decide) (by omega) ?_
                  refine go_top _ (hp2.2 _ hk12) ?_
                  refine go_iload C dX7_needed_89 rfl ?_
                  have hmx := need_max (e := e) (by omega) hk hy7 hE0 hp2.1
                  have h15 := (hp2.1.1 _ hk12).2
                  refine go_icmp_ltN C 97 dX7_needed_91 (by decide) (by omega) (by omega) (fun h91 => ?_) (fun h91 => ?_)
                  · rw [hmx] at h91
                    refine go_iincN C 1 dX7_needed_97 rfl rfl (by decide) rfl rfl ?_
                    refine go_goto C 44 dX7_needed_100 (by decide) ?_
                    exact ih (n - 1) (by omega) (e + 1) τ (by omega) hp1 (Or.inr hE0) (fun e2 h => by
                      rcases Nat.lt_or_ge e2 e with y | y
                      · exact hn0 e2 y
                      · rw [show e2 = e by omega]; omega)
                  · rw [hmx] at h91
                    have hnd : needF (sW S) cn (cel a b cz) vn = nI e := by
                      unfold needF
                      rcases Nat.eq_zero_or_pos e with z | z
                      · subst z
                        have e0 : max (litQ (sW S) cn (cel a b cz) 0 (cel a b cz + 12)) (0 - 1 - (lossN (sW S) cn (cel a b cz + 12))) = (litQ (sW S) cn (cel a b cz) 0 (cel a b cz + 12)) := Nat.max_eq_left (by omega)
                        rw [e0] at h91
                        rw [if_pos h91]
                      · have q0 := hn0 0 z
                        have q1 := hn0 (e - 1) (by omega)
                        have a1 := Nat.le_max_left (litQ (sW S) cn (cel a b cz) 0 (cel a b cz + 12)) (0 - 1 - (lossN (sW S) cn (cel a b cz + 12)))
                        have a2 := Nat.le_max_right (litQ (sW S) cn (cel a b cz) 0 (cel a b cz + 12)) (e - 1 - 1 - (lossN (sW S) cn (cel a b cz + 12)))
                        have a3 : vn ≤ e - 1 - (lossN (sW S) cn (cel a b cz + 12)) := by
                          rcases Nat.le_total (litQ (sW S) cn (cel a b cz) 0 (cel a b cz + 12)) (e - 1 - (lossN (sW S) cn (cel a b cz + 12))) with y | y
                          · rw [Nat.max_eq_right y] at h91; exact h91
                          · rw [Nat.max_eq_left y] at h91; omega
                        rw [if_neg (by omega), if_pos (by omega)]
                        exact congrArg nI (by omega)
                    refine go_iload C dX7_needed_94 rfl ?_
                    refine go_iret hr dX7_needed_96 rfl ?_
                    first | exact ⟨by rw [hans, hnd], hp1⟩ | exact ⟨by rw [hans, hnd], hR1⟩
            refine go_iconst C (nI 0) dX7_needed_41 rfl ?_
            refine go_istore C dX7_needed_42 (by decide) rfl rfl ?_
            exact L 16 0 σ (by omega) hR (Or.inl rfl) (fun e2 h => absurd h (Nat.not_lt_zero _))
          · refine go_bipush C (-2) dX7_needed_38 rfl ?_
            refine go_iret hr dX7_needed_40 rfl ?_
            first | exact ⟨by unfold aNeeded; rw [pI_t hcond, pI_f h35], hR⟩ | exact ⟨(pI_f (fun q => by first | exact h6 q.1 | exact h16 q.2.1 | exact q.2.2 h22)).symm, hR⟩
        · refine go_iconst C (-1) dX7_needed_25 rfl ?_
          refine go_iret hr dX7_needed_26 rfl ?_
          first | exact ⟨by unfold aNeeded; rw [pI_t hcond, pI_f h35], hR⟩ | exact ⟨(pI_f (fun q => by first | exact h6 q.1 | exact h16 q.2.1 | exact q.2.2 h22)).symm, hR⟩
set_option maxHeartbeats 4000000 in
set_option maxRecDepth 100000 in
theorem k_X7_isConsistent {σ : Mem} {S : St} (hR : RepM σ S)  : CtI objM NM yX7_isConsistent cX7_isConsistent 4 .int 5 116 [.ref 0] σ (RQM (nI 1) S) := by
  obtain ⟨hS, hM, hL, hEf, hB, hH, hSv, hX, hFt, hoc⟩ := id hR
  have hO := hS.1
  have hOL := hS.2.1
  have hV := hR.V
  have hT : ∀ j, j < 1152 → σ 1 j = nI (wT (sW S) j) := fun j hj => by have := hM.1 j hj; rw [Nat.zero_add] at this; exact this
  have hLs := hV.2.2.2.1
  have hEm := hV.2.2.2.2.1
  refine ct_ofI rfl ?_ (Nat.le_of_ble_eq_true rfl) (fun X C hr => ?_)
  · intro v hv; simp only [List.mem_cons, List.not_mem_nil, or_false] at hv; rcases hv with rfl <;> rfl
  · have L : ∀ (n : Nat) (c : Nat) (v3 : Option Value) (ρ : Mem), (c + n = 4) → (RepM ρ S) → Go objM NM X 4 [some (.ref 0), some (.int (nI 1)), some (.int (nI c)), v3] [] ρ := by
      intro n
      induction n using Nat.strongRecOn with
      | _ n ih =>
        intro c v3 ρ hi hR1
        refine go_iload_n C dX7_isConsistent_4 rfl ?_
        refine go_iconst C (nI 4) dX7_isConsistent_5 rfl ?_
        refine go_icmp_geN C 58 dX7_isConsistent_6 (by decide) (by omega) (by omega) (fun h6 => ?_) (fun h6 => ?_)
        · refine go_iload_n C dX7_isConsistent_58 rfl ?_
          refine go_if_eqN C 66 dX7_isConsistent_59 (by decide) (by omega) (fun h59 => ?_) (fun h59 => ?_)
          · exact absurd h59 (by decide)
          · refine go_iconst C (nI 1) dX7_isConsistent_62 rfl ?_
            refine go_goto C 67 dX7_isConsistent_63 (by decide) ?_
            refine go_iret hr dX7_isConsistent_67 rfl ?_
            exact ⟨rfl, hR1⟩
        · have hc : c < 4 := by omega
          refine go_aload_n C dX7_isConsistent_9 rfl ?_
          refine go_iload_n C dX7_isConsistent_10 rfl ?_
          refine go_V1V C ok_X7_lay lk_X7_109 dX7_isConsistent_11 (by decide) rfl rfl rfl (k_X7_lay hO hR1.V (by decide) hc) (by decide) (Nat.le_of_ble_eq_true rfl) (fun τ hp => ?_)
          have hR2 := hp.1.R hR1
          have L2 : ∀ (n2 : Nat) (i : Nat), (i + n2 = 1152) → Go objM NM X 16 [some (.ref 0), some (.int (nI 1)), some (.int (nI c)), some (.int (nI i))] [] τ := by
            intro n2
            induction n2 using Nat.strongRecOn with
            | _ n2 ih2 =>
              intro i hi
              refine go_iload_n C dX7_isConsistent_16 rfl ?_
              refine go_sipush C (nI 1152) dX7_isConsistent_17 rfl ?_
              refine go_icmp_geN C 52 dX7_isConsistent_20 (by decide) (by omega) (by omega) (fun h20 => ?_) (fun h20 => ?_)
              · skip
                refine go_iincN C 1 dX7_isConsistent_52 rfl rfl (by decide) rfl rfl ?_
                refine go_goto C 4 dX7_isConsistent_55 (by decide) ?_
                exact ih (n - 1) (by omega) (c + 1) _ τ (by omega) hR2
              · have h1 := lit_lt hOL hc (show i < 1152 by omega)
                have h1b : litQ (sW S) c 1152 0 i < 16 := h1
                refine go_iload_n C dX7_isConsistent_23 rfl ?_
                refine go_aload_n C dX7_isConsistent_24 rfl ?_
                refine go_getR C gf_X7_26 dX7_isConsistent_25 (by decide) rfl rfl ?_
                refine go_iload_n C dX7_isConsistent_28 rfl ?_
                refine go_ialdN C dX7_isConsistent_29 (by decide) rfl (by decide) (by omega) ?_
                refine go_top _ (hp.2.2 _ (by omega)) ?_
                refine go_aload_n C dX7_isConsistent_30 rfl ?_
                refine go_iload_n C dX7_isConsistent_31 rfl ?_
                refine go_iload_n C dX7_isConsistent_32 rfl ?_
                refine go_V2P C ok_X7_lightOf lk_X7_177 dX7_isConsistent_33 (by decide) rfl rfl rfl (k_X7_lightOf hR2.2.2.1 (show i < 1152 by omega) hc) (by decide) (Nat.le_of_ble_eq_true rfl) ?_
                refine go_icmp_neN C 43 dX7_isConsistent_36 (by decide) (by omega) (by omega) (fun h36 => ?_) (fun h36 => ?_)
                · exact absurd rfl h36
                · refine go_iconst C (nI 1) dX7_isConsistent_39 rfl ?_
                  refine go_goto C 44 dX7_isConsistent_40 (by decide) ?_
                  refine go_iand C dX7_isConsistent_44 ?_
                  refine go_top (nI 1) (by decide) ?_
                  refine go_istore_n C dX7_isConsistent_45 (by decide) rfl rfl ?_
                  refine go_iincN C 1 dX7_isConsistent_46 rfl rfl (by decide) rfl rfl ?_
                  refine go_goto C 16 dX7_isConsistent_49 (by decide) ?_
                  exact ih2 (n2 - 1) (by omega) (i + 1) (by omega)
          refine go_iconst C (nI 0) dX7_isConsistent_14 rfl ?_
          refine go_istore_n C dX7_isConsistent_15 (by decide) rfl rfl ?_
          exact L2 1152 0 (by omega)
    refine go_iconst C (nI 1) dX7_isConsistent_0 rfl ?_
    refine go_istore_n C dX7_isConsistent_1 (by decide) rfl rfl ?_
    refine go_iconst C (nI 0) dX7_isConsistent_2 rfl ?_
    refine go_istore_n C dX7_isConsistent_3 (by decide) rfl rfl ?_
    exact L 4 0 _ σ (by omega) hR
