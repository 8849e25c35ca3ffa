set_option maxHeartbeats 4000000 in
set_option maxRecDepth 100000 in
theorem k_X7_set {σ : Mem} {S : St} (hR : RepM σ S) (x y z t : Int32) : CtI objM NM yX7_set cX7_set 5 .int 6 138 [.ref 0, .int x, .int y, .int z, .int t] σ (RQM (oSet S x y z t).1 (oSet S x y z t).2) := by
  obtain ⟨hS, hM, hL, hEf, hB, hH, hSv, hX, hFt, hoc⟩ := id hR
  have hO := hS.1
  have hOL := hS.2.1
  have hV := hR.V
  have hT : ∀ j, j < 1152 → σ 1 j = nI (wT (sW S) j) := fun j hj => by have := hM.1 j hj; rw [Nat.zero_add] at this; exact this
  have hLs := hV.2.2.2.1
  have hEm := hV.2.2.2.2.1
  refine ct_ofI rfl ?_ (Nat.le_of_ble_eq_true rfl) (fun X C hr => ?_)
  · intro v hv; simp only [List.mem_cons, List.not_mem_nil, or_false] at hv; rcases hv with rfl | rfl | rfl | rfl | rfl <;> rfl
  · cases hb : sB S with
    | none =>
      rw [hb] at hB
      refine go_iload_n C dX7_set_0 rfl ?_
      refine go_iload_n C dX7_set_1 rfl ?_
      refine go_iload_n C dX7_set_2 rfl ?_
      refine go_S3P C ok_X7_isCell lk_X7_71 dX7_set_3 (k_X7_isCell _ _ _) (by decide) (Nat.le_of_ble_eq_true rfl) ?_
      refine go_if_eqB C 17 dX7_set_6 (by decide) (fun h6 => ?_) (fun h6 => ?_)
      · refine go_iconst C (-1) dX7_set_17 rfl ?_
        refine go_iret hr dX7_set_18 rfl ?_
        exact ⟨by unfold oSet; rw [iP_t (fun z => h6 z.1)], by unfold oSet; rw [iP_t (fun z => h6 z.1)]; exact hR⟩
      · refine go_iload C dX7_set_9 rfl ?_
        refine go_S1P C ok_X7_isType lk_X7_123 dX7_set_11 (k_X7_isType _) (by decide) (Nat.le_of_ble_eq_true rfl) ?_
        refine go_if_neB C 19 dX7_set_14 (by decide) (fun h14 => ?_) (fun h14 => ?_)
        · obtain ⟨r1, r2, r3⟩ := id h6
          obtain ⟨a, ha, rfl⟩ := rng_nat (by decide) r1
          obtain ⟨b, hb1, rfl⟩ := rng_nat (by decide) r2
          obtain ⟨cz, hcz, rfl⟩ := rng_nat (by decide) r3
          have hk := cel_lt ha hb1 hcz
          obtain ⟨tn, ht, rfl⟩ := rng_nat (by decide) (id h14)
          have he : oSet S (nI a) (nI b) (nI cz) (nI tn) = oChg S (setT (sW S) (cel a b cz) tn) := by unfold oSet; rw [iP_f (fun z => z ⟨h6, h14⟩), hb, ixC_nI ha hb1 hcz, nI_clamp (by omega)]
          refine go_aload_n C dX7_set_19 rfl ?_
          refine go_getI C gf_X7_127 dX7_set_20 (by decide) rfl rfl ?_
          refine go_top (nI 0) hB ?_
          refine go_if_eqN C 39 dX7_set_23 (by decide) (by omega) (fun h23 => ?_) (fun h23 => ?_)
          · refine go_aload_n C dX7_set_39 rfl ?_
            refine go_V0V C ok_X7_keep lk_X7_134 dX7_set_40 (by decide) rfl rfl rfl (k_X7_keep hH hS.2.2.2.1.1 hM) (by decide) (Nat.le_of_ble_eq_true rfl) (fun σ1 hp1 => ?_)
            refine go_aload_n C dX7_set_43 rfl ?_
            refine go_getR C gf_X7_9 dX7_set_44 (by decide) rfl rfl ?_
            refine go_iload_n C dX7_set_47 rfl ?_
            refine go_iload_n C dX7_set_48 rfl ?_
            refine go_iload_n C dX7_set_49 rfl ?_
            refine go_S3P C ok_X7_cell lk_X7_74 dX7_set_50 k_X7_cell (by decide) (Nat.le_of_ble_eq_true rfl) ?_
            refine go_iload C dX7_set_53 rfl ?_
            refine go_iastN C dX7_set_55 (by decide) rfl (by decide) (by omega) ?_
            refine go_gen (fun σ2 hσ2 => ?_)
            have hF2 : ∀ q, q ≠ 0 → q ≠ 1 → q ≠ 3 → σ2 q = σ q := fun q a b c => by rw [hσ2, updR_n b]; exact hp1.2.1 q a c
            have hF0 : ∀ i, i ≠ 4 → i ≠ 11 → i ≠ 12 → σ2 0 i = σ 0 i := fun i a _ _ => by rw [hσ2, updR_n (by decide)]; exact hp1.2.2 i a
            have hB2 : σ2 0 11 = nI 0 := by rw [hσ2, updR_n (by decide), hp1.2.2 11 (by decide)]; exact hB
            have hHs : HisM σ2 ((sW S :: sH S).take 6) := hp1.1.of (by rw [hσ2, updR_n (by decide)]) (by rw [hσ2, updR_n (by decide)])
            have hOv : OkW (setT (sW S) (cel a b cz) tn) := setT_ok hO ht
            have hW2 : HasM σ2 1 0 (setT (sW S) (cel a b cz) tn) := by
              refine ⟨?_, ?_, ?_⟩
              · exact fun j hj => by
                  rw [Nat.zero_add, hσ2, updR_s]
                  show upd (σ1 1) (cel a b cz) (nI tn) _ = nI (un _ (cel a b cz) tn j)
                  by_cases e : j = cel a b cz
                  · subst e; rw [un_s, show (cel a b cz) = cel a b cz by omega, pk_us]
                  · rw [pk_un (by omega), un_n e, hp1.2.1 1 (by decide) (by decide)]
                    have := hM.1 j hj; rw [Nat.zero_add] at this; exact this
              · exact fun j hj => by
                  rw [Nat.zero_add, hσ2, updR_s]
                  rw [pk_un (by omega), hp1.2.1 1 (by decide) (by decide)]
                  have := hM.2.1 j hj; rw [Nat.zero_add] at this; exact this
              · exact fun j hj => by
                  rw [Nat.zero_add, hσ2, updR_s]
                  rw [pk_un (by omega), hp1.2.1 1 (by decide) (by decide)]
                  have := hM.2.2 j hj; rw [Nat.zero_add] at this; exact this
            refine go_aload_n C dX7_set_56 rfl ?_
            refine go_V0I C ok_X7_changed lk_X7_137 dX7_set_57 (by decide) rfl rfl rfl (k_X7_changed (L := lit (sW S)) hOv hW2 ((hF0 8 (by decide) (by decide) (by decide)).trans hoc) (fun c hc j hj => by rw [hF2 4 (by decide) (by decide) (by decide)]; exact hL c hc j hj) (lit_b hOL)) (by decide) (Nat.le_of_ble_eq_true rfl) (fun r τ hp => ?_)
            refine go_iret hr dX7_set_60 rfl ?_
            rw [he]
            have hok := chg_ok (v := (setT (sW S) (cel a b cz) tn)) hS hOv hp.2.1
            exact chg_repM hR hHs hok.2.2.2.1 hF2 hF0 hB2 hOv hW2 hp
          · exact absurd h23 (by omega)
        · refine go_iconst C (-1) dX7_set_17 rfl ?_
          refine go_iret hr dX7_set_18 rfl ?_
          exact ⟨by unfold oSet; rw [iP_t (fun z => h14 z.2)], by unfold oSet; rw [iP_t (fun z => h14 z.2)]; exact hR⟩
    | some es =>
      rw [hb] at hB
      refine go_iload_n C dX7_set_0 rfl ?_
      refine go_iload_n C dX7_set_1 rfl ?_
      refine go_iload_n C dX7_set_2 rfl ?_
      refine go_S3P C ok_X7_isCell lk_X7_71 dX7_set_3 (k_X7_isCell _ _ _) (by decide) (Nat.le_of_ble_eq_true rfl) ?_
      refine go_if_eqB C 17 dX7_set_6 (by decide) (fun h6 => ?_) (fun h6 => ?_)
      · refine go_iconst C (-1) dX7_set_17 rfl ?_
        refine go_iret hr dX7_set_18 rfl ?_
        exact ⟨by unfold oSet; rw [iP_t (fun z => h6 z.1)], by unfold oSet; rw [iP_t (fun z => h6 z.1)]; exact hR⟩
      · refine go_iload C dX7_set_9 rfl ?_
        refine go_S1P C ok_X7_isType lk_X7_123 dX7_set_11 (k_X7_isType _) (by decide) (Nat.le_of_ble_eq_true rfl) ?_
        refine go_if_neB C 19 dX7_set_14 (by decide) (fun h14 => ?_) (fun h14 => ?_)
        · obtain ⟨r1, r2, r3⟩ := id h6
          obtain ⟨a, ha, rfl⟩ := rng_nat (by decide) r1
          obtain ⟨b, hb1, rfl⟩ := rng_nat (by decide) r2
          obtain ⟨cz, hcz, rfl⟩ := rng_nat (by decide) r3
          have hk := cel_lt ha hb1 hcz
          obtain ⟨tn, ht, rfl⟩ := rng_nat (by decide) (id h14)
          obtain ⟨hb40, hbm⟩ := hS.2.2.1 es hb
          have he : oSet S (nI a) (nI b) (nI cz) (nI tn) = iP (40 ≤ fidx (cel a b cz) es) (-3, S) (nI (colL es (cel a b cz) tn).length, stB S (some (colL es (cel a b cz) tn))) := by unfold oSet; rw [iP_f (fun z => z ⟨h6, h14⟩), hb, ixC_nI ha hb1 hcz, nI_clamp (by omega)]
          refine go_aload_n C dX7_set_19 rfl ?_
          refine go_getI C gf_X7_127 dX7_set_20 (by decide) rfl rfl ?_
          refine go_top _ hB.1 ?_
          refine go_if_eqN C 39 dX7_set_23 (by decide) (by omega) (fun h23 => ?_) (fun h23 => ?_)
          · exact absurd h23 (by omega)
          · refine go_aload_n C dX7_set_26 rfl ?_
            refine go_iload_n C dX7_set_27 rfl ?_
            refine go_iload_n C dX7_set_28 rfl ?_
            refine go_iload_n C dX7_set_29 rfl ?_
            refine go_S3P C ok_X7_cell lk_X7_74 dX7_set_30 k_X7_cell (by decide) (Nat.le_of_ble_eq_true rfl) ?_
            refine go_iload C dX7_set_33 rfl ?_
            refine go_V2I C ok_X7_collect lk_X7_131 dX7_set_35 (by decide) rfl rfl rfl (k_X7_collect hB hb40 hbm hk ht) (by decide) (Nat.le_of_ble_eq_true rfl) (fun r τ hp => ?_)
            refine go_iret hr dX7_set_38 rfl ?_
            rw [he]
            rcases hp with ⟨p1, p2, p3⟩ | ⟨p1, p2, p3, p4, p5⟩
            · rw [iP_t p1]; exact ⟨p2, by rw [p3]; exact hR⟩
            · rw [iP_f p1]
              refine ⟨p2, bat_repM hR (fun es2 h2 => by
                cases h2
                have h1 := colL_len (es := es) (k := cel a b cz) (t := tn)
                have h3 := fidx_le (k := cel a b cz) es
                refine ⟨by split at h1 <;> omega, fun p hp => ?_⟩
                rcases colL_mem hp with q | q
                · exact hbm p q
                · rw [q]; exact ⟨hk, ht⟩) p3 p4 (fun i _ i12 => p5 i i12)⟩
        · refine go_iconst C (-1) dX7_set_17 rfl ?_
          refine go_iret hr dX7_set_18 rfl ?_
          exact ⟨by unfold oSet; rw [iP_t (fun z => h14 z.2)], by unfold oSet; rw [iP_t (fun z => h14 z.2)]; exact hR⟩
set_option maxHeartbeats 4000000 in
set_option maxRecDepth 100000 in
theorem k_X7_openBatch {σ : Mem} {S : St} (hR : RepM σ S)  : CtI objM NM yX7_openBatch cX7_openBatch 1 .int 0 0 [.ref 0] σ (RQM (oOpen S).1 (oOpen S).2) := by
  obtain ⟨hS, hM, hL, hEf, hB, hH, hSv, hX, hFt, hoc⟩ := id hR
  have hO := hS.1
  have hOL := hS.2.1
  have hV := hR.V
  have hT : ∀ j, j < 1152 → σ 1 j = nI (wT (sW S) j) := fun j hj => by have := hM.1 j hj; rw [Nat.zero_add] at this; exact this
  have hLs := hV.2.2.2.1
  have hEm := hV.2.2.2.2.1
  refine ct_ofI rfl ?_ (Nat.le_of_ble_eq_true rfl) (fun X C hr => ?_)
  · intro v hv; simp only [List.mem_cons, List.not_mem_nil, or_false] at hv; rcases hv with rfl <;> rfl
  · cases hb : sB S with
    | none =>
      rw [hb] at hB
      refine go_aload_n C dX7_openBatch_0 rfl ?_
      refine go_getI C gf_X7_127 dX7_openBatch_1 (by decide) rfl rfl ?_
      refine go_top (nI 0) hB ?_
      refine go_if_eqN C 10 dX7_openBatch_4 (by decide) (by omega) (fun h4 => ?_) (fun h4 => ?_)
      · refine go_aload_n C dX7_openBatch_10 rfl ?_
        refine go_iconst C (nI 1) dX7_openBatch_11 rfl ?_
        refine go_putI C gf_X7_127 dX7_openBatch_12 (by decide) rfl rfl rfl rfl rfl ?_
        refine go_aload_n C dX7_openBatch_15 rfl ?_
        refine go_iconst C (nI 0) dX7_openBatch_16 rfl ?_
        refine go_putI C gf_X7_120 dX7_openBatch_17 (by decide) rfl rfl rfl rfl rfl ?_
        refine go_iconst C (nI 1) dX7_openBatch_20 rfl ?_
        refine go_iret hr dX7_openBatch_21 rfl ?_
        have he : oOpen S = (nI 1, stB S (some [])) := by unfold oOpen; rw [hb]
        rw [he]
        exact ⟨rfl, bat_repM hR (fun es h => by cases h; exact ⟨by decide, fun p hp => by cases hp⟩) ⟨by rw [updR_s, pk_un (by decide), updR_s]; exact pk_us, by rw [updR_s]; exact pk_us, fun i p h => by cases h⟩ (fun q a _ _ => by rw [updR_n a, updR_n a]) (fun i a b => by rw [updR_s, pk_un b, updR_s, pk_un a])⟩
      · exact absurd h4 (by omega)
    | some es =>
      rw [hb] at hB
      refine go_aload_n C dX7_openBatch_0 rfl ?_
      refine go_getI C gf_X7_127 dX7_openBatch_1 (by decide) rfl rfl ?_
      refine go_top _ hB.1 ?_
      refine go_if_eqN C 10 dX7_openBatch_4 (by decide) (by omega) (fun h4 => ?_) (fun h4 => ?_)
      · exact absurd h4 (by omega)
      · refine go_bipush C (-5) dX7_openBatch_7 rfl ?_
        refine go_iret hr dX7_openBatch_9 rfl ?_
        exact ⟨by unfold oOpen; rw [hb], by unfold oOpen; rw [hb]; exact hR⟩
set_option maxHeartbeats 4000000 in
set_option maxRecDepth 100000 in
theorem k_X7_dropBatch {σ : Mem} {S : St} (hR : RepM σ S)  : CtI objM NM yX7_dropBatch cX7_dropBatch 1 .int 0 0 [.ref 0] σ (RQM (oDrop S).1 (oDrop S).2) := by
  obtain ⟨hS, hM, hL, hEf, hB, hH, hSv, hX, hFt, hoc⟩ := id hR
  have hO := hS.1
  have hOL := hS.2.1
  have hV := hR.V
  have hT : ∀ j, j < 1152 → σ 1 j = nI (wT (sW S) j) := fun j hj => by have := hM.1 j hj; rw [Nat.zero_add] at this; exact this
  have hLs := hV.2.2.2.1
  have hEm := hV.2.2.2.2.1
  refine ct_ofI rfl ?_ (Nat.le_of_ble_eq_true rfl) (fun X C hr => ?_)
  · intro v hv; simp only [List.mem_cons, List.not_mem_nil, or_false] at hv; rcases hv with rfl <;> rfl
  · cases hb : sB S with
    | none =>
      rw [hb] at hB
      refine go_aload_n C dX7_dropBatch_0 rfl ?_
      refine go_getI C gf_X7_127 dX7_dropBatch_1 (by decide) rfl rfl ?_
      refine go_top (nI 0) hB ?_
      refine go_if_neN C 10 dX7_dropBatch_4 (by decide) (by omega) (fun h4 => ?_) (fun h4 => ?_)
      · exact absurd h4 (by omega)
      · refine go_bipush C (-5) dX7_dropBatch_7 rfl ?_
        refine go_iret hr dX7_dropBatch_9 rfl ?_
        exact ⟨by unfold oDrop; rw [hb], by unfold oDrop; rw [hb]; exact hR⟩
    | some es =>
      rw [hb] at hB
      refine go_aload_n C dX7_dropBatch_0 rfl ?_
      refine go_getI C gf_X7_127 dX7_dropBatch_1 (by decide) rfl rfl ?_
      refine go_top _ hB.1 ?_
      refine go_if_neN C 10 dX7_dropBatch_4 (by decide) (by omega) (fun h4 => ?_) (fun h4 => ?_)
      · refine go_aload_n C dX7_dropBatch_10 rfl ?_
        refine go_iconst C (nI 0) dX7_dropBatch_11 rfl ?_
        refine go_putI C gf_X7_127 dX7_dropBatch_12 (by decide) rfl rfl rfl rfl rfl ?_
        refine go_aload_n C dX7_dropBatch_15 rfl ?_
        refine go_getI C gf_X7_120 dX7_dropBatch_16 (by decide) rfl rfl ?_
        refine go_top (nI es.length) (by rw [updR_s, pk_un (by decide)]; exact hB.2.1) ?_
        refine go_iret hr dX7_dropBatch_19 rfl ?_
        have he : oDrop S = (nI es.length, stB S none) := by unfold oDrop; rw [hb]
        rw [he]
        exact ⟨rfl, bat_repM hR (fun es h => by cases h) (by show upd (σ 0) 11 (nI 0) 11 = nI 0; exact pk_us) (fun q a _ _ => updR_n a) (fun i a b => by rw [updR_s, pk_un a])⟩
      · exact absurd h4 (by omega)
set_option maxHeartbeats 4000000 in
set_option maxRecDepth 100000 in
theorem k_X7_setLoss {σ : Mem} {S : St} (hR : RepM σ S) (t c v : Int32) : CtI objM NM yX7_setLoss cX7_setLoss 4 .int 6 138 [.ref 0, .int t, .int c, .int v] σ (RQM (oLoss S t c v).1 (oLoss S t c v).2) := by
  obtain ⟨hS, hM, hL, hEf, hB, hH, hSv, hX, hFt, hoc⟩ := id hR
  have hO := hS.1
  have hOL := hS.2.1
  have hV := hR.V
  have hT : ∀ j, j < 1152 → σ 1 j = nI (wT (sW S) j) := fun j hj => by have := hM.1 j hj; rw [Nat.zero_add] at this; exact this
  have hLs := hV.2.2.2.1
  have hEm := hV.2.2.2.2.1
  refine ct_ofI rfl ?_ (Nat.le_of_ble_eq_true rfl) (fun X C hr => ?_)
  · intro v hv; simp only [List.mem_cons, List.not_mem_nil, or_false] at hv; rcases hv with rfl | rfl | rfl | rfl <;> rfl
  · cases hb : sB S with
    | none =>
      rw [hb] at hB
      refine go_aload_n C dX7_setLoss_0 rfl ?_
      refine go_getI C gf_X7_127 dX7_setLoss_1 (by decide) rfl rfl ?_
      refine go_top (nI 0) hB ?_
      refine go_if_eqN C 10 dX7_setLoss_4 (by decide) (by omega) (fun h4 => ?_) (fun h4 => ?_)
      · refine go_iload_n C dX7_setLoss_10 rfl ?_
        refine go_S1P C ok_X7_isType lk_X7_123 dX7_setLoss_11 (k_X7_isType _) (by decide) (Nat.le_of_ble_eq_true rfl) ?_
        refine go_if_eqB C 26 dX7_setLoss_14 (by decide) (fun h14 => ?_) (fun h14 => ?_)
        · have he : oLoss S t c v = (-1, S) := by unfold oLoss nB; rw [hb]; show iP _ _ _ = _; rw [iP_t (fun z => h14 z.1)]
          refine go_iconst C (-1) dX7_setLoss_26 rfl ?_
          refine go_iret hr dX7_setLoss_27 rfl ?_
          rw [he]
          exact ⟨rfl, hR⟩
        · refine go_iload_n C dX7_setLoss_17 rfl ?_
          refine go_iconst C (nI 0) dX7_setLoss_18 rfl ?_
          refine go_iconst C (nI 3) dX7_setLoss_19 rfl ?_
          refine go_S3P C ok_X7_in lk_X7_57 dX7_setLoss_20 (k_X7_in (by decide) _) (by decide) (Nat.le_of_ble_eq_true rfl) ?_
          refine go_if_neB C 28 dX7_setLoss_23 (by decide) (fun h23 => ?_) (fun h23 => ?_)
          · refine go_iload_n C dX7_setLoss_28 rfl ?_
            refine go_iconst C (nI 0) dX7_setLoss_29 rfl ?_
            refine go_bipush C (nI 15) dX7_setLoss_30 rfl ?_
            refine go_S3P C ok_X7_in lk_X7_57 dX7_setLoss_32 (k_X7_in (by decide) _) (by decide) (Nat.le_of_ble_eq_true rfl) ?_
            refine go_if_neB C 41 dX7_setLoss_35 (by decide) (fun h35 => ?_) (fun h35 => ?_)
            · obtain ⟨tn, htn, rfl⟩ := rng_nat (by decide) (id h14)
              obtain ⟨cn, hcn, rfl⟩ := rng_nat (by decide) (id h23)
              obtain ⟨vn, hvn, rfl⟩ := rng_nat (by decide) (id h35)
              have he : oLoss S (nI tn) (nI cn) (nI vn) = oChg S (slW (sW S) tn cn vn) := by unfold oLoss nB; rw [hb]; show iP _ _ _ = _; rw [iP_f (fun z => z ⟨h14, h23⟩), iP_f (fun z => z h35), nI_clamp (by omega), nI_clamp (by omega), nI_clamp (by omega)]
              refine go_aload_n C dX7_setLoss_41 rfl ?_
              refine go_V0V C ok_X7_keep lk_X7_134 dX7_setLoss_42 (by decide) rfl rfl rfl (k_X7_keep hH hS.2.2.2.1.1 hM) (by decide) (Nat.le_of_ble_eq_true rfl) (fun σ1 hp1 => ?_)
              refine go_aload_n C dX7_setLoss_45 rfl ?_
              refine go_getR C gf_X7_9 dX7_setLoss_46 (by decide) rfl rfl ?_
              refine go_sipush C (nI 1152) dX7_setLoss_49 rfl ?_
              refine go_iconst C (nI 4) dX7_setLoss_52 rfl ?_
              refine go_iload_n C dX7_setLoss_53 rfl ?_
              refine go_imulN C dX7_setLoss_54 ?_
              refine go_iaddN C dX7_setLoss_55 ?_
              refine go_iload_n C dX7_setLoss_56 rfl ?_
              refine go_iaddN C dX7_setLoss_57 ?_
              refine go_iload_n C dX7_setLoss_58 rfl ?_
              refine go_iastN C dX7_setLoss_59 (by decide) rfl (by decide) (by omega) ?_
              refine go_gen (fun σ2 hσ2 => ?_)
              have hF2 : ∀ q, q ≠ 0 → q ≠ 1 → q ≠ 3 → σ2 q = σ q := fun q a b c => by rw [hσ2, updR_n b]; exact hp1.2.1 q a c
              have hF0 : ∀ i, i ≠ 4 → i ≠ 11 → i ≠ 12 → σ2 0 i = σ 0 i := fun i a _ _ => by rw [hσ2, updR_n (by decide)]; exact hp1.2.2 i a
              have hB2 : σ2 0 11 = nI 0 := by rw [hσ2, updR_n (by decide), hp1.2.2 11 (by decide)]; exact hB
              have hHs : HisM σ2 ((sW S :: sH S).take 6) := hp1.1.of (by rw [hσ2, updR_n (by decide)]) (by rw [hσ2, updR_n (by decide)])
              have hOv : OkW (slW (sW S) tn cn vn) := slW_ok hO hvn
              have hW2 : HasM σ2 1 0 (slW (sW S) tn cn vn) := by
                refine ⟨?_, ?_, ?_⟩
                · exact fun j hj => by
                    rw [Nat.zero_add, hσ2, updR_s]
                    rw [pk_un (by omega), hp1.2.1 1 (by decide) (by decide)]
                    have := hM.1 j hj; rw [Nat.zero_add] at this; exact this
                · exact fun j hj => by
                    rw [Nat.zero_add, hσ2, updR_s]
                    show upd (σ1 1) (1152 + 4 * tn + cn) (nI vn) _ = nI (un _ (4 * tn + cn) vn j)
                    by_cases e : j = 4 * tn + cn
                    · subst e; rw [un_s, show 1152 + (4 * tn + cn) = 1152 + 4 * tn + cn by omega, pk_us]
                    · rw [pk_un (by omega), un_n e, hp1.2.1 1 (by decide) (by decide)]
                      have := hM.2.1 j hj; rw [Nat.zero_add] at this; exact this
                · exact fun j hj => by
                    rw [Nat.zero_add, hσ2, updR_s]
                    rw [pk_un (by omega), hp1.2.1 1 (by decide) (by decide)]
                    have := hM.2.2 j hj; rw [Nat.zero_add] at this; exact this
              refine go_aload_n C dX7_setLoss_60 rfl ?_
              refine go_V0I C ok_X7_changed lk_X7_137 dX7_setLoss_61 (by decide) rfl rfl rfl (k_X7_changed (L := lit (sW S)) hOv hW2 ((hF0 8 (by decide) (by decide) (by decide)).trans hoc) (fun c hc j hj => by rw [hF2 4 (by decide) (by decide) (by decide)]; exact hL c hc j hj) (lit_b hOL)) (by decide) (Nat.le_of_ble_eq_true rfl) (fun r τ hp => ?_)
              refine go_iret hr dX7_setLoss_64 rfl ?_
              rw [he]
              have hok := chg_ok (v := (slW (sW S) tn cn vn)) hS hOv hp.2.1
              exact chg_repM hR hHs hok.2.2.2.1 hF2 hF0 hB2 hOv hW2 hp
            · have he : oLoss S t c v = (-2, S) := by unfold oLoss nB; rw [hb]; show iP _ _ _ = _; rw [iP_f (fun z => z ⟨h14, h23⟩), iP_t h35]
              refine go_bipush C (-2) dX7_setLoss_38 rfl ?_
              refine go_iret hr dX7_setLoss_40 rfl ?_
              rw [he]
              exact ⟨rfl, hR⟩
          · have he : oLoss S t c v = (-1, S) := by unfold oLoss nB; rw [hb]; show iP _ _ _ = _; rw [iP_t (fun z => h23 z.2)]
            refine go_iconst C (-1) dX7_setLoss_26 rfl ?_
            refine go_iret hr dX7_setLoss_27 rfl ?_
            rw [he]
            exact ⟨rfl, hR⟩
      · exact absurd h4 (by omega)
    | some es =>
      rw [hb] at hB
      refine go_aload_n C dX7_setLoss_0 rfl ?_
      refine go_getI C gf_X7_127 dX7_setLoss_1 (by decide) rfl rfl ?_
      refine go_top _ hB.1 ?_
      refine go_if_eqN C 10 dX7_setLoss_4 (by decide) (by omega) (fun h4 => ?_) (fun h4 => ?_)
      · exact absurd h4 (by omega)
      · refine go_bipush C (-5) dX7_setLoss_7 rfl ?_
        refine go_iret hr dX7_setLoss_9 rfl ?_
        exact ⟨by unfold oLoss nB; rw [hb], by unfold oLoss nB; rw [hb]; exact hR⟩
set_option maxHeartbeats 4000000 in
set_option maxRecDepth 100000 in
theorem k_X7_setEmission {σ : Mem} {S : St} (hR : RepM σ S) (t c v : Int32) : CtI objM NM yX7_setEmission cX7_setEmission 4 .int 6 138 [.ref 0, .int t, .int c, .int v] σ (RQM (oEm S t c v).1 (oEm S t c v).2) := by
  obtain ⟨hS, hM, hL, hEf, hB, hH, hSv, hX, hFt, hoc⟩ := id hR
  have hO := hS.1
  have hOL := hS.2.1
  have hV := hR.V
  have hT : ∀ j, j < 1152 → σ 1 j = nI (wT (sW S) j) := fun j hj => by have := hM.1 j hj; rw [Nat.zero_add] at this; exact this
  have hLs := hV.2.2.2.1
  have hEm := hV.2.2.2.2.1
  refine ct_ofI rfl ?_ (Nat.le_of_ble_eq_true rfl) (fun X C hr => ?_)
  · intro v hv; simp only [List.mem_cons, List.not_mem_nil, or_false] at hv; rcases hv with rfl | rfl | rfl | rfl <;> rfl
  · cases hb : sB S with
    | none =>
      rw [hb] at hB
      refine go_aload_n C dX7_setEmission_0 rfl ?_
      refine go_getI C gf_X7_127 dX7_setEmission_1 (by decide) rfl rfl ?_
      refine go_top (nI 0) hB ?_
      refine go_if_eqN C 10 dX7_setEmission_4 (by decide) (by omega) (fun h4 => ?_) (fun h4 => ?_)
      · refine go_iload_n C dX7_setEmission_10 rfl ?_
        refine go_S1P C ok_X7_isType lk_X7_123 dX7_setEmission_11 (k_X7_isType _) (by decide) (Nat.le_of_ble_eq_true rfl) ?_
        refine go_if_eqB C 26 dX7_setEmission_14 (by decide) (fun h14 => ?_) (fun h14 => ?_)
        · have he : oEm S t c v = (-1, S) := by unfold oEm nB; rw [hb]; show iP _ _ _ = _; rw [iP_t (fun z => h14 z.1)]
          refine go_iconst C (-1) dX7_setEmission_26 rfl ?_
          refine go_iret hr dX7_setEmission_27 rfl ?_
          rw [he]
          exact ⟨rfl, hR⟩
        · refine go_iload_n C dX7_setEmission_17 rfl ?_
          refine go_iconst C (nI 0) dX7_setEmission_18 rfl ?_
          refine go_iconst C (nI 2) dX7_setEmission_19 rfl ?_
          refine go_S3P C ok_X7_in lk_X7_57 dX7_setEmission_20 (k_X7_in (by decide) _) (by decide) (Nat.le_of_ble_eq_true rfl) ?_
          refine go_if_neB C 28 dX7_setEmission_23 (by decide) (fun h23 => ?_) (fun h23 => ?_)
          · refine go_iload_n C dX7_setEmission_28 rfl ?_
            refine go_iconst C (nI 0) dX7_setEmission_29 rfl ?_
            refine go_bipush C (nI 15) dX7_setEmission_30 rfl ?_
            refine go_S3P C ok_X7_in lk_X7_57 dX7_setEmission_32 (k_X7_in (by decide) _) (by decide) (Nat.le_of_ble_eq_true rfl) ?_
            refine go_if_neB C 41 dX7_setEmission_35 (by decide) (fun h35 => ?_) (fun h35 => ?_)
            · obtain ⟨tn, htn, rfl⟩ := rng_nat (by decide) (id h14)
              obtain ⟨cn, hcn, rfl⟩ := rng_nat (by decide) (id h23)
              obtain ⟨vn, hvn, rfl⟩ := rng_nat (by decide) (id h35)
              have he : oEm S (nI tn) (nI cn) (nI vn) = oChg S (seW (sW S) tn cn vn) := by unfold oEm nB; rw [hb]; show iP _ _ _ = _; rw [iP_f (fun z => z ⟨h14, h23⟩), iP_f (fun z => z h35), nI_clamp (by omega), nI_clamp (by omega), nI_clamp (by omega)]
              refine go_aload_n C dX7_setEmission_41 rfl ?_
              refine go_V0V C ok_X7_keep lk_X7_134 dX7_setEmission_42 (by decide) rfl rfl rfl (k_X7_keep hH hS.2.2.2.1.1 hM) (by decide) (Nat.le_of_ble_eq_true rfl) (fun σ1 hp1 => ?_)
              refine go_aload_n C dX7_setEmission_45 rfl ?_
              refine go_getR C gf_X7_9 dX7_setEmission_46 (by decide) rfl rfl ?_
              refine go_sipush C (nI 1184) dX7_setEmission_49 rfl ?_
              refine go_iconst C (nI 4) dX7_setEmission_52 rfl ?_
              refine go_iload_n C dX7_setEmission_53 rfl ?_
              refine go_imulN C dX7_setEmission_54 ?_
              refine go_iaddN C dX7_setEmission_55 ?_
              refine go_iload_n C dX7_setEmission_56 rfl ?_
              refine go_iaddN C dX7_setEmission_57 ?_
              refine go_iload_n C dX7_setEmission_58 rfl ?_
              refine go_iastN C dX7_setEmission_59 (by decide) rfl (by decide) (by omega) ?_
              refine go_gen (fun σ2 hσ2 => ?_)
              have hF2 : ∀ q, q ≠ 0 → q ≠ 1 → q ≠ 3 → σ2 q = σ q := fun q a b c => by rw [hσ2, updR_n b]; exact hp1.2.1 q a c
              have hF0 : ∀ i, i ≠ 4 → i ≠ 11 → i ≠ 12 → σ2 0 i = σ 0 i := fun i a _ _ => by rw [hσ2, updR_n (by decide)]; exact hp1.2.2 i a
              have hB2 : σ2 0 11 = nI 0 := by rw [hσ2, updR_n (by decide), hp1.2.2 11 (by decide)]; exact hB
              have hHs : HisM σ2 ((sW S :: sH S).take 6) := hp1.1.of (by rw [hσ2, updR_n (by decide)]) (by rw [hσ2, updR_n (by decide)])
              have hOv : OkW (seW (sW S) tn cn vn) := seW_ok hO hcn hvn
              have hW2 : HasM σ2 1 0 (seW (sW S) tn cn vn) := by
                refine ⟨?_, ?_, ?_⟩
                · exact fun j hj => by
                    rw [Nat.zero_add, hσ2, updR_s]
                    rw [pk_un (by omega), hp1.2.1 1 (by decide) (by decide)]
                    have := hM.1 j hj; rw [Nat.zero_add] at this; exact this
                · exact fun j hj => by
                    rw [Nat.zero_add, hσ2, updR_s]
                    rw [pk_un (by omega), hp1.2.1 1 (by decide) (by decide)]
                    have := hM.2.1 j hj; rw [Nat.zero_add] at this; exact this
                · exact fun j hj => by
                    rw [Nat.zero_add, hσ2, updR_s]
                    show upd (σ1 1) (1184 + 4 * tn + cn) (nI vn) _ = nI (un _ (4 * tn + cn) vn j)
                    by_cases e : j = 4 * tn + cn
                    · subst e; rw [un_s, show 1184 + (4 * tn + cn) = 1184 + 4 * tn + cn by omega, pk_us]
                    · rw [pk_un (by omega), un_n e, hp1.2.1 1 (by decide) (by decide)]
                      have := hM.2.2 j hj; rw [Nat.zero_add] at this; exact this
              refine go_aload_n C dX7_setEmission_60 rfl ?_
              refine go_V0I C ok_X7_changed lk_X7_137 dX7_setEmission_61 (by decide) rfl rfl rfl (k_X7_changed (L := lit (sW S)) hOv hW2 ((hF0 8 (by decide) (by decide) (by decide)).trans hoc) (fun c hc j hj => by rw [hF2 4 (by decide) (by decide) (by decide)]; exact hL c hc j hj) (lit_b hOL)) (by decide) (Nat.le_of_ble_eq_true rfl) (fun r τ hp => ?_)
              refine go_iret hr dX7_setEmission_64 rfl ?_
              rw [he]
              have hok := chg_ok (v := (seW (sW S) tn cn vn)) hS hOv hp.2.1
              exact chg_repM hR hHs hok.2.2.2.1 hF2 hF0 hB2 hOv hW2 hp
            · have he : oEm S t c v = (-2, S) := by unfold oEm nB; rw [hb]; show iP _ _ _ = _; rw [iP_f (fun z => z ⟨h14, h23⟩), iP_t h35]
              refine go_bipush C (-2) dX7_setEmission_38 rfl ?_
              refine go_iret hr dX7_setEmission_40 rfl ?_
              rw [he]
              exact ⟨rfl, hR⟩
          · have he : oEm S t c v = (-1, S) := by unfold oEm nB; rw [hb]; show iP _ _ _ = _; rw [iP_t (fun z => h23 z.2)]
            refine go_iconst C (-1) dX7_setEmission_26 rfl ?_
            refine go_iret hr dX7_setEmission_27 rfl ?_
            rw [he]
            exact ⟨rfl, hR⟩
      · exact absurd h4 (by omega)
    | some es =>
      rw [hb] at hB
      refine go_aload_n C dX7_setEmission_0 rfl ?_
      refine go_getI C gf_X7_127 dX7_setEmission_1 (by decide) rfl rfl ?_
      refine go_top _ hB.1 ?_
      refine go_if_eqN C 10 dX7_setEmission_4 (by decide) (by omega) (fun h4 => ?_) (fun h4 => ?_)
      · exact absurd h4 (by omega)
      · refine go_bipush C (-5) dX7_setEmission_7 rfl ?_
        refine go_iret hr dX7_setEmission_9 rfl ?_
        exact ⟨by unfold oEm nB; rw [hb], by unfold oEm nB; rw [hb]; exact hR⟩
