theorem go_gen {obj : Nat → Lay} {N : Nat} {X : GX} {pc : Nat} {lv : List (Option Value)} {st : List Value} {σ : Mem} (kk : ∀ ρ : Mem, ρ = σ → Go obj N X pc lv st ρ) : Go obj N X pc lv st σ := kk σ rfl
/-- the state behind a change: history pushed, world edited, lights anew -/
theorem chg_rep {σ σ1 σ2 τ : Mem} {S : St} {v : Wd} {r : Int32} (hR : RepC σ S) (hH : HisC σ1 ((sW S :: sH S).take 6)) (hF1 : FrH σ σ1) (hF2 : ∀ q, q ≠ 2 → q ≠ 3 → q ≠ 4 → q ≠ 17 → q ≠ 18 → q ≠ 19 → σ2 q = σ1 q) (hW2 : HasW σ2 1 v) (hOv : OkW v) (hB2 : BatC σ2 none) (hrel : RelP σ2 (lit (sW S)) v r τ) : RQ (oChg S v).1 (oChg S v).2 r τ := by
  obtain ⟨hS, hW, hL, hEf, hB, hH0, hSv, hX, hFt⟩ := hR
  obtain ⟨q1, q2, q3, q4, q5, q6⟩ := hrel
  have f : ∀ q, q ≠ 0 → (q < 6 ∨ 19 < q) → q ≠ 2 → q ≠ 3 → q ≠ 4 → τ q = σ1 q := fun q a b c d e => (q5 q a (by omega)).trans (hF2 q c d e (by omega) (by omega) (by omega))
  have g : ∀ q, 46 ≤ q → τ q = σ q := fun q a => (f q (by omega) (by omega) (by omega) (by omega) (by omega)).trans (hF1 q (Or.inr a))
  have h0 : ∀ i, i ≠ 6 → τ 0 i = σ 0 i := fun i hi => by rw [q6 i hi, hF2 0 (by decide) (by decide) (by decide) (by decide) (by decide) (by decide), hF1 0 (by decide)]
  refine ⟨q1, chg_ok hS hOv q2, hW2.of (q5 2 (by decide) (by decide)) (q5 3 (by decide) (by decide)) (q5 4 (by decide) (by decide)), q3, q4, ?_, hH.of (fun q a b => f q (by omega) (by omega) (by omega) (by omega) (by omega)), hSv.of (h0 10 (by decide)) (fun q a b => g q a), hX.of (by rw [g 50 (by decide)]) (g 51 (by decide)), (h0 12 (by decide)).trans hFt⟩
  exact hB2.of (q5 17 (by decide) (by decide)) (q5 18 (by decide) (by decide)) (q5 19 (by decide) (by decide))
theorem chg_lit {σ σ1 σ2 : Mem} {S : St} (hR : RepC σ S) (hF1 : FrH σ σ1) (hF2 : ∀ q, q ≠ 2 → q ≠ 3 → q ≠ 4 → q ≠ 17 → q ≠ 18 → q ≠ 19 → σ2 q = σ1 q) : LitC σ2 (lit (sW S)) := fun c hc j hj => by rw [hF2 _ (by omega) (by omega) (by omega) (by omega) (by omega) (by omega), hF1 _ (by omega)]; exact hR.2.2.1 c hc j hj
theorem lit_b {S : St} (h : OkL (sW S)) : ∀ c, c < 4 → ∀ j, j < 1152 → lit (sW S) c j < 16 := fun c hc j hj => lit_lt h hc hj
set_option maxHeartbeats 4000000 in
set_option maxRecDepth 100000 in
theorem k_X6_set {σ : Mem} {S : St} (hR : RepC σ S) (x y z t : Int32) : CtI objC NC yX6_set cX6_set 6 .int 5 117 [.ref 0, .int x, .int y, .int z, .int t] σ (RQ (oSet S x y z t).1 (oSet S x y z t).2) := by
  obtain ⟨hS, hW, hL, hEf, hB, hH, hSv, hX, hFt⟩ := id hR
  have hO := hS.1
  have hOL := hS.2.1
  refine ct_ofI rfl ?_ (Nat.le_of_ble_eq_true rfl) (fun X C hr => ?_)
  · intro v hv; simp only [List.mem_cons, List.not_mem_nil, or_false] at hv; rcases hv with rfl | rfl | rfl | rfl | rfl <;> rfl
  · cases hb : sB S with
    | none =>
      rw [hb] at hB
      refine go_iload_n C dX6_set_0 rfl ?_
      refine go_iload_n C dX6_set_1 rfl ?_
      refine go_iload_n C dX6_set_2 rfl ?_
      refine go_S3P C ok_X2_has lk_X6_74 dX6_set_3 (k_X2_has _ _ _) (by decide) (Nat.le_of_ble_eq_true rfl) ?_
      refine go_if_eqB C 17 dX6_set_6 (by decide) (fun h6 => ?_) (fun h6 => ?_)
      · refine go_iconst C (-1) dX6_set_17 rfl ?_
        refine go_iret hr dX6_set_18 rfl ?_
        exact ⟨by unfold oSet; rw [iP_t (fun z => h6 z.1)], by unfold oSet; rw [iP_t (fun z => h6 z.1)]; exact hR⟩
      · refine go_iload C dX6_set_9 rfl ?_
        refine go_S1P C ok_X6_isType lk_X6_80 dX6_set_11 (k_X6_isType _) (by decide) (Nat.le_of_ble_eq_true rfl) ?_
        refine go_if_neB C 19 dX6_set_14 (by decide) (fun h14 => ?_) (fun h14 => ?_)
        · obtain ⟨r1, r2, r3⟩ := id h6
          obtain ⟨a, ha, rfl⟩ := rng_nat (by decide) r1
          obtain ⟨b, hb1, rfl⟩ := rng_nat (by decide) r2
          obtain ⟨cz, hcz, rfl⟩ := rng_nat (by decide) r3
          have hk := cel_lt ha hb1 hcz
          obtain ⟨tn, ht, rfl⟩ := rng_nat (by decide) (id h14)
          have he : oSet S (nI a) (nI b) (nI cz) (nI tn) = oChg S (setT (sW S) (cel a b cz) tn) := by unfold oSet; rw [iP_f (fun z => z ⟨h6, h14⟩), hb, ixC_nI ha hb1 hcz, nI_clamp (by omega)]
          refine go_iload_n C dX6_set_19 rfl ?_
          refine go_iload_n C dX6_set_20 rfl ?_
          refine go_iload_n C dX6_set_21 rfl ?_
          refine go_S3P C ok_X2_cell lk_X6_84 dX6_set_22 k_X2_cell (by decide) (Nat.le_of_ble_eq_true rfl) ?_
          refine go_istore C dX6_set_25 (by decide) rfl rfl ?_
          refine go_aload_n C dX6_set_27 rfl ?_
          refine go_getR C gf_X6_46 dX6_set_28 (by decide) rfl rfl ?_
          refine go_getI C gf_X6_88 dX6_set_31 (by decide) rfl rfl ?_
          refine go_top _ hB.1 ?_
          refine go_if_eqN C 49 dX6_set_34 (by decide) (by omega) (fun h34 => ?_) (fun h34 => ?_)
          · refine go_aload_n C dX6_set_49 rfl ?_
            refine go_getR C gf_X6_53 dX6_set_50 (by decide) rfl rfl ?_
            refine go_aload_n C dX6_set_53 rfl ?_
            refine go_getR C gf_X6_12 dX6_set_54 (by decide) rfl rfl ?_
            refine go_V1V C ok_X3_push lk_X6_95 dX6_set_57 (by decide) rfl rfl rfl (k_X3_push hH hS.2.2.2.1.1 hW) (by decide) (Nat.le_of_ble_eq_true rfl) (fun σ1 hp1 => ?_)
            refine go_aload_n C dX6_set_60 rfl ?_
            refine go_getR C gf_X6_12 dX6_set_61 (by decide) rfl rfl ?_
            refine go_getR C gf_X6_99 dX6_set_64 (by decide) rfl rfl ?_
            refine go_iload C dX6_set_67 rfl ?_
            refine go_iload C dX6_set_69 rfl ?_
            refine go_iastN C dX6_set_71 (by decide) rfl (by decide) (by omega) ?_
            refine go_gen (fun σ2 hσ2 => ?_)
            have hF2 : ∀ q, q ≠ 2 → q ≠ 3 → q ≠ 4 → q ≠ 17 → q ≠ 18 → q ≠ 19 → σ2 q = σ1 q := fun q a b c _ _ _ => by rw [hσ2]; exact updR_n (by omega)
            have hB2 : BatC σ2 none := by
              have h1 := hF2
              rw [hσ2]; exact BatC.of (σ := σ) (b := none) hB (by rw [updR_n (by decide)]; exact hp1.2 17 (by decide)) (by rw [updR_n (by decide)]; exact hp1.2 18 (by decide)) (by rw [updR_n (by decide)]; exact hp1.2 19 (by decide))
            have hOv : OkW (setT (sW S) (cel a b cz) tn) := setT_ok hO ht
            have hW2 : HasW σ2 1 (setT (sW S) (cel a b cz) tn) := by
              rw [hσ2]
              refine ⟨fun j hj => ?_, fun j hj => by rw [updR_n (by decide), hp1.2 3 (by decide)]; exact hW.2.1 j hj, fun j hj => by rw [updR_n (by decide), hp1.2 4 (by decide)]; exact hW.2.2 j hj⟩
              show upd (σ1 2) (cel a b cz) (nI tn) j = nI (un (wT (sW S)) (cel a b cz) tn j)
              by_cases e : j = cel a b cz
              · subst e; rw [pk_us, un_s]
              · rw [pk_un e, un_n e, hp1.2 2 (by decide)]; exact hW.1 j hj
            refine go_aload_n C dX6_set_72 rfl ?_
            refine go_V0I C ok_X6_relight lk_X6_102 dX6_set_73 (by decide) rfl rfl rfl (k_X6_relight (L := lit (sW S)) hOv hW2 (chg_lit hR hp1.2 hF2) (lit_b hOL)) (by decide) (Nat.le_of_ble_eq_true rfl) (fun r τ hp => ?_)
            refine go_iret hr dX6_set_76 rfl ?_
            rw [he]
            exact chg_rep hR hp1.1 hp1.2 hF2 hW2 hOv hB2 hp
          · exact absurd h34 (by omega)
        · refine go_iconst C (-1) dX6_set_17 rfl ?_
          refine go_iret hr dX6_set_18 rfl ?_
          exact ⟨by unfold oSet; rw [iP_t (fun z => h14 z.2)], by unfold oSet; rw [iP_t (fun z => h14 z.2)]; exact hR⟩
    | some es =>
      rw [hb] at hB
      refine go_iload_n C dX6_set_0 rfl ?_
      refine go_iload_n C dX6_set_1 rfl ?_
      refine go_iload_n C dX6_set_2 rfl ?_
      refine go_S3P C ok_X2_has lk_X6_74 dX6_set_3 (k_X2_has _ _ _) (by decide) (Nat.le_of_ble_eq_true rfl) ?_
      refine go_if_eqB C 17 dX6_set_6 (by decide) (fun h6 => ?_) (fun h6 => ?_)
      · refine go_iconst C (-1) dX6_set_17 rfl ?_
        refine go_iret hr dX6_set_18 rfl ?_
        exact ⟨by unfold oSet; rw [iP_t (fun z => h6 z.1)], by unfold oSet; rw [iP_t (fun z => h6 z.1)]; exact hR⟩
      · refine go_iload C dX6_set_9 rfl ?_
        refine go_S1P C ok_X6_isType lk_X6_80 dX6_set_11 (k_X6_isType _) (by decide) (Nat.le_of_ble_eq_true rfl) ?_
        refine go_if_neB C 19 dX6_set_14 (by decide) (fun h14 => ?_) (fun h14 => ?_)
        · obtain ⟨r1, r2, r3⟩ := id h6
          obtain ⟨a, ha, rfl⟩ := rng_nat (by decide) r1
          obtain ⟨b, hb1, rfl⟩ := rng_nat (by decide) r2
          obtain ⟨cz, hcz, rfl⟩ := rng_nat (by decide) r3
          have hk := cel_lt ha hb1 hcz
          obtain ⟨tn, ht, rfl⟩ := rng_nat (by decide) (id h14)
          obtain ⟨hb40, hbm⟩ := hS.2.2.1 es hb
          have he : oSet S (nI a) (nI b) (nI cz) (nI tn) = iP (40 ≤ fidx (cel a b cz) es) (-3, S) (nI (colL es (cel a b cz) tn).length, stB S (some (colL es (cel a b cz) tn))) := by unfold oSet; rw [iP_f (fun z => z ⟨h6, h14⟩), hb, ixC_nI ha hb1 hcz, nI_clamp (by omega)]
          refine go_iload_n C dX6_set_19 rfl ?_
          refine go_iload_n C dX6_set_20 rfl ?_
          refine go_iload_n C dX6_set_21 rfl ?_
          refine go_S3P C ok_X2_cell lk_X6_84 dX6_set_22 k_X2_cell (by decide) (Nat.le_of_ble_eq_true rfl) ?_
          refine go_istore C dX6_set_25 (by decide) rfl rfl ?_
          refine go_aload_n C dX6_set_27 rfl ?_
          refine go_getR C gf_X6_46 dX6_set_28 (by decide) rfl rfl ?_
          refine go_getI C gf_X6_88 dX6_set_31 (by decide) rfl rfl ?_
          refine go_top _ hB.1 ?_
          refine go_if_eqN C 49 dX6_set_34 (by decide) (by omega) (fun h34 => ?_) (fun h34 => ?_)
          · exact absurd h34 (by omega)
          · refine go_aload_n C dX6_set_37 rfl ?_
            refine go_getR C gf_X6_46 dX6_set_38 (by decide) rfl rfl ?_
            refine go_iload C dX6_set_41 rfl ?_
            refine go_iload C dX6_set_43 rfl ?_
            refine go_V2I C ok_X0_collect lk_X6_91 dX6_set_45 (by decide) rfl rfl rfl (k_X0_collect hB hb40 hbm hk ht) (by decide) (Nat.le_of_ble_eq_true rfl) (fun r τ hp => ?_)
            refine go_iret hr dX6_set_48 rfl ?_
            rw [he]
            rcases hp with ⟨p1, p2, p3⟩ | ⟨p1, p2, p3, p4⟩
            · rw [iP_t p1]; exact ⟨p2, by rw [p3]; exact hR⟩
            · rw [iP_f p1]
              refine ⟨p2, stB_ok hS (fun es2 h2 => by
                cases h2
                have h1 := colL_len (es := es) (k := cel a b cz) (t := tn)
                have h3 := fidx_le (k := cel a b cz) es
                refine ⟨by split at h1 <;> omega, fun p hp => ?_⟩
                rcases colL_mem hp with q | q
                · exact hbm p q
                · rw [q]; exact ⟨hk, ht⟩), hW.of (p4 2 (by decide) (by decide) (by decide)) (p4 3 (by decide) (by decide) (by decide)) (p4 4 (by decide) (by decide) (by decide)), fun c hc j hj => by rw [p4 _ (by omega) (by omega) (by omega)]; exact hL c hc j hj, ⟨fun j hj => by rw [p4 16 (by decide) (by decide) (by decide)]; exact hEf.1 j hj, by rw [p4 0 (by decide) (by decide) (by decide)]; exact hEf.2⟩, p3, hH.of (fun q q1 q2 => p4 q (by omega) (by omega) (by omega)), hSv.of (by rw [p4 0 (by decide) (by decide) (by decide)]) (fun q q1 q2 => p4 q (by omega) (by omega) (by omega)), hX.of (by rw [p4 50 (by decide) (by decide) (by decide)]) (p4 51 (by decide) (by decide) (by decide)), by rw [p4 0 (by decide) (by decide) (by decide)]; exact hFt⟩
        · refine go_iconst C (-1) dX6_set_17 rfl ?_
          refine go_iret hr dX6_set_18 rfl ?_
          exact ⟨by unfold oSet; rw [iP_t (fun z => h14 z.2)], by unfold oSet; rw [iP_t (fun z => h14 z.2)]; exact hR⟩
