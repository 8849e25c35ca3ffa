theorem chg_rep2 {σ σ2 τ : Mem} {S : St} {v : Wd} {r : Int32} {hs : List Wd} (hR : RepC σ S) (hH : HisC σ2 hs) (hs6 : hs.length ≤ 6 ∧ ∀ w, w ∈ hs → OkW w) (hF2 : ∀ q, q ≠ 2 → q ≠ 3 → q ≠ 4 → q ≠ 17 → q ≠ 18 → q ≠ 19 → (q < 20 ∨ 46 ≤ q) → σ2 q = σ q) (hOv : OkW v) (hW2 : HasW σ2 1 v) (hB2 : BatC σ2 none) (hrel : RelP σ2 (lit (sW S)) v r τ) : r = nI (cnt (effO (sW S) v) 1152) ∧ RepC τ (v, effO (sW S) v, none, hs, sS S, sX S, sF S) := by
  obtain ⟨hS, hW, hL, hEf, hB, hH0, hSv, hX, hFt⟩ := hR
  obtain ⟨q1, q2, q3, q4, q5, q6⟩ := hrel
  have g : ∀ q, 46 ≤ q → τ q = σ q := fun q a => (q5 q (by omega) (by omega)).trans (hF2 q (by omega) (by omega) (by omega) (by omega) (by omega) (by omega) (Or.inr a))
  have h0 : ∀ i, i ≠ 6 → τ 0 i = σ 0 i := fun i hi => by rw [q6 i hi, hF2 0 (by decide) (by decide) (by decide) (by decide) (by decide) (by decide) (by decide)]
  exact ⟨q1, ⟨hOv, q2, fun es he => (by cases he), hs6, hS.2.2.2.2⟩, hW2.of (q5 2 (by decide) (by decide)) (q5 3 (by decide) (by decide)) (q5 4 (by decide) (by decide)), q3, q4, BatC.of (b := none) hB2 (q5 17 (by decide) (by decide)) (q5 18 (by decide) (by decide)) (q5 19 (by decide) (by decide)), hH.of (fun q a b => q5 q (by omega) (by omega)), hSv.of (h0 10 (by decide)) (fun q a b => g q a), hX.of (by rw [g 50 (by decide)]) (g 51 (by decide)), (h0 12 (by decide)).trans hFt⟩
theorem bat_rep {σ τ : Mem} {S : St} {b : Option (List (Nat × Nat))} (hR : RepC σ S) (hb : OkB b) (hB : BatC τ b) (p4 : ∀ q, q ≠ 17 → q ≠ 18 → q ≠ 19 → τ q = σ q) : RepC τ (stB S b) := by
  obtain ⟨hS, hW, hL, hEf, hB0, hH, hSv, hX, hFt⟩ := hR
  exact ⟨stB_ok hS hb, hW.of (p4 2 (by decide) (by decide) (by decide)) (p4 3 (by decide) (by decide) (by decide)) (p4 4 (by decide) (by decide) (by decide)), fun c hc j hj => by rw [p4 _ (by omega) (by omega) (by omega)]; exact hL c hc j hj, ⟨fun j hj => by rw [p4 16 (by decide) (by decide) (by decide)]; exact hEf.1 j hj, by rw [p4 0 (by decide) (by decide) (by decide)]; exact hEf.2⟩, hB, hH.of (fun q q1 q2 => p4 q (by omega) (by omega) (by omega)), hSv.of (by rw [p4 0 (by decide) (by decide) (by decide)]) (fun q q1 q2 => p4 q (by omega) (by omega) (by omega)), hX.of (by rw [p4 50 (by decide) (by decide) (by decide)]) (p4 51 (by decide) (by decide) (by decide)), by rw [p4 0 (by decide) (by decide) (by decide)]; exact hFt⟩
theorem i_rng {v : Int32} {m : Nat} (hm : m < 2 ^ 31) (h1 : ¬ v < nI 1) (h2 : ¬ nI m < v) : ∃ n : Nat, 1 ≤ n ∧ n ≤ m ∧ v = nI n := by
  have h0 : ¬ v < 0 := fun q => h1 (Int32.lt_trans q (by decide))
  obtain ⟨l, hl, rfl⟩ := nI_of h0
  refine ⟨l, ?_, ?_, rfl⟩
  · apply Classical.byContradiction
    intro q
    exact h1 (nI_lt (by omega) (by decide))
  · apply Classical.byContradiction
    intro q
    exact h2 (nI_lt (by omega) hl)
set_option maxHeartbeats 4000000 in
set_option maxRecDepth 100000 in
theorem k_X6_openBatch {σ : Mem} {S : St} (hR : RepC σ S)  : CtI objC NC yX6_openBatch cX6_openBatch 1 .int 0 0 [.ref 0] σ (RQ (oOpen S).1 (oOpen S).2) := by
  obtain ⟨hS, hW, hL, hEf, hB, hH, hSv, hX, hFt⟩ := id hR
  have hO := hS.1
  have hOL := hS.2.1
  refine ct_ofI rfl ?_ (Nat.le_of_ble_eq_true rfl) (fun X C hr => ?_)
  · intro v hv; simp only [List.mem_cons, List.not_mem_nil, or_false] at hv; rcases hv with rfl <;> rfl
  · cases hb : sB S with
    | none =>
      rw [hb] at hB
      refine go_aload_n C dX6_openBatch_0 rfl ?_
      refine go_getR C gf_X6_46 dX6_openBatch_1 (by decide) rfl rfl ?_
      refine go_getI C gf_X6_88 dX6_openBatch_4 (by decide) rfl rfl ?_
      refine go_top _ hB.1 ?_
      refine go_if_eqN C 13 dX6_openBatch_7 (by decide) (by omega) (fun h7 => ?_) (fun h7 => ?_)
      · refine go_aload_n C dX6_openBatch_13 rfl ?_
        refine go_getR C gf_X6_46 dX6_openBatch_14 (by decide) rfl rfl ?_
        refine go_iconst C (nI 1) dX6_openBatch_17 rfl ?_
        refine go_putI C gf_X6_88 dX6_openBatch_18 (by decide) rfl rfl rfl rfl rfl ?_
        refine go_iconst C (nI 1) dX6_openBatch_21 rfl ?_
        refine go_iret hr dX6_openBatch_22 rfl ?_
        have he : oOpen S = (nI 1, stB S (some [])) := by unfold oOpen; rw [hb]
        rw [he]
        exact ⟨rfl, bat_rep hR (fun es h => by cases h; exact ⟨by decide, fun p hp => by cases hp⟩) ⟨by rw [updR_s]; exact pk_us, by rw [updR_s, pk_un (by decide)]; exact hB.2, fun i p h => by cases h⟩ (fun q a _ _ => updR_n a)⟩
      · exact absurd h7 (by omega)
    | some es =>
      rw [hb] at hB
      refine go_aload_n C dX6_openBatch_0 rfl ?_
      refine go_getR C gf_X6_46 dX6_openBatch_1 (by decide) rfl rfl ?_
      refine go_getI C gf_X6_88 dX6_openBatch_4 (by decide) rfl rfl ?_
      refine go_top _ hB.1 ?_
      refine go_if_eqN C 13 dX6_openBatch_7 (by decide) (by omega) (fun h7 => ?_) (fun h7 => ?_)
      · exact absurd h7 (by omega)
      · refine go_bipush C (-5) dX6_openBatch_10 rfl ?_
        refine go_iret hr dX6_openBatch_12 rfl ?_
        exact ⟨by unfold oOpen; rw [hb], by unfold oOpen; rw [hb]; exact hR⟩
set_option maxHeartbeats 4000000 in
set_option maxRecDepth 100000 in
theorem k_X6_dropBatch {σ : Mem} {S : St} (hR : RepC σ S)  : CtI objC NC yX6_dropBatch cX6_dropBatch 2 .int 1 20 [.ref 0] σ (RQ (oDrop S).1 (oDrop S).2) := by
  obtain ⟨hS, hW, hL, hEf, hB, hH, hSv, hX, hFt⟩ := id hR
  have hO := hS.1
  have hOL := hS.2.1
  refine ct_ofI rfl ?_ (Nat.le_of_ble_eq_true rfl) (fun X C hr => ?_)
  · intro v hv; simp only [List.mem_cons, List.not_mem_nil, or_false] at hv; rcases hv with rfl <;> rfl
  · cases hb : sB S with
    | none =>
      rw [hb] at hB
      refine go_aload_n C dX6_dropBatch_0 rfl ?_
      refine go_getR C gf_X6_46 dX6_dropBatch_1 (by decide) rfl rfl ?_
      refine go_getI C gf_X6_88 dX6_dropBatch_4 (by decide) rfl rfl ?_
      refine go_top _ hB.1 ?_
      refine go_if_neN C 13 dX6_dropBatch_7 (by decide) (by omega) (fun h7 => ?_) (fun h7 => ?_)
      · exact absurd h7 (by omega)
      · refine go_bipush C (-5) dX6_dropBatch_10 rfl ?_
        refine go_iret hr dX6_dropBatch_12 rfl ?_
        exact ⟨by unfold oDrop; rw [hb], by unfold oDrop; rw [hb]; exact hR⟩
    | some es =>
      rw [hb] at hB
      refine go_aload_n C dX6_dropBatch_0 rfl ?_
      refine go_getR C gf_X6_46 dX6_dropBatch_1 (by decide) rfl rfl ?_
      refine go_getI C gf_X6_88 dX6_dropBatch_4 (by decide) rfl rfl ?_
      refine go_top _ hB.1 ?_
      refine go_if_neN C 13 dX6_dropBatch_7 (by decide) (by omega) (fun h7 => ?_) (fun h7 => ?_)
      · refine go_aload_n C dX6_dropBatch_13 rfl ?_
        refine go_getR C gf_X6_46 dX6_dropBatch_14 (by decide) rfl rfl ?_
        refine go_getI C gf_X6_112 dX6_dropBatch_17 (by decide) rfl rfl ?_
        refine go_top _ hB.2.1 ?_
        refine go_istore_n C dX6_dropBatch_20 (by decide) rfl rfl ?_
        refine go_aload_n C dX6_dropBatch_21 rfl ?_
        refine go_getR C gf_X6_46 dX6_dropBatch_22 (by decide) rfl rfl ?_
        refine go_V0V C ok_X0_leave lk_X6_109 dX6_dropBatch_25 (by decide) rfl rfl rfl k_X0_leave (by decide) (Nat.le_of_ble_eq_true rfl) (fun τ hp => ?_)
        refine go_iload_n C dX6_dropBatch_28 rfl ?_
        refine go_iret hr dX6_dropBatch_29 rfl ?_
        have he : oDrop S = (nI es.length, stB S none) := by unfold oDrop; rw [hb]
        rw [he]
        exact ⟨rfl, bat_rep hR (fun es h => by cases h) hp.1 (fun q a _ _ => hp.2 q a)⟩
      · exact absurd h7 (by omega)
set_option maxHeartbeats 4000000 in
set_option maxRecDepth 100000 in
theorem k_X6_closeBatch {σ : Mem} {S : St} (hR : RepC σ S)  : CtI objC NC yX6_closeBatch cX6_closeBatch 1 .int 5 117 [.ref 0] σ (RQ (oClose S).1 (oClose S).2) := by
  obtain ⟨hS, hW, hL, hEf, hB, hH, hSv, hX, hFt⟩ := id hR
  have hO := hS.1
  have hOL := hS.2.1
  refine ct_ofI rfl ?_ (Nat.le_of_ble_eq_true rfl) (fun X C hr => ?_)
  · intro v hv; simp only [List.mem_cons, List.not_mem_nil, or_false] at hv; rcases hv with rfl <;> rfl
  · cases hb : sB S with
    | none =>
      rw [hb] at hB
      refine go_aload_n C dX6_closeBatch_0 rfl ?_
      refine go_getR C gf_X6_46 dX6_closeBatch_1 (by decide) rfl rfl ?_
      refine go_getI C gf_X6_88 dX6_closeBatch_4 (by decide) rfl rfl ?_
      refine go_top _ hB.1 ?_
      refine go_if_neN C 13 dX6_closeBatch_7 (by decide) (by omega) (fun h7 => ?_) (fun h7 => ?_)
      · exact absurd h7 (by omega)
      · refine go_bipush C (-5) dX6_closeBatch_10 rfl ?_
        refine go_iret hr dX6_closeBatch_12 rfl ?_
        exact ⟨by unfold oClose; rw [hb], by unfold oClose; rw [hb]; exact hR⟩
    | some es =>
      rw [hb] at hB
      obtain ⟨hb40, hbm⟩ := hS.2.2.1 _ hb
      refine go_aload_n C dX6_closeBatch_0 rfl ?_
      refine go_getR C gf_X6_46 dX6_closeBatch_1 (by decide) rfl rfl ?_
      refine go_getI C gf_X6_88 dX6_closeBatch_4 (by decide) rfl rfl ?_
      refine go_top _ hB.1 ?_
      refine go_if_neN C 13 dX6_closeBatch_7 (by decide) (by omega) (fun h7 => ?_) (fun h7 => ?_)
      · refine go_aload_n C dX6_closeBatch_13 rfl ?_
        refine go_getR C gf_X6_53 dX6_closeBatch_14 (by decide) rfl rfl ?_
        refine go_aload_n C dX6_closeBatch_17 rfl ?_
        refine go_getR C gf_X6_12 dX6_closeBatch_18 (by decide) rfl rfl ?_
        refine go_V1V C ok_X3_push lk_X6_95 dX6_closeBatch_21 (by decide) rfl rfl rfl (k_X3_push hH hS.2.2.2.1.1 hW) (by decide) (Nat.le_of_ble_eq_true rfl) (fun σ1 hp1 => ?_)
        refine go_aload_n C dX6_closeBatch_24 rfl ?_
        refine go_getR C gf_X6_46 dX6_closeBatch_25 (by decide) rfl rfl ?_
        refine go_aload_n C dX6_closeBatch_28 rfl ?_
        refine go_getR C gf_X6_12 dX6_closeBatch_29 (by decide) rfl rfl ?_
        refine go_V1V C ok_X0_makeEdits lk_X6_106 dX6_closeBatch_32 (by decide) rfl rfl rfl (k_X0_makeEdits (f := wT (sW S)) (hB.of (hp1.2 17 (by decide)) (hp1.2 18 (by decide)) (hp1.2 19 (by decide))) hb40 hbm (fun j hj => by rw [hp1.2 2 (by decide)]; exact hW.1 j hj)) (by decide) (Nat.le_of_ble_eq_true rfl) (fun ρ hp2 => ?_)
        refine go_aload_n C dX6_closeBatch_35 rfl ?_
        refine go_getR C gf_X6_46 dX6_closeBatch_36 (by decide) rfl rfl ?_
        refine go_V0V C ok_X0_leave lk_X6_109 dX6_closeBatch_39 (by decide) rfl rfl rfl k_X0_leave (by decide) (Nat.le_of_ble_eq_true rfl) (fun σ2 hp3 => ?_)
        have hF : ∀ q, q ≠ 2 → q ≠ 3 → q ≠ 4 → q ≠ 17 → q ≠ 18 → q ≠ 19 → (q < 20 ∨ 46 ≤ q) → σ2 q = σ q := fun q a _ _ b _ _ c => by rw [hp3.2 q b, hp2.2 q a]; exact hp1.2 q c
        have hOv : OkW (edW (sW S) es) := edW_ok hO (fun p hp => (hbm p hp).2)
        have hW2 : HasW σ2 1 (edW (sW S) es) := ⟨fun j hj => by rw [hp3.2 2 (by decide)]; exact hp2.1 j hj, fun j hj => by rw [hp3.2 3 (by decide), hp2.2 3 (by decide), hp1.2 3 (by decide)]; exact hW.2.1 j hj, fun j hj => by rw [hp3.2 4 (by decide), hp2.2 4 (by decide), hp1.2 4 (by decide)]; exact hW.2.2 j hj⟩
        refine go_aload_n C dX6_closeBatch_42 rfl ?_
        refine go_V0I C ok_X6_relight lk_X6_102 dX6_closeBatch_43 (by decide) rfl rfl rfl (k_X6_relight (L := lit (sW S)) hOv hW2 (fun c hc j hj => by rw [hF _ (by omega) (by omega) (by omega) (by omega) (by omega) (by omega) (by omega)]; exact hL c hc j hj) (lit_b hOL)) (by decide) (Nat.le_of_ble_eq_true rfl) (fun r τ hp => ?_)
        refine go_iret hr dX6_closeBatch_46 rfl ?_
        have he : oClose S = oChg S (edW (sW S) es) := by unfold oClose; rw [hb]
        rw [he]
        have hHs : HisC σ2 ((sW S :: sH S).take 6) := hp1.1.of (fun q a b => by rw [hp3.2 q (by omega), hp2.2 q (by omega)])
        have hok := chg_ok (v := edW (sW S) es) hS hOv hp.2.1
        exact chg_rep2 hR hHs hok.2.2.2.1 hF hOv hW2 hp3.1 hp
      · exact absurd h7 (by omega)
set_option maxHeartbeats 4000000 in
set_option maxRecDepth 100000 in
theorem k_X6_setLoss {σ : Mem} {S : St} (hR : RepC σ S) (t c v : Int32) : CtI objC NC yX6_setLoss cX6_setLoss 4 .int 5 117 [.ref 0, .int t, .int c, .int v] σ (RQ (oLoss S t c v).1 (oLoss S t c v).2) := by
  obtain ⟨hS, hW, hL, hEf, hB, hH, hSv, hX, hFt⟩ := id hR
  have hO := hS.1
  have hOL := hS.2.1
  refine ct_ofI rfl ?_ (Nat.le_of_ble_eq_true rfl) (fun X C hr => ?_)
  · intro v hv; simp only [List.mem_cons, List.not_mem_nil, or_false] at hv; rcases hv with rfl | rfl | rfl | rfl <;> rfl
  · cases hb : sB S with
    | none =>
      rw [hb] at hB
      refine go_aload_n C dX6_setLoss_0 rfl ?_
      refine go_getR C gf_X6_46 dX6_setLoss_1 (by decide) rfl rfl ?_
      refine go_getI C gf_X6_88 dX6_setLoss_4 (by decide) rfl rfl ?_
      refine go_top _ hB.1 ?_
      refine go_if_eqN C 13 dX6_setLoss_7 (by decide) (by omega) (fun h7 => ?_) (fun h7 => ?_)
      · refine go_iload_n C dX6_setLoss_13 rfl ?_
        refine go_S1P C ok_X6_isType lk_X6_80 dX6_setLoss_14 (k_X6_isType _) (by decide) (Nat.le_of_ble_eq_true rfl) ?_
        refine go_if_eqB C 27 dX6_setLoss_17 (by decide) (fun h17 => ?_) (fun h17 => ?_)
        · have he : oLoss S t c v = (-1, S) := by unfold oLoss nB; rw [hb]; show iP _ _ _ = _; rw [iP_t (fun z => h17 z.1)]
          refine go_iconst C (-1) dX6_setLoss_27 rfl ?_
          refine go_iret hr dX6_setLoss_28 rfl ?_
          rw [he]
          exact ⟨rfl, hR⟩
        · refine go_iload_n C dX6_setLoss_20 rfl ?_
          refine go_S1P C ok_X6_isChannel lk_X6_119 dX6_setLoss_21 (k_X6_isChannel _) (by decide) (Nat.le_of_ble_eq_true rfl) ?_
          refine go_if_neB C 29 dX6_setLoss_24 (by decide) (fun h24 => ?_) (fun h24 => ?_)
          · refine go_iload_n C dX6_setLoss_29 rfl ?_
            refine go_S1P C ok_X6_isStrength lk_X6_122 dX6_setLoss_30 (k_X6_isStrength _) (by decide) (Nat.le_of_ble_eq_true rfl) ?_
            refine go_if_neB C 39 dX6_setLoss_33 (by decide) (fun h33 => ?_) (fun h33 => ?_)
            · obtain ⟨tn, htn, rfl⟩ := rng_nat (by decide) (id h17)
              obtain ⟨cn, hcn, rfl⟩ := rng_nat (by decide) (id h24)
              obtain ⟨vn, hvn, rfl⟩ := rng_nat (by decide) (id h33)
              have he : oLoss S (nI tn) (nI cn) (nI vn) = oChg S (slW (sW S) tn cn vn) := by unfold oLoss nB; rw [hb]; show iP _ _ _ = _; rw [iP_f (fun z => z ⟨h17, h24⟩), iP_f (fun z => z h33), nI_clamp (by omega), nI_clamp (by omega), nI_clamp (by omega)]
              refine go_aload_n C dX6_setLoss_39 rfl ?_
              refine go_getR C gf_X6_53 dX6_setLoss_40 (by decide) rfl rfl ?_
              refine go_aload_n C dX6_setLoss_43 rfl ?_
              refine go_getR C gf_X6_12 dX6_setLoss_44 (by decide) rfl rfl ?_
              refine go_V1V C ok_X3_push lk_X6_95 dX6_setLoss_47 (by decide) rfl rfl rfl (k_X3_push hH hS.2.2.2.1.1 hW) (by decide) (Nat.le_of_ble_eq_true rfl) (fun σ1 hp1 => ?_)
              refine go_aload_n C dX6_setLoss_50 rfl ?_
              refine go_getR C gf_X6_12 dX6_setLoss_51 (by decide) rfl rfl ?_
              refine go_getR C gf_X6_125 dX6_setLoss_54 (by decide) rfl rfl ?_
              refine go_iload_n C dX6_setLoss_57 rfl ?_
              refine go_iconst C (nI 4) dX6_setLoss_58 rfl ?_
              refine go_imulN C dX6_setLoss_59 ?_
              refine go_iload_n C dX6_setLoss_60 rfl ?_
              refine go_iaddN C dX6_setLoss_61 ?_
              refine go_iload_n C dX6_setLoss_62 rfl ?_
              refine go_iastN C dX6_setLoss_63 (by decide) rfl (by decide) (by omega) ?_
              refine go_gen (fun σ2 hσ2 => ?_)
              have hF : ∀ q, q ≠ 2 → q ≠ 3 → q ≠ 4 → q ≠ 17 → q ≠ 18 → q ≠ 19 → (q < 20 ∨ 46 ≤ q) → σ2 q = σ q := fun q a b c _ _ _ d => by rw [hσ2, updR_n (by omega)]; exact hp1.2 q d
              have hOv : OkW (slW (sW S) tn cn vn) := slW_ok hO hvn
              have hW2 : HasW σ2 1 (slW (sW S) tn cn vn) := by
                refine ⟨?_, ?_, ?_⟩
                · exact fun j hj => by rw [hσ2, updR_n (by decide), hp1.2 2 (by decide)]; exact hW.1 j hj
                · exact fun j hj => by
                    rw [hσ2, updR_s]
                    show _ = nI (un (wL (sW S)) (4 * tn + cn) vn j)
                    by_cases e : j = 4 * tn + cn
                    · subst e; rw [Nat.mul_comm 4, pk_us, un_s]
                    · rw [Nat.mul_comm tn, pk_un e, un_n e, hp1.2 3 (by decide)]; exact hW.2.1 j hj
                · exact fun j hj => by rw [hσ2, updR_n (by decide), hp1.2 4 (by decide)]; exact hW.2.2 j hj
              have hB2 : BatC σ2 none := by rw [hσ2]; exact BatC.of (σ := σ) (b := none) hB (by rw [updR_n (by decide)]; exact hp1.2 17 (by decide)) (by rw [updR_n (by decide)]; exact hp1.2 18 (by decide)) (by rw [updR_n (by decide)]; exact hp1.2 19 (by decide))
              refine go_aload_n C dX6_setLoss_64 rfl ?_
              refine go_V0I C ok_X6_relight lk_X6_102 dX6_setLoss_65 (by decide) rfl rfl rfl (k_X6_relight (L := lit (sW S)) hOv hW2 (fun c hc j hj => by rw [hF _ (by omega) (by omega) (by omega) (by omega) (by omega) (by omega) (by omega)]; exact hL c hc j hj) (lit_b hOL)) (by decide) (Nat.le_of_ble_eq_true rfl) (fun r τ hp => ?_)
              refine go_iret hr dX6_setLoss_68 rfl ?_
              rw [he]
              have hHs : HisC σ2 ((sW S :: sH S).take 6) := hp1.1.of (fun q a b => by rw [hσ2, updR_n (by omega)])
              have hok := chg_ok (v := (slW (sW S) tn cn vn)) hS hOv hp.2.1
              exact chg_rep2 hR hHs hok.2.2.2.1 hF hOv hW2 hB2 hp
            · have he : oLoss S t c v = (-2, S) := by unfold oLoss nB; rw [hb]; show iP _ _ _ = _; rw [iP_f (fun z => z ⟨h17, h24⟩), iP_t h33]
              refine go_bipush C (-2) dX6_setLoss_36 rfl ?_
              refine go_iret hr dX6_setLoss_38 rfl ?_
              rw [he]
              exact ⟨rfl, hR⟩
          · have he : oLoss S t c v = (-1, S) := by unfold oLoss nB; rw [hb]; show iP _ _ _ = _; rw [iP_t (fun z => h24 z.2)]
            refine go_iconst C (-1) dX6_setLoss_27 rfl ?_
            refine go_iret hr dX6_setLoss_28 rfl ?_
            rw [he]
            exact ⟨rfl, hR⟩
      · exact absurd h7 (by omega)
    | some es =>
      rw [hb] at hB
      refine go_aload_n C dX6_setLoss_0 rfl ?_
      refine go_getR C gf_X6_46 dX6_setLoss_1 (by decide) rfl rfl ?_
      refine go_getI C gf_X6_88 dX6_setLoss_4 (by decide) rfl rfl ?_
      refine go_top _ hB.1 ?_
      refine go_if_eqN C 13 dX6_setLoss_7 (by decide) (by omega) (fun h7 => ?_) (fun h7 => ?_)
      · exact absurd h7 (by omega)
      · refine go_bipush C (-5) dX6_setLoss_10 rfl ?_
        refine go_iret hr dX6_setLoss_12 rfl ?_
        exact ⟨by unfold oLoss nB; rw [hb], by unfold oLoss nB; rw [hb]; exact hR⟩
set_option maxHeartbeats 4000000 in
set_option maxRecDepth 100000 in
theorem k_X6_setEmission {σ : Mem} {S : St} (hR : RepC σ S) (t c v : Int32) : CtI objC NC yX6_setEmission cX6_setEmission 4 .int 5 117 [.ref 0, .int t, .int c, .int v] σ (RQ (oEm S t c v).1 (oEm S t c v).2) := by
  obtain ⟨hS, hW, hL, hEf, hB, hH, hSv, hX, hFt⟩ := id hR
  have hO := hS.1
  have hOL := hS.2.1
  refine ct_ofI rfl ?_ (Nat.le_of_ble_eq_true rfl) (fun X C hr => ?_)
  · intro v hv; simp only [List.mem_cons, List.not_mem_nil, or_false] at hv; rcases hv with rfl | rfl | rfl | rfl <;> rfl
  · cases hb : sB S with
    | none =>
      rw [hb] at hB
      refine go_aload_n C dX6_setEmission_0 rfl ?_
      refine go_getR C gf_X6_46 dX6_setEmission_1 (by decide) rfl rfl ?_
      refine go_getI C gf_X6_88 dX6_setEmission_4 (by decide) rfl rfl ?_
      refine go_top _ hB.1 ?_
      refine go_if_eqN C 13 dX6_setEmission_7 (by decide) (by omega) (fun h7 => ?_) (fun h7 => ?_)
      · refine go_iload_n C dX6_setEmission_13 rfl ?_
        refine go_S1P C ok_X6_isType lk_X6_80 dX6_setEmission_14 (k_X6_isType _) (by decide) (Nat.le_of_ble_eq_true rfl) ?_
        refine go_if_eqB C 27 dX6_setEmission_17 (by decide) (fun h17 => ?_) (fun h17 => ?_)
        · have he : oEm S t c v = (-1, S) := by unfold oEm nB; rw [hb]; show iP _ _ _ = _; rw [iP_t (fun z => h17 z.1)]
          refine go_iconst C (-1) dX6_setEmission_27 rfl ?_
          refine go_iret hr dX6_setEmission_28 rfl ?_
          rw [he]
          exact ⟨rfl, hR⟩
        · refine go_iload_n C dX6_setEmission_20 rfl ?_
          refine go_S1P C ok_X6_isColor lk_X6_128 dX6_setEmission_21 (k_X6_isColor _) (by decide) (Nat.le_of_ble_eq_true rfl) ?_
          refine go_if_neB C 29 dX6_setEmission_24 (by decide) (fun h24 => ?_) (fun h24 => ?_)
          · refine go_iload_n C dX6_setEmission_29 rfl ?_
            refine go_S1P C ok_X6_isStrength lk_X6_122 dX6_setEmission_30 (k_X6_isStrength _) (by decide) (Nat.le_of_ble_eq_true rfl) ?_
            refine go_if_neB C 39 dX6_setEmission_33 (by decide) (fun h33 => ?_) (fun h33 => ?_)
            · obtain ⟨tn, htn, rfl⟩ := rng_nat (by decide) (id h17)
              obtain ⟨cn, hcn, rfl⟩ := rng_nat (by decide) (id h24)
              obtain ⟨vn, hvn, rfl⟩ := rng_nat (by decide) (id h33)
              have he : oEm S (nI tn) (nI cn) (nI vn) = oChg S (seW (sW S) tn cn vn) := by unfold oEm nB; rw [hb]; show iP _ _ _ = _; rw [iP_f (fun z => z ⟨h17, h24⟩), iP_f (fun z => z h33), nI_clamp (by omega), nI_clamp (by omega), nI_clamp (by omega)]
              refine go_aload_n C dX6_setEmission_39 rfl ?_
              refine go_getR C gf_X6_53 dX6_setEmission_40 (by decide) rfl rfl ?_
              refine go_aload_n C dX6_setEmission_43 rfl ?_
              refine go_getR C gf_X6_12 dX6_setEmission_44 (by decide) rfl rfl ?_
              refine go_V1V C ok_X3_push lk_X6_95 dX6_setEmission_47 (by decide) rfl rfl rfl (k_X3_push hH hS.2.2.2.1.1 hW) (by decide) (Nat.le_of_ble_eq_true rfl) (fun σ1 hp1 => ?_)
              refine go_aload_n C dX6_setEmission_50 rfl ?_
              refine go_getR C gf_X6_12 dX6_setEmission_51 (by decide) rfl rfl ?_
              refine go_getR C gf_X6_131 dX6_setEmission_54 (by decide) rfl rfl ?_
              refine go_iload_n C dX6_setEmission_57 rfl ?_
              refine go_iconst C (nI 4) dX6_setEmission_58 rfl ?_
              refine go_imulN C dX6_setEmission_59 ?_
              refine go_iload_n C dX6_setEmission_60 rfl ?_
              refine go_iaddN C dX6_setEmission_61 ?_
              refine go_iload_n C dX6_setEmission_62 rfl ?_
              refine go_iastN C dX6_setEmission_63 (by decide) rfl (by decide) (by omega) ?_
              refine go_gen (fun σ2 hσ2 => ?_)
              have hF : ∀ q, q ≠ 2 → q ≠ 3 → q ≠ 4 → q ≠ 17 → q ≠ 18 → q ≠ 19 → (q < 20 ∨ 46 ≤ q) → σ2 q = σ q := fun q a b c _ _ _ d => by rw [hσ2, updR_n (by omega)]; exact hp1.2 q d
              have hOv : OkW (seW (sW S) tn cn vn) := seW_ok hO hcn hvn
              have hW2 : HasW σ2 1 (seW (sW S) tn cn vn) := by
                refine ⟨?_, ?_, ?_⟩
                · exact fun j hj => by rw [hσ2, updR_n (by decide), hp1.2 2 (by decide)]; exact hW.1 j hj
                · exact fun j hj => by rw [hσ2, updR_n (by decide), hp1.2 3 (by decide)]; exact hW.2.1 j hj
                · exact fun j hj => by
                    rw [hσ2, updR_s]
                    show _ = nI (un (wE (sW S)) (4 * tn + cn) vn j)
                    by_cases e : j = 4 * tn + cn
                    · subst e; rw [Nat.mul_comm 4, pk_us, un_s]
                    · rw [Nat.mul_comm tn, pk_un e, un_n e, hp1.2 4 (by decide)]; exact hW.2.2 j hj
              have hB2 : BatC σ2 none := by rw [hσ2]; exact BatC.of (σ := σ) (b := none) hB (by rw [updR_n (by decide)]; exact hp1.2 17 (by decide)) (by rw [updR_n (by decide)]; exact hp1.2 18 (by decide)) (by rw [updR_n (by decide)]; exact hp1.2 19 (by decide))
              refine go_aload_n C dX6_setEmission_64 rfl ?_
              refine go_V0I C ok_X6_relight lk_X6_102 dX6_setEmission_65 (by decide) rfl rfl rfl (k_X6_relight (L := lit (sW S)) hOv hW2 (fun c hc j hj => by rw [hF _ (by omega) (by omega) (by omega) (by omega) (by omega) (by omega) (by omega)]; exact hL c hc j hj) (lit_b hOL)) (by decide) (Nat.le_of_ble_eq_true rfl) (fun r τ hp => ?_)
              refine go_iret hr dX6_setEmission_68 rfl ?_
              rw [he]
              have hHs : HisC σ2 ((sW S :: sH S).take 6) := hp1.1.of (fun q a b => by rw [hσ2, updR_n (by omega)])
              have hok := chg_ok (v := (seW (sW S) tn cn vn)) hS hOv hp.2.1
              exact chg_rep2 hR hHs hok.2.2.2.1 hF hOv hW2 hB2 hp
            · have he : oEm S t c v = (-2, S) := by unfold oEm nB; rw [hb]; show iP _ _ _ = _; rw [iP_f (fun z => z ⟨h17, h24⟩), iP_t h33]
              refine go_bipush C (-2) dX6_setEmission_36 rfl ?_
              refine go_iret hr dX6_setEmission_38 rfl ?_
              rw [he]
              exact ⟨rfl, hR⟩
          · have he : oEm S t c v = (-1, S) := by unfold oEm nB; rw [hb]; show iP _ _ _ = _; rw [iP_t (fun z => h24 z.2)]
            refine go_iconst C (-1) dX6_setEmission_27 rfl ?_
            refine go_iret hr dX6_setEmission_28 rfl ?_
            rw [he]
            exact ⟨rfl, hR⟩
      · exact absurd h7 (by omega)
    | some es =>
      rw [hb] at hB
      refine go_aload_n C dX6_setEmission_0 rfl ?_
      refine go_getR C gf_X6_46 dX6_setEmission_1 (by decide) rfl rfl ?_
      refine go_getI C gf_X6_88 dX6_setEmission_4 (by decide) rfl rfl ?_
      refine go_top _ hB.1 ?_
      refine go_if_eqN C 13 dX6_setEmission_7 (by decide) (by omega) (fun h7 => ?_) (fun h7 => ?_)
      · exact absurd h7 (by omega)
      · refine go_bipush C (-5) dX6_setEmission_10 rfl ?_
        refine go_iret hr dX6_setEmission_12 rfl ?_
        exact ⟨by unfold oEm nB; rw [hb], by unfold oEm nB; rw [hb]; exact hR⟩
