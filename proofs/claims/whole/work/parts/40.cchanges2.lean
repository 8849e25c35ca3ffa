set_option maxHeartbeats 4000000 in
set_option maxRecDepth 100000 in
theorem k_X6_fill {σ : Mem} {S : St} (hR : RepC σ S) (x y z v h t : Int32) : CtI objC NC yX6_fill cX6_fill 7 .int 5 117 [.ref 0, .int x, .int y, .int z, .int v, .int h, .int t] σ (RQ (oFill S x y z v h t).1 (oFill S x y z v h t).2) := by
  obtain ⟨hS, hW, hL, hEf, hB, hH, hSv, hX, hFt⟩ := id hR
  have hO := hS.1
  have hOL := hS.2.1
  refine ct_ofI rfl ?_ (Nat.le_of_ble_eq_true rfl) (fun X C hr => ?_)
  · intro v hv; simp only [List.mem_cons, List.not_mem_nil, or_false] at hv; rcases hv with rfl | rfl | rfl | rfl | rfl | rfl | rfl <;> rfl
  · cases hb : sB S with
    | none =>
      rw [hb] at hB
      refine go_aload_n C dX6_fill_0 rfl ?_
      refine go_getR C gf_X6_46 dX6_fill_1 (by decide) rfl rfl ?_
      refine go_getI C gf_X6_88 dX6_fill_4 (by decide) rfl rfl ?_
      refine go_top _ hB.1 ?_
      refine go_if_eqN C 13 dX6_fill_7 (by decide) (by omega) (fun h7 => ?_) (fun h7 => ?_)
      · refine go_iload_n C dX6_fill_13 rfl ?_
        refine go_iload_n C dX6_fill_14 rfl ?_
        refine go_iload_n C dX6_fill_15 rfl ?_
        refine go_S3P C ok_X2_has lk_X6_74 dX6_fill_16 (k_X2_has _ _ _) (by decide) (Nat.le_of_ble_eq_true rfl) ?_
        refine go_if_eqB C 30 dX6_fill_19 (by decide) (fun h19 => ?_) (fun h19 => ?_)
        · have he : oFill S x y z v h t = (-1, S) := by unfold oFill nB; rw [hb]; show iP _ _ _ = _; rw [iP_t (fun z => h19 z.1)]
          refine go_iconst C (-1) dX6_fill_30 rfl ?_
          refine go_iret hr dX6_fill_31 rfl ?_
          rw [he]
          exact ⟨rfl, hR⟩
        · refine go_iload C dX6_fill_22 rfl ?_
          refine go_S1P C ok_X6_isType lk_X6_80 dX6_fill_24 (k_X6_isType _) (by decide) (Nat.le_of_ble_eq_true rfl) ?_
          refine go_if_neB C 32 dX6_fill_27 (by decide) (fun h27 => ?_) (fun h27 => ?_)
          · obtain ⟨r1, r2, r3⟩ := id h19
            obtain ⟨a, ha, rfl⟩ := rng_nat (by decide) r1
            obtain ⟨b, hb1, rfl⟩ := rng_nat (by decide) r2
            obtain ⟨cz, hcz, rfl⟩ := rng_nat (by decide) r3
            have hk := cel_lt ha hb1 hcz
            obtain ⟨tn, htn, rfl⟩ := rng_nat (by decide) (id h27)
            refine go_iload C dX6_fill_32 rfl ?_
            refine go_iconst C (nI 1) dX6_fill_34 rfl ?_
            refine go_icmp_lt C 71 dX6_fill_35 (by decide) (fun h35 => ?_) (fun h35 => ?_)
            · have he : oFill S (nI a) (nI b) (nI cz) v h (nI tn) = (-2, S) := by unfold oFill nB; rw [hb]; show iP _ _ _ = _; rw [iP_f (fun z => z ⟨h19, h27⟩), nI_clamp (by omega), nI_clamp (by omega), nI_clamp (by omega), iP_t (by
                rintro ⟨vn, hn, rfl, rfl, g1, g2, g3, g4, g5⟩
                exact absurd h35 (nI_nlt g1 (by omega)))]
              refine go_bipush C (-2) dX6_fill_71 rfl ?_
              refine go_iret hr dX6_fill_73 rfl ?_
              rw [he]
              exact ⟨rfl, hR⟩
            · refine go_iload C dX6_fill_38 rfl ?_
              refine go_iconst C (nI 1) dX6_fill_40 rfl ?_
              refine go_icmp_lt C 71 dX6_fill_41 (by decide) (fun h41 => ?_) (fun h41 => ?_)
              · have he : oFill S (nI a) (nI b) (nI cz) v h (nI tn) = (-2, S) := by unfold oFill nB; rw [hb]; show iP _ _ _ = _; rw [iP_f (fun z => z ⟨h19, h27⟩), nI_clamp (by omega), nI_clamp (by omega), nI_clamp (by omega), iP_t (by
                  rintro ⟨vn, hn, rfl, rfl, g1, g2, g3, g4, g5⟩
                  exact absurd h41 (nI_nlt g4 (by omega)))]
                refine go_bipush C (-2) dX6_fill_71 rfl ?_
                refine go_iret hr dX6_fill_73 rfl ?_
                rw [he]
                exact ⟨rfl, hR⟩
              · refine go_iload C dX6_fill_44 rfl ?_
                refine go_bipush C (nI 12) dX6_fill_46 rfl ?_
                refine go_iload_n C dX6_fill_48 rfl ?_
                refine go_isubN C dX6_fill_49 (by omega) ?_
                refine go_icmp_gt C 71 dX6_fill_50 (by decide) (fun h50 => ?_) (fun h50 => ?_)
                · have he : oFill S (nI a) (nI b) (nI cz) v h (nI tn) = (-2, S) := by unfold oFill nB; rw [hb]; show iP _ _ _ = _; rw [iP_f (fun z => z ⟨h19, h27⟩), nI_clamp (by omega), nI_clamp (by omega), nI_clamp (by omega), iP_t (by
                    rintro ⟨vn, hn, rfl, rfl, g1, g2, g3, g4, g5⟩
                    exact absurd h50 (nI_nlt (by omega) (by omega)))]
                  refine go_bipush C (-2) dX6_fill_71 rfl ?_
                  refine go_iret hr dX6_fill_73 rfl ?_
                  rw [he]
                  exact ⟨rfl, hR⟩
                · refine go_iload C dX6_fill_53 rfl ?_
                  refine go_bipush C (nI 12) dX6_fill_55 rfl ?_
                  refine go_iload_n C dX6_fill_57 rfl ?_
                  refine go_isubN C dX6_fill_58 (by omega) ?_
                  refine go_icmp_gt C 71 dX6_fill_59 (by decide) (fun h59 => ?_) (fun h59 => ?_)
                  · have he : oFill S (nI a) (nI b) (nI cz) v h (nI tn) = (-2, S) := by unfold oFill nB; rw [hb]; show iP _ _ _ = _; rw [iP_f (fun z => z ⟨h19, h27⟩), nI_clamp (by omega), nI_clamp (by omega), nI_clamp (by omega), iP_t (by
                      rintro ⟨vn, hn, rfl, rfl, g1, g2, g3, g4, g5⟩
                      exact absurd h59 (nI_nlt (by omega) (by omega)))]
                    refine go_bipush C (-2) dX6_fill_71 rfl ?_
                    refine go_iret hr dX6_fill_73 rfl ?_
                    rw [he]
                    exact ⟨rfl, hR⟩
                  · refine go_iload C dX6_fill_62 rfl ?_
                    refine go_bipush C (nI 8) dX6_fill_64 rfl ?_
                    refine go_iload_n C dX6_fill_66 rfl ?_
                    refine go_isubN C dX6_fill_67 (by omega) ?_
                    refine go_icmp_le C 74 dX6_fill_68 (by decide) (fun h68 => ?_) (fun h68 => ?_)
                    · obtain ⟨vn, hv1, hv2, rfl⟩ := i_rng (by omega) h35 h50
                      obtain ⟨hn, hh1, hh2, rfl⟩ := i_rng (m := 8 - b) (by omega) h41 (Int32.not_lt.mpr h68)
                      have hv3 : vn + cz ≤ 12 := by
                        apply Classical.byContradiction
                        intro q
                        exact h59 (nI_lt (by omega) (by omega))
                      have hv4 : vn + a ≤ 12 := by omega
                      have hh4 : hn + b ≤ 8 := by omega
                      have he : oFill S (nI a) (nI b) (nI cz) (nI vn) (nI hn) (nI tn) = oChg S (bxW (sW S) a b cz (a + vn - 1) (b + hn - 1) (cz + vn - 1) tn) := by unfold oFill nB; rw [hb]; show iP _ _ _ = _; rw [nI_clamp (n := a) (by omega), nI_clamp (n := b) (by omega), nI_clamp (n := cz) (by omega), nI_clamp (n := vn) (by omega), nI_clamp (n := hn) (by omega), nI_clamp (n := tn) (by omega), iP_f (fun z => z ⟨h19, h27⟩), iP_f (fun z => z ⟨vn, hn, rfl, rfl, hv1, hv4, hv3, hh1, hh4⟩)]
                      refine go_aload_n C dX6_fill_74 rfl ?_
                      refine go_getR C gf_X6_53 dX6_fill_75 (by decide) rfl rfl ?_
                      refine go_aload_n C dX6_fill_78 rfl ?_
                      refine go_getR C gf_X6_12 dX6_fill_79 (by decide) rfl rfl ?_
                      refine go_V1V C ok_X3_push lk_X6_95 dX6_fill_82 (by decide) rfl rfl rfl (k_X3_push hH hS.2.2.2.1.1 hW) (by decide) (Nat.le_of_ble_eq_true rfl) (fun σ1 hp1 => ?_)
                      refine go_aload_n C dX6_fill_85 rfl ?_
                      refine go_getR C gf_X6_12 dX6_fill_86 (by decide) rfl rfl ?_
                      refine go_iload_n C dX6_fill_89 rfl ?_
                      refine go_iload_n C dX6_fill_90 rfl ?_
                      refine go_iload_n C dX6_fill_91 rfl ?_
                      refine go_S3P C ok_X2_cell lk_X6_84 dX6_fill_92 k_X2_cell (by decide) (Nat.le_of_ble_eq_true rfl) ?_
                      refine go_iload_n C dX6_fill_95 rfl ?_
                      refine go_iload C dX6_fill_96 rfl ?_
                      refine go_iaddN C dX6_fill_98 ?_
                      refine go_iconst C (nI 1) dX6_fill_99 rfl ?_
                      refine go_isubN C dX6_fill_100 (by omega) ?_
                      refine go_iload_n C dX6_fill_101 rfl ?_
                      refine go_iload C dX6_fill_102 rfl ?_
                      refine go_iaddN C dX6_fill_104 ?_
                      refine go_iconst C (nI 1) dX6_fill_105 rfl ?_
                      refine go_isubN C dX6_fill_106 (by omega) ?_
                      refine go_iload_n C dX6_fill_107 rfl ?_
                      refine go_iload C dX6_fill_108 rfl ?_
                      refine go_iaddN C dX6_fill_110 ?_
                      refine go_iconst C (nI 1) dX6_fill_111 rfl ?_
                      refine go_isubN C dX6_fill_112 (by omega) ?_
                      refine go_S3P C ok_X2_cell lk_X6_84 dX6_fill_113 k_X2_cell (by decide) (Nat.le_of_ble_eq_true rfl) ?_
                      refine go_iload C dX6_fill_116 rfl ?_
                      refine go_V3V C ok_X5_setBox lk_X6_115 dX6_fill_118 (by decide) rfl rfl rfl (k_X5_setBox (f := wT (sW S)) (by omega) (by omega) (by omega) (by omega) (by omega) (by omega) (fun j hj => by rw [hp1.2 2 (by decide)]; exact hW.1 j hj)) (by decide) (Nat.le_of_ble_eq_true rfl) (fun σ2 hp2 => ?_)
                      have hF : ∀ q, q ≠ 2 → q ≠ 3 → q ≠ 4 → q ≠ 17 → q ≠ 18 → q ≠ 19 → (q < 20 ∨ 46 ≤ q) → σ2 q = σ q := fun q a b c _ _ _ d => by rw [hp2.2 q a]; exact hp1.2 q d
                      have hOv : OkW (bxW (sW S) a b cz (a + vn - 1) (b + hn - 1) (cz + vn - 1) tn) := bxW_ok hO htn
                      have hW2 : HasW σ2 1 (bxW (sW S) a b cz (a + vn - 1) (b + hn - 1) (cz + vn - 1) tn) := ⟨hp2.1, fun j hj => by rw [hp2.2 3 (by decide), hp1.2 3 (by decide)]; exact hW.2.1 j hj, fun j hj => by rw [hp2.2 4 (by decide), hp1.2 4 (by decide)]; exact hW.2.2 j hj⟩
                      have hB2 : BatC σ2 none := BatC.of (σ := σ) (b := none) hB (by rw [hp2.2 17 (by decide)]; exact hp1.2 17 (by decide)) (by rw [hp2.2 18 (by decide)]; exact hp1.2 18 (by decide)) (by rw [hp2.2 19 (by decide)]; exact hp1.2 19 (by decide))
                      refine go_aload_n C dX6_fill_121 rfl ?_
                      refine go_V0I C ok_X6_relight lk_X6_102 dX6_fill_122 (by decide) rfl rfl rfl (k_X6_relight (L := lit (sW S)) hOv hW2 (fun c hc j hj => by rw [hF _ (by omega) (by omega) (by omega) (by omega) (by omega) (by omega) (by omega)]; exact hL c hc j hj) (lit_b hOL)) (by decide) (Nat.le_of_ble_eq_true rfl) (fun r τ hp => ?_)
                      refine go_iret hr dX6_fill_125 rfl ?_
                      rw [he]
                      have hHs : HisC σ2 ((sW S :: sH S).take 6) := hp1.1.of (fun q a b => hp2.2 q (by omega))
                      have hok := chg_ok (v := (bxW (sW S) a b cz (a + vn - 1) (b + hn - 1) (cz + vn - 1) tn)) hS hOv hp.2.1
                      exact chg_rep2 hR hHs hok.2.2.2.1 hF hOv hW2 hB2 hp
                    · have he : oFill S (nI a) (nI b) (nI cz) v h (nI tn) = (-2, S) := by unfold oFill nB; rw [hb]; show iP _ _ _ = _; rw [iP_f (fun z => z ⟨h19, h27⟩), nI_clamp (by omega), nI_clamp (by omega), nI_clamp (by omega), iP_t (by
                        rintro ⟨vn, hn, rfl, rfl, g1, g2, g3, g4, g5⟩
                        exact absurd (nI_le (by omega) (by omega)) h68)]
                      refine go_bipush C (-2) dX6_fill_71 rfl ?_
                      refine go_iret hr dX6_fill_73 rfl ?_
                      rw [he]
                      exact ⟨rfl, hR⟩
          · have he : oFill S x y z v h t = (-1, S) := by unfold oFill nB; rw [hb]; show iP _ _ _ = _; rw [iP_t (fun z => h27 z.2)]
            refine go_iconst C (-1) dX6_fill_30 rfl ?_
            refine go_iret hr dX6_fill_31 rfl ?_
            rw [he]
            exact ⟨rfl, hR⟩
      · exact absurd h7 (by omega)
    | some es =>
      rw [hb] at hB
      refine go_aload_n C dX6_fill_0 rfl ?_
      refine go_getR C gf_X6_46 dX6_fill_1 (by decide) rfl rfl ?_
      refine go_getI C gf_X6_88 dX6_fill_4 (by decide) rfl rfl ?_
      refine go_top _ hB.1 ?_
      refine go_if_eqN C 13 dX6_fill_7 (by decide) (by omega) (fun h7 => ?_) (fun h7 => ?_)
      · exact absurd h7 (by omega)
      · refine go_bipush C (-5) dX6_fill_10 rfl ?_
        refine go_iret hr dX6_fill_12 rfl ?_
        exact ⟨by unfold oFill nB; rw [hb], by unfold oFill nB; rw [hb]; exact hR⟩
set_option maxHeartbeats 4000000 in
set_option maxRecDepth 100000 in
theorem k_X6_undo {σ : Mem} {S : St} (hR : RepC σ S) : CtI objC NC yX6_undo cX6_undo 1 .int 5 117 [.ref 0] σ (RQ (oUndo S).1 (oUndo S).2) := by
  obtain ⟨hS, hW, hL, hEf, hB, hH, hSv, hX, hFt⟩ := id hR
  have hO := hS.1
  have hOL := hS.2.1
  refine ct_ofI rfl ?_ (Nat.le_of_ble_eq_true rfl) (fun X C hr => ?_)
  · intro v hv; simp only [List.mem_cons, List.not_mem_nil, or_false] at hv; rcases hv with rfl <;> rfl
  · obtain ⟨nw, hnw, hnv, hsz, hold⟩ := id hH
    cases hb : sB S with
    | none =>
      rw [hb] at hB
      cases hh : sH S with
      | nil =>
        rw [hh] at hsz
        refine go_aload_n C dX6_undo_0 rfl ?_
        refine go_getR C gf_X6_46 dX6_undo_1 (by decide) rfl rfl ?_
        refine go_getI C gf_X6_88 dX6_undo_4 (by decide) rfl rfl ?_
        refine go_top _ hB.1 ?_
        refine go_if_eqN C 13 dX6_undo_7 (by decide) (by omega) (fun h7 => ?_) (fun h7 => ?_)
        · refine go_aload_n C dX6_undo_13 rfl ?_
          refine go_getR C gf_X6_53 dX6_undo_14 (by decide) rfl rfl ?_
          refine go_getI C gf_X6_153 dX6_undo_17 (by decide) rfl rfl ?_
          refine go_top (nI 0) hsz ?_
          refine go_if_neN C 26 dX6_undo_20 (by decide) (by omega) (fun h20 => ?_) (fun h20 => ?_)
          · exact absurd rfl h20
          · refine go_bipush C (-4) dX6_undo_23 rfl ?_
            refine go_iret hr dX6_undo_25 rfl ?_
            exact ⟨by unfold oUndo nB; rw [hb, hh], by unfold oUndo nB; rw [hb, hh]; exact hR⟩
        · exact absurd h7 (by omega)
      | cons v vs =>
        rw [hh] at hsz hH
        have hlen : vs.length + 1 ≤ 6 := by have := hS.2.2.2.1.1; rw [hh] at this; exact this
        have hOv : OkW v := hS.2.2.2.1.2 v (by rw [hh]; exact List.mem_cons_self)
        refine go_aload_n C dX6_undo_0 rfl ?_
        refine go_getR C gf_X6_46 dX6_undo_1 (by decide) rfl rfl ?_
        refine go_getI C gf_X6_88 dX6_undo_4 (by decide) rfl rfl ?_
        refine go_top _ hB.1 ?_
        refine go_if_eqN C 13 dX6_undo_7 (by decide) (by omega) (fun h7 => ?_) (fun h7 => ?_)
        · refine go_aload_n C dX6_undo_13 rfl ?_
          refine go_getR C gf_X6_53 dX6_undo_14 (by decide) rfl rfl ?_
          refine go_getI C gf_X6_153 dX6_undo_17 (by decide) rfl rfl ?_
          refine go_top (nI (vs.length + 1)) hsz ?_
          refine go_if_neN C 26 dX6_undo_20 (by decide) (by omega) (fun h20 => ?_) (fun h20 => ?_)
          · refine go_aload_n C dX6_undo_26 rfl ?_
            refine go_getR C gf_X6_53 dX6_undo_27 (by decide) rfl rfl ?_
            refine go_aload_n C dX6_undo_30 rfl ?_
            refine go_getR C gf_X6_12 dX6_undo_31 (by decide) rfl rfl ?_
            refine go_V1V C ok_X3_pop lk_X6_154 dX6_undo_34 (by decide) rfl rfl rfl (k_X3_pop hH (by omega)) (by decide) (Nat.le_of_ble_eq_true rfl) (fun σ2 hp1 => ?_)
            have hF : ∀ q, q ≠ 2 → q ≠ 3 → q ≠ 4 → q ≠ 17 → q ≠ 18 → q ≠ 19 → (q < 20 ∨ 46 ≤ q) → σ2 q = σ q := fun q a b c _ _ _ d => hp1.2.2 q (by omega) a b c
            refine go_aload_n C dX6_undo_37 rfl ?_
            refine go_V0I C ok_X6_relight lk_X6_102 dX6_undo_38 (by decide) rfl rfl rfl (k_X6_relight (L := lit (sW S)) hOv hp1.1 (fun c hc j hj => by rw [hF _ (by omega) (by omega) (by omega) (by omega) (by omega) (by omega) (by omega)]; exact hL c hc j hj) (lit_b hOL)) (by decide) (Nat.le_of_ble_eq_true rfl) (fun r τ hp => ?_)
            refine go_pop C dX6_undo_41 rfl ?_
            refine go_aload_n C dX6_undo_42 rfl ?_
            refine go_getR C gf_X6_53 dX6_undo_43 (by decide) rfl rfl ?_
            refine go_getI C gf_X6_153 dX6_undo_46 (by decide) rfl rfl ?_
            refine go_top (nI vs.length) (by rw [hp.2.2.2.2.1 20 (by decide) (by decide)]; obtain ⟨n2, -, -, z, -⟩ := hp1.2.1; exact z) ?_
            refine go_iret hr dX6_undo_49 rfl ?_
            have he : oUndo S = (nI vs.length, (v, effO (sW S) v, sB S, vs, sS S, sX S, sF S)) := by unfold oUndo nB; rw [hb, hh]
            rw [he]
            refine ⟨rfl, ?_⟩
            rw [hb]
            exact (chg_rep2 hR hp1.2.1 ⟨by omega, fun w hw => hS.2.2.2.1.2 w (by rw [hh]; exact List.mem_cons_of_mem _ hw)⟩ hF hOv hp1.1 (BatC.of (σ := σ) (b := none) hB (hp1.2.2 17 (by decide) (by decide) (by decide) (by decide)) (hp1.2.2 18 (by decide) (by decide) (by decide) (by decide)) (hp1.2.2 19 (by decide) (by decide) (by decide) (by decide))) hp).2
          · exact absurd h20 (by omega)
        · exact absurd h7 (by omega)
    | some es =>
      rw [hb] at hB
      refine go_aload_n C dX6_undo_0 rfl ?_
      refine go_getR C gf_X6_46 dX6_undo_1 (by decide) rfl rfl ?_
      refine go_getI C gf_X6_88 dX6_undo_4 (by decide) rfl rfl ?_
      refine go_top _ hB.1 ?_
      refine go_if_eqN C 13 dX6_undo_7 (by decide) (by omega) (fun h7 => ?_) (fun h7 => ?_)
      · exact absurd h7 (by omega)
      · refine go_bipush C (-5) dX6_undo_10 rfl ?_
        refine go_iret hr dX6_undo_12 rfl ?_
        exact ⟨by unfold oUndo nB; rw [hb], by unfold oUndo nB; rw [hb]; exact hR⟩
set_option maxHeartbeats 4000000 in
set_option maxRecDepth 100000 in
theorem k_X6_save {σ : Mem} {S : St} (hR : RepC σ S)  : CtI objC NC yX6_save cX6_save 1 .int 2 45 [.ref 0] σ (RQ (oSave S).1 (oSave S).2) := by
  obtain ⟨hS, hW, hL, hEf, hB, hH, hSv, hX, hFt⟩ := id hR
  have hO := hS.1
  have hOL := hS.2.1
  refine ct_ofI rfl ?_ (Nat.le_of_ble_eq_true rfl) (fun X C hr => ?_)
  · intro v hv; simp only [List.mem_cons, List.not_mem_nil, or_false] at hv; rcases hv with rfl <;> rfl
  · cases hb : sB S with
    | none =>
      rw [hb] at hB
      refine go_aload_n C dX6_save_0 rfl ?_
      refine go_getR C gf_X6_46 dX6_save_1 (by decide) rfl rfl ?_
      refine go_getI C gf_X6_88 dX6_save_4 (by decide) rfl rfl ?_
      refine go_top _ hB.1 ?_
      refine go_if_eqN C 13 dX6_save_7 (by decide) (by omega) (fun h7 => ?_) (fun h7 => ?_)
      · refine go_aload_n C dX6_save_13 rfl ?_
        refine go_getR C gf_X6_57 dX6_save_14 (by decide) rfl rfl ?_
        refine go_aload_n C dX6_save_17 rfl ?_
        refine go_getR C gf_X6_12 dX6_save_18 (by decide) rfl rfl ?_
        refine go_V1V C ok_X5_copyFrom lk_X6_198 dX6_save_21 (by decide) rfl rfl rfl (k_X5_copyFrom wo_46 wo_1 (Or.inr (by decide)) hW) (by decide) (Nat.le_of_ble_eq_true rfl) (fun τ hp => ?_)
        refine go_aload_n C dX6_save_24 rfl ?_
        refine go_iconst C (nI 1) dX6_save_25 rfl ?_
        refine go_putI C gf_X6_60 dX6_save_26 (by decide) rfl rfl rfl rfl rfl ?_
        refine go_aload_n C dX6_save_29 rfl ?_
        refine go_getR C gf_X6_12 dX6_save_30 (by decide) rfl rfl ?_
        refine go_V0P C ok_X5_countFilled lk_X6_201 dX6_save_33 (by decide) rfl rfl rfl (k_X5_countFilled hO (hW.of (by rw [updR_n (by decide)]; exact hp.2 2 (by decide) (by decide) (by decide)) (by rw [updR_n (by decide)]; exact hp.2 3 (by decide) (by decide) (by decide)) (by rw [updR_n (by decide)]; exact hp.2 4 (by decide) (by decide) (by decide)))) (by decide) (Nat.le_of_ble_eq_true rfl) ?_
        refine go_iret hr dX6_save_36 rfl ?_
        have he : oSave S = (nI (filled (sW S)), (sW S, sE S, sB S, sH S, some (sW S), sX S, sF S)) := by unfold oSave nB; rw [hb]
        rw [he]
        have f : ∀ q, q ≠ 0 → (q < 46 ∨ 50 ≤ q) → updR τ 0 (upd (τ 0) 10 (nI 1)) q = σ q := fun q a b => by rw [updR_n a]; exact hp.2 q (by omega) (by omega) (by omega)
        have g : ∀ i, i ≠ 10 → updR τ 0 (upd (τ 0) 10 (nI 1)) 0 i = σ 0 i := fun i hi => by rw [updR_s, pk_un hi, hp.2 0 (by decide) (by decide) (by decide)]
        refine ⟨rfl, ⟨hO, hOL, hS.2.2.1, hS.2.2.2.1, fun w hw => (by cases hw; exact hO), hS.2.2.2.2.2⟩, hW.of (f 2 (by decide) (by decide)) (f 3 (by decide) (by decide)) (f 4 (by decide) (by decide)), fun c hc j hj => by rw [f _ (by omega) (by omega)]; exact hL c hc j hj, ⟨fun j hj => by rw [f 16 (by decide) (by decide)]; exact hEf.1 j hj, (g 6 (by decide)).trans hEf.2⟩, ?_, hH.of (fun q a b => f q (by omega) (by omega)), ⟨by rw [updR_s]; exact pk_us, hp.1.of (updR_n (by decide)) (updR_n (by decide)) (updR_n (by decide))⟩, hX.of (by rw [f 50 (by decide) (by decide)]) (f 51 (by decide) (by decide)), (g 12 (by decide)).trans hFt⟩
        show BatC _ (sB S)
        rw [hb]
        exact BatC.of (b := none) hB (f 17 (by decide) (by decide)) (f 18 (by decide) (by decide)) (f 19 (by decide) (by decide))
      · exact absurd h7 (by omega)
    | some es =>
      rw [hb] at hB
      refine go_aload_n C dX6_save_0 rfl ?_
      refine go_getR C gf_X6_46 dX6_save_1 (by decide) rfl rfl ?_
      refine go_getI C gf_X6_88 dX6_save_4 (by decide) rfl rfl ?_
      refine go_top _ hB.1 ?_
      refine go_if_eqN C 13 dX6_save_7 (by decide) (by omega) (fun h7 => ?_) (fun h7 => ?_)
      · exact absurd h7 (by omega)
      · refine go_bipush C (-5) dX6_save_10 rfl ?_
        refine go_iret hr dX6_save_12 rfl ?_
        exact ⟨by unfold oSave nB; rw [hb], by unfold oSave nB; rw [hb]; exact hR⟩
set_option maxHeartbeats 4000000 in
set_option maxRecDepth 100000 in
theorem k_X6_restore {σ : Mem} {S : St} (hR : RepC σ S) : CtI objC NC yX6_restore cX6_restore 1 .int 5 117 [.ref 0] σ (RQ (oRestore S).1 (oRestore S).2) := by
  obtain ⟨hS, hW, hL, hEf, hB, hH, hSv, hX, hFt⟩ := id hR
  have hO := hS.1
  have hOL := hS.2.1
  refine ct_ofI rfl ?_ (Nat.le_of_ble_eq_true rfl) (fun X C hr => ?_)
  · intro v hv; simp only [List.mem_cons, List.not_mem_nil, or_false] at hv; rcases hv with rfl <;> rfl
  · cases hb : sB S with
    | none =>
      rw [hb] at hB
      cases hv : sS S with
      | none =>
        rw [hv] at hSv
        refine go_aload_n C dX6_restore_0 rfl ?_
        refine go_getR C gf_X6_46 dX6_restore_1 (by decide) rfl rfl ?_
        refine go_getI C gf_X6_88 dX6_restore_4 (by decide) rfl rfl ?_
        refine go_top _ hB.1 ?_
        refine go_if_eqN C 13 dX6_restore_7 (by decide) (by omega) (fun h7 => ?_) (fun h7 => ?_)
        · refine go_aload_n C dX6_restore_13 rfl ?_
          refine go_getI C gf_X6_60 dX6_restore_14 (by decide) rfl rfl ?_
          refine go_top (nI 0) hSv ?_
          refine go_if_neN C 23 dX6_restore_17 (by decide) (by omega) (fun h17 => ?_) (fun h17 => ?_)
          · exact absurd rfl h17
          · refine go_bipush C (-4) dX6_restore_20 rfl ?_
            refine go_iret hr dX6_restore_22 rfl ?_
            exact ⟨by unfold oRestore nB; rw [hb, hv], by unfold oRestore nB; rw [hb, hv]; exact hR⟩
        · exact absurd h7 (by omega)
      | some v =>
        rw [hv] at hSv
        obtain ⟨hs1, hs2⟩ := hSv
        have hOv : OkW v := hS.2.2.2.2.1 v hv
        refine go_aload_n C dX6_restore_0 rfl ?_
        refine go_getR C gf_X6_46 dX6_restore_1 (by decide) rfl rfl ?_
        refine go_getI C gf_X6_88 dX6_restore_4 (by decide) rfl rfl ?_
        refine go_top _ hB.1 ?_
        refine go_if_eqN C 13 dX6_restore_7 (by decide) (by omega) (fun h7 => ?_) (fun h7 => ?_)
        · refine go_aload_n C dX6_restore_13 rfl ?_
          refine go_getI C gf_X6_60 dX6_restore_14 (by decide) rfl rfl ?_
          refine go_top _ hs1 ?_
          refine go_if_neN C 23 dX6_restore_17 (by decide) (by omega) (fun h17 => ?_) (fun h17 => ?_)
          · refine go_aload_n C dX6_restore_23 rfl ?_
            refine go_getR C gf_X6_12 dX6_restore_24 (by decide) rfl rfl ?_
            refine go_aload_n C dX6_restore_27 rfl ?_
            refine go_getR C gf_X6_57 dX6_restore_28 (by decide) rfl rfl ?_
            refine go_V1V C ok_X5_copyFrom lk_X6_198 dX6_restore_31 (by decide) rfl rfl rfl (k_X5_copyFrom wo_1 wo_46 (Or.inl (by decide)) hs2) (by decide) (Nat.le_of_ble_eq_true rfl) (fun τ hp0 => ?_)
            refine go_aload_n C dX6_restore_34 rfl ?_
            refine go_getR C gf_X6_53 dX6_restore_35 (by decide) rfl rfl ?_
            refine go_iconst C (nI 0) dX6_restore_38 rfl ?_
            refine go_putI C gf_X6_153 dX6_restore_39 (by decide) rfl rfl rfl rfl rfl ?_
            refine go_gen (fun σ2 hσ2 => ?_)
            have hF : ∀ q, q ≠ 2 → q ≠ 3 → q ≠ 4 → q ≠ 17 → q ≠ 18 → q ≠ 19 → (q < 20 ∨ 46 ≤ q) → σ2 q = σ q := fun q a b c _ _ _ d => by rw [hσ2, updR_n (by omega)]; exact hp0.2 q a b c
            have hW2 : HasW σ2 1 v := by rw [hσ2]; exact hp0.1.of (updR_n (by decide)) (updR_n (by decide)) (updR_n (by decide))
            refine go_aload_n C dX6_restore_42 rfl ?_
            refine go_V0I C ok_X6_relight lk_X6_102 dX6_restore_43 (by decide) rfl rfl rfl (k_X6_relight (L := lit (sW S)) hOv hW2 (fun c hc j hj => by rw [hF _ (by omega) (by omega) (by omega) (by omega) (by omega) (by omega) (by omega)]; exact hL c hc j hj) (lit_b hOL)) (by decide) (Nat.le_of_ble_eq_true rfl) (fun r τ hp => ?_)
            refine go_pop C dX6_restore_46 rfl ?_
            have hHs : HisC σ2 [] := by
              obtain ⟨nw, hnw, hnv, hsz, hold⟩ := hH
              exact ⟨nw, hnw, by rw [hσ2, updR_s, pk_un (by decide), hp0.2 20 (by decide) (by decide) (by decide)]; exact hnv, by rw [hσ2, updR_s]; exact pk_us, fun i w h => by cases h⟩
            have hB2 : BatC σ2 none := by rw [hσ2]; exact BatC.of (σ := σ) (b := none) hB (by rw [updR_n (by decide)]; exact hp0.2 17 (by decide) (by decide) (by decide)) (by rw [updR_n (by decide)]; exact hp0.2 18 (by decide) (by decide) (by decide)) (by rw [updR_n (by decide)]; exact hp0.2 19 (by decide) (by decide) (by decide))
            have hend := (chg_rep2 hR hHs ⟨by decide, fun w hw => by cases hw⟩ hF hOv hW2 hB2 hp).2
            obtain ⟨e1, e2, e3, e4, e5, e6, e7, e8, e9⟩ := hend
            refine go_aload_n C dX6_restore_47 rfl ?_
            refine go_V0V C ok_X6_clearEffect lk_X6_204 dX6_restore_48 (by decide) rfl rfl rfl k_X6_clearEffect (by decide) (Nat.le_of_ble_eq_true rfl) (fun υ hq => ?_)
            refine go_aload_n C dX6_restore_51 rfl ?_
            refine go_getR C gf_X6_12 dX6_restore_52 (by decide) rfl rfl ?_
            refine go_V0P C ok_X5_countFilled lk_X6_201 dX6_restore_55 (by decide) rfl rfl rfl (k_X5_countFilled hOv (e2.of (hq.2.1 2 (by decide) (by decide)) (hq.2.1 3 (by decide) (by decide)) (hq.2.1 4 (by decide) (by decide)))) (by decide) (Nat.le_of_ble_eq_true rfl) ?_
            refine go_iret hr dX6_restore_58 rfl ?_
            have he : oRestore S = (nI (filled v), (v, fun _ => False, sB S, [], some v, sX S, sF S)) := by unfold oRestore nB; rw [hb, hv]
            rw [he]
            have f := hq.2.1
            refine ⟨rfl, ⟨e1.1, e1.2.1, by show OkB (sB S); rw [hb]; exact e1.2.2.1, e1.2.2.2.1, fun w hw => (by cases hw; exact hOv), e1.2.2.2.2.2⟩, e2.of (f 2 (by decide) (by decide)) (f 3 (by decide) (by decide)) (f 4 (by decide) (by decide)), fun c hc j hj => by rw [f _ (by omega) (by omega)]; exact e3 c hc j hj, hq.1, ?_, e6.of (fun q a b => f q (by omega) (by omega)), SavC.of (s := some v) (by rw [← hv]; exact e7) (hq.2.2 10 (by decide)) (fun q a b => f q (by omega) (by omega)), e8.of (by rw [f 50 (by decide) (by decide)]) (f 51 (by decide) (by decide)), (hq.2.2 12 (by decide)).trans e9⟩
            show BatC _ (sB S)
            rw [hb]
            exact BatC.of (b := none) e5 (f 17 (by decide) (by decide)) (f 18 (by decide) (by decide)) (f 19 (by decide) (by decide))
          · exact absurd h17 (by omega)
        · exact absurd h7 (by omega)
    | some es =>
      rw [hb] at hB
      refine go_aload_n C dX6_restore_0 rfl ?_
      refine go_getR C gf_X6_46 dX6_restore_1 (by decide) rfl rfl ?_
      refine go_getI C gf_X6_88 dX6_restore_4 (by decide) rfl rfl ?_
      refine go_top _ hB.1 ?_
      refine go_if_eqN C 13 dX6_restore_7 (by decide) (by omega) (fun h7 => ?_) (fun h7 => ?_)
      · exact absurd h7 (by omega)
      · refine go_bipush C (-5) dX6_restore_10 rfl ?_
        refine go_iret hr dX6_restore_12 rfl ?_
        exact ⟨by unfold oRestore nB; rw [hb], by unfold oRestore nB; rw [hb]; exact hR⟩
