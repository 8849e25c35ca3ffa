set_option maxHeartbeats 4000000 in
set_option maxRecDepth 100000 in
theorem k_X7_closeBatch {σ : Mem} {S : St} (hR : RepM σ S)  : CtI objM NM yX7_closeBatch cX7_closeBatch 2 .int 6 138 [.ref 0] σ (RQM (oClose S).1 (oClose S).2) := by
  obtain ⟨hS, hM, hL, hEf, hB, hH, hSv, hX, hFt, hoc⟩ := id hR
  have hO := hS.1
  have hOL := hS.2.1
  have hV := hR.V
  have hT : ∀ j, j < 1152 → σ 1 j = nI (wT (sW S) j) := fun j hj => by have := hM.1 j hj; rw [Nat.zero_add] at this; exact this
  have hLs := hV.2.2.2.1
  have hEm := hV.2.2.2.2.1
  refine ct_ofI rfl ?_ (Nat.le_of_ble_eq_true rfl) (fun X C hr => ?_)
  · intro v hv; simp only [List.mem_cons, List.not_mem_nil, or_false] at hv; rcases hv with rfl <;> rfl
  · cases hb : sB S with
    | none =>
      rw [hb] at hB
      refine go_aload_n C dX7_closeBatch_0 rfl ?_
      refine go_getI C gf_X7_127 dX7_closeBatch_1 (by decide) rfl rfl ?_
      refine go_top (nI 0) hB ?_
      refine go_if_neN C 10 dX7_closeBatch_4 (by decide) (by omega) (fun h4 => ?_) (fun h4 => ?_)
      · exact absurd h4 (by omega)
      · refine go_bipush C (-5) dX7_closeBatch_7 rfl ?_
        refine go_iret hr dX7_closeBatch_9 rfl ?_
        exact ⟨by unfold oClose; rw [hb], by unfold oClose; rw [hb]; exact hR⟩
    | some es =>
      rw [hb] at hB
      refine go_aload_n C dX7_closeBatch_0 rfl ?_
      refine go_getI C gf_X7_127 dX7_closeBatch_1 (by decide) rfl rfl ?_
      refine go_top _ hB.1 ?_
      refine go_if_neN C 10 dX7_closeBatch_4 (by decide) (by omega) (fun h4 => ?_) (fun h4 => ?_)
      · obtain ⟨hb40, hbm⟩ := hS.2.2.1 es hb
        have he2 : oClose S = oChg S (edW (sW S) es) := by unfold oClose; rw [hb]
        refine go_aload_n C dX7_closeBatch_10 rfl ?_
        refine go_iconst C (nI 0) dX7_closeBatch_11 rfl ?_
        refine go_putI C gf_X7_127 dX7_closeBatch_12 (by decide) rfl rfl rfl rfl rfl ?_
        refine go_aload_n C dX7_closeBatch_15 rfl ?_
        refine go_V0V C ok_X7_keep lk_X7_134 dX7_closeBatch_16 (by decide) rfl rfl rfl (k_X7_keep (hs := sH S) (v := sW S) (hH.of (by rw [updR_s, pk_un (by decide)]) (updR_n (by decide))) hS.2.2.2.1.1 (hM.of (updR_n (by decide)))) (by decide) (Nat.le_of_ble_eq_true rfl) (fun σ1 hp1 => ?_)
        refine go_iconst C (nI 0) dX7_closeBatch_19 rfl ?_
        refine go_istore_n C dX7_closeBatch_20 (by decide) rfl rfl ?_
        have L : ∀ (n : Nat) (i : Nat) (g : Nat → Nat) (ρ : Mem), (i + n = es.length) → (∀ j, j < 1152 → ρ 1 j = nI (g j)) → (edT (es.drop i) g = edT es (wT (sW S))) → ((∀ q, q ≠ 1 → ρ q = σ1 q) ∧ ∀ j, 1152 ≤ j → ρ 1 j = σ1 1 j) → Go objM NM X 21 [some (.ref 0), some (.int (nI i))] [] ρ := by
          intro n
          induction n using Nat.strongRecOn with
          | _ n ih =>
            intro i g ρ hi hg he hσF
            refine go_iload_n C dX7_closeBatch_21 rfl ?_
            refine go_aload_n C dX7_closeBatch_22 rfl ?_
            refine go_getI C gf_X7_120 dX7_closeBatch_23 (by decide) rfl rfl ?_
            refine go_top (nI es.length) (by rw [hσF.1 0 (by decide), hp1.2.2 12 (by decide), updR_s, pk_un (by decide)]; exact hB.2.1) ?_
            refine go_icmp_geN C 52 dX7_closeBatch_26 (by decide) (by omega) (by omega) (fun h26 => ?_) (fun h26 => ?_)
            · obtain rfl : i = es.length := by omega
              refine go_gen (fun σ2 hσ2 => ?_)
              subst hσ2
              have hF2 : ∀ q, q ≠ 0 → q ≠ 1 → q ≠ 3 → σ2 q = σ q := fun q a b c => (hσF.1 q b).trans ((hp1.2.1 q a c).trans (updR_n a))
              have hF0 : ∀ i, i ≠ 4 → i ≠ 11 → i ≠ 12 → σ2 0 i = σ 0 i := fun i a b c => by rw [hσF.1 0 (by decide), hp1.2.2 i a, updR_s, pk_un b]
              have hB2 : σ2 0 11 = nI 0 := by rw [hσF.1 0 (by decide), hp1.2.2 11 (by decide), updR_s]; exact pk_us
              have hHs : HisM σ2 ((sW S :: sH S).take 6) := hp1.1.of (by rw [hσF.1 0 (by decide)]) (hσF.1 3 (by decide))
              have hOv : OkW (edW (sW S) es) := edW_ok hO (fun p hp => (hbm p hp).2)
              have hσT : ∀ j, j < 1152 → σ2 1 j = nI (edT es (wT (sW S)) j) := fun j hj => by rw [← he, List.drop_length]; exact hg j hj
              have hW2 : HasM σ2 1 0 (edW (sW S) es) := by
                refine ⟨fun j hj => ?_, fun j hj => ?_, fun j hj => ?_⟩
                · rw [Nat.zero_add]; exact hσT j hj
                · rw [Nat.zero_add, hσF.2 _ (by omega), hp1.2.1 1 (by decide) (by decide), updR_n (by decide)]
                  have := hM.2.1 j hj; rw [Nat.zero_add] at this; exact this
                · rw [Nat.zero_add, hσF.2 _ (by omega), hp1.2.1 1 (by decide) (by decide), updR_n (by decide)]
                  have := hM.2.2 j hj; rw [Nat.zero_add] at this; exact this
              refine go_aload_n C dX7_closeBatch_52 rfl ?_
              refine go_V0I C ok_X7_changed lk_X7_137 dX7_closeBatch_53 (by decide) rfl rfl rfl (k_X7_changed (L := lit (sW S)) hOv hW2 ((hF0 8 (by decide) (by decide) (by decide)).trans hoc) (fun c hc j hj => by rw [hF2 4 (by decide) (by decide) (by decide)]; exact hL c hc j hj) (lit_b hOL)) (by decide) (Nat.le_of_ble_eq_true rfl) (fun r τ hp => ?_)
              refine go_iret hr dX7_closeBatch_56 rfl ?_
              rw [he2]
              have hok := chg_ok (v := (edW (sW S) es)) hS hOv hp.2.1
              exact chg_repM hR hHs hok.2.2.2.1 hF2 hF0 hB2 hOv hW2 hp
            · obtain ⟨p, hp⟩ : ∃ p, es[i]? = some p := ⟨es[i], List.getElem?_eq_getElem h26⟩
              have hpb := hbm p (List.mem_of_getElem? hp)
              refine go_aload_n C dX7_closeBatch_29 rfl ?_
              refine go_getR C gf_X7_9 dX7_closeBatch_30 (by decide) rfl rfl ?_
              refine go_aload_n C dX7_closeBatch_33 rfl ?_
              refine go_getR C gf_X7_33 dX7_closeBatch_34 (by decide) rfl rfl ?_
              refine go_iload_n C dX7_closeBatch_37 rfl ?_
              refine go_ialdN C dX7_closeBatch_38 (by decide) rfl (by decide) (by omega) ?_
              refine go_top (nI p.1) (by rw [hσF.1 7 (by decide), hp1.2.1 7 (by decide) (by decide), updR_n (by decide)]; exact (hB.2.2 i p hp).1) ?_
              refine go_aload_n C dX7_closeBatch_39 rfl ?_
              refine go_getR C gf_X7_36 dX7_closeBatch_40 (by decide) rfl rfl ?_
              refine go_iload_n C dX7_closeBatch_43 rfl ?_
              refine go_ialdN C dX7_closeBatch_44 (by decide) rfl (by decide) (by omega) ?_
              refine go_top (nI p.2) (by rw [hσF.1 8 (by decide), hp1.2.1 8 (by decide) (by decide), updR_n (by decide)]; exact (hB.2.2 i p hp).2) ?_
              refine go_iastN C dX7_closeBatch_45 (by decide) rfl (by decide) (by omega) ?_
              refine go_iincN C 1 dX7_closeBatch_46 rfl rfl (by decide) rfl rfl ?_
              refine go_goto C 21 dX7_closeBatch_49 (by decide) ?_
              exact ih (n - 1) (by omega) (i + 1) (un g p.1 p.2) _ (by omega) (fun j hj => by
                rw [updR_s]
                by_cases e : j = p.1
                · subst e; rw [pk_us, un_s]
                · rw [pk_un e, un_n e]; exact hg j hj) (by
                rw [← he]
                have hd : es.drop i = p :: es.drop (i + 1) := by rw [List.drop_eq_getElem_cons h26, (List.getElem?_eq_some_iff.mp hp).2]
                rw [hd]; rfl) ⟨fun q hq => (updR_n hq).trans (hσF.1 q hq), fun j hj => by rw [updR_s, pk_un (by omega)]; exact hσF.2 j hj⟩
        exact L es.length 0 (wT (sW S)) σ1 (by omega) (fun j hj => by rw [hp1.2.1 1 (by decide) (by decide), updR_n (by decide)]; exact hT j hj) rfl ⟨fun _ _ => rfl, fun _ _ => rfl⟩
      · exact absurd h4 (by omega)
set_option maxHeartbeats 4000000 in
set_option maxRecDepth 100000 in
theorem k_X7_fill {σ : Mem} {S : St} (hR : RepM σ S) (x y z v h t : Int32) : CtI objM NM yX7_fill cX7_fill 7 .int 6 138 [.ref 0, .int x, .int y, .int z, .int v, .int h, .int t] σ (RQM (oFill S x y z v h t).1 (oFill S x y z v h t).2) := by
  obtain ⟨hS, hM, hL, hEf, hB, hH, hSv, hX, hFt, hoc⟩ := id hR
  have hO := hS.1
  have hOL := hS.2.1
  have hV := hR.V
  have hT : ∀ j, j < 1152 → σ 1 j = nI (wT (sW S) j) := fun j hj => by have := hM.1 j hj; rw [Nat.zero_add] at this; exact this
  have hLs := hV.2.2.2.1
  have hEm := hV.2.2.2.2.1
  refine ct_ofI rfl ?_ (Nat.le_of_ble_eq_true rfl) (fun X C hr => ?_)
  · intro v hv; simp only [List.mem_cons, List.not_mem_nil, or_false] at hv; rcases hv with rfl | rfl | rfl | rfl | rfl | rfl | rfl <;> rfl
  · cases hb : sB S with
    | none =>
      rw [hb] at hB
      refine go_aload_n C dX7_fill_0 rfl ?_
      refine go_getI C gf_X7_127 dX7_fill_1 (by decide) rfl rfl ?_
      refine go_top (nI 0) hB ?_
      refine go_if_eqN C 10 dX7_fill_4 (by decide) (by omega) (fun h4 => ?_) (fun h4 => ?_)
      · refine go_iload_n C dX7_fill_10 rfl ?_
        refine go_iload_n C dX7_fill_11 rfl ?_
        refine go_iload_n C dX7_fill_12 rfl ?_
        refine go_S3P C ok_X7_isCell lk_X7_71 dX7_fill_13 (k_X7_isCell _ _ _) (by decide) (Nat.le_of_ble_eq_true rfl) ?_
        refine go_if_eqB C 27 dX7_fill_16 (by decide) (fun h16 => ?_) (fun h16 => ?_)
        · have he : oFill S x y z v h t = (-1, S) := by unfold oFill nB; rw [hb]; show iP _ _ _ = _; rw [iP_t (fun z => h16 z.1)]
          refine go_iconst C (-1) dX7_fill_27 rfl ?_
          refine go_iret hr dX7_fill_28 rfl ?_
          rw [he]
          exact ⟨rfl, hR⟩
        · refine go_iload C dX7_fill_19 rfl ?_
          refine go_S1P C ok_X7_isType lk_X7_123 dX7_fill_21 (k_X7_isType _) (by decide) (Nat.le_of_ble_eq_true rfl) ?_
          refine go_if_neB C 29 dX7_fill_24 (by decide) (fun h24 => ?_) (fun h24 => ?_)
          · obtain ⟨r1, r2, r3⟩ := id h16
            obtain ⟨a, ha, rfl⟩ := rng_nat (by decide) r1
            obtain ⟨b, hb1, rfl⟩ := rng_nat (by decide) r2
            obtain ⟨cz, hcz, rfl⟩ := rng_nat (by decide) r3
            have hk := cel_lt ha hb1 hcz
            obtain ⟨tn, htn, rfl⟩ := rng_nat (by decide) (id h24)
            refine go_iload C dX7_fill_29 rfl ?_
            refine go_iconst C (nI 1) dX7_fill_31 rfl ?_
            refine go_bipush C (nI 12) dX7_fill_32 rfl ?_
            refine go_iload_n C dX7_fill_34 rfl ?_
            refine go_iload_n C dX7_fill_35 rfl ?_
            refine go_maxN C lk_X7_87 dX7_fill_36 (by decide) (Nat.le_of_ble_eq_true rfl) (by omega) (by omega) ?_
            refine go_isubN C dX7_fill_39 (by omega) ?_
            refine go_S3P C ok_X7_in lk_X7_57 dX7_fill_40 (k_X7_in0 _ _ _) (by decide) (Nat.le_of_ble_eq_true rfl) ?_
            refine go_if_eqB C 59 dX7_fill_43 (by decide) (fun h43 => ?_) (fun h43 => ?_)
            · have he : oFill S (nI a) (nI b) (nI cz) v h (nI tn) = (-2, S) := by unfold oFill nB; rw [hb]; show iP _ _ _ = _; rw [iP_f (fun z => z ⟨h16, h24⟩), nI_clamp (by omega), nI_clamp (by omega), nI_clamp (by omega), iP_t (by
                rintro ⟨vn, hn, rfl, rfl, g1, g2, g3, g4, g5⟩
                exact h43 ((inI_nI (by omega) (by omega) (by omega)).mpr ⟨g1, by omega⟩))]
              refine go_bipush C (-2) dX7_fill_59 rfl ?_
              refine go_iret hr dX7_fill_61 rfl ?_
              rw [he]
              exact ⟨rfl, hR⟩
            · refine go_iload C dX7_fill_46 rfl ?_
              refine go_iconst C (nI 1) dX7_fill_48 rfl ?_
              refine go_bipush C (nI 8) dX7_fill_49 rfl ?_
              refine go_iload_n C dX7_fill_51 rfl ?_
              refine go_isubN C dX7_fill_52 (by omega) ?_
              refine go_S3P C ok_X7_in lk_X7_57 dX7_fill_53 (k_X7_in0 _ _ _) (by decide) (Nat.le_of_ble_eq_true rfl) ?_
              refine go_if_neB C 62 dX7_fill_56 (by decide) (fun h56 => ?_) (fun h56 => ?_)
              · obtain ⟨vn, hv1, hv2, rfl⟩ := i_rng (m := 12 - max a cz) (by omega) h43.1 h43.2
                obtain ⟨hn, hh1, hh2, rfl⟩ := i_rng (m := 8 - b) (by omega) h56.1 h56.2
                have hv3 : vn + cz ≤ 12 := by omega
                have hv4 : vn + a ≤ 12 := by omega
                have hh4 : hn + b ≤ 8 := by omega
                have he : oFill S (nI a) (nI b) (nI cz) (nI vn) (nI hn) (nI tn) = oChg S (bxW (sW S) a b cz (a + vn - 1) (b + hn - 1) (cz + vn - 1) tn) := by unfold oFill nB; rw [hb]; show iP _ _ _ = _; rw [nI_clamp (n := a) (by omega), nI_clamp (n := b) (by omega), nI_clamp (n := cz) (by omega), nI_clamp (n := vn) (by omega), nI_clamp (n := hn) (by omega), nI_clamp (n := tn) (by omega), iP_f (fun z => z ⟨h16, h24⟩), iP_f (fun z => z ⟨vn, hn, rfl, rfl, hv1, hv4, hv3, hh1, hh4⟩)]
                refine go_aload_n C dX7_fill_62 rfl ?_
                refine go_V0V C ok_X7_keep lk_X7_134 dX7_fill_63 (by decide) rfl rfl rfl (k_X7_keep hH hS.2.2.2.1.1 hM) (by decide) (Nat.le_of_ble_eq_true rfl) (fun σ1 hp1 => ?_)
                refine go_aload_n C dX7_fill_66 rfl ?_
                refine go_iload_n C dX7_fill_67 rfl ?_
                refine go_iload_n C dX7_fill_68 rfl ?_
                refine go_iload_n C dX7_fill_69 rfl ?_
                refine go_iload_n C dX7_fill_70 rfl ?_
                refine go_iload C dX7_fill_71 rfl ?_
                refine go_iaddN C dX7_fill_73 ?_
                refine go_iconst C (nI 1) dX7_fill_74 rfl ?_
                refine go_isubN C dX7_fill_75 (by omega) ?_
                refine go_iload_n C dX7_fill_76 rfl ?_
                refine go_iload C dX7_fill_77 rfl ?_
                refine go_iaddN C dX7_fill_79 ?_
                refine go_iconst C (nI 1) dX7_fill_80 rfl ?_
                refine go_isubN C dX7_fill_81 (by omega) ?_
                refine go_iload_n C dX7_fill_82 rfl ?_
                refine go_iload C dX7_fill_83 rfl ?_
                refine go_iaddN C dX7_fill_85 ?_
                refine go_iconst C (nI 1) dX7_fill_86 rfl ?_
                refine go_isubN C dX7_fill_87 (by omega) ?_
                refine go_iload C dX7_fill_88 rfl ?_
                refine go_V7V C ok_X7_lays lk_X7_140 dX7_fill_90 (by decide) rfl rfl rfl (k_X7_lays (f := wT (sW S)) (by omega) (by omega) (fun j hj => by rw [hp1.2.1 1 (by decide) (by decide)]; exact hT j hj)) (by decide) (Nat.le_of_ble_eq_true rfl) (fun σ2 hp2 => ?_)
                obtain ⟨hσT, hσF⟩ := hp2
                have hF2 : ∀ q, q ≠ 0 → q ≠ 1 → q ≠ 3 → σ2 q = σ q := fun q a b c => (hσF.1 q b).trans (hp1.2.1 q a c)
                have hF0 : ∀ i, i ≠ 4 → i ≠ 11 → i ≠ 12 → σ2 0 i = σ 0 i := fun i a b c => by rw [hσF.1 0 (by decide)]; exact hp1.2.2 i a
                have hB2 : σ2 0 11 = nI 0 := by rw [hσF.1 0 (by decide), hp1.2.2 11 (by decide)]; exact hB
                have hHs : HisM σ2 ((sW S :: sH S).take 6) := hp1.1.of (by rw [hσF.1 0 (by decide)]) (hσF.1 3 (by decide))
                have hOv : OkW (bxW (sW S) a b cz (a + vn - 1) (b + hn - 1) (cz + vn - 1) tn) := bxW_ok hO htn
                have hW2 : HasM σ2 1 0 (bxW (sW S) a b cz (a + vn - 1) (b + hn - 1) (cz + vn - 1) tn) := by
                  refine ⟨fun j hj => ?_, fun j hj => ?_, fun j hj => ?_⟩
                  · rw [Nat.zero_add]; exact hσT j hj
                  · rw [Nat.zero_add, hσF.2 _ (by omega), hp1.2.1 1 (by decide) (by decide)]
                    have := hM.2.1 j hj; rw [Nat.zero_add] at this; exact this
                  · rw [Nat.zero_add, hσF.2 _ (by omega), hp1.2.1 1 (by decide) (by decide)]
                    have := hM.2.2 j hj; rw [Nat.zero_add] at this; exact this
                refine go_aload_n C dX7_fill_93 rfl ?_
                refine go_V0I C ok_X7_changed lk_X7_137 dX7_fill_94 (by decide) rfl rfl rfl (k_X7_changed (L := lit (sW S)) hOv hW2 ((hF0 8 (by decide) (by decide) (by decide)).trans hoc) (fun c hc j hj => by rw [hF2 4 (by decide) (by decide) (by decide)]; exact hL c hc j hj) (lit_b hOL)) (by decide) (Nat.le_of_ble_eq_true rfl) (fun r τ hp => ?_)
                refine go_iret hr dX7_fill_97 rfl ?_
                rw [he]
                have hok := chg_ok (v := (bxW (sW S) a b cz (a + vn - 1) (b + hn - 1) (cz + vn - 1) tn)) hS hOv hp.2.1
                exact chg_repM hR hHs hok.2.2.2.1 hF2 hF0 hB2 hOv hW2 hp
              · have he : oFill S (nI a) (nI b) (nI cz) v h (nI tn) = (-2, S) := by unfold oFill nB; rw [hb]; show iP _ _ _ = _; rw [iP_f (fun z => z ⟨h16, h24⟩), nI_clamp (by omega), nI_clamp (by omega), nI_clamp (by omega), iP_t (by
                  rintro ⟨vn, hn, rfl, rfl, g1, g2, g3, g4, g5⟩
                  exact h56 ((inI_nI (by omega) (by omega) (by omega)).mpr ⟨g4, by omega⟩))]
                refine go_bipush C (-2) dX7_fill_59 rfl ?_
                refine go_iret hr dX7_fill_61 rfl ?_
                rw [he]
                exact ⟨rfl, hR⟩
          · have he : oFill S x y z v h t = (-1, S) := by unfold oFill nB; rw [hb]; show iP _ _ _ = _; rw [iP_t (fun z => h24 z.2)]
            refine go_iconst C (-1) dX7_fill_27 rfl ?_
            refine go_iret hr dX7_fill_28 rfl ?_
            rw [he]
            exact ⟨rfl, hR⟩
      · exact absurd h4 (by omega)
    | some es =>
      rw [hb] at hB
      refine go_aload_n C dX7_fill_0 rfl ?_
      refine go_getI C gf_X7_127 dX7_fill_1 (by decide) rfl rfl ?_
      refine go_top _ hB.1 ?_
      refine go_if_eqN C 10 dX7_fill_4 (by decide) (by omega) (fun h4 => ?_) (fun h4 => ?_)
      · exact absurd h4 (by omega)
      · refine go_bipush C (-5) dX7_fill_7 rfl ?_
        refine go_iret hr dX7_fill_9 rfl ?_
        exact ⟨by unfold oFill nB; rw [hb], by unfold oFill nB; rw [hb]; exact hR⟩
set_option maxHeartbeats 4000000 in
set_option maxRecDepth 100000 in
theorem k_X7_undo {σ : Mem} {S : St} (hR : RepM σ S) : CtI objM NM yX7_undo cX7_undo 2 .int 6 138 [.ref 0] σ (RQM (oUndo S).1 (oUndo S).2) := by
  obtain ⟨hS, hM, hL, hEf, hB, hH, hSv, hX, hFt, hoc⟩ := id hR
  have hO := hS.1
  have hOL := hS.2.1
  have hV := hR.V
  have hT : ∀ j, j < 1152 → σ 1 j = nI (wT (sW S) j) := fun j hj => by have := hM.1 j hj; rw [Nat.zero_add] at this; exact this
  have hLs := hV.2.2.2.1
  have hEm := hV.2.2.2.2.1
  refine ct_ofI rfl ?_ (Nat.le_of_ble_eq_true rfl) (fun X C hr => ?_)
  · intro v hv; simp only [List.mem_cons, List.not_mem_nil, or_false] at hv; rcases hv with rfl <;> rfl
  · cases hb : sB S with
    | none =>
      rw [hb] at hB
      cases hh : sH S with
      | nil =>
        rw [hh] at hH
        refine go_aload_n C dX7_undo_0 rfl ?_
        refine go_getI C gf_X7_127 dX7_undo_1 (by decide) rfl rfl ?_
        refine go_top (nI 0) hB ?_
        refine go_if_eqN C 10 dX7_undo_4 (by decide) (by omega) (fun h4 => ?_) (fun h4 => ?_)
        · refine go_aload_n C dX7_undo_10 rfl ?_
          refine go_getI C gf_X7_113 dX7_undo_11 (by decide) rfl rfl ?_
          refine go_top (nI 0) hH.1 ?_
          refine go_if_neN C 20 dX7_undo_14 (by decide) (by omega) (fun h14 => ?_) (fun h14 => ?_)
          · exact absurd rfl h14
          · refine go_bipush C (-4) dX7_undo_17 rfl ?_
            refine go_iret hr dX7_undo_19 rfl ?_
            exact ⟨by unfold oUndo nB; rw [hb, hh], by unfold oUndo nB; rw [hb, hh]; exact hR⟩
        · exact absurd h4 (by omega)
      | cons v vs =>
        rw [hh] at hH
        have hlen : vs.length + 1 ≤ 6 := by have := hS.2.2.2.1.1; rw [hh] at this; exact this
        have hOv : OkW v := hS.2.2.2.1.2 v (by rw [hh]; exact List.mem_cons_self)
        have hv0 := hasM_iff.mp (hH.2 0 v rfl)
        have hv1 : (v :: vs).length - 1 - 0 = vs.length := rfl
        rw [hv1] at hv0
        refine go_aload_n C dX7_undo_0 rfl ?_
        refine go_getI C gf_X7_127 dX7_undo_1 (by decide) rfl rfl ?_
        refine go_top (nI 0) hB ?_
        refine go_if_eqN C 10 dX7_undo_4 (by decide) (by omega) (fun h4 => ?_) (fun h4 => ?_)
        · refine go_aload_n C dX7_undo_10 rfl ?_
          refine go_getI C gf_X7_113 dX7_undo_11 (by decide) rfl rfl ?_
          refine go_top (nI (vs.length + 1)) hH.1 ?_
          refine go_if_neN C 20 dX7_undo_14 (by decide) (by omega) (fun h14 => ?_) (fun h14 => ?_)
          · refine go_aload_n C dX7_undo_20 rfl ?_
            refine go_dup C dX7_undo_21 rfl ?_
            refine go_getI C gf_X7_113 dX7_undo_22 (by decide) rfl rfl ?_
            refine go_top (nI (vs.length + 1)) hH.1 ?_
            refine go_iconst C (nI 1) dX7_undo_25 rfl ?_
            refine go_isubN C dX7_undo_26 (by omega) ?_
            refine go_putI C gf_X7_113 dX7_undo_27 (by decide) rfl rfl rfl rfl rfl ?_
            refine go_iconst C (nI 0) dX7_undo_30 rfl ?_
            refine go_istore_n C dX7_undo_31 (by decide) rfl rfl ?_
            have L : ∀ (n : Nat) (i : Nat) (ρ : Mem), (i + n = 1216) → (∀ j, j < i → ρ 1 j = nI (mV v j)) → (ρ 0 4 = nI vs.length) → ((∀ q, q ≠ 0 → q ≠ 1 → ρ q = σ q) ∧ ∀ i, i ≠ 4 → ρ 0 i = σ 0 i) → Go objM NM X 32 [some (.ref 0), some (.int (nI i))] [] ρ := by
              intro n
              induction n using Nat.strongRecOn with
              | _ n ih =>
                intro i ρ hi hn hc hF
                refine go_iload_n C dX7_undo_32 rfl ?_
                refine go_sipush C (nI 1216) dX7_undo_33 rfl ?_
                refine go_icmp_geN C 66 dX7_undo_36 (by decide) (by omega) (by omega) (fun h36 => ?_) (fun h36 => ?_)
                · obtain rfl : i = 1216 := by omega
                  have hW2 : HasM ρ 1 0 v := hasM_iff.mpr (fun j hj => by rw [Nat.zero_add]; exact hn j hj)
                  have hHs : HisM ρ vs := ⟨hc, fun i w hw => by
                    have hil := (List.getElem?_eq_some_iff.mp hw).1
                    have q := hH.2 (i + 1) w hw
                    rw [show (v :: vs).length - 1 - (i + 1) = vs.length - 1 - i by rw [List.length_cons]; omega] at q
                    exact q.of (hF.1 3 (by decide) (by decide))⟩
                  refine go_aload_n C dX7_undo_66 rfl ?_
                  refine go_V0I C ok_X7_changed lk_X7_137 dX7_undo_67 (by decide) rfl rfl rfl (k_X7_changed (L := lit (sW S)) hOv hW2 ((hF.2 8 (by decide)).trans hoc) (fun c hc j hj => by rw [hF.1 4 (by decide) (by decide)]; exact hL c hc j hj) (lit_b hOL)) (by decide) (Nat.le_of_ble_eq_true rfl) (fun r τ hp => ?_)
                  refine go_pop C dX7_undo_70 rfl ?_
                  refine go_aload_n C dX7_undo_71 rfl ?_
                  refine go_getI C gf_X7_113 dX7_undo_72 (by decide) rfl rfl ?_
                  refine go_top (nI vs.length) (by rw [hp.2.2.2.2 0 (by decide) (by decide) (by decide)]; exact hc) ?_
                  refine go_iret hr dX7_undo_75 rfl ?_
                  have he : oUndo S = (nI vs.length, (v, effO (sW S) v, sB S, vs, sS S, sX S, sF S)) := by unfold oUndo nB; rw [hb, hh]
                  rw [he]
                  refine ⟨rfl, ?_⟩
                  rw [hb]
                  exact (chg_repM hR hHs ⟨by omega, fun w hw => hS.2.2.2.1.2 w (by rw [hh]; exact List.mem_cons_of_mem _ hw)⟩ (fun q a b _ => hF.1 q a b) (fun i a _ _ => hF.2 i a) (by rw [hF.2 11 (by decide)]; exact hB) hOv hW2 hp).2
                · refine go_aload_n C dX7_undo_39 rfl ?_
                  refine go_getR C gf_X7_9 dX7_undo_40 (by decide) rfl rfl ?_
                  refine go_iload_n C dX7_undo_43 rfl ?_
                  refine go_aload_n C dX7_undo_44 rfl ?_
                  refine go_getR C gf_X7_16 dX7_undo_45 (by decide) rfl rfl ?_
                  refine go_sipush C (nI 1216) dX7_undo_48 rfl ?_
                  refine go_aload_n C dX7_undo_51 rfl ?_
                  refine go_getI C gf_X7_113 dX7_undo_52 (by decide) rfl rfl ?_
                  refine go_top _ hc ?_
                  refine go_imulN C dX7_undo_55 ?_
                  refine go_iload_n C dX7_undo_56 rfl ?_
                  refine go_iaddN C dX7_undo_57 ?_
                  refine go_ialdN C dX7_undo_58 (by decide) rfl (by decide) (by omega) ?_
                  refine go_top (nI (mV v i)) (by rw [hF.1 3 (by decide) (by decide)]; exact hv0 i (by omega)) ?_
                  refine go_iastN C dX7_undo_59 (by decide) rfl (by decide) (by omega) ?_
                  refine go_iincN C 1 dX7_undo_60 rfl rfl (by decide) rfl rfl ?_
                  refine go_goto C 32 dX7_undo_63 (by decide) ?_
                  exact ih (n - 1) (by omega) (i + 1) _ (by omega) (fun j hj => by
                    show upd (ρ 1) i _ j = _
                    by_cases e : j = i
                    · subst e; rw [pk_us]
                    · rw [pk_un e]; exact hn j (by omega)) (by rw [updR_n (by decide)]; exact hc) ⟨fun q a b => (updR_n b).trans (hF.1 q a b), fun j hj => by rw [updR_n (by decide)]; exact hF.2 j hj⟩
            exact L 1216 0 _ (by omega) (fun j h => absurd h (Nat.not_lt_zero _)) (by rw [updR_s, pk_us]; rfl) ⟨fun q a b => updR_n a, fun j hj => by rw [updR_s, pk_un hj]⟩
          · exact absurd h14 (by omega)
        · exact absurd h4 (by omega)
    | some es =>
      rw [hb] at hB
      refine go_aload_n C dX7_undo_0 rfl ?_
      refine go_getI C gf_X7_127 dX7_undo_1 (by decide) rfl rfl ?_
      refine go_top _ hB.1 ?_
      refine go_if_eqN C 10 dX7_undo_4 (by decide) (by omega) (fun h4 => ?_) (fun h4 => ?_)
      · exact absurd h4 (by omega)
      · refine go_bipush C (-5) dX7_undo_7 rfl ?_
        refine go_iret hr dX7_undo_9 rfl ?_
        exact ⟨by unfold oUndo nB; rw [hb], by unfold oUndo nB; rw [hb]; exact hR⟩
set_option maxHeartbeats 4000000 in
set_option maxRecDepth 100000 in
theorem k_X7_save {σ : Mem} {S : St} (hR : RepM σ S)  : CtI objM NM yX7_save cX7_save 2 .int 1 22 [.ref 0] σ (RQM (oSave S).1 (oSave S).2) := by
  obtain ⟨hS, hM, hL, hEf, hB, hH, hSv, hX, hFt, hoc⟩ := id hR
  have hO := hS.1
  have hOL := hS.2.1
  have hV := hR.V
  have hT : ∀ j, j < 1152 → σ 1 j = nI (wT (sW S) j) := fun j hj => by have := hM.1 j hj; rw [Nat.zero_add] at this; exact this
  have hLs := hV.2.2.2.1
  have hEm := hV.2.2.2.2.1
  refine ct_ofI rfl ?_ (Nat.le_of_ble_eq_true rfl) (fun X C hr => ?_)
  · intro v hv; simp only [List.mem_cons, List.not_mem_nil, or_false] at hv; rcases hv with rfl <;> rfl
  · cases hb : sB S with
    | none =>
      rw [hb] at hB
      refine go_aload_n C dX7_save_0 rfl ?_
      refine go_getI C gf_X7_127 dX7_save_1 (by decide) rfl rfl ?_
      refine go_top (nI 0) hB ?_
      refine go_if_eqN C 10 dX7_save_4 (by decide) (by omega) (fun h4 => ?_) (fun h4 => ?_)
      · refine go_iconst C (nI 0) dX7_save_10 rfl ?_
        refine go_istore_n C dX7_save_11 (by decide) rfl rfl ?_
        have L : ∀ (n : Nat) (i : Nat) (ρ : Mem), (i + n = 1216) → (∀ j, j < i → ρ 2 j = nI (mV (sW S) j)) → (∀ q, q ≠ 2 → ρ q = σ q) → Go objM NM X 12 [some (.ref 0), some (.int (nI i))] [] ρ := by
          intro n
          induction n using Nat.strongRecOn with
          | _ n ih =>
            intro i ρ hi hn hF
            refine go_iload_n C dX7_save_12 rfl ?_
            refine go_sipush C (nI 1216) dX7_save_13 rfl ?_
            refine go_icmp_geN C 37 dX7_save_16 (by decide) (by omega) (by omega) (fun h16 => ?_) (fun h16 => ?_)
            · obtain rfl : i = 1216 := by omega
              refine go_aload_n C dX7_save_37 rfl ?_
              refine go_iconst C (nI 1) dX7_save_38 rfl ?_
              refine go_putI C gf_X7_211 dX7_save_39 (by decide) rfl rfl rfl rfl rfl ?_
              refine go_aload_n C dX7_save_42 rfl ?_
              refine go_V0P C ok_X7_blocks lk_X7_214 dX7_save_43 (by decide) rfl rfl rfl (k_X7_blocks hO (hM.of (by rw [updR_n (by decide)]; exact hF 1 (by decide)))) (by decide) (Nat.le_of_ble_eq_true rfl) ?_
              refine go_iret hr dX7_save_46 rfl ?_
              have he : oSave S = (nI (filled (sW S)), (sW S, sE S, sB S, sH S, some (sW S), sX S, sF S)) := by unfold oSave nB; rw [hb]
              rw [he]
              have f : ∀ q, q ≠ 0 → q ≠ 2 → updR ρ 0 (upd (ρ 0) 2 (nI 1)) q = σ q := fun q a b => (updR_n a).trans (hF q b)
              have g : ∀ i, i ≠ 2 → updR ρ 0 (upd (ρ 0) 2 (nI 1)) 0 i = σ 0 i := fun i hi => by rw [updR_s, pk_un hi, hF 0 (by decide)]
              refine ⟨rfl, ⟨hO, hOL, hS.2.2.1, hS.2.2.2.1, fun w hw => (by cases hw; exact hO), hS.2.2.2.2.2⟩, hM.of (f 1 (by decide) (by decide)), fun c hc j hj => by rw [f 4 (by decide) (by decide)]; exact hL c hc j hj, fun j hj => by rw [f 5 (by decide) (by decide)]; exact hEf j hj, ?_, hH.of (g 4 (by decide)) (f 3 (by decide) (by decide)), ⟨by rw [updR_s]; exact pk_us, hasM_iff.mpr (fun j hj => by rw [Nat.zero_add, updR_n (by decide)]; exact hn j hj)⟩, hX.of (g 15 (by decide)) (f 9 (by decide) (by decide)), (g 17 (by decide)).trans hFt, (g 8 (by decide)).trans hoc⟩
              show BatM _ (sB S)
              rw [hb]
              exact BatM.of (b := none) hB (g 11 (by decide)) (g 12 (by decide)) (f 7 (by decide) (by decide)) (f 8 (by decide) (by decide))
            · refine go_aload_n C dX7_save_19 rfl ?_
              refine go_getR C gf_X7_13 dX7_save_20 (by decide) rfl rfl ?_
              refine go_iload_n C dX7_save_23 rfl ?_
              refine go_aload_n C dX7_save_24 rfl ?_
              refine go_getR C gf_X7_9 dX7_save_25 (by decide) rfl rfl ?_
              refine go_iload_n C dX7_save_28 rfl ?_
              refine go_ialdN C dX7_save_29 (by decide) rfl (by decide) (by omega) ?_
              refine go_top (nI (mV (sW S) i)) (by rw [hF 1 (by decide)]; have := hasM_iff.mp hM i (by omega); rw [Nat.zero_add] at this; exact this) ?_
              refine go_iastN C dX7_save_30 (by decide) rfl (by decide) (by omega) ?_
              refine go_iincN C 1 dX7_save_31 rfl rfl (by decide) rfl rfl ?_
              refine go_goto C 12 dX7_save_34 (by decide) ?_
              exact ih (n - 1) (by omega) (i + 1) _ (by omega) (fun j hj => by
                show upd (ρ 2) i _ j = _
                by_cases e : j = i
                · subst e; rw [pk_us]
                · rw [pk_un e]; exact hn j (by omega)) (fun q a => (updR_n a).trans (hF q a))
        exact L 1216 0 σ (by omega) (fun j h => absurd h (Nat.not_lt_zero _)) (fun _ _ => rfl)
      · exact absurd h4 (by omega)
    | some es =>
      rw [hb] at hB
      refine go_aload_n C dX7_save_0 rfl ?_
      refine go_getI C gf_X7_127 dX7_save_1 (by decide) rfl rfl ?_
      refine go_top _ hB.1 ?_
      refine go_if_eqN C 10 dX7_save_4 (by decide) (by omega) (fun h4 => ?_) (fun h4 => ?_)
      · exact absurd h4 (by omega)
      · refine go_bipush C (-5) dX7_save_7 rfl ?_
        refine go_iret hr dX7_save_9 rfl ?_
        exact ⟨by unfold oSave nB; rw [hb], by unfold oSave nB; rw [hb]; exact hR⟩
set_option maxHeartbeats 4000000 in
set_option maxRecDepth 100000 in
theorem k_X7_restore {σ : Mem} {S : St} (hR : RepM σ S) : CtI objM NM yX7_restore cX7_restore 2 .int 6 138 [.ref 0] σ (RQM (oRestore S).1 (oRestore S).2) := by
  obtain ⟨hS, hM, hL, hEf, hB, hH, hSv, hX, hFt, hoc⟩ := id hR
  have hO := hS.1
  have hOL := hS.2.1
  have hV := hR.V
  have hT : ∀ j, j < 1152 → σ 1 j = nI (wT (sW S) j) := fun j hj => by have := hM.1 j hj; rw [Nat.zero_add] at this; exact this
  have hLs := hV.2.2.2.1
  have hEm := hV.2.2.2.2.1
  refine ct_ofI rfl ?_ (Nat.le_of_ble_eq_true rfl) (fun X C hr => ?_)
  · intro v hv; simp only [List.mem_cons, List.not_mem_nil, or_false] at hv; rcases hv with rfl <;> rfl
  · cases hb : sB S with
    | none =>
      rw [hb] at hB
      cases hv : sS S with
      | none =>
        rw [hv] at hSv
        refine go_aload_n C dX7_restore_0 rfl ?_
        refine go_getI C gf_X7_127 dX7_restore_1 (by decide) rfl rfl ?_
        refine go_top (nI 0) hB ?_
        refine go_if_eqN C 10 dX7_restore_4 (by decide) (by omega) (fun h4 => ?_) (fun h4 => ?_)
        · refine go_aload_n C dX7_restore_10 rfl ?_
          refine go_getI C gf_X7_211 dX7_restore_11 (by decide) rfl rfl ?_
          refine go_top (nI 0) hSv ?_
          refine go_if_neN C 20 dX7_restore_14 (by decide) (by omega) (fun h14 => ?_) (fun h14 => ?_)
          · exact absurd rfl h14
          · refine go_bipush C (-4) dX7_restore_17 rfl ?_
            refine go_iret hr dX7_restore_19 rfl ?_
            exact ⟨by unfold oRestore nB; rw [hb, hv], by unfold oRestore nB; rw [hb, hv]; exact hR⟩
        · exact absurd h4 (by omega)
      | some v =>
        rw [hv] at hSv
        have hOv : OkW v := hS.2.2.2.2.1 v hv
        refine go_aload_n C dX7_restore_0 rfl ?_
        refine go_getI C gf_X7_127 dX7_restore_1 (by decide) rfl rfl ?_
        refine go_top (nI 0) hB ?_
        refine go_if_eqN C 10 dX7_restore_4 (by decide) (by omega) (fun h4 => ?_) (fun h4 => ?_)
        · refine go_aload_n C dX7_restore_10 rfl ?_
          refine go_getI C gf_X7_211 dX7_restore_11 (by decide) rfl rfl ?_
          refine go_top _ hSv.1 ?_
          refine go_if_neN C 20 dX7_restore_14 (by decide) (by omega) (fun h14 => ?_) (fun h14 => ?_)
          · refine go_iconst C (nI 0) dX7_restore_20 rfl ?_
            refine go_istore_n C dX7_restore_21 (by decide) rfl rfl ?_
            have L : ∀ (n : Nat) (i : Nat) (ρ : Mem), (i + n = 1216) → (∀ j, j < i → ρ 1 j = nI (mV v j)) → (∀ q, q ≠ 1 → ρ q = σ q) → Go objM NM X 22 [some (.ref 0), some (.int (nI i))] [] ρ := by
              intro n
              induction n using Nat.strongRecOn with
              | _ n ih =>
                intro i ρ hi hn hF
                refine go_iload_n C dX7_restore_22 rfl ?_
                refine go_sipush C (nI 1216) dX7_restore_23 rfl ?_
                refine go_icmp_geN C 47 dX7_restore_26 (by decide) (by omega) (by omega) (fun h26 => ?_) (fun h26 => ?_)
                · obtain rfl : i = 1216 := by omega
                  refine go_aload_n C dX7_restore_47 rfl ?_
                  refine go_iconst C (nI 0) dX7_restore_48 rfl ?_
                  refine go_putI C gf_X7_113 dX7_restore_49 (by decide) rfl rfl rfl rfl rfl ?_
                  refine go_aload_n C dX7_restore_52 rfl ?_
                  refine go_V0V C ok_X7_layAll lk_X7_54 dX7_restore_53 (by decide) rfl rfl rfl (k_X7_layAll (v := v) hOv (hasM_iff.mpr (fun j hj => by rw [Nat.zero_add, updR_n (by decide)]; exact hn j hj))) (by decide) (Nat.le_of_ble_eq_true rfl) (fun τ hly => ?_)
                  refine go_iconst C (nI 0) dX7_restore_56 rfl ?_
                  refine go_istore_n C dX7_restore_57 (by decide) rfl rfl ?_
                  have L2 : ∀ (n2 : Nat) (i : Nat) (ρ3 : Mem), (i + n2 = 1152) → (∀ j, j < i → ρ3 5 j = nI 0) → (∀ q, q ≠ 5 → ρ3 q = τ q) → Go objM NM X 58 [some (.ref 0), some (.int (nI i))] [] ρ3 := by
                    intro n2
                    induction n2 using Nat.strongRecOn with
                    | _ n2 ih2 =>
                      intro i ρ3 hi2 hz hF3
                      refine go_iload_n C dX7_restore_58 rfl ?_
                      refine go_sipush C (nI 1152) dX7_restore_59 rfl ?_
                      refine go_icmp_geN C 78 dX7_restore_62 (by decide) (by omega) (by omega) (fun h62 => ?_) (fun h62 => ?_)
                      · obtain rfl : i = 1152 := by omega
                        have e2 : HasM ρ3 1 0 v := hasM_iff.mpr (fun j hj => by rw [Nat.zero_add, hF3 1 (by decide), hly.2.2.2.1 1 (by decide) (by decide) (by decide), updR_n (by decide)]; exact hn j hj)
                        refine go_aload_n C dX7_restore_78 rfl ?_
                        refine go_V0P C ok_X7_blocks lk_X7_214 dX7_restore_79 (by decide) rfl rfl rfl (k_X7_blocks hOv e2) (by decide) (Nat.le_of_ble_eq_true rfl) ?_
                        refine go_iret hr dX7_restore_82 rfl ?_
                        have he : oRestore S = (nI (filled v), (v, fun _ => False, sB S, [], some v, sX S, sF S)) := by unfold oRestore nB; rw [hb, hv]
                        rw [he]
                        have f : ∀ q, q ≠ 0 → q ≠ 1 → q ≠ 4 → q ≠ 5 → q ≠ 6 → ρ3 q = σ q := fun q a b c d e => by rw [hF3 q d, hly.2.2.2.1 q a c e, updR_n a]; exact hF q b
                        have g : ∀ i, i ≠ 8 → i ≠ 4 → ρ3 0 i = σ 0 i := fun i a b => by rw [hF3 0 (by decide), hly.2.2.2.2 i a, updR_s, pk_un b, hF 0 (by decide)]
                        have g4 : ρ3 0 4 = nI 0 := by rw [hF3 0 (by decide), hly.2.2.2.2 4 (by decide), updR_s]; exact pk_us
                        refine ⟨rfl, ⟨hOv, hly.1, by show OkB (sB S); exact hS.2.2.1, ⟨Nat.zero_le _, fun w hw => by cases hw⟩, fun w hw => (by cases hw; exact hOv), hS.2.2.2.2.2⟩, e2, fun c hc j hj => by rw [hF3 4 (by decide)]; exact hly.2.1 c hc j hj, fun j hj => (hz j hj).trans (bP_f id), ?_, ⟨g4, fun i w h => by cases h⟩, SavM.of (s := some v) ⟨hSv.1, hSv.2⟩ (g 2 (by decide) (by decide)) (f 2 (by decide) (by decide) (by decide) (by decide) (by decide)), hX.of (g 15 (by decide) (by decide)) (f 9 (by decide) (by decide) (by decide) (by decide) (by decide)), (g 17 (by decide) (by decide)).trans hFt, (by rw [hF3 0 (by decide)]; exact hly.2.2.1)⟩
                        show BatM _ (sB S)
                        rw [hb]
                        exact BatM.of (b := none) hB (g 11 (by decide) (by decide)) (g 12 (by decide) (by decide)) (f 7 (by decide) (by decide) (by decide) (by decide) (by decide)) (f 8 (by decide) (by decide) (by decide) (by decide) (by decide))
                      · refine go_aload_n C dX7_restore_65 rfl ?_
                        refine go_getR C gf_X7_22 dX7_restore_66 (by decide) rfl rfl ?_
                        refine go_iload_n C dX7_restore_69 rfl ?_
                        refine go_iconst C (nI 0) dX7_restore_70 rfl ?_
                        refine go_zastN C dX7_restore_71 (by decide) rfl (by decide) (by omega) ?_
                        refine go_iincN C 1 dX7_restore_72 rfl rfl (by decide) rfl rfl ?_
                        refine go_goto C 58 dX7_restore_75 (by decide) ?_
                        exact ih2 (n2 - 1) (by omega) (i + 1) _ (by omega) (fun j hj => by
                          show upd (ρ3 5) i (nI 0) j = nI 0
                          by_cases e : j = i
                          · subst e; exact pk_us
                          · rw [pk_un e]; exact hz j (by omega)) (fun q a => (updR_n a).trans (hF3 q a))
                  exact L2 1152 0 τ (by omega) (fun j h => absurd h (Nat.not_lt_zero _)) (fun _ _ => rfl)
                · refine go_aload_n C dX7_restore_29 rfl ?_
                  refine go_getR C gf_X7_9 dX7_restore_30 (by decide) rfl rfl ?_
                  refine go_iload_n C dX7_restore_33 rfl ?_
                  refine go_aload_n C dX7_restore_34 rfl ?_
                  refine go_getR C gf_X7_13 dX7_restore_35 (by decide) rfl rfl ?_
                  refine go_iload_n C dX7_restore_38 rfl ?_
                  refine go_ialdN C dX7_restore_39 (by decide) rfl (by decide) (by omega) ?_
                  refine go_top (nI (mV v i)) (by rw [hF 2 (by decide)]; have := hasM_iff.mp hSv.2 i (by omega); rw [Nat.zero_add] at this; exact this) ?_
                  refine go_iastN C dX7_restore_40 (by decide) rfl (by decide) (by omega) ?_
                  refine go_iincN C 1 dX7_restore_41 rfl rfl (by decide) rfl rfl ?_
                  refine go_goto C 22 dX7_restore_44 (by decide) ?_
                  exact ih (n - 1) (by omega) (i + 1) _ (by omega) (fun j hj => by
                    show upd (ρ 1) i _ j = _
                    by_cases e : j = i
                    · subst e; rw [pk_us]
                    · rw [pk_un e]; exact hn j (by omega)) (fun q a => (updR_n a).trans (hF q a))
            exact L 1216 0 σ (by omega) (fun j h => absurd h (Nat.not_lt_zero _)) (fun _ _ => rfl)
          · exact absurd h14 (by omega)
        · exact absurd h4 (by omega)
    | some es =>
      rw [hb] at hB
      refine go_aload_n C dX7_restore_0 rfl ?_
      refine go_getI C gf_X7_127 dX7_restore_1 (by decide) rfl rfl ?_
      refine go_top _ hB.1 ?_
      refine go_if_eqN C 10 dX7_restore_4 (by decide) (by omega) (fun h4 => ?_) (fun h4 => ?_)
      · exact absurd h4 (by omega)
      · refine go_bipush C (-5) dX7_restore_7 rfl ?_
        refine go_iret hr dX7_restore_9 rfl ?_
        exact ⟨by unfold oRestore nB; rw [hb], by unfold oRestore nB; rw [hb]; exact hR⟩
