set_option maxHeartbeats 4000000 in
set_option maxRecDepth 100000 in
theorem k_X6_originOf {σ : Mem} {S : St} (hR : RepC σ S) {k c : Nat} (hk : k < 1152) (hc : c < 4) : CtI objC NC yX6_originOf cX6_originOf 7 .int 2 41 [.ref 0, .int (nI k), .int (nI c)] σ (Pv (orgI (sW S) c k) σ) := by
  obtain ⟨hS, hW, hL, hEf, hB, hH, hSv, hX, hFt⟩ := id hR
  have hO := hS.1
  have hOL := hS.2.1
  have hlk := lit_lt hOL hc hk
  have hls := lossN_lt hO hc hk
  have hek := emN_lt hO hc hk
  refine ct_ofI rfl ?_ (Nat.le_of_ble_eq_true rfl) (fun X C hr => ?_)
  · intro v hv; simp only [List.mem_cons, List.not_mem_nil, or_false] at hv; rcases hv with rfl | rfl | rfl <;> rfl
  · have L : ∀ (n : Nat) (d : Nat) (v6 : Option Value), (d + n = 6) → (dirF (sW S) c k n d = dirF (sW S) c k 6 0) → (¬ o6 (sW S) c k) → (¬ o7 (sW S) c k) → (¬ o8 (sW S) c k) → (0 < lit (sW S) c k) → Go objC NC X 110 [some (.ref 0), some (.int (nI k)), some (.int (nI c)), some (.int (nI (lit (sW S) c k))), some (.int (nI (lossN (sW S) c k))), some (.int (nI d)), v6] [] σ := by
      intro n
      induction n using Nat.strongRecOn with
      | _ n ih =>
        intro d v6 hd he h6 h7 h8 h0
        have hor := org_d h6 h7 h8
        obtain ⟨hhit, hh6⟩ := org_hit hOL hc hk h0 h6 h7 h8
        refine go_iload C dX6_originOf_110 rfl ?_
        refine go_bipush C (nI 6) dX6_originOf_112 rfl ?_
        refine go_icmp_geN C 158 dX6_originOf_114 (by decide) (by omega) (by omega) (fun h114 => ?_) (fun h114 => ?_)
        · obtain rfl : n = 0 := by omega
          exact absurd (show dirF (sW S) c k 6 0 = 6 by rw [← he]; show d = 6; omega) (by omega)
        · obtain ⟨n, rfl⟩ : ∃ n2, n = n2 + 1 := ⟨n - 1, by omega⟩
          refine go_iload_n C dX6_originOf_117 rfl ?_
          refine go_iload C dX6_originOf_118 rfl ?_
          refine go_S2P C ok_X2_neighbor lk_X6_185 dX6_originOf_120 (k_X2_neighbor (by omega) (by omega)) (by decide) (Nat.le_of_ble_eq_true rfl) ?_
          refine go_istore C dX6_originOf_123 (by decide) rfl rfl ?_
          refine go_iload C dX6_originOf_125 rfl ?_
          refine go_iconst C (-1) dX6_originOf_127 rfl ?_
          refine go_icmp_eqO C 152 dX6_originOf_128 (by decide) (fun j hj => by have := nbr_lt hk hj; omega) (fun h128 => ?_) (fun h128 => ?_)
          · have e2 := dirF_f (w := sW S) (c := c) (k := k) (n := n) (d := d) (fun z => by obtain ⟨j, z1, -⟩ := z; rw [h128] at z1; cases z1)
            refine go_iincN C 1 dX6_originOf_152 rfl rfl (by decide) rfl rfl ?_
            refine go_goto C 110 dX6_originOf_155 (by decide) ?_
            exact ih n (by omega) (d + 1) _ (by omega) (e2 ▸ he) h6 h7 h8 h0
          · obtain ⟨j, hj⟩ := h128
            rw [hj]
            dsimp only [oI]
            have hjl := nbr_lt hk hj
            have hlj := lit_lt hOL hc hjl
            refine go_aload_n C dX6_originOf_131 rfl ?_
            refine go_getR C gf_X6_18 dX6_originOf_132 (by decide) rfl rfl ?_
            refine go_iload_n C dX6_originOf_135 rfl ?_
            refine go_aald C dX6_originOf_136 (by decide) rfl (Or.inl rfl) (by decide) (jsL hc) ?_
            refine go_iload C dX6_originOf_137 rfl ?_
            refine go_ialdN C dX6_originOf_139 (Nat.lt_of_lt_of_le (Nat.add_lt_add_left hc 6) (by decide)) (hoL hc) (by decide) (by omega) ?_
            refine go_top _ (hL c hc _ (by omega)) ?_
            refine go_iconst C (nI 1) dX6_originOf_140 rfl ?_
            refine go_isub C dX6_originOf_141 ?_
            refine go_iload C dX6_originOf_142 rfl ?_
            refine go_isub C dX6_originOf_144 ?_
            refine go_iload_n C dX6_originOf_145 rfl ?_
            refine go_icmp_ne C 152 dX6_originOf_146 (by decide) (fun h146 => ?_) (fun h146 => ?_)
            · rw [sub3 (by omega) (by omega) (by omega)] at h146
              have e2 := dirF_f (w := sW S) (c := c) (k := k) (n := n) (d := d) (fun z => by obtain ⟨j2, z1, z2⟩ := z; rw [hj] at z1; cases z1; exact h146 z2)
              refine go_iincN C 1 dX6_originOf_152 rfl rfl (by decide) rfl rfl ?_
              refine go_goto C 110 dX6_originOf_155 (by decide) ?_
              exact ih n (by omega) (d + 1) _ (by omega) (e2 ▸ he) h6 h7 h8 h0
            · rw [sub3 (by omega) (by omega) (by omega)] at h146
              have e2 := dirF_t (w := sW S) (c := c) (k := k) (n := n) (d := d) ⟨j, hj, h146⟩
              refine go_iload C dX6_originOf_149 rfl ?_
              refine go_iret hr dX6_originOf_151 rfl ?_
              exact ⟨by unfold orgI; rw [if_neg (by omega), hor, ← he, e2], rfl⟩
    refine go_aload_n C dX6_originOf_0 rfl ?_
    refine go_getR C gf_X6_18 dX6_originOf_1 (by decide) rfl rfl ?_
    refine go_iload_n C dX6_originOf_4 rfl ?_
    refine go_aald C dX6_originOf_5 (by decide) rfl (Or.inl rfl) (by decide) (jsL hc) ?_
    refine go_iload_n C dX6_originOf_6 rfl ?_
    refine go_ialdN C dX6_originOf_7 (Nat.lt_of_lt_of_le (Nat.add_lt_add_left hc 6) (by decide)) (hoL hc) (by decide) (by omega) ?_
    refine go_top _ (hL c hc _ hk) ?_
    refine go_istore_n C dX6_originOf_8 (by decide) rfl rfl ?_
    refine go_iload_n C dX6_originOf_9 rfl ?_
    refine go_if_neN C 16 dX6_originOf_10 (by decide) (by omega) (fun h10 => ?_) (fun h10 => ?_)
    · refine go_iload_n C dX6_originOf_16 rfl ?_
      refine go_aload_n C dX6_originOf_17 rfl ?_
      refine go_getR C gf_X6_12 dX6_originOf_18 (by decide) rfl rfl ?_
      refine go_iload_n C dX6_originOf_21 rfl ?_
      refine go_iload_n C dX6_originOf_22 rfl ?_
      refine go_V2P C ok_X5_emissionAt lk_X6_216 dX6_originOf_23 (by decide) rfl rfl rfl (k_X5_emissionAt hO hW hk hc) (by decide) (Nat.le_of_ble_eq_true rfl) ?_
      refine go_icmp_neN C 32 dX6_originOf_26 (by decide) (by omega) (by omega) (fun h26 => ?_) (fun h26 => ?_)
      · have hn6 : ¬ o6 (sW S) c k := fun z => h26 z.2
        refine go_aload_n C dX6_originOf_32 rfl ?_
        refine go_getR C gf_X6_12 dX6_originOf_33 (by decide) rfl rfl ?_
        refine go_iload_n C dX6_originOf_36 rfl ?_
        refine go_iload_n C dX6_originOf_37 rfl ?_
        refine go_V2P C ok_X5_lossAt lk_X6_176 dX6_originOf_38 (by decide) rfl rfl rfl (k_X5_lossAt hO hW hk hc) (by decide) (Nat.le_of_ble_eq_true rfl) ?_
        refine go_istore C dX6_originOf_41 (by decide) rfl rfl ?_
        refine go_iload_n C dX6_originOf_43 rfl ?_
        refine go_iconst C (nI 3) dX6_originOf_44 rfl ?_
        refine go_icmp_neN C 107 dX6_originOf_45 (by decide) (by omega) (by omega) (fun h45 => ?_) (fun h45 => ?_)
        · have hn7 : ¬ o7 (sW S) c k := fun z => h45 z.1
          have hn8 : ¬ o8 (sW S) c k := fun z => h45 z.1
          refine go_iconst C (nI 0) dX6_originOf_107 rfl ?_
          refine go_istore C dX6_originOf_108 (by decide) rfl rfl ?_
          exact L 6 0 _ (by omega) rfl hn6 hn7 hn8 (by omega)
        · subst h45
          refine go_iload_n C dX6_originOf_48 rfl ?_
          refine go_iconst C (nI 3) dX6_originOf_49 rfl ?_
          refine go_S2P C ok_X2_neighbor lk_X6_185 dX6_originOf_50 (k_X2_neighbor hk (by decide)) (by decide) (Nat.le_of_ble_eq_true rfl) ?_
          have hup : nbr k 3 = if cY k < 7 then some (k + 12) else none := rfl
          refine go_istore C dX6_originOf_53 (by decide) rfl rfl ?_
          refine go_iload C dX6_originOf_55 rfl ?_
          refine go_iconst C (-1) dX6_originOf_57 rfl ?_
          refine go_icmp_neO C 73 dX6_originOf_58 (by decide) (fun j hj => by have := nbr_lt hk hj; omega) (fun h58 => ?_) (fun h58 => ?_)
          · obtain ⟨j, hj⟩ := h58
            have hy7 : cY k < 7 := by
              rw [hj] at hup
              by_cases z : cY k < 7
              · exact z
              · rw [if_neg z] at hup; cases hup
            have hj12 : j = k + 12 := by rw [hj, if_pos hy7] at hup; cases hup; rfl
            have hn7 : ¬ o7 (sW S) 3 k := fun z => by have := z.2.1; omega
            refine go_iload C dX6_originOf_73 rfl ?_
            refine go_iconst C (-1) dX6_originOf_75 rfl ?_
            refine go_icmp_eqO C 107 dX6_originOf_76 (by decide) (fun j hj => by first | (cases hj; done) | (have := nbr_lt hk hj; omega)) (fun h76 => ?_) (fun h76 => ?_)
            · exact absurd h76 (by rw [hj]; intro z; cases z)
            · have hjl := nbr_lt hk hj
              have hlj := lit_lt hOL (c := 3) (by decide) hjl
              rw [hj]
              dsimp only [oI]
              refine go_iload_n C dX6_originOf_79 rfl ?_
              refine go_bipush C (nI 15) dX6_originOf_80 rfl ?_
              refine go_icmp_neN C 107 dX6_originOf_82 (by decide) (by omega) (by omega) (fun h82 => ?_) (fun h82 => ?_)
              · have hn8 : ¬ o8 (sW S) 3 k := fun z => h82 z.2.2.1
                refine go_iconst C (nI 0) dX6_originOf_107 rfl ?_
                refine go_istore C dX6_originOf_108 (by decide) rfl rfl ?_
                exact L 6 0 _ (by omega) rfl hn6 hn7 hn8 (by omega)
              · refine go_aload_n C dX6_originOf_85 rfl ?_
                refine go_getR C gf_X6_18 dX6_originOf_86 (by decide) rfl rfl ?_
                refine go_iconst C (nI 3) dX6_originOf_89 rfl ?_
                refine go_aald C dX6_originOf_90 (by decide) rfl (Or.inl rfl) (by decide) rfl ?_
                refine go_iload C dX6_originOf_91 rfl ?_
                refine go_ialdN C dX6_originOf_93 (by decide) rfl (by decide) (by omega) ?_
                refine go_top _ (hL 3 (by decide) _ hjl) ?_
                refine go_bipush C (nI 15) dX6_originOf_94 rfl ?_
                refine go_icmp_neN C 107 dX6_originOf_96 (by decide) (by omega) (by omega) (fun h96 => ?_) (fun h96 => ?_)
                · have hn8 : ¬ o8 (sW S) 3 k := fun z => h96 (by rw [hj12]; exact z.2.2.2.1)
                  refine go_iconst C (nI 0) dX6_originOf_107 rfl ?_
                  refine go_istore C dX6_originOf_108 (by decide) rfl rfl ?_
                  exact L 6 0 _ (by omega) rfl hn6 hn7 hn8 (by omega)
                · refine go_iload C dX6_originOf_99 rfl ?_
                  refine go_if_neN C 107 dX6_originOf_101 (by decide) (by omega) (fun h101 => ?_) (fun h101 => ?_)
                  · have hn8 : ¬ o8 (sW S) 3 k := fun z => h101 z.2.2.2.2
                    refine go_iconst C (nI 0) dX6_originOf_107 rfl ?_
                    refine go_istore C dX6_originOf_108 (by decide) rfl rfl ?_
                    exact L 6 0 _ (by omega) rfl hn6 hn7 hn8 (by omega)
                  · have hq8 : o8 (sW S) 3 k := ⟨rfl, hy7, h82, by rw [← hj12]; exact h96, h101⟩
                    refine go_bipush C (nI 8) dX6_originOf_104 rfl ?_
                    refine go_iret hr dX6_originOf_106 rfl ?_
                    first | exact ⟨by unfold orgI; rw [if_neg (by omega), org_6 hq6], rfl⟩ | exact ⟨by unfold orgI; rw [if_neg (by omega), org_7 hn6 hq7], rfl⟩ | exact ⟨by unfold orgI; rw [if_neg (by omega), org_8 hn6 hn7 hq8], rfl⟩
          · have hy7 : cY k = 7 := by
              rw [h58] at hup
              have := cY_lt k
              by_cases z : cY k < 7
              · rw [if_pos z] at hup; cases hup
              · omega
            have hn8 : ¬ o8 (sW S) 3 k := fun z => by have := z.2.1; omega
            refine go_iload_n C dX6_originOf_61 rfl ?_
            refine go_bipush C (nI 15) dX6_originOf_62 rfl ?_
            refine go_iload C dX6_originOf_64 rfl ?_
            refine go_isubN C dX6_originOf_66 (by omega) ?_
            refine go_icmp_neN C 73 dX6_originOf_67 (by decide) (by omega) (by omega) (fun h67 => ?_) (fun h67 => ?_)
            · have hn7 : ¬ o7 (sW S) 3 k := fun z => h67 z.2.2
              rw [h58]
              refine go_iload C dX6_originOf_73 rfl ?_
              refine go_iconst C (-1) dX6_originOf_75 rfl ?_
              refine go_icmp_eqO C 107 dX6_originOf_76 (by decide) (fun j hj => by first | (cases hj; done) | (have := nbr_lt hk hj; omega)) (fun h76 => ?_) (fun h76 => ?_)
              · skip
                refine go_iconst C (nI 0) dX6_originOf_107 rfl ?_
                refine go_istore C dX6_originOf_108 (by decide) rfl rfl ?_
                exact L 6 0 _ (by omega) rfl hn6 hn7 hn8 (by omega)
              · exact absurd h76 (by rintro ⟨z, hz⟩; cases hz)
            · have hq7 : o7 (sW S) 3 k := ⟨rfl, hy7, h67⟩
              refine go_bipush C (nI 7) dX6_originOf_70 rfl ?_
              refine go_iret hr dX6_originOf_72 rfl ?_
              first | exact ⟨by unfold orgI; rw [if_neg (by omega), org_6 hq6], rfl⟩ | exact ⟨by unfold orgI; rw [if_neg (by omega), org_7 hn6 hq7], rfl⟩ | exact ⟨by unfold orgI; rw [if_neg (by omega), org_8 hn6 hn7 hq8], rfl⟩
      · have hq6 : o6 (sW S) c k := ⟨fun z => by subst z; have := emN_3 hO hk; omega, h26⟩
        refine go_bipush C (nI 6) dX6_originOf_29 rfl ?_
        refine go_iret hr dX6_originOf_31 rfl ?_
        first | exact ⟨by unfold orgI; rw [if_neg (by omega), org_6 hq6], rfl⟩ | exact ⟨by unfold orgI; rw [if_neg (by omega), org_7 hn6 hq7], rfl⟩ | exact ⟨by unfold orgI; rw [if_neg (by omega), org_8 hn6 hn7 hq8], rfl⟩
    · refine go_bipush C (-4) dX6_originOf_13 rfl ?_
      refine go_iret hr dX6_originOf_15 rfl ?_
      exact ⟨by unfold orgI; rw [if_pos h10], rfl⟩
