/-! The text of the model: refusing, making, reading. -/
theorem rdMN {σ : Mem} {b : Nat} {l : List Nat} (h : ∀ i v, l[i]? = some v → σ 10 (b + i) = nI v) {x : Nat} (i : Nat) (hi : i < l.length) (e : x = b + i) : σ 10 x = nI (gN l i) := by
  have q := List.getElem?_eq_getElem hi
  rw [e, h i _ q]
  unfold gN
  rw [List.getD_eq_getElem?_getD, q]; rfl
set_option maxHeartbeats 4000000 in
set_option maxRecDepth 100000 in
theorem k_X7_isGood {σ : Mem} {j k s : Nat} {l : List Nat} (hk : cntN k ≠ 0) (hl : l.length = cntN k) (hv : ∀ v, v ∈ l → v < 100) (hcm : CmdM σ j (k, s, l)) (hj : j < 59) : CtI objM NM yX7_isGood cX7_isGood 8 .boolean 2 44 [.ref 0, .int (nI (9 * j))] σ (Pv (bP (gdC k l)) σ) := by
  have hcv : ∀ i v, l[i]? = some v → σ 10 (9 * j + 2 + i) = nI v := hcm.2.2
  have hck : σ 10 (9 * j) = nI k := hcm.1
  have h3 : 3 ≤ l.length := by rw [hl]; rcases cntN_c hk with e | e | e | e <;> rw [e] <;> decide
  refine ct_ofI rfl ?_ (Nat.le_of_ble_eq_true rfl) (fun X C hr => ?_)
  · intro v hv; simp only [List.mem_cons, List.not_mem_nil, or_false] at hv; rcases hv with rfl | rfl <;> rfl
  · refine go_aload_n C dX7_isGood_0 rfl ?_
    refine go_getR C gf_X7_45 dX7_isGood_1 (by decide) rfl rfl ?_
    refine go_iload_n C dX7_isGood_4 rfl ?_
    refine go_iconst C (nI 2) dX7_isGood_5 rfl ?_
    refine go_iaddN C dX7_isGood_6 ?_
    refine go_ialdN C dX7_isGood_7 (by decide) rfl (by decide) (by omega) ?_
    refine go_top _ (rdMN hcv 0 (by omega) (by omega)) ?_
    refine go_istore_n C dX7_isGood_8 (by decide) rfl rfl ?_
    refine go_aload_n C dX7_isGood_9 rfl ?_
    refine go_getR C gf_X7_45 dX7_isGood_10 (by decide) rfl rfl ?_
    refine go_iload_n C dX7_isGood_13 rfl ?_
    refine go_iconst C (nI 3) dX7_isGood_14 rfl ?_
    refine go_iaddN C dX7_isGood_15 ?_
    refine go_ialdN C dX7_isGood_16 (by decide) rfl (by decide) (by omega) ?_
    refine go_top _ (rdMN hcv 1 (by omega) (by omega)) ?_
    refine go_istore_n C dX7_isGood_17 (by decide) rfl rfl ?_
    refine go_aload_n C dX7_isGood_18 rfl ?_
    refine go_getR C gf_X7_45 dX7_isGood_19 (by decide) rfl rfl ?_
    refine go_iload_n C dX7_isGood_22 rfl ?_
    refine go_iconst C (nI 4) dX7_isGood_23 rfl ?_
    refine go_iaddN C dX7_isGood_24 ?_
    refine go_ialdN C dX7_isGood_25 (by decide) rfl (by decide) (by omega) ?_
    refine go_top _ (rdMN hcv 2 (by omega) (by omega)) ?_
    refine go_istore C dX7_isGood_26 (by decide) rfl rfl ?_
    refine go_aload_n C dX7_isGood_28 rfl ?_
    refine go_getR C gf_X7_45 dX7_isGood_29 (by decide) rfl rfl ?_
    refine go_iload_n C dX7_isGood_32 rfl ?_
    refine go_ialdN C dX7_isGood_33 (by decide) rfl (by decide) (by omega) ?_
    refine go_top _ hck ?_
    rcases cntN_c hk with rfl | rfl | rfl | rfl
    · have hln : l.length = 4 := hl
      have hg := gd_s (l := l) hv
      have hb0 := gN_lt hv 0
      have hb1 := gN_lt hv 1
      have hb2 := gN_lt hv 2
      have hb3 := gN_lt hv 3
      refine go_lookup C 60 26 dX7_isGood_34 (by decide) (sw_off (nI_int (by decide)) (by decide)) (by decide) ?_
      refine go_iload_n C dX7_isGood_60 rfl ?_
      refine go_iload_n C dX7_isGood_61 rfl ?_
      refine go_iload C dX7_isGood_62 rfl ?_
      refine go_S3P C ok_X7_isCell lk_X7_71 dX7_isGood_64 (k_X7_isCell _ _ _) (by decide) (Nat.le_of_ble_eq_true rfl) ?_
      refine go_if_eqB C 88 dX7_isGood_67 (by decide) (fun h67 => ?_) (fun h67 => ?_)
      · refine go_iconst C (nI 0) dX7_isGood_88 rfl ?_
        refine go_iret hr dX7_isGood_89 rfl ?_
        refine ⟨?_, rfl⟩
        first | (exfalso; omega) | exact bP_t (hg.mpr ⟨by assumption, by assumption⟩) | exact bP_t (hg.mpr ⟨by assumption, by assumption, by assumption⟩) | exact bP_t (hg.mpr ⟨by assumption, by assumption, by assumption, by assumption, by assumption, by assumption⟩) | (refine bP_f (fun z => ?_); have y := hg.mp z; obtain ⟨y1, y2⟩ := y; contradiction) | (refine bP_f (fun z => ?_); have y := hg.mp z; obtain ⟨y1, y2, y3⟩ := y; contradiction) | (refine bP_f (fun z => ?_); have y := hg.mp z; obtain ⟨y1, y2, y3, y4, y5, y6⟩ := y; first | contradiction | omega)
      · refine go_aload_n C dX7_isGood_70 rfl ?_
        refine go_getR C gf_X7_45 dX7_isGood_71 (by decide) rfl rfl ?_
        refine go_iload_n C dX7_isGood_74 rfl ?_
        refine go_iconst C (nI 5) dX7_isGood_75 rfl ?_
        refine go_iaddN C dX7_isGood_76 ?_
        refine go_ialdN C dX7_isGood_77 (by decide) rfl (by decide) (by omega) ?_
        refine go_top _ (rdMN hcv 3 (by omega) (by omega)) ?_
        refine go_S1P C ok_X7_isType lk_X7_123 dX7_isGood_78 (k_X7_isType _) (by decide) (Nat.le_of_ble_eq_true rfl) ?_
        refine go_if_eqB C 88 dX7_isGood_81 (by decide) (fun h81 => ?_) (fun h81 => ?_)
        · refine go_iconst C (nI 0) dX7_isGood_88 rfl ?_
          refine go_iret hr dX7_isGood_89 rfl ?_
          refine ⟨?_, rfl⟩
          first | (exfalso; omega) | exact bP_t (hg.mpr ⟨by assumption, by assumption⟩) | exact bP_t (hg.mpr ⟨by assumption, by assumption, by assumption⟩) | exact bP_t (hg.mpr ⟨by assumption, by assumption, by assumption, by assumption, by assumption, by assumption⟩) | (refine bP_f (fun z => ?_); have y := hg.mp z; obtain ⟨y1, y2⟩ := y; contradiction) | (refine bP_f (fun z => ?_); have y := hg.mp z; obtain ⟨y1, y2, y3⟩ := y; contradiction) | (refine bP_f (fun z => ?_); have y := hg.mp z; obtain ⟨y1, y2, y3, y4, y5, y6⟩ := y; first | contradiction | omega)
        · refine go_iconst C (nI 1) dX7_isGood_84 rfl ?_
          refine go_goto C 89 dX7_isGood_85 (by decide) ?_
          refine go_iret hr dX7_isGood_89 rfl ?_
          refine ⟨?_, rfl⟩
          first | (exfalso; omega) | exact bP_t (hg.mpr ⟨by assumption, by assumption⟩) | exact bP_t (hg.mpr ⟨by assumption, by assumption, by assumption⟩) | exact bP_t (hg.mpr ⟨by assumption, by assumption, by assumption, by assumption, by assumption, by assumption⟩) | (refine bP_f (fun z => ?_); have y := hg.mp z; obtain ⟨y1, y2⟩ := y; contradiction) | (refine bP_f (fun z => ?_); have y := hg.mp z; obtain ⟨y1, y2, y3⟩ := y; contradiction) | (refine bP_f (fun z => ?_); have y := hg.mp z; obtain ⟨y1, y2, y3, y4, y5, y6⟩ := y; first | contradiction | omega)
    · have hln : l.length = 7 := hl
      have hg := gd_f (l := l) hv
      have hb0 := gN_lt hv 0
      have hb1 := gN_lt hv 1
      have hb2 := gN_lt hv 2
      have hb3 := gN_lt hv 3
      have hb4 := gN_lt hv 4
      have hb5 := gN_lt hv 5
      have hb6 := gN_lt hv 6
      refine go_lookup C 90 56 dX7_isGood_34 (by decide) (sw_off (nI_int (by decide)) (by decide)) (by decide) ?_
      refine go_aload_n C dX7_isGood_90 rfl ?_
      refine go_getR C gf_X7_45 dX7_isGood_91 (by decide) rfl rfl ?_
      refine go_iload_n C dX7_isGood_94 rfl ?_
      refine go_iconst C (nI 5) dX7_isGood_95 rfl ?_
      refine go_iaddN C dX7_isGood_96 ?_
      refine go_ialdN C dX7_isGood_97 (by decide) rfl (by decide) (by omega) ?_
      refine go_top _ (rdMN hcv 3 (by omega) (by omega)) ?_
      refine go_istore C dX7_isGood_98 (by decide) rfl rfl ?_
      refine go_aload_n C dX7_isGood_100 rfl ?_
      refine go_getR C gf_X7_45 dX7_isGood_101 (by decide) rfl rfl ?_
      refine go_iload_n C dX7_isGood_104 rfl ?_
      refine go_bipush C (nI 6) dX7_isGood_105 rfl ?_
      refine go_iaddN C dX7_isGood_107 ?_
      refine go_ialdN C dX7_isGood_108 (by decide) rfl (by decide) (by omega) ?_
      refine go_top _ (rdMN hcv 4 (by omega) (by omega)) ?_
      refine go_istore C dX7_isGood_109 (by decide) rfl rfl ?_
      refine go_aload_n C dX7_isGood_111 rfl ?_
      refine go_getR C gf_X7_45 dX7_isGood_112 (by decide) rfl rfl ?_
      refine go_iload_n C dX7_isGood_115 rfl ?_
      refine go_bipush C (nI 7) dX7_isGood_116 rfl ?_
      refine go_iaddN C dX7_isGood_118 ?_
      refine go_ialdN C dX7_isGood_119 (by decide) rfl (by decide) (by omega) ?_
      refine go_top _ (rdMN hcv 5 (by omega) (by omega)) ?_
      refine go_istore C dX7_isGood_120 (by decide) rfl rfl ?_
      refine go_iload_n C dX7_isGood_122 rfl ?_
      refine go_iload_n C dX7_isGood_123 rfl ?_
      refine go_iload C dX7_isGood_124 rfl ?_
      refine go_S3P C ok_X7_isCell lk_X7_71 dX7_isGood_126 (k_X7_isCell _ _ _) (by decide) (Nat.le_of_ble_eq_true rfl) ?_
      refine go_if_eqB C 182 dX7_isGood_129 (by decide) (fun h129 => ?_) (fun h129 => ?_)
      · refine go_iconst C (nI 0) dX7_isGood_182 rfl ?_
        refine go_iret hr dX7_isGood_183 rfl ?_
        refine ⟨?_, rfl⟩
        first | (exfalso; omega) | exact bP_t (hg.mpr ⟨by assumption, by assumption⟩) | exact bP_t (hg.mpr ⟨by assumption, by assumption, by assumption⟩) | exact bP_t (hg.mpr ⟨by assumption, by assumption, by assumption, by assumption, by assumption, by assumption⟩) | (refine bP_f (fun z => ?_); have y := hg.mp z; obtain ⟨y1, y2⟩ := y; contradiction) | (refine bP_f (fun z => ?_); have y := hg.mp z; obtain ⟨y1, y2, y3⟩ := y; contradiction) | (refine bP_f (fun z => ?_); have y := hg.mp z; obtain ⟨y1, y2, y3, y4, y5, y6⟩ := y; first | contradiction | omega)
      · refine go_iload C dX7_isGood_132 rfl ?_
        refine go_iload C dX7_isGood_134 rfl ?_
        refine go_iload C dX7_isGood_136 rfl ?_
        refine go_S3P C ok_X7_isCell lk_X7_71 dX7_isGood_138 (k_X7_isCell _ _ _) (by decide) (Nat.le_of_ble_eq_true rfl) ?_
        refine go_if_eqB C 182 dX7_isGood_141 (by decide) (fun h141 => ?_) (fun h141 => ?_)
        · refine go_iconst C (nI 0) dX7_isGood_182 rfl ?_
          refine go_iret hr dX7_isGood_183 rfl ?_
          refine ⟨?_, rfl⟩
          first | (exfalso; omega) | exact bP_t (hg.mpr ⟨by assumption, by assumption⟩) | exact bP_t (hg.mpr ⟨by assumption, by assumption, by assumption⟩) | exact bP_t (hg.mpr ⟨by assumption, by assumption, by assumption, by assumption, by assumption, by assumption⟩) | (refine bP_f (fun z => ?_); have y := hg.mp z; obtain ⟨y1, y2⟩ := y; contradiction) | (refine bP_f (fun z => ?_); have y := hg.mp z; obtain ⟨y1, y2, y3⟩ := y; contradiction) | (refine bP_f (fun z => ?_); have y := hg.mp z; obtain ⟨y1, y2, y3, y4, y5, y6⟩ := y; first | contradiction | omega)
        · refine go_iload C dX7_isGood_144 rfl ?_
          refine go_iload_n C dX7_isGood_146 rfl ?_
          refine go_icmp_ltN C 182 dX7_isGood_147 (by decide) (by omega) (by omega) (fun h147 => ?_) (fun h147 => ?_)
          · refine go_iconst C (nI 0) dX7_isGood_182 rfl ?_
            refine go_iret hr dX7_isGood_183 rfl ?_
            refine ⟨?_, rfl⟩
            first | (exfalso; omega) | exact bP_t (hg.mpr ⟨by assumption, by assumption⟩) | exact bP_t (hg.mpr ⟨by assumption, by assumption, by assumption⟩) | exact bP_t (hg.mpr ⟨by assumption, by assumption, by assumption, by assumption, by assumption, by assumption⟩) | (refine bP_f (fun z => ?_); have y := hg.mp z; obtain ⟨y1, y2⟩ := y; contradiction) | (refine bP_f (fun z => ?_); have y := hg.mp z; obtain ⟨y1, y2, y3⟩ := y; contradiction) | (refine bP_f (fun z => ?_); have y := hg.mp z; obtain ⟨y1, y2, y3, y4, y5, y6⟩ := y; first | contradiction | omega)
          · refine go_iload C dX7_isGood_150 rfl ?_
            refine go_iload_n C dX7_isGood_152 rfl ?_
            refine go_icmp_ltN C 182 dX7_isGood_153 (by decide) (by omega) (by omega) (fun h153 => ?_) (fun h153 => ?_)
            · refine go_iconst C (nI 0) dX7_isGood_182 rfl ?_
              refine go_iret hr dX7_isGood_183 rfl ?_
              refine ⟨?_, rfl⟩
              first | (exfalso; omega) | exact bP_t (hg.mpr ⟨by assumption, by assumption⟩) | exact bP_t (hg.mpr ⟨by assumption, by assumption, by assumption⟩) | exact bP_t (hg.mpr ⟨by assumption, by assumption, by assumption, by assumption, by assumption, by assumption⟩) | (refine bP_f (fun z => ?_); have y := hg.mp z; obtain ⟨y1, y2⟩ := y; contradiction) | (refine bP_f (fun z => ?_); have y := hg.mp z; obtain ⟨y1, y2, y3⟩ := y; contradiction) | (refine bP_f (fun z => ?_); have y := hg.mp z; obtain ⟨y1, y2, y3, y4, y5, y6⟩ := y; first | contradiction | omega)
            · refine go_iload C dX7_isGood_156 rfl ?_
              refine go_iload C dX7_isGood_158 rfl ?_
              refine go_icmp_ltN C 182 dX7_isGood_160 (by decide) (by omega) (by omega) (fun h160 => ?_) (fun h160 => ?_)
              · refine go_iconst C (nI 0) dX7_isGood_182 rfl ?_
                refine go_iret hr dX7_isGood_183 rfl ?_
                refine ⟨?_, rfl⟩
                first | (exfalso; omega) | exact bP_t (hg.mpr ⟨by assumption, by assumption⟩) | exact bP_t (hg.mpr ⟨by assumption, by assumption, by assumption⟩) | exact bP_t (hg.mpr ⟨by assumption, by assumption, by assumption, by assumption, by assumption, by assumption⟩) | (refine bP_f (fun z => ?_); have y := hg.mp z; obtain ⟨y1, y2⟩ := y; contradiction) | (refine bP_f (fun z => ?_); have y := hg.mp z; obtain ⟨y1, y2, y3⟩ := y; contradiction) | (refine bP_f (fun z => ?_); have y := hg.mp z; obtain ⟨y1, y2, y3, y4, y5, y6⟩ := y; first | contradiction | omega)
              · refine go_aload_n C dX7_isGood_163 rfl ?_
                refine go_getR C gf_X7_45 dX7_isGood_164 (by decide) rfl rfl ?_
                refine go_iload_n C dX7_isGood_167 rfl ?_
                refine go_bipush C (nI 8) dX7_isGood_168 rfl ?_
                refine go_iaddN C dX7_isGood_170 ?_
                refine go_ialdN C dX7_isGood_171 (by decide) rfl (by decide) (by omega) ?_
                refine go_top _ (rdMN hcv 6 (by omega) (by omega)) ?_
                refine go_S1P C ok_X7_isType lk_X7_123 dX7_isGood_172 (k_X7_isType _) (by decide) (Nat.le_of_ble_eq_true rfl) ?_
                refine go_if_eqB C 182 dX7_isGood_175 (by decide) (fun h175 => ?_) (fun h175 => ?_)
                · refine go_iconst C (nI 0) dX7_isGood_182 rfl ?_
                  refine go_iret hr dX7_isGood_183 rfl ?_
                  refine ⟨?_, rfl⟩
                  first | (exfalso; omega) | exact bP_t (hg.mpr ⟨by assumption, by assumption⟩) | exact bP_t (hg.mpr ⟨by assumption, by assumption, by assumption⟩) | exact bP_t (hg.mpr ⟨by assumption, by assumption, by assumption, by assumption, by assumption, by assumption⟩) | (refine bP_f (fun z => ?_); have y := hg.mp z; obtain ⟨y1, y2⟩ := y; contradiction) | (refine bP_f (fun z => ?_); have y := hg.mp z; obtain ⟨y1, y2, y3⟩ := y; contradiction) | (refine bP_f (fun z => ?_); have y := hg.mp z; obtain ⟨y1, y2, y3, y4, y5, y6⟩ := y; first | contradiction | omega)
                · refine go_iconst C (nI 1) dX7_isGood_178 rfl ?_
                  refine go_goto C 183 dX7_isGood_179 (by decide) ?_
                  refine go_iret hr dX7_isGood_183 rfl ?_
                  refine ⟨?_, rfl⟩
                  first | (exfalso; omega) | exact bP_t (hg.mpr ⟨by assumption, by assumption⟩) | exact bP_t (hg.mpr ⟨by assumption, by assumption, by assumption⟩) | exact bP_t (hg.mpr ⟨by assumption, by assumption, by assumption, by assumption, by assumption, by assumption⟩) | (refine bP_f (fun z => ?_); have y := hg.mp z; obtain ⟨y1, y2⟩ := y; contradiction) | (refine bP_f (fun z => ?_); have y := hg.mp z; obtain ⟨y1, y2, y3⟩ := y; contradiction) | (refine bP_f (fun z => ?_); have y := hg.mp z; obtain ⟨y1, y2, y3, y4, y5, y6⟩ := y; first | contradiction | omega)
    · have hln : l.length = 3 := hl
      have hg := gd_l (l := l) hv
      have hb0 := gN_lt hv 0
      have hb1 := gN_lt hv 1
      have hb2 := gN_lt hv 2
      refine go_lookup C 184 150 dX7_isGood_34 (by decide) (sw_off (nI_int (by decide)) (by decide)) (by decide) ?_
      refine go_iload_n C dX7_isGood_184 rfl ?_
      refine go_S1P C ok_X7_isType lk_X7_123 dX7_isGood_185 (k_X7_isType _) (by decide) (Nat.le_of_ble_eq_true rfl) ?_
      refine go_if_eqB C 230 dX7_isGood_188 (by decide) (fun h188 => ?_) (fun h188 => ?_)
      · refine go_iconst C (nI 0) dX7_isGood_230 rfl ?_
        refine go_iret hr dX7_isGood_231 rfl ?_
        refine ⟨?_, rfl⟩
        first | (exfalso; omega) | exact bP_t (hg.mpr ⟨by assumption, by assumption⟩) | exact bP_t (hg.mpr ⟨by assumption, by assumption, by assumption⟩) | exact bP_t (hg.mpr ⟨by assumption, by assumption, by assumption, by assumption, by assumption, by assumption⟩) | (refine bP_f (fun z => ?_); have y := hg.mp z; obtain ⟨y1, y2⟩ := y; contradiction) | (refine bP_f (fun z => ?_); have y := hg.mp z; obtain ⟨y1, y2, y3⟩ := y; contradiction) | (refine bP_f (fun z => ?_); have y := hg.mp z; obtain ⟨y1, y2, y3, y4, y5, y6⟩ := y; first | contradiction | omega)
      · refine go_iload_n C dX7_isGood_191 rfl ?_
        refine go_iconst C (nI 0) dX7_isGood_192 rfl ?_
        refine go_aload_n C dX7_isGood_193 rfl ?_
        refine go_getR C gf_X7_45 dX7_isGood_194 (by decide) rfl rfl ?_
        refine go_iload_n C dX7_isGood_197 rfl ?_
        refine go_ialdN C dX7_isGood_198 (by decide) rfl (by decide) (by omega) ?_
        refine go_top _ hck ?_
        refine go_bipush C (nI 108) dX7_isGood_199 rfl ?_
        refine go_icmp_neN C 208 dX7_isGood_201 (by decide) (by omega) (by omega) (fun h201 => ?_) (fun h201 => ?_)
        · refine go_iconst C (nI 2) dX7_isGood_208 rfl ?_
          refine go_S3P C ok_X7_in lk_X7_57 dX7_isGood_209 (k_X7_in (by decide) _) (by decide) (Nat.le_of_ble_eq_true rfl) ?_
          refine go_if_eqB C 230 dX7_isGood_212 (by decide) (fun h212 => ?_) (fun h212 => ?_)
          · refine go_iconst C (nI 0) dX7_isGood_230 rfl ?_
            refine go_iret hr dX7_isGood_231 rfl ?_
            refine ⟨?_, rfl⟩
            first | (exfalso; omega) | exact bP_t (hg.mpr ⟨by assumption, by assumption⟩) | exact bP_t (hg.mpr ⟨by assumption, by assumption, by assumption⟩) | exact bP_t (hg.mpr ⟨by assumption, by assumption, by assumption, by assumption, by assumption, by assumption⟩) | (refine bP_f (fun z => ?_); have y := hg.mp z; obtain ⟨y1, y2⟩ := y; contradiction) | (refine bP_f (fun z => ?_); have y := hg.mp z; obtain ⟨y1, y2, y3⟩ := y; contradiction) | (refine bP_f (fun z => ?_); have y := hg.mp z; obtain ⟨y1, y2, y3, y4, y5, y6⟩ := y; first | contradiction | omega)
          · refine go_iload C dX7_isGood_215 rfl ?_
            refine go_iconst C (nI 0) dX7_isGood_217 rfl ?_
            refine go_bipush C (nI 15) dX7_isGood_218 rfl ?_
            refine go_S3P C ok_X7_in lk_X7_57 dX7_isGood_220 (k_X7_in (by decide) _) (by decide) (Nat.le_of_ble_eq_true rfl) ?_
            refine go_if_eqB C 230 dX7_isGood_223 (by decide) (fun h223 => ?_) (fun h223 => ?_)
            · refine go_iconst C (nI 0) dX7_isGood_230 rfl ?_
              refine go_iret hr dX7_isGood_231 rfl ?_
              refine ⟨?_, rfl⟩
              first | (exfalso; omega) | exact bP_t (hg.mpr ⟨by assumption, by assumption⟩) | exact bP_t (hg.mpr ⟨by assumption, by assumption, by assumption⟩) | exact bP_t (hg.mpr ⟨by assumption, by assumption, by assumption, by assumption, by assumption, by assumption⟩) | (refine bP_f (fun z => ?_); have y := hg.mp z; obtain ⟨y1, y2⟩ := y; contradiction) | (refine bP_f (fun z => ?_); have y := hg.mp z; obtain ⟨y1, y2, y3⟩ := y; contradiction) | (refine bP_f (fun z => ?_); have y := hg.mp z; obtain ⟨y1, y2, y3, y4, y5, y6⟩ := y; first | contradiction | omega)
            · refine go_iconst C (nI 1) dX7_isGood_226 rfl ?_
              refine go_goto C 231 dX7_isGood_227 (by decide) ?_
              refine go_iret hr dX7_isGood_231 rfl ?_
              refine ⟨?_, rfl⟩
              first | (exfalso; omega) | exact bP_t (hg.mpr ⟨by assumption, by assumption⟩) | exact bP_t (hg.mpr ⟨by assumption, by assumption, by assumption⟩) | exact bP_t (hg.mpr ⟨by assumption, by assumption, by assumption, by assumption, by assumption, by assumption⟩) | (refine bP_f (fun z => ?_); have y := hg.mp z; obtain ⟨y1, y2⟩ := y; contradiction) | (refine bP_f (fun z => ?_); have y := hg.mp z; obtain ⟨y1, y2, y3⟩ := y; contradiction) | (refine bP_f (fun z => ?_); have y := hg.mp z; obtain ⟨y1, y2, y3, y4, y5, y6⟩ := y; first | contradiction | omega)
        · refine go_iconst C (nI 3) dX7_isGood_204 rfl ?_
          refine go_goto C 209 dX7_isGood_205 (by decide) ?_
          refine go_S3P C ok_X7_in lk_X7_57 dX7_isGood_209 (k_X7_in (by decide) _) (by decide) (Nat.le_of_ble_eq_true rfl) ?_
          refine go_if_eqB C 230 dX7_isGood_212 (by decide) (fun h212 => ?_) (fun h212 => ?_)
          · refine go_iconst C (nI 0) dX7_isGood_230 rfl ?_
            refine go_iret hr dX7_isGood_231 rfl ?_
            refine ⟨?_, rfl⟩
            first | (exfalso; omega) | exact bP_t (hg.mpr ⟨by assumption, by assumption⟩) | exact bP_t (hg.mpr ⟨by assumption, by assumption, by assumption⟩) | exact bP_t (hg.mpr ⟨by assumption, by assumption, by assumption, by assumption, by assumption, by assumption⟩) | (refine bP_f (fun z => ?_); have y := hg.mp z; obtain ⟨y1, y2⟩ := y; contradiction) | (refine bP_f (fun z => ?_); have y := hg.mp z; obtain ⟨y1, y2, y3⟩ := y; contradiction) | (refine bP_f (fun z => ?_); have y := hg.mp z; obtain ⟨y1, y2, y3, y4, y5, y6⟩ := y; first | contradiction | omega)
          · refine go_iload C dX7_isGood_215 rfl ?_
            refine go_iconst C (nI 0) dX7_isGood_217 rfl ?_
            refine go_bipush C (nI 15) dX7_isGood_218 rfl ?_
            refine go_S3P C ok_X7_in lk_X7_57 dX7_isGood_220 (k_X7_in (by decide) _) (by decide) (Nat.le_of_ble_eq_true rfl) ?_
            refine go_if_eqB C 230 dX7_isGood_223 (by decide) (fun h223 => ?_) (fun h223 => ?_)
            · refine go_iconst C (nI 0) dX7_isGood_230 rfl ?_
              refine go_iret hr dX7_isGood_231 rfl ?_
              refine ⟨?_, rfl⟩
              first | (exfalso; omega) | exact bP_t (hg.mpr ⟨by assumption, by assumption⟩) | exact bP_t (hg.mpr ⟨by assumption, by assumption, by assumption⟩) | exact bP_t (hg.mpr ⟨by assumption, by assumption, by assumption, by assumption, by assumption, by assumption⟩) | (refine bP_f (fun z => ?_); have y := hg.mp z; obtain ⟨y1, y2⟩ := y; contradiction) | (refine bP_f (fun z => ?_); have y := hg.mp z; obtain ⟨y1, y2, y3⟩ := y; contradiction) | (refine bP_f (fun z => ?_); have y := hg.mp z; obtain ⟨y1, y2, y3, y4, y5, y6⟩ := y; first | contradiction | omega)
            · refine go_iconst C (nI 1) dX7_isGood_226 rfl ?_
              refine go_goto C 231 dX7_isGood_227 (by decide) ?_
              refine go_iret hr dX7_isGood_231 rfl ?_
              refine ⟨?_, rfl⟩
              first | (exfalso; omega) | exact bP_t (hg.mpr ⟨by assumption, by assumption⟩) | exact bP_t (hg.mpr ⟨by assumption, by assumption, by assumption⟩) | exact bP_t (hg.mpr ⟨by assumption, by assumption, by assumption, by assumption, by assumption, by assumption⟩) | (refine bP_f (fun z => ?_); have y := hg.mp z; obtain ⟨y1, y2⟩ := y; contradiction) | (refine bP_f (fun z => ?_); have y := hg.mp z; obtain ⟨y1, y2, y3⟩ := y; contradiction) | (refine bP_f (fun z => ?_); have y := hg.mp z; obtain ⟨y1, y2, y3, y4, y5, y6⟩ := y; first | contradiction | omega)
    · have hln : l.length = 3 := hl
      have hg := gd_e (l := l) hv
      have hb0 := gN_lt hv 0
      have hb1 := gN_lt hv 1
      have hb2 := gN_lt hv 2
      refine go_lookup C 184 150 dX7_isGood_34 (by decide) (sw_off (nI_int (by decide)) (by decide)) (by decide) ?_
      refine go_iload_n C dX7_isGood_184 rfl ?_
      refine go_S1P C ok_X7_isType lk_X7_123 dX7_isGood_185 (k_X7_isType _) (by decide) (Nat.le_of_ble_eq_true rfl) ?_
      refine go_if_eqB C 230 dX7_isGood_188 (by decide) (fun h188 => ?_) (fun h188 => ?_)
      · refine go_iconst C (nI 0) dX7_isGood_230 rfl ?_
        refine go_iret hr dX7_isGood_231 rfl ?_
        refine ⟨?_, rfl⟩
        first | (exfalso; omega) | exact bP_t (hg.mpr ⟨by assumption, by assumption⟩) | exact bP_t (hg.mpr ⟨by assumption, by assumption, by assumption⟩) | exact bP_t (hg.mpr ⟨by assumption, by assumption, by assumption, by assumption, by assumption, by assumption⟩) | (refine bP_f (fun z => ?_); have y := hg.mp z; obtain ⟨y1, y2⟩ := y; contradiction) | (refine bP_f (fun z => ?_); have y := hg.mp z; obtain ⟨y1, y2, y3⟩ := y; contradiction) | (refine bP_f (fun z => ?_); have y := hg.mp z; obtain ⟨y1, y2, y3, y4, y5, y6⟩ := y; first | contradiction | omega)
      · refine go_iload_n C dX7_isGood_191 rfl ?_
        refine go_iconst C (nI 0) dX7_isGood_192 rfl ?_
        refine go_aload_n C dX7_isGood_193 rfl ?_
        refine go_getR C gf_X7_45 dX7_isGood_194 (by decide) rfl rfl ?_
        refine go_iload_n C dX7_isGood_197 rfl ?_
        refine go_ialdN C dX7_isGood_198 (by decide) rfl (by decide) (by omega) ?_
        refine go_top _ hck ?_
        refine go_bipush C (nI 108) dX7_isGood_199 rfl ?_
        refine go_icmp_neN C 208 dX7_isGood_201 (by decide) (by omega) (by omega) (fun h201 => ?_) (fun h201 => ?_)
        · refine go_iconst C (nI 2) dX7_isGood_208 rfl ?_
          refine go_S3P C ok_X7_in lk_X7_57 dX7_isGood_209 (k_X7_in (by decide) _) (by decide) (Nat.le_of_ble_eq_true rfl) ?_
          refine go_if_eqB C 230 dX7_isGood_212 (by decide) (fun h212 => ?_) (fun h212 => ?_)
          · refine go_iconst C (nI 0) dX7_isGood_230 rfl ?_
            refine go_iret hr dX7_isGood_231 rfl ?_
            refine ⟨?_, rfl⟩
            first | (exfalso; omega) | exact bP_t (hg.mpr ⟨by assumption, by assumption⟩) | exact bP_t (hg.mpr ⟨by assumption, by assumption, by assumption⟩) | exact bP_t (hg.mpr ⟨by assumption, by assumption, by assumption, by assumption, by assumption, by assumption⟩) | (refine bP_f (fun z => ?_); have y := hg.mp z; obtain ⟨y1, y2⟩ := y; contradiction) | (refine bP_f (fun z => ?_); have y := hg.mp z; obtain ⟨y1, y2, y3⟩ := y; contradiction) | (refine bP_f (fun z => ?_); have y := hg.mp z; obtain ⟨y1, y2, y3, y4, y5, y6⟩ := y; first | contradiction | omega)
          · refine go_iload C dX7_isGood_215 rfl ?_
            refine go_iconst C (nI 0) dX7_isGood_217 rfl ?_
            refine go_bipush C (nI 15) dX7_isGood_218 rfl ?_
            refine go_S3P C ok_X7_in lk_X7_57 dX7_isGood_220 (k_X7_in (by decide) _) (by decide) (Nat.le_of_ble_eq_true rfl) ?_
            refine go_if_eqB C 230 dX7_isGood_223 (by decide) (fun h223 => ?_) (fun h223 => ?_)
            · refine go_iconst C (nI 0) dX7_isGood_230 rfl ?_
              refine go_iret hr dX7_isGood_231 rfl ?_
              refine ⟨?_, rfl⟩
              first | (exfalso; omega) | exact bP_t (hg.mpr ⟨by assumption, by assumption⟩) | exact bP_t (hg.mpr ⟨by assumption, by assumption, by assumption⟩) | exact bP_t (hg.mpr ⟨by assumption, by assumption, by assumption, by assumption, by assumption, by assumption⟩) | (refine bP_f (fun z => ?_); have y := hg.mp z; obtain ⟨y1, y2⟩ := y; contradiction) | (refine bP_f (fun z => ?_); have y := hg.mp z; obtain ⟨y1, y2, y3⟩ := y; contradiction) | (refine bP_f (fun z => ?_); have y := hg.mp z; obtain ⟨y1, y2, y3, y4, y5, y6⟩ := y; first | contradiction | omega)
            · refine go_iconst C (nI 1) dX7_isGood_226 rfl ?_
              refine go_goto C 231 dX7_isGood_227 (by decide) ?_
              refine go_iret hr dX7_isGood_231 rfl ?_
              refine ⟨?_, rfl⟩
              first | (exfalso; omega) | exact bP_t (hg.mpr ⟨by assumption, by assumption⟩) | exact bP_t (hg.mpr ⟨by assumption, by assumption, by assumption⟩) | exact bP_t (hg.mpr ⟨by assumption, by assumption, by assumption, by assumption, by assumption, by assumption⟩) | (refine bP_f (fun z => ?_); have y := hg.mp z; obtain ⟨y1, y2⟩ := y; contradiction) | (refine bP_f (fun z => ?_); have y := hg.mp z; obtain ⟨y1, y2, y3⟩ := y; contradiction) | (refine bP_f (fun z => ?_); have y := hg.mp z; obtain ⟨y1, y2, y3, y4, y5, y6⟩ := y; first | contradiction | omega)
        · refine go_iconst C (nI 3) dX7_isGood_204 rfl ?_
          refine go_goto C 209 dX7_isGood_205 (by decide) ?_
          refine go_S3P C ok_X7_in lk_X7_57 dX7_isGood_209 (k_X7_in (by decide) _) (by decide) (Nat.le_of_ble_eq_true rfl) ?_
          refine go_if_eqB C 230 dX7_isGood_212 (by decide) (fun h212 => ?_) (fun h212 => ?_)
          · refine go_iconst C (nI 0) dX7_isGood_230 rfl ?_
            refine go_iret hr dX7_isGood_231 rfl ?_
            refine ⟨?_, rfl⟩
            first | (exfalso; omega) | exact bP_t (hg.mpr ⟨by assumption, by assumption⟩) | exact bP_t (hg.mpr ⟨by assumption, by assumption, by assumption⟩) | exact bP_t (hg.mpr ⟨by assumption, by assumption, by assumption, by assumption, by assumption, by assumption⟩) | (refine bP_f (fun z => ?_); have y := hg.mp z; obtain ⟨y1, y2⟩ := y; contradiction) | (refine bP_f (fun z => ?_); have y := hg.mp z; obtain ⟨y1, y2, y3⟩ := y; contradiction) | (refine bP_f (fun z => ?_); have y := hg.mp z; obtain ⟨y1, y2, y3, y4, y5, y6⟩ := y; first | contradiction | omega)
          · refine go_iload C dX7_isGood_215 rfl ?_
            refine go_iconst C (nI 0) dX7_isGood_217 rfl ?_
            refine go_bipush C (nI 15) dX7_isGood_218 rfl ?_
            refine go_S3P C ok_X7_in lk_X7_57 dX7_isGood_220 (k_X7_in (by decide) _) (by decide) (Nat.le_of_ble_eq_true rfl) ?_
            refine go_if_eqB C 230 dX7_isGood_223 (by decide) (fun h223 => ?_) (fun h223 => ?_)
            · refine go_iconst C (nI 0) dX7_isGood_230 rfl ?_
              refine go_iret hr dX7_isGood_231 rfl ?_
              refine ⟨?_, rfl⟩
              first | (exfalso; omega) | exact bP_t (hg.mpr ⟨by assumption, by assumption⟩) | exact bP_t (hg.mpr ⟨by assumption, by assumption, by assumption⟩) | exact bP_t (hg.mpr ⟨by assumption, by assumption, by assumption, by assumption, by assumption, by assumption⟩) | (refine bP_f (fun z => ?_); have y := hg.mp z; obtain ⟨y1, y2⟩ := y; contradiction) | (refine bP_f (fun z => ?_); have y := hg.mp z; obtain ⟨y1, y2, y3⟩ := y; contradiction) | (refine bP_f (fun z => ?_); have y := hg.mp z; obtain ⟨y1, y2, y3, y4, y5, y6⟩ := y; first | contradiction | omega)
            · refine go_iconst C (nI 1) dX7_isGood_226 rfl ?_
              refine go_goto C 231 dX7_isGood_227 (by decide) ?_
              refine go_iret hr dX7_isGood_231 rfl ?_
              refine ⟨?_, rfl⟩
              first | (exfalso; omega) | exact bP_t (hg.mpr ⟨by assumption, by assumption⟩) | exact bP_t (hg.mpr ⟨by assumption, by assumption, by assumption⟩) | exact bP_t (hg.mpr ⟨by assumption, by assumption, by assumption, by assumption, by assumption, by assumption⟩) | (refine bP_f (fun z => ?_); have y := hg.mp z; obtain ⟨y1, y2⟩ := y; contradiction) | (refine bP_f (fun z => ?_); have y := hg.mp z; obtain ⟨y1, y2, y3⟩ := y; contradiction) | (refine bP_f (fun z => ?_); have y := hg.mp z; obtain ⟨y1, y2, y3, y4, y5, y6⟩ := y; first | contradiction | omega)
set_option maxHeartbeats 4000000 in
set_option maxRecDepth 100000 in
theorem k_X7_execute {σ : Mem} {w : Wd} {j k s : Nat} {l : List Nat} (hk : cntN k ≠ 0) (hl : l.length = cntN k) (hv : ∀ v, v ∈ l → v < 100) (hcm : CmdM σ j (k, s, l)) (hj : j < 59) (hgd : gdC k l) (hM : HasM σ 1 0 w) : CtV objM NM yX7_execute cX7_execute 5 2 51 [.ref 0, .int (nI (9 * j))] σ (fun τ => HasM τ 1 0 (doC w (k, s, l)) ∧ ∀ q, q ≠ 1 → τ q = σ q) := by
  have hcv : ∀ i v, l[i]? = some v → σ 10 (9 * j + 2 + i) = nI v := hcm.2.2
  have hck : σ 10 (9 * j) = nI k := hcm.1
  have h3 : 3 ≤ l.length := by rw [hl]; rcases cntN_c hk with e | e | e | e <;> rw [e] <;> decide
  refine ct_ofV rfl ?_ (Nat.le_of_ble_eq_true rfl) (fun X C hr => ?_)
  · intro v hv; simp only [List.mem_cons, List.not_mem_nil, or_false] at hv; rcases hv with rfl | rfl <;> rfl
  · refine go_aload_n C dX7_execute_0 rfl ?_
    refine go_getR C gf_X7_45 dX7_execute_1 (by decide) rfl rfl ?_
    refine go_iload_n C dX7_execute_4 rfl ?_
    refine go_iconst C (nI 2) dX7_execute_5 rfl ?_
    refine go_iaddN C dX7_execute_6 ?_
    refine go_ialdN C dX7_execute_7 (by decide) rfl (by decide) (by omega) ?_
    refine go_top _ (rdMN hcv 0 (by omega) (by omega)) ?_
    refine go_istore_n C dX7_execute_8 (by decide) rfl rfl ?_
    refine go_aload_n C dX7_execute_9 rfl ?_
    refine go_getR C gf_X7_45 dX7_execute_10 (by decide) rfl rfl ?_
    refine go_iload_n C dX7_execute_13 rfl ?_
    refine go_iconst C (nI 3) dX7_execute_14 rfl ?_
    refine go_iaddN C dX7_execute_15 ?_
    refine go_ialdN C dX7_execute_16 (by decide) rfl (by decide) (by omega) ?_
    refine go_top _ (rdMN hcv 1 (by omega) (by omega)) ?_
    refine go_istore_n C dX7_execute_17 (by decide) rfl rfl ?_
    refine go_aload_n C dX7_execute_18 rfl ?_
    refine go_getR C gf_X7_45 dX7_execute_19 (by decide) rfl rfl ?_
    refine go_iload_n C dX7_execute_22 rfl ?_
    refine go_iconst C (nI 4) dX7_execute_23 rfl ?_
    refine go_iaddN C dX7_execute_24 ?_
    refine go_ialdN C dX7_execute_25 (by decide) rfl (by decide) (by omega) ?_
    refine go_top _ (rdMN hcv 2 (by omega) (by omega)) ?_
    refine go_istore C dX7_execute_26 (by decide) rfl rfl ?_
    refine go_aload_n C dX7_execute_28 rfl ?_
    refine go_getR C gf_X7_45 dX7_execute_29 (by decide) rfl rfl ?_
    refine go_iload_n C dX7_execute_32 rfl ?_
    refine go_ialdN C dX7_execute_33 (by decide) rfl (by decide) (by omega) ?_
    refine go_top _ hck ?_
    rcases cntN_c hk with rfl | rfl | rfl | rfl
    · have hln : l.length = 4 := hl
      obtain ⟨⟨a1, a2, a3⟩, a4⟩ : (gN l 0 < 12 ∧ gN l 1 < 8 ∧ gN l 2 < 12) ∧ gN l 3 < 8 := hgd
      have hk := cel_lt a1 a2 a3
      refine go_lookup C 68 34 dX7_execute_34 (by decide) (sw_off (nI_int (by decide)) (by decide)) (by decide) ?_
      refine go_aload_n C dX7_execute_68 rfl ?_
      refine go_getR C gf_X7_9 dX7_execute_69 (by decide) rfl rfl ?_
      refine go_iload_n C dX7_execute_72 rfl ?_
      refine go_iload_n C dX7_execute_73 rfl ?_
      refine go_iload C dX7_execute_74 rfl ?_
      refine go_S3P C ok_X7_cell lk_X7_74 dX7_execute_76 k_X7_cell (by decide) (Nat.le_of_ble_eq_true rfl) ?_
      refine go_aload_n C dX7_execute_79 rfl ?_
      refine go_getR C gf_X7_45 dX7_execute_80 (by decide) rfl rfl ?_
      refine go_iload_n C dX7_execute_83 rfl ?_
      refine go_iconst C (nI 5) dX7_execute_84 rfl ?_
      refine go_iaddN C dX7_execute_85 ?_
      refine go_ialdN C dX7_execute_86 (by decide) rfl (by decide) (by omega) ?_
      refine go_top _ (rdMN hcv 3 (by omega) (by omega)) ?_
      refine go_iastN C dX7_execute_87 (by decide) rfl (by decide) (by omega) ?_
      refine go_goto C 172 dX7_execute_88 (by decide) ?_
      refine go_vret hr dX7_execute_172 ?_
      first | exact (by
        rw [doC_s]
        refine ⟨⟨?_, ?_, ?_⟩, fun q a => updR_n a⟩
        · exact fun j hj => by
            rw [Nat.zero_add, updR_s]
            show upd (σ 1) (cel (gN l 0) (gN l 1) (gN l 2)) (nI (gN l 3)) _ = nI (un _ (cel (gN l 0) (gN l 1) (gN l 2)) (gN l 3) j)
            by_cases e : j = cel (gN l 0) (gN l 1) (gN l 2)
            · subst e; rw [un_s, show (cel (gN l 0) (gN l 1) (gN l 2)) = cel (gN l 0) (gN l 1) (gN l 2) by omega, pk_us]
            · rw [pk_un (by omega), un_n e]
              have := hM.1 j hj; rw [Nat.zero_add] at this; exact this
        · exact fun j hj => by
            rw [Nat.zero_add, updR_s]
            rw [pk_un (by omega)]
            have := hM.2.1 j hj; rw [Nat.zero_add] at this; exact this
        · exact fun j hj => by
            rw [Nat.zero_add, updR_s]
            rw [pk_un (by omega)]
            have := hM.2.2 j hj; rw [Nat.zero_add] at this; exact this) | exact (by
        rw [doC_f]
        refine ⟨⟨fun j hj => ?_, fun j hj => ?_, fun j hj => ?_⟩, hp.2.1⟩
        · rw [Nat.zero_add]; exact hp.1 j hj
        · rw [Nat.zero_add, hp.2.2 _ (by omega)]; have := hM.2.1 j hj; rw [Nat.zero_add] at this; exact this
        · rw [Nat.zero_add, hp.2.2 _ (by omega)]; have := hM.2.2 j hj; rw [Nat.zero_add] at this; exact this) | exact (by
        rw [doC_l]
        refine ⟨⟨?_, ?_, ?_⟩, fun q a => updR_n a⟩
        · exact fun j hj => by
            rw [Nat.zero_add, updR_s]
            rw [pk_un (by omega)]
            have := hM.1 j hj; rw [Nat.zero_add] at this; exact this
        · exact fun j hj => by
            rw [Nat.zero_add, updR_s]
            show upd (σ 1) (1152 + 4 * gN l 0 + gN l 1) (nI (gN l 2)) _ = nI (un _ (4 * gN l 0 + gN l 1) (gN l 2) j)
            by_cases e : j = 4 * gN l 0 + gN l 1
            · subst e; rw [un_s, show 1152 + (4 * gN l 0 + gN l 1) = 1152 + 4 * gN l 0 + gN l 1 by omega, pk_us]
            · rw [pk_un (by omega), un_n e]
              have := hM.2.1 j hj; rw [Nat.zero_add] at this; exact this
        · exact fun j hj => by
            rw [Nat.zero_add, updR_s]
            rw [pk_un (by omega)]
            have := hM.2.2 j hj; rw [Nat.zero_add] at this; exact this) | exact (by
        rw [doC_e]
        refine ⟨⟨?_, ?_, ?_⟩, fun q a => updR_n a⟩
        · exact fun j hj => by
            rw [Nat.zero_add, updR_s]
            rw [pk_un (by omega)]
            have := hM.1 j hj; rw [Nat.zero_add] at this; exact this
        · exact fun j hj => by
            rw [Nat.zero_add, updR_s]
            rw [pk_un (by omega)]
            have := hM.2.1 j hj; rw [Nat.zero_add] at this; exact this
        · exact fun j hj => by
            rw [Nat.zero_add, updR_s]
            show upd (σ 1) (1184 + 4 * gN l 0 + gN l 1) (nI (gN l 2)) _ = nI (un _ (4 * gN l 0 + gN l 1) (gN l 2) j)
            by_cases e : j = 4 * gN l 0 + gN l 1
            · subst e; rw [un_s, show 1184 + (4 * gN l 0 + gN l 1) = 1184 + 4 * gN l 0 + gN l 1 by omega, pk_us]
            · rw [pk_un (by omega), un_n e]
              have := hM.2.2 j hj; rw [Nat.zero_add] at this; exact this)
    · have hln : l.length = 7 := hl
      obtain ⟨a1, b1, c1, c2, c3, c4⟩ : (gN l 0 < 12 ∧ gN l 1 < 8 ∧ gN l 2 < 12) ∧ (gN l 3 < 12 ∧ gN l 4 < 8 ∧ gN l 5 < 12) ∧ gN l 0 ≤ gN l 3 ∧ gN l 1 ≤ gN l 4 ∧ gN l 2 ≤ gN l 5 ∧ gN l 6 < 8 := hgd
      refine go_lookup C 91 57 dX7_execute_34 (by decide) (sw_off (nI_int (by decide)) (by decide)) (by decide) ?_
      refine go_aload_n C dX7_execute_91 rfl ?_
      refine go_iload_n C dX7_execute_92 rfl ?_
      refine go_iload_n C dX7_execute_93 rfl ?_
      refine go_iload C dX7_execute_94 rfl ?_
      refine go_aload_n C dX7_execute_96 rfl ?_
      refine go_getR C gf_X7_45 dX7_execute_97 (by decide) rfl rfl ?_
      refine go_iload_n C dX7_execute_100 rfl ?_
      refine go_iconst C (nI 5) dX7_execute_101 rfl ?_
      refine go_iaddN C dX7_execute_102 ?_
      refine go_ialdN C dX7_execute_103 (by decide) rfl (by decide) (by omega) ?_
      refine go_top _ (rdMN hcv 3 (by omega) (by omega)) ?_
      refine go_aload_n C dX7_execute_104 rfl ?_
      refine go_getR C gf_X7_45 dX7_execute_105 (by decide) rfl rfl ?_
      refine go_iload_n C dX7_execute_108 rfl ?_
      refine go_bipush C (nI 6) dX7_execute_109 rfl ?_
      refine go_iaddN C dX7_execute_111 ?_
      refine go_ialdN C dX7_execute_112 (by decide) rfl (by decide) (by omega) ?_
      refine go_top _ (rdMN hcv 4 (by omega) (by omega)) ?_
      refine go_aload_n C dX7_execute_113 rfl ?_
      refine go_getR C gf_X7_45 dX7_execute_114 (by decide) rfl rfl ?_
      refine go_iload_n C dX7_execute_117 rfl ?_
      refine go_bipush C (nI 7) dX7_execute_118 rfl ?_
      refine go_iaddN C dX7_execute_120 ?_
      refine go_ialdN C dX7_execute_121 (by decide) rfl (by decide) (by omega) ?_
      refine go_top _ (rdMN hcv 5 (by omega) (by omega)) ?_
      refine go_aload_n C dX7_execute_122 rfl ?_
      refine go_getR C gf_X7_45 dX7_execute_123 (by decide) rfl rfl ?_
      refine go_iload_n C dX7_execute_126 rfl ?_
      refine go_bipush C (nI 8) dX7_execute_127 rfl ?_
      refine go_iaddN C dX7_execute_129 ?_
      refine go_ialdN C dX7_execute_130 (by decide) rfl (by decide) (by omega) ?_
      refine go_top _ (rdMN hcv 6 (by omega) (by omega)) ?_
      refine go_V7V C ok_X7_lays lk_X7_140 dX7_execute_131 (by decide) rfl rfl rfl (k_X7_lays (f := wT w) a1 b1 (fun j hj => by have := hM.1 j hj; rw [Nat.zero_add] at this; exact this)) (by decide) (Nat.le_of_ble_eq_true rfl) (fun τ hp => ?_)
      refine go_goto C 172 dX7_execute_134 (by decide) ?_
      refine go_vret hr dX7_execute_172 ?_
      first | exact (by
        rw [doC_s]
        refine ⟨⟨?_, ?_, ?_⟩, fun q a => updR_n a⟩
        · exact fun j hj => by
            rw [Nat.zero_add, updR_s]
            show upd (σ 1) (cel (gN l 0) (gN l 1) (gN l 2)) (nI (gN l 3)) _ = nI (un _ (cel (gN l 0) (gN l 1) (gN l 2)) (gN l 3) j)
            by_cases e : j = cel (gN l 0) (gN l 1) (gN l 2)
            · subst e; rw [un_s, show (cel (gN l 0) (gN l 1) (gN l 2)) = cel (gN l 0) (gN l 1) (gN l 2) by omega, pk_us]
            · rw [pk_un (by omega), un_n e]
              have := hM.1 j hj; rw [Nat.zero_add] at this; exact this
        · exact fun j hj => by
            rw [Nat.zero_add, updR_s]
            rw [pk_un (by omega)]
            have := hM.2.1 j hj; rw [Nat.zero_add] at this; exact this
        · exact fun j hj => by
            rw [Nat.zero_add, updR_s]
            rw [pk_un (by omega)]
            have := hM.2.2 j hj; rw [Nat.zero_add] at this; exact this) | exact (by
        rw [doC_f]
        refine ⟨⟨fun j hj => ?_, fun j hj => ?_, fun j hj => ?_⟩, hp.2.1⟩
        · rw [Nat.zero_add]; exact hp.1 j hj
        · rw [Nat.zero_add, hp.2.2 _ (by omega)]; have := hM.2.1 j hj; rw [Nat.zero_add] at this; exact this
        · rw [Nat.zero_add, hp.2.2 _ (by omega)]; have := hM.2.2 j hj; rw [Nat.zero_add] at this; exact this) | exact (by
        rw [doC_l]
        refine ⟨⟨?_, ?_, ?_⟩, fun q a => updR_n a⟩
        · exact fun j hj => by
            rw [Nat.zero_add, updR_s]
            rw [pk_un (by omega)]
            have := hM.1 j hj; rw [Nat.zero_add] at this; exact this
        · exact fun j hj => by
            rw [Nat.zero_add, updR_s]
            show upd (σ 1) (1152 + 4 * gN l 0 + gN l 1) (nI (gN l 2)) _ = nI (un _ (4 * gN l 0 + gN l 1) (gN l 2) j)
            by_cases e : j = 4 * gN l 0 + gN l 1
            · subst e; rw [un_s, show 1152 + (4 * gN l 0 + gN l 1) = 1152 + 4 * gN l 0 + gN l 1 by omega, pk_us]
            · rw [pk_un (by omega), un_n e]
              have := hM.2.1 j hj; rw [Nat.zero_add] at this; exact this
        · exact fun j hj => by
            rw [Nat.zero_add, updR_s]
            rw [pk_un (by omega)]
            have := hM.2.2 j hj; rw [Nat.zero_add] at this; exact this) | exact (by
        rw [doC_e]
        refine ⟨⟨?_, ?_, ?_⟩, fun q a => updR_n a⟩
        · exact fun j hj => by
            rw [Nat.zero_add, updR_s]
            rw [pk_un (by omega)]
            have := hM.1 j hj; rw [Nat.zero_add] at this; exact this
        · exact fun j hj => by
            rw [Nat.zero_add, updR_s]
            rw [pk_un (by omega)]
            have := hM.2.1 j hj; rw [Nat.zero_add] at this; exact this
        · exact fun j hj => by
            rw [Nat.zero_add, updR_s]
            show upd (σ 1) (1184 + 4 * gN l 0 + gN l 1) (nI (gN l 2)) _ = nI (un _ (4 * gN l 0 + gN l 1) (gN l 2) j)
            by_cases e : j = 4 * gN l 0 + gN l 1
            · subst e; rw [un_s, show 1184 + (4 * gN l 0 + gN l 1) = 1184 + 4 * gN l 0 + gN l 1 by omega, pk_us]
            · rw [pk_un (by omega), un_n e]
              have := hM.2.2 j hj; rw [Nat.zero_add] at this; exact this)
    · have hln : l.length = 3 := hl
      obtain ⟨a1, a2, a3⟩ : gN l 0 < 8 ∧ gN l 1 < 4 ∧ gN l 2 < 16 := hgd
      refine go_lookup C 137 103 dX7_execute_34 (by decide) (sw_off (nI_int (by decide)) (by decide)) (by decide) ?_
      refine go_aload_n C dX7_execute_137 rfl ?_
      refine go_getR C gf_X7_9 dX7_execute_138 (by decide) rfl rfl ?_
      refine go_sipush C (nI 1152) dX7_execute_141 rfl ?_
      refine go_iconst C (nI 4) dX7_execute_144 rfl ?_
      refine go_iload_n C dX7_execute_145 rfl ?_
      refine go_imulN C dX7_execute_146 ?_
      refine go_iaddN C dX7_execute_147 ?_
      refine go_iload_n C dX7_execute_148 rfl ?_
      refine go_iaddN C dX7_execute_149 ?_
      refine go_iload C dX7_execute_150 rfl ?_
      refine go_iastN C dX7_execute_152 (by decide) rfl (by decide) (by omega) ?_
      refine go_goto C 172 dX7_execute_153 (by decide) ?_
      refine go_vret hr dX7_execute_172 ?_
      first | exact (by
        rw [doC_s]
        refine ⟨⟨?_, ?_, ?_⟩, fun q a => updR_n a⟩
        · exact fun j hj => by
            rw [Nat.zero_add, updR_s]
            show upd (σ 1) (cel (gN l 0) (gN l 1) (gN l 2)) (nI (gN l 3)) _ = nI (un _ (cel (gN l 0) (gN l 1) (gN l 2)) (gN l 3) j)
            by_cases e : j = cel (gN l 0) (gN l 1) (gN l 2)
            · subst e; rw [un_s, show (cel (gN l 0) (gN l 1) (gN l 2)) = cel (gN l 0) (gN l 1) (gN l 2) by omega, pk_us]
            · rw [pk_un (by omega), un_n e]
              have := hM.1 j hj; rw [Nat.zero_add] at this; exact this
        · exact fun j hj => by
            rw [Nat.zero_add, updR_s]
            rw [pk_un (by omega)]
            have := hM.2.1 j hj; rw [Nat.zero_add] at this; exact this
        · exact fun j hj => by
            rw [Nat.zero_add, updR_s]
            rw [pk_un (by omega)]
            have := hM.2.2 j hj; rw [Nat.zero_add] at this; exact this) | exact (by
        rw [doC_f]
        refine ⟨⟨fun j hj => ?_, fun j hj => ?_, fun j hj => ?_⟩, hp.2.1⟩
        · rw [Nat.zero_add]; exact hp.1 j hj
        · rw [Nat.zero_add, hp.2.2 _ (by omega)]; have := hM.2.1 j hj; rw [Nat.zero_add] at this; exact this
        · rw [Nat.zero_add, hp.2.2 _ (by omega)]; have := hM.2.2 j hj; rw [Nat.zero_add] at this; exact this) | exact (by
        rw [doC_l]
        refine ⟨⟨?_, ?_, ?_⟩, fun q a => updR_n a⟩
        · exact fun j hj => by
            rw [Nat.zero_add, updR_s]
            rw [pk_un (by omega)]
            have := hM.1 j hj; rw [Nat.zero_add] at this; exact this
        · exact fun j hj => by
            rw [Nat.zero_add, updR_s]
            show upd (σ 1) (1152 + 4 * gN l 0 + gN l 1) (nI (gN l 2)) _ = nI (un _ (4 * gN l 0 + gN l 1) (gN l 2) j)
            by_cases e : j = 4 * gN l 0 + gN l 1
            · subst e; rw [un_s, show 1152 + (4 * gN l 0 + gN l 1) = 1152 + 4 * gN l 0 + gN l 1 by omega, pk_us]
            · rw [pk_un (by omega), un_n e]
              have := hM.2.1 j hj; rw [Nat.zero_add] at this; exact this
        · exact fun j hj => by
            rw [Nat.zero_add, updR_s]
            rw [pk_un (by omega)]
            have := hM.2.2 j hj; rw [Nat.zero_add] at this; exact this) | exact (by
        rw [doC_e]
        refine ⟨⟨?_, ?_, ?_⟩, fun q a => updR_n a⟩
        · exact fun j hj => by
            rw [Nat.zero_add, updR_s]
            rw [pk_un (by omega)]
            have := hM.1 j hj; rw [Nat.zero_add] at this; exact this
        · exact fun j hj => by
            rw [Nat.zero_add, updR_s]
            rw [pk_un (by omega)]
            have := hM.2.1 j hj; rw [Nat.zero_add] at this; exact this
        · exact fun j hj => by
            rw [Nat.zero_add, updR_s]
            show upd (σ 1) (1184 + 4 * gN l 0 + gN l 1) (nI (gN l 2)) _ = nI (un _ (4 * gN l 0 + gN l 1) (gN l 2) j)
            by_cases e : j = 4 * gN l 0 + gN l 1
            · subst e; rw [un_s, show 1184 + (4 * gN l 0 + gN l 1) = 1184 + 4 * gN l 0 + gN l 1 by omega, pk_us]
            · rw [pk_un (by omega), un_n e]
              have := hM.2.2 j hj; rw [Nat.zero_add] at this; exact this)
    · have hln : l.length = 3 := hl
      obtain ⟨a1, a2, a3⟩ : gN l 0 < 8 ∧ gN l 1 < 3 ∧ gN l 2 < 16 := hgd
      refine go_lookup C 156 122 dX7_execute_34 (by decide) (sw_off (nI_int (by decide)) (by decide)) (by decide) ?_
      refine go_aload_n C dX7_execute_156 rfl ?_
      refine go_getR C gf_X7_9 dX7_execute_157 (by decide) rfl rfl ?_
      refine go_sipush C (nI 1184) dX7_execute_160 rfl ?_
      refine go_iconst C (nI 4) dX7_execute_163 rfl ?_
      refine go_iload_n C dX7_execute_164 rfl ?_
      refine go_imulN C dX7_execute_165 ?_
      refine go_iaddN C dX7_execute_166 ?_
      refine go_iload_n C dX7_execute_167 rfl ?_
      refine go_iaddN C dX7_execute_168 ?_
      refine go_iload C dX7_execute_169 rfl ?_
      refine go_iastN C dX7_execute_171 (by decide) rfl (by decide) (by omega) ?_
      refine go_vret hr dX7_execute_172 ?_
      first | exact (by
        rw [doC_s]
        refine ⟨⟨?_, ?_, ?_⟩, fun q a => updR_n a⟩
        · exact fun j hj => by
            rw [Nat.zero_add, updR_s]
            show upd (σ 1) (cel (gN l 0) (gN l 1) (gN l 2)) (nI (gN l 3)) _ = nI (un _ (cel (gN l 0) (gN l 1) (gN l 2)) (gN l 3) j)
            by_cases e : j = cel (gN l 0) (gN l 1) (gN l 2)
            · subst e; rw [un_s, show (cel (gN l 0) (gN l 1) (gN l 2)) = cel (gN l 0) (gN l 1) (gN l 2) by omega, pk_us]
            · rw [pk_un (by omega), un_n e]
              have := hM.1 j hj; rw [Nat.zero_add] at this; exact this
        · exact fun j hj => by
            rw [Nat.zero_add, updR_s]
            rw [pk_un (by omega)]
            have := hM.2.1 j hj; rw [Nat.zero_add] at this; exact this
        · exact fun j hj => by
            rw [Nat.zero_add, updR_s]
            rw [pk_un (by omega)]
            have := hM.2.2 j hj; rw [Nat.zero_add] at this; exact this) | exact (by
        rw [doC_f]
        refine ⟨⟨fun j hj => ?_, fun j hj => ?_, fun j hj => ?_⟩, hp.2.1⟩
        · rw [Nat.zero_add]; exact hp.1 j hj
        · rw [Nat.zero_add, hp.2.2 _ (by omega)]; have := hM.2.1 j hj; rw [Nat.zero_add] at this; exact this
        · rw [Nat.zero_add, hp.2.2 _ (by omega)]; have := hM.2.2 j hj; rw [Nat.zero_add] at this; exact this) | exact (by
        rw [doC_l]
        refine ⟨⟨?_, ?_, ?_⟩, fun q a => updR_n a⟩
        · exact fun j hj => by
            rw [Nat.zero_add, updR_s]
            rw [pk_un (by omega)]
            have := hM.1 j hj; rw [Nat.zero_add] at this; exact this
        · exact fun j hj => by
            rw [Nat.zero_add, updR_s]
            show upd (σ 1) (1152 + 4 * gN l 0 + gN l 1) (nI (gN l 2)) _ = nI (un _ (4 * gN l 0 + gN l 1) (gN l 2) j)
            by_cases e : j = 4 * gN l 0 + gN l 1
            · subst e; rw [un_s, show 1152 + (4 * gN l 0 + gN l 1) = 1152 + 4 * gN l 0 + gN l 1 by omega, pk_us]
            · rw [pk_un (by omega), un_n e]
              have := hM.2.1 j hj; rw [Nat.zero_add] at this; exact this
        · exact fun j hj => by
            rw [Nat.zero_add, updR_s]
            rw [pk_un (by omega)]
            have := hM.2.2 j hj; rw [Nat.zero_add] at this; exact this) | exact (by
        rw [doC_e]
        refine ⟨⟨?_, ?_, ?_⟩, fun q a => updR_n a⟩
        · exact fun j hj => by
            rw [Nat.zero_add, updR_s]
            rw [pk_un (by omega)]
            have := hM.1 j hj; rw [Nat.zero_add] at this; exact this
        · exact fun j hj => by
            rw [Nat.zero_add, updR_s]
            rw [pk_un (by omega)]
            have := hM.2.1 j hj; rw [Nat.zero_add] at this; exact this
        · exact fun j hj => by
            rw [Nat.zero_add, updR_s]
            show upd (σ 1) (1184 + 4 * gN l 0 + gN l 1) (nI (gN l 2)) _ = nI (un _ (4 * gN l 0 + gN l 1) (gN l 2) j)
            by_cases e : j = 4 * gN l 0 + gN l 1
            · subst e; rw [un_s, show 1184 + (4 * gN l 0 + gN l 1) = 1184 + 4 * gN l 0 + gN l 1 by omega, pk_us]
            · rw [pk_un (by omega), un_n e]
              have := hM.2.2 j hj; rw [Nat.zero_add] at this; exact this)
theorem tx0M {τ : Mem} (h : τ 0 15 = nI 0) : TxtM τ [] := ⟨h, fun i ch q => by cases q⟩
def RfF (σ τ : Mem) : Prop := (∀ q, q ≠ 0 → q ≠ 10 → τ q = σ q) ∧ ∀ i, i ≠ 19 → i ≠ 20 → i ≠ 21 → τ 0 i = σ 0 i
theorem CmdM.of {σ τ : Mem} {j : Nat} {m : Cmd} (h : CmdM σ j m) (h1 : τ 10 = σ 10) : CmdM τ j m := by unfold CmdM; rw [h1]; exact h
theorem CmdM.lt {σ τ : Mem} {j k : Nat} {m : Cmd} (hm : OkCmd m) (h : CmdM σ j m) (hjk : j < k) (h1 : ∀ i, i < 9 * k → τ 10 i = σ 10 i) : CmdM τ j m := by
  refine ⟨by rw [h1 _ (by omega)]; exact h.1, by rw [h1 _ (by omega)]; exact h.2.1, fun i v hv => ?_⟩
  have hi := (List.getElem?_eq_some_iff.mp hv).1
  have hl := cntN_le m.1
  rw [hm.2.2.1] at hi
  rw [h1 _ (by omega)]; exact h.2.2 i v hv
set_option maxHeartbeats 4000000 in
set_option maxRecDepth 100000 in
theorem k_X7_read {σ : Mem} {S : St} (hR : RepM σ S)  : CtI objM NM yX7_read cX7_read 3 .int 6 138 [.ref 0] σ (RQM (oRead S).1 (oRead S).2) := by
  obtain ⟨hS, hM, hL, hEf, hB, hH, hSv, hX, hFt, hoc⟩ := id hR
  have hO := hS.1
  have hOL := hS.2.1
  have hV := hR.V
  have hT : ∀ j, j < 1152 → σ 1 j = nI (wT (sW S) j) := fun j hj => by have := hM.1 j hj; rw [Nat.zero_add] at this; exact this
  have hLs := hV.2.2.2.1
  have hEm := hV.2.2.2.2.1
  refine ct_ofI rfl ?_ (Nat.le_of_ble_eq_true rfl) (fun X C hr => ?_)
  · intro v hv; simp only [List.mem_cons, List.not_mem_nil, or_false] at hv; rcases hv with rfl <;> rfl
  · cases hb : sB S with
    | none =>
      rw [hb] at hB
      have hcl := hS.2.2.2.2.2.1
      have hch := hS.2.2.2.2.2.2
      refine go_aload_n C dX7_read_0 rfl ?_
      refine go_getI C gf_X7_127 dX7_read_1 (by decide) rfl rfl ?_
      refine go_top (nI 0) hB ?_
      refine go_if_eqN C 10 dX7_read_4 (by decide) (by omega) (fun h4 => ?_) (fun h4 => ?_)
      · refine go_aload_n C dX7_read_10 rfl ?_
        refine go_aload_n C dX7_read_11 rfl ?_
        refine go_getI C gf_X7_144 dX7_read_12 (by decide) rfl rfl ?_
        refine go_top (nI (sX S).length) hX.1 ?_
        refine go_putI C gf_X7_150 dX7_read_15 (by decide) rfl rfl rfl rfl rfl ?_
        refine go_aload_n C dX7_read_18 rfl ?_
        refine go_iconst C (nI 0) dX7_read_19 rfl ?_
        refine go_putI C gf_X7_144 dX7_read_20 (by decide) rfl rfl rfl rfl rfl ?_
        refine go_aload_n C dX7_read_23 rfl ?_
        refine go_iconst C (nI 0) dX7_read_24 rfl ?_
        refine go_putI C gf_X7_147 dX7_read_25 (by decide) rfl rfl rfl rfl rfl ?_
        refine go_aload_n C dX7_read_28 rfl ?_
        refine go_iconst C (nI 0) dX7_read_29 rfl ?_
        refine go_putI C gf_X7_159 dX7_read_30 (by decide) rfl rfl rfl rfl rfl ?_
        refine go_aload_n C dX7_read_33 rfl ?_
        refine go_bipush C (-4) dX7_read_34 rfl ?_
        refine go_putI C gf_X7_42 dX7_read_36 (by decide) rfl rfl rfl rfl rfl ?_
        refine go_gen (fun ρ0 hρ0 => ?_)
        have h017 : ρ0 0 17 = -4 := by rw [hρ0, updR_s, pk_us]
        have h021 : ρ0 0 21 = nI 0 := by rw [hρ0, updR_s, pk_un (by decide), updR_s, pk_us]
        have h019 : ρ0 0 19 = nI 0 := by rw [hρ0, updR_s, pk_un (by decide), updR_s, pk_un (by decide), updR_s, pk_us]
        have h015 : ρ0 0 15 = nI 0 := by rw [hρ0, updR_s, pk_un (by decide), updR_s, pk_un (by decide), updR_s, pk_un (by decide), updR_s, pk_us]
        have h018 : ρ0 0 18 = nI (sX S).length := by rw [hρ0, updR_s, pk_un (by decide), updR_s, pk_un (by decide), updR_s, pk_un (by decide), updR_s, pk_un (by decide), updR_s, pk_us]
        have hf0 : ∀ q, q ≠ 0 → ρ0 q = σ q := fun q a => by rw [hρ0, updR_n a, updR_n a, updR_n a, updR_n a, updR_n a]
        have h00 : ∀ i, i = 2 ∨ i = 4 ∨ i = 8 ∨ i = 11 ∨ i = 12 → ρ0 0 i = σ 0 i := fun i hi => by rw [hρ0, updR_s, pk_un (by omega), updR_s, pk_un (by omega), updR_s, pk_un (by omega), updR_s, pk_un (by omega), updR_s, pk_un (by omega)]
        have he0 : oRead S = oRd S := by unfold oRead nB; rw [hb]
        have hrep : ∀ (ρ : Mem) (f : Int32), RfF ρ0 ρ → RepM (updR ρ 0 (upd (ρ 0) 17 f)) (stX S [] f) := fun ρ f hF => hR.tx ⟨Nat.zero_le _, fun ch h => by cases h⟩ (tx0M (by rw [updR_s, pk_un (by decide), hF.2 15 (by decide) (by decide) (by decide)]; exact h015)) (fun q a b c => by rw [updR_n b, hF.1 q b (by omega)]; exact hf0 q b) (fun i hi => by rw [updR_s, pk_un (by omega), hF.2 i (by omega) (by omega) (by omega)]; exact h00 i (by omega)) (by rw [updR_s, pk_us])
        have JX1 : ∀ (ρ : Mem) (q : Nat), RfF ρ0 ρ → ρ 0 19 = nI q → ρ 0 20 = nI 1 → pAll (sX S) 10 0 = (none, q) → Go objM NM X 41 [some (.ref 0), some (.int (nI 0)), none] [] ρ := by
          intro ρ q hF h19 h20 ep
          refine go_iload_n C dX7_read_41 rfl ?_
          refine go_if_eqN C 92 dX7_read_42 (by decide) (by omega) (fun h42 => ?_) (fun h42 => ?_)
          · refine go_aload_n C dX7_read_92 rfl ?_
            refine go_getI C gf_X7_153 dX7_read_93 (by decide) rfl rfl ?_
            refine go_top _ h20 ?_
            refine go_if_neN C 110 dX7_read_96 (by decide) (by omega) (fun h96 => ?_) (fun h96 => ?_)
            · refine go_aload_n C dX7_read_110 rfl ?_
              refine go_aload_n C dX7_read_111 rfl ?_
              refine go_getI C gf_X7_147 dX7_read_112 (by decide) rfl rfl ?_
              refine go_top _ h19 ?_
              refine go_putI C gf_X7_42 dX7_read_115 (by decide) rfl rfl rfl rfl rfl ?_
              refine go_bipush C (-2) dX7_read_118 rfl ?_
              refine go_iret hr dX7_read_120 rfl ?_
              rw [he0, oRd_no ep]
              exact ⟨rfl, hrep ρ _ hF⟩
            · exact absurd h96 (by omega)
          · exact absurd rfl h42
        have JX2 : ∀ (ρ : Mem) (q : Nat), RfF ρ0 ρ → ρ 0 19 = nI q → ρ 0 20 = nI 0 → q < (sX S).length → pAll (sX S) 10 0 = (none, q) → Go objM NM X 41 [some (.ref 0), some (.int (nI 0)), none] [] ρ := by
          intro ρ q hF h19 h20 hq ep
          refine go_iload_n C dX7_read_41 rfl ?_
          refine go_if_eqN C 92 dX7_read_42 (by decide) (by omega) (fun h42 => ?_) (fun h42 => ?_)
          · refine go_aload_n C dX7_read_92 rfl ?_
            refine go_getI C gf_X7_153 dX7_read_93 (by decide) rfl rfl ?_
            refine go_top _ h20 ?_
            refine go_if_neN C 110 dX7_read_96 (by decide) (by omega) (fun h96 => ?_) (fun h96 => ?_)
            · exact absurd rfl h96
            · refine go_aload_n C dX7_read_99 rfl ?_
              refine go_getI C gf_X7_147 dX7_read_100 (by decide) rfl rfl ?_
              refine go_top _ h19 ?_
              refine go_aload_n C dX7_read_103 rfl ?_
              refine go_getI C gf_X7_150 dX7_read_104 (by decide) rfl rfl ?_
              refine go_top (nI (sX S).length) (by rw [hF.2 18 (by decide) (by decide) (by decide)]; exact h018) ?_
              refine go_icmp_geN C 121 dX7_read_107 (by decide) (by omega) (by omega) (fun h107 => ?_) (fun h107 => ?_)
              · exact absurd h107 (by omega)
              · refine go_aload_n C dX7_read_110 rfl ?_
                refine go_aload_n C dX7_read_111 rfl ?_
                refine go_getI C gf_X7_147 dX7_read_112 (by decide) rfl rfl ?_
                refine go_top _ h19 ?_
                refine go_putI C gf_X7_42 dX7_read_115 (by decide) rfl rfl rfl rfl rfl ?_
                refine go_bipush C (-2) dX7_read_118 rfl ?_
                refine go_iret hr dX7_read_120 rfl ?_
                rw [he0, oRd_no ep]
                exact ⟨rfl, hrep ρ _ hF⟩
          · exact absurd rfl h42
        have JX3 : ∀ (ρ : Mem) (q : Nat) (l : List Cmd), RfF ρ0 ρ → ρ 0 19 = nI q → ρ 0 20 = nI 0 → (sX S).length ≤ q → q ≤ (sX S).length → pAll (sX S) 10 0 = (some l, q) → ρ 0 21 = nI l.length → (∀ a m, l[a]? = some m → CmdM ρ a m) → Go objM NM X 41 [some (.ref 0), some (.int (nI 0)), none] [] ρ := by
          intro ρ q l hF h19 h20 hq hq2 ep h21 hcm
          obtain ⟨hl10, hok⟩ := (pAll_ok hcl 10 0 (Nat.zero_le _)).2 l (by rw [ep])
          have L : ∀ (n : Nat) (i : Nat), (i + n = l.length) → (frst (l.drop i) = frst l) → Go objM NM X 123 [some (.ref 0), some (.int (nI 0)), some (.int (nI i))] [] ρ := by
            intro n
            induction n using Nat.strongRecOn with
            | _ n ih =>
              intro i hi he
              refine go_iload_n C dX7_read_123 rfl ?_
              refine go_aload_n C dX7_read_124 rfl ?_
              refine go_getI C gf_X7_159 dX7_read_125 (by decide) rfl rfl ?_
              refine go_top _ h21 ?_
              refine go_icmp_geN C 166 dX7_read_128 (by decide) (by omega) (by omega) (fun h128 => ?_) (fun h128 => ?_)
              · obtain rfl : i = l.length := by omega
                have hno : frst l = none := by rw [← he, List.drop_length]; rfl
                have hgd := frst_no l hno
                have hR1 : RepM ρ (stX S [] (-4)) := hR.tx ⟨Nat.zero_le _, fun ch h => by cases h⟩ (tx0M (by rw [hF.2 15 (by decide) (by decide) (by decide)]; exact h015)) (fun q a b c => by rw [hF.1 q b (by omega)]; exact hf0 q b) (fun i hi => by rw [hF.2 i (by omega) (by omega) (by omega)]; exact h00 i (by omega)) (by rw [hF.2 17 (by decide) (by decide) (by decide)]; exact h017)
                obtain ⟨hS1, hM1, hL1, hEf1, hB1, hH1, hSv1, hX1, hFt1, hoc1⟩ := id hR1
                refine go_aload_n C dX7_read_166 rfl ?_
                refine go_V0V C ok_X7_keep lk_X7_134 dX7_read_167 (by decide) rfl rfl rfl (k_X7_keep hH1 hS1.2.2.2.1.1 hM1) (by decide) (Nat.le_of_ble_eq_true rfl) (fun σ1 hp1 => ?_)
                have E : ∀ (n : Nat) (i : Nat) (v : Wd) (υ : Mem), (i + n = l.length) → (HasM υ 1 0 v) → (doAll v (l.drop i) = doAll (sW S) l) → (∀ q, q ≠ 1 → υ q = σ1 q) → Go objM NM X 172 [some (.ref 0), some (.int (nI 0)), some (.int (nI i))] [] υ := by
                  intro n
                  induction n using Nat.strongRecOn with
                  | _ n ih =>
                    intro i v υ hi hMv he hFu
                    refine go_iload_n C dX7_read_172 rfl ?_
                    refine go_aload_n C dX7_read_173 rfl ?_
                    refine go_getI C gf_X7_159 dX7_read_174 (by decide) rfl rfl ?_
                    refine go_top (nI l.length) (by rw [hFu 0 (by decide), hp1.2.2 21 (by decide)]; exact h21) ?_
                    refine go_icmp_geN C 194 dX7_read_177 (by decide) (by omega) (by omega) (fun h177 => ?_) (fun h177 => ?_)
                    · obtain rfl : i = l.length := by omega
                      have hW2 : HasM υ 1 0 (doAll (sW S) l) := by rw [← he, List.drop_length]; exact hMv
                      have hOv : OkW (doAll (sW S) l) := doAll_ok l hO hgd
                      have hF2 : ∀ q, q ≠ 0 → q ≠ 1 → q ≠ 3 → υ q = ρ q := fun q a b c => by rw [hFu q b]; exact hp1.2.1 q a c
                      have hF0 : ∀ i, i ≠ 4 → i ≠ 11 → i ≠ 12 → υ 0 i = ρ 0 i := fun i a _ _ => by rw [hFu 0 (by decide)]; exact hp1.2.2 i a
                      have hB2 : υ 0 11 = nI 0 := by rw [hFu 0 (by decide), hp1.2.2 11 (by decide), hF.2 11 (by decide) (by decide) (by decide), h00 11 (by decide)]; exact hB
                      have hHs : HisM υ ((sW S :: sH S).take 6) := hp1.1.of (by rw [hFu 0 (by decide)]) (hFu 3 (by decide))
                      refine go_aload_n C dX7_read_194 rfl ?_
                      refine go_V0I C ok_X7_changed lk_X7_137 dX7_read_195 (by decide) rfl rfl rfl (k_X7_changed (L := lit (sW S)) hOv hW2 ((hF0 8 (by decide) (by decide) (by decide)).trans hoc1) (fun c hc j hj => by rw [hF2 4 (by decide) (by decide) (by decide)]; exact hL1 c hc j hj) (lit_b hOL)) (by decide) (Nat.le_of_ble_eq_true rfl) (fun r τ hp => ?_)
                      refine go_pop C dX7_read_198 rfl ?_
                      refine go_aload_n C dX7_read_199 rfl ?_
                      refine go_getI C gf_X7_159 dX7_read_200 (by decide) rfl rfl ?_
                      refine go_top (nI l.length) (by rw [hp.2.2.2.2 0 (by decide) (by decide) (by decide), hFu 0 (by decide), hp1.2.2 21 (by decide)]; exact h21) ?_
                      refine go_iret hr dX7_read_203 rfl ?_
                      rw [he0, oRd_ok ep hno]
                      have hk := chg_ok (v := doAll (sW S) l) hS1 hOv hp.2.1
                      exact ⟨rfl, (chg_repM (S := stX S [] (-4)) hR1 hHs hk.2.2.2.1 hF2 hF0 hB2 hOv hW2 hp).2⟩
                    · obtain ⟨m, hm⟩ := at_some h177
                      have hml := List.mem_of_getElem? hm
                      have hk1 := hok m hml
                      have hd := drop_c hm
                      have hc1 : CmdM υ i m := (hcm i m hm).of (by rw [hFu 10 (by decide)]; exact hp1.2.1 10 (by decide) (by decide))
                      refine go_aload_n C dX7_read_180 rfl ?_
                      refine go_bipush C (nI 9) dX7_read_181 rfl ?_
                      refine go_iload_n C dX7_read_183 rfl ?_
                      refine go_imulN C dX7_read_184 ?_
                      refine go_V1V C ok_X7_execute lk_X7_174 dX7_read_185 (by decide) rfl rfl rfl (k_X7_execute (s := m.2.1) hk1.1 hk1.2.2.1 hk1.2.2.2 hc1 (by omega) (hgd m hml) hMv) (by decide) (Nat.le_of_ble_eq_true rfl) (fun τ hp => ?_)
                      refine go_iincN C 1 dX7_read_188 rfl rfl (by decide) rfl rfl ?_
                      refine go_goto C 172 dX7_read_191 (by decide) ?_
                      exact ih (n - 1) (by omega) (i + 1) (doC v m) τ (by omega) hp.1 (by rw [← he, hd]; rfl) (fun q a => (hp.2 q a).trans (hFu q a))
                refine go_iconst C (nI 0) dX7_read_170 rfl ?_
                refine go_istore_n C dX7_read_171 (by decide) rfl rfl ?_
                exact E l.length 0 (sW S) σ1 (by omega) (hM1.of (hp1.2.1 1 (by decide) (by decide))) rfl (fun _ _ => rfl)
              · obtain ⟨m, hm⟩ := at_some h128
                have hc1 := hcm i m hm
                have hk1 := hok m (List.mem_of_getElem? hm)
                have hd := drop_c hm
                refine go_aload_n C dX7_read_131 rfl ?_
                refine go_bipush C (nI 9) dX7_read_132 rfl ?_
                refine go_iload_n C dX7_read_134 rfl ?_
                refine go_imulN C dX7_read_135 ?_
                refine go_V1P C ok_X7_isGood lk_X7_171 dX7_read_136 (by decide) rfl rfl rfl (k_X7_isGood (s := m.2.1) hk1.1 hk1.2.2.1 hk1.2.2.2 hc1 (by omega)) (by decide) (Nat.le_of_ble_eq_true rfl) ?_
                refine go_if_neB C 160 dX7_read_139 (by decide) (fun h139 => ?_) (fun h139 => ?_)
                · refine go_iincN C 1 dX7_read_160 rfl rfl (by decide) rfl rfl ?_
                  refine go_goto C 123 dX7_read_163 (by decide) ?_
                  exact ih (n - 1) (by omega) (i + 1) (by omega) (by rw [← he, hd, frst_1 h139])
                · refine go_aload_n C dX7_read_142 rfl ?_
                  refine go_aload_n C dX7_read_143 rfl ?_
                  refine go_getR C gf_X7_45 dX7_read_144 (by decide) rfl rfl ?_
                  refine go_bipush C (nI 9) dX7_read_147 rfl ?_
                  refine go_iload_n C dX7_read_149 rfl ?_
                  refine go_imulN C dX7_read_150 ?_
                  refine go_iconst C (nI 1) dX7_read_151 rfl ?_
                  refine go_iaddN C dX7_read_152 ?_
                  refine go_ialdN C dX7_read_153 (by decide) rfl (by decide) (by omega) ?_
                  refine go_top _ hc1.2.1 ?_
                  refine go_putI C gf_X7_42 dX7_read_154 (by decide) rfl rfl rfl rfl rfl ?_
                  refine go_bipush C (-2) dX7_read_157 rfl ?_
                  refine go_iret hr dX7_read_159 rfl ?_
                  have hs : frst l = some m.2.1 := by rw [← he, hd, frst_0 h139]
                  rw [he0, oRd_re ep hs]
                  exact ⟨rfl, hrep ρ _ hF⟩
          refine go_iload_n C dX7_read_41 rfl ?_
          refine go_if_eqN C 92 dX7_read_42 (by decide) (by omega) (fun h42 => ?_) (fun h42 => ?_)
          · refine go_aload_n C dX7_read_92 rfl ?_
            refine go_getI C gf_X7_153 dX7_read_93 (by decide) rfl rfl ?_
            refine go_top _ h20 ?_
            refine go_if_neN C 110 dX7_read_96 (by decide) (by omega) (fun h96 => ?_) (fun h96 => ?_)
            · exact absurd rfl h96
            · refine go_aload_n C dX7_read_99 rfl ?_
              refine go_getI C gf_X7_147 dX7_read_100 (by decide) rfl rfl ?_
              refine go_top _ h19 ?_
              refine go_aload_n C dX7_read_103 rfl ?_
              refine go_getI C gf_X7_150 dX7_read_104 (by decide) rfl rfl ?_
              refine go_top (nI (sX S).length) (by rw [hF.2 18 (by decide) (by decide) (by decide)]; exact h018) ?_
              refine go_icmp_geN C 121 dX7_read_107 (by decide) (by omega) (by omega) (fun h107 => ?_) (fun h107 => ?_)
              · refine go_iconst C (nI 0) dX7_read_121 rfl ?_
                refine go_istore_n C dX7_read_122 (by decide) rfl rfl ?_
                exact L l.length 0 (by omega) rfl
              · exact absurd h107 (by omega)
          · exact absurd rfl h42
        have M : ∀ (n : Nat) (i : Nat) (p2 : Nat) (dn : List Cmd) (ρ : Mem), (i + n = 10) → (RdM ρ (sX S) p2) → (p2 ≤ (sX S).length ∧ 7 * i ≤ p2) → (ρ 0 21 = nI i) → (dn.length = i ∧ ∀ a m, dn[a]? = some m → OkCmd m ∧ CmdM ρ a m) → (pAll (sX S) 10 0 = ((pAll (sX S) n p2).1.map (dn ++ ·), (pAll (sX S) n p2).2)) → (RfF ρ0 ρ) → Go objM NM X 41 [some (.ref 0), some (.int (nI 1)), none] [] ρ := by
          intro n
          induction n using Nat.strongRecOn with
          | _ n ih =>
            intro i p2 dn ρ hi hRd hp2 h21 hdn he hF
            refine go_iload_n C dX7_read_41 rfl ?_
            refine go_if_eqN C 92 dX7_read_42 (by decide) (by omega) (fun h42 => ?_) (fun h42 => ?_)
            · exact absurd h42 (by omega)
            · obtain ⟨n, rfl⟩ : ∃ m, n = m + 1 := ⟨n - 1, by omega⟩
              obtain ⟨hco1, hco2⟩ := pCmd_ok hp2.1
              refine go_aload_n C dX7_read_45 rfl ?_
              refine go_V0V C ok_X7_readOne lk_X7_168 dX7_read_46 (by decide) rfl rfl rfl (k_X7_readOne hRd hcl hch hp2.1 (j := i) (by omega) h21) (by decide) (Nat.le_of_ble_eq_true rfl) (fun τ hp3 => ?_)
              obtain ⟨hf3, h213, h193, hc3⟩ := hp3
              have hFt : RfF ρ0 τ := ⟨fun q a b => (hf3.1 q a b).trans (hF.1 q a b), fun k a b c => (hf3.2.1 k a b c).trans (hF.2 k a b c)⟩
              refine go_aload_n C dX7_read_49 rfl ?_
              refine go_getI C gf_X7_153 dX7_read_50 (by decide) rfl rfl ?_
              refine go_top (bP ((pCmd (sX S) p2).1 = none)) (by
                rcases hc3 with ⟨ha, hb⟩ | ⟨l, ha, hb, hcm⟩
                · rw [hb]; exact bP_t ha
                · rw [hb]; exact bP_f (by rw [ha]; exact fun q => by cases q)) ?_
              refine go_if_neB C 69 dX7_read_53 (by decide) (fun h53 => ?_) (fun h53 => ?_)
              · have ep : pCmd (sX S) p2 = (none, (pCmd (sX S) p2).2) := Prod.ext h53 rfl
                have hb1 : τ 0 20 = nI 1 := by
                  rcases hc3 with ⟨ha, hb⟩ | ⟨l, ha, hb, hcm⟩
                  · exact hb
                  · rw [ha] at h53; cases h53
                refine go_iconst C (nI 0) dX7_read_69 rfl ?_
                refine go_istore_n C dX7_read_70 (by decide) rfl rfl ?_
                refine go_aload_n C dX7_read_71 rfl ?_
                refine go_dup C dX7_read_72 rfl ?_
                refine go_getI C gf_X7_147 dX7_read_73 (by decide) rfl rfl ?_
                refine go_top _ h193 ?_
                refine go_iload_n C dX7_read_76 rfl ?_
                refine go_if_eqN C 84 dX7_read_77 (by decide) (by omega) (fun h77 => ?_) (fun h77 => ?_)
                · refine go_iconst C (nI 0) dX7_read_84 rfl ?_
                  refine go_iaddN C dX7_read_85 ?_
                  refine go_putI C gf_X7_147 dX7_read_86 (by decide) rfl rfl rfl rfl rfl ?_
                  refine go_gen (fun ρ3 hρ => ?_)
                  have hF4 : RfF ρ0 ρ3 := ⟨fun q a b => by rw [hρ, updR_n a]; exact hFt.1 q a b, fun k a b c => by rw [hρ, updR_s, pk_un a]; exact hFt.2 k a b c⟩
                  have h214 : ρ3 0 21 = nI (i + 1) := by rw [hρ, updR_s, pk_un (by decide)]; exact h213
                  refine go_goto C 41 dX7_read_89 (by decide) ?_
                  exact JX1 ρ3 (pCmd (sX S) p2).2 hF4 (by rw [hρ, updR_s, pk_us]; rfl) (by rw [hρ, updR_s, pk_un (by decide)]; exact hb1) (pAa he (pL_no ep))
                · exact absurd rfl h77
              · obtain ⟨l, ha, hb0, hcm⟩ : ∃ l, (pCmd (sX S) p2).1 = some l ∧ τ 0 20 = nI 0 ∧ CmdM τ i (chA (sX S) p2, p2, l) := by
                  rcases hc3 with ⟨ha, hb⟩ | h
                  · exact absurd ha h53
                  · exact h
                have ep : pCmd (sX S) p2 = (some l, (pCmd (sX S) p2).2) := Prod.ext ha rfl
                have hRt : RdM τ (sX S) (pCmd (sX S) p2).2 := hf3.rd hRd h193
                have hc2 := hco2 l ha
                have hdn4 : (dn ++ [(chA (sX S) p2, p2, l)]).length = i + 1 ∧ ∀ a m, (dn ++ [(chA (sX S) p2, p2, l)])[a]? = some m → OkCmd m ∧ CmdM τ a m := by
                  refine ⟨by rw [List.length_append, hdn.1]; rfl, fun a m hm => ?_⟩
                  rcases at_snoc hm with ⟨q1, q2⟩ | ⟨q1, q2⟩
                  · have hx := hdn.2 a m q2
                    exact ⟨hx.1, CmdM.lt hx.1 hx.2 (by omega) hf3.2.2⟩
                  · rw [q1, hdn.1, q2]
                    exact ⟨⟨hc2.1, by show p2 ≤ 60; omega, hc2.2.1, hc2.2.2.1⟩, hcm⟩
                refine go_aload_n C dX7_read_56 rfl ?_
                refine go_V0P C ok_X7_here lk_X7_156 dX7_read_57 (by decide) rfl rfl rfl (k_X7_here hRt hcl hch (Nat.le_trans hco1 hcl)) (by decide) (Nat.le_of_ble_eq_true rfl) ?_
                refine go_bipush C (nI 59) dX7_read_60 rfl ?_
                refine go_icmp_ne C 69 dX7_read_62 (by decide) (fun h62 => ?_) (fun h62 => ?_)
                · have hne : chA (sX S) (pCmd (sX S) p2).2 ≠ 59 := fun q => h62 ((hI_eq hch (by decide)).mpr q)
                  refine go_iconst C (nI 0) dX7_read_69 rfl ?_
                  refine go_istore_n C dX7_read_70 (by decide) rfl rfl ?_
                  refine go_aload_n C dX7_read_71 rfl ?_
                  refine go_dup C dX7_read_72 rfl ?_
                  refine go_getI C gf_X7_147 dX7_read_73 (by decide) rfl rfl ?_
                  refine go_top _ h193 ?_
                  refine go_iload_n C dX7_read_76 rfl ?_
                  refine go_if_eqN C 84 dX7_read_77 (by decide) (by omega) (fun h77 => ?_) (fun h77 => ?_)
                  · refine go_iconst C (nI 0) dX7_read_84 rfl ?_
                    refine go_iaddN C dX7_read_85 ?_
                    refine go_putI C gf_X7_147 dX7_read_86 (by decide) rfl rfl rfl rfl rfl ?_
                    refine go_gen (fun ρ3 hρ => ?_)
                    have hF4 : RfF ρ0 ρ3 := ⟨fun q a b => by rw [hρ, updR_n a]; exact hFt.1 q a b, fun k a b c => by rw [hρ, updR_s, pk_un a]; exact hFt.2 k a b c⟩
                    have h214 : ρ3 0 21 = nI (i + 1) := by rw [hρ, updR_s, pk_un (by decide)]; exact h213
                    refine go_goto C 41 dX7_read_89 (by decide) ?_
                    have h20 : ρ3 0 20 = nI 0 := by rw [hρ, updR_s, pk_un (by decide)]; exact hb0
                    by_cases hlq : (sX S).length ≤ (pCmd (sX S) p2).2
                    · exact JX3 ρ3 (pCmd (sX S) p2).2 (dn ++ [(chA (sX S) p2, p2, l)]) hF4 (by rw [hρ, updR_s, pk_us]; rfl) h20 hlq hco1 (pAb he (pL_end ep hlq)) (by rw [hdn4.1]; exact h214) (fun a m hm => (hdn4.2 a m hm).2.of (by rw [hρ, updR_n (by decide)]))
                    · exact JX2 ρ3 (pCmd (sX S) p2).2 hF4 (by rw [hρ, updR_s, pk_us]; rfl) h20 (by omega) (pAa he (pL_bad ep hlq hne))
                  · exact absurd rfl h77
                · have heq := (hI_eq hch (by decide)).mp h62
                  have hql := chA_pos (cs := sX S) (p := (pCmd (sX S) p2).2) (by omega)
                  refine go_iconst C (nI 1) dX7_read_65 rfl ?_
                  refine go_goto C 70 dX7_read_66 (by decide) ?_
                  refine go_istore_n C dX7_read_70 (by decide) rfl rfl ?_
                  refine go_aload_n C dX7_read_71 rfl ?_
                  refine go_dup C dX7_read_72 rfl ?_
                  refine go_getI C gf_X7_147 dX7_read_73 (by decide) rfl rfl ?_
                  refine go_top _ h193 ?_
                  refine go_iload_n C dX7_read_76 rfl ?_
                  refine go_if_eqN C 84 dX7_read_77 (by decide) (by omega) (fun h77 => ?_) (fun h77 => ?_)
                  · exact absurd h77 (by omega)
                  · refine go_iconst C (nI 1) dX7_read_80 rfl ?_
                    refine go_goto C 85 dX7_read_81 (by decide) ?_
                    refine go_iaddN C dX7_read_85 ?_
                    refine go_putI C gf_X7_147 dX7_read_86 (by decide) rfl rfl rfl rfl rfl ?_
                    refine go_gen (fun ρ3 hρ => ?_)
                    have hF4 : RfF ρ0 ρ3 := ⟨fun q a b => by rw [hρ, updR_n a]; exact hFt.1 q a b, fun k a b c => by rw [hρ, updR_s, pk_un a]; exact hFt.2 k a b c⟩
                    have h214 : ρ3 0 21 = nI (i + 1) := by rw [hρ, updR_s, pk_un (by decide)]; exact h213
                    refine go_goto C 41 dX7_read_89 (by decide) ?_
                    exact ih n (by omega) (i + 1) ((pCmd (sX S) p2).2 + 1) (dn ++ [(chA (sX S) p2, p2, l)]) ρ3 (by omega) ⟨by rw [hρ, updR_s, pk_un (by decide)]; exact hRt.1, fun a ch h => by rw [hρ, updR_n (by decide)]; exact hRt.2.1 a ch h, by rw [hρ, updR_s, pk_us]⟩ ⟨hql, by omega⟩ h214 ⟨hdn4.1, fun a m hm => ⟨(hdn4.2 a m hm).1, (hdn4.2 a m hm).2.of (by rw [hρ, updR_n (by decide)])⟩⟩ (pAc he (pL_go ep (by omega) heq)) hF4
        refine go_iconst C (nI 1) dX7_read_39 rfl ?_
        refine go_istore_n C dX7_read_40 (by decide) rfl rfl ?_
        exact M 10 0 0 [] ρ0 (by omega) ⟨h018, fun a ch h => by rw [hf0 9 (by decide)]; exact hX.2 a ch h, h019⟩ ⟨Nat.zero_le _, Nat.le_refl _⟩ h021 ⟨rfl, fun a m h => by cases h⟩ (Prod.ext (by cases (pAll (sX S) 10 0).1 <;> rfl) rfl) ⟨fun _ _ _ => rfl, fun _ _ _ _ => rfl⟩
      · exact absurd h4 (by omega)
    | some es =>
      rw [hb] at hB
      have hcl := hS.2.2.2.2.2.1
      have hch := hS.2.2.2.2.2.2
      refine go_aload_n C dX7_read_0 rfl ?_
      refine go_getI C gf_X7_127 dX7_read_1 (by decide) rfl rfl ?_
      refine go_top _ hB.1 ?_
      refine go_if_eqN C 10 dX7_read_4 (by decide) (by omega) (fun h4 => ?_) (fun h4 => ?_)
      · exact absurd h4 (by omega)
      · refine go_bipush C (-5) dX7_read_7 rfl ?_
        refine go_iret hr dX7_read_9 rfl ?_
        exact ⟨by unfold oRead nB; rw [hb], by unfold oRead nB; rw [hb]; exact hR⟩
