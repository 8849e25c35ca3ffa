theorem le15 {x : Int32} (h : nI 15 < x) : nI 16 ≤ x := by
  rcases pk_ix x (n := 16) (by decide) with q | q | ⟨j, hj, rfl⟩
  · exact absurd (Int32.lt_trans h q) (by decide)
  · exact q
  · exact absurd h (nI_nlt (by omega) (by decide))
set_option maxHeartbeats 4000000 in
set_option maxRecDepth 100000 in
theorem k_X6_isStrength {σ : Mem} (x : Int32) : CtI objC NC yX6_isStrength cX6_isStrength 1 .boolean 0 0 [.int x] σ (Pv (bP (rng 16 x)) σ) := by
  refine ct_ofI rfl ?_ (Nat.le_of_ble_eq_true rfl) (fun X C hr => ?_)
  · intro v hv; simp only [List.mem_cons, List.not_mem_nil, or_false] at hv; rcases hv with rfl <;> rfl
  · refine go_iload_n C dX6_isStrength_0 rfl ?_
    refine go_if_lt C 14 dX6_isStrength_1 (by decide) (fun h1 => ?_) (fun h1 => ?_)
    · refine go_iconst C (nI 0) dX6_isStrength_14 rfl ?_
      refine go_iret hr dX6_isStrength_15 rfl ?_
      exact ⟨by first | exact bP_t ⟨by assumption, fun q => absurd (Int32.lt_of_lt_of_le (show nI 15 < nI 16 by decide) q) (by assumption)⟩ | exact bP_f (by rintro ⟨q1, q2⟩; first | contradiction | exact q2 (le15 (by assumption))), rfl⟩
    · refine go_iload_n C dX6_isStrength_4 rfl ?_
      refine go_bipush C (nI 15) dX6_isStrength_5 rfl ?_
      refine go_icmp_gt C 14 dX6_isStrength_7 (by decide) (fun h7 => ?_) (fun h7 => ?_)
      · refine go_iconst C (nI 0) dX6_isStrength_14 rfl ?_
        refine go_iret hr dX6_isStrength_15 rfl ?_
        exact ⟨by first | exact bP_t ⟨by assumption, fun q => absurd (Int32.lt_of_lt_of_le (show nI 15 < nI 16 by decide) q) (by assumption)⟩ | exact bP_f (by rintro ⟨q1, q2⟩; first | contradiction | exact q2 (le15 (by assumption))), rfl⟩
      · refine go_iconst C (nI 1) dX6_isStrength_10 rfl ?_
        refine go_goto C 15 dX6_isStrength_11 (by decide) ?_
        refine go_iret hr dX6_isStrength_15 rfl ?_
        exact ⟨by first | exact bP_t ⟨by assumption, fun q => absurd (Int32.lt_of_lt_of_le (show nI 15 < nI 16 by decide) q) (by assumption)⟩ | exact bP_f (by rintro ⟨q1, q2⟩; first | contradiction | exact q2 (le15 (by assumption))), rfl⟩
set_option maxHeartbeats 4000000 in
set_option maxRecDepth 100000 in
theorem k_X2_neighbor {σ : Mem} {k d : Nat} (hk : k < 1152) (hd : d < 6) : CtI objC NC yX2_neighbor cX2_neighbor 2 .int 1 20 [.int (nI k), .int (nI d)] σ (Pv (oI (nbr k d)) σ) := by
  have b1 := cX_lt k
  have b2 := cY_lt k
  have b3 := cZ_lt hk
  refine ct_ofI rfl ?_ (Nat.le_of_ble_eq_true rfl) (fun X C hr => ?_)
  · intro v hv; simp only [List.mem_cons, List.not_mem_nil, or_false] at hv; rcases hv with rfl | rfl <;> rfl
  · refine go_iload_n C dX2_neighbor_0 rfl ?_
    rcases (show d = 0 ∨ d = 1 ∨ d = 2 ∨ d = 3 ∨ d = 4 ∨ d = 5 by omega) with rfl | rfl | rfl | rfl | rfl | rfl
    · refine go_tableIn C 40 39 dX2_neighbor_1 (by decide) (by decide) rfl (by decide) ?_
      refine go_iload_n C dX2_neighbor_40 rfl ?_
      refine go_S1P C ok_X2_x lk_X2_18 dX2_neighbor_41 (k_X2_x (by omega)) (by decide) (Nat.le_of_ble_eq_true rfl) ?_
      refine go_if_leN C 53 dX2_neighbor_44 (by decide) (by omega) (fun h44 => ?_) (fun h44 => ?_)
      · refine go_iconst C (-1) dX2_neighbor_53 rfl ?_
        refine go_iret hr dX2_neighbor_54 rfl ?_
        exact ⟨by simp only [nbr]; first | (rw [if_pos (by omega)]; rfl) | (rw [if_neg (by omega)]; rfl), rfl⟩
      · refine go_iload_n C dX2_neighbor_47 rfl ?_
        refine go_iconst C (nI 1) dX2_neighbor_48 rfl ?_
        refine go_isubN C dX2_neighbor_49 (by simp only [cX, cY, cZ] at *; omega) ?_
        refine go_goto C 54 dX2_neighbor_50 (by decide) ?_
        refine go_iret hr dX2_neighbor_54 rfl ?_
        exact ⟨by simp only [nbr]; first | (rw [if_pos (by omega)]; rfl) | (rw [if_neg (by omega)]; rfl), rfl⟩
    · refine go_tableIn C 55 54 dX2_neighbor_1 (by decide) (by decide) rfl (by decide) ?_
      refine go_iload_n C dX2_neighbor_55 rfl ?_
      refine go_S1P C ok_X2_x lk_X2_18 dX2_neighbor_56 (k_X2_x (by omega)) (by decide) (Nat.le_of_ble_eq_true rfl) ?_
      refine go_bipush C (nI 11) dX2_neighbor_59 rfl ?_
      refine go_icmp_geN C 70 dX2_neighbor_61 (by decide) (by omega) (by omega) (fun h61 => ?_) (fun h61 => ?_)
      · refine go_iconst C (-1) dX2_neighbor_70 rfl ?_
        refine go_iret hr dX2_neighbor_71 rfl ?_
        exact ⟨by simp only [nbr]; first | (rw [if_pos (by omega)]; rfl) | (rw [if_neg (by omega)]; rfl), rfl⟩
      · refine go_iload_n C dX2_neighbor_64 rfl ?_
        refine go_iconst C (nI 1) dX2_neighbor_65 rfl ?_
        refine go_iaddN C dX2_neighbor_66 ?_
        refine go_goto C 71 dX2_neighbor_67 (by decide) ?_
        refine go_iret hr dX2_neighbor_71 rfl ?_
        exact ⟨by simp only [nbr]; first | (rw [if_pos (by omega)]; rfl) | (rw [if_neg (by omega)]; rfl), rfl⟩
    · refine go_tableIn C 72 71 dX2_neighbor_1 (by decide) (by decide) rfl (by decide) ?_
      refine go_iload_n C dX2_neighbor_72 rfl ?_
      refine go_S1P C ok_X2_y lk_X2_15 dX2_neighbor_73 (k_X2_y (by omega)) (by decide) (Nat.le_of_ble_eq_true rfl) ?_
      refine go_if_leN C 86 dX2_neighbor_76 (by decide) (by omega) (fun h76 => ?_) (fun h76 => ?_)
      · refine go_iconst C (-1) dX2_neighbor_86 rfl ?_
        refine go_iret hr dX2_neighbor_87 rfl ?_
        exact ⟨by simp only [nbr]; first | (rw [if_pos (by omega)]; rfl) | (rw [if_neg (by omega)]; rfl), rfl⟩
      · refine go_iload_n C dX2_neighbor_79 rfl ?_
        refine go_bipush C (nI 12) dX2_neighbor_80 rfl ?_
        refine go_isubN C dX2_neighbor_82 (by simp only [cX, cY, cZ] at *; omega) ?_
        refine go_goto C 87 dX2_neighbor_83 (by decide) ?_
        refine go_iret hr dX2_neighbor_87 rfl ?_
        exact ⟨by simp only [nbr]; first | (rw [if_pos (by omega)]; rfl) | (rw [if_neg (by omega)]; rfl), rfl⟩
    · refine go_tableIn C 88 87 dX2_neighbor_1 (by decide) (by decide) rfl (by decide) ?_
      refine go_iload_n C dX2_neighbor_88 rfl ?_
      refine go_S1P C ok_X2_y lk_X2_15 dX2_neighbor_89 (k_X2_y (by omega)) (by decide) (Nat.le_of_ble_eq_true rfl) ?_
      refine go_bipush C (nI 7) dX2_neighbor_92 rfl ?_
      refine go_icmp_geN C 104 dX2_neighbor_94 (by decide) (by omega) (by omega) (fun h94 => ?_) (fun h94 => ?_)
      · refine go_iconst C (-1) dX2_neighbor_104 rfl ?_
        refine go_iret hr dX2_neighbor_105 rfl ?_
        exact ⟨by simp only [nbr]; first | (rw [if_pos (by omega)]; rfl) | (rw [if_neg (by omega)]; rfl), rfl⟩
      · refine go_iload_n C dX2_neighbor_97 rfl ?_
        refine go_bipush C (nI 12) dX2_neighbor_98 rfl ?_
        refine go_iaddN C dX2_neighbor_100 ?_
        refine go_goto C 105 dX2_neighbor_101 (by decide) ?_
        refine go_iret hr dX2_neighbor_105 rfl ?_
        exact ⟨by simp only [nbr]; first | (rw [if_pos (by omega)]; rfl) | (rw [if_neg (by omega)]; rfl), rfl⟩
    · refine go_tableIn C 106 105 dX2_neighbor_1 (by decide) (by decide) rfl (by decide) ?_
      refine go_iload_n C dX2_neighbor_106 rfl ?_
      refine go_S1P C ok_X2_z lk_X2_9 dX2_neighbor_107 (k_X2_z (by omega)) (by decide) (Nat.le_of_ble_eq_true rfl) ?_
      refine go_if_leN C 120 dX2_neighbor_110 (by decide) (by omega) (fun h110 => ?_) (fun h110 => ?_)
      · refine go_iconst C (-1) dX2_neighbor_120 rfl ?_
        refine go_iret hr dX2_neighbor_121 rfl ?_
        exact ⟨by simp only [nbr]; first | (rw [if_pos (by omega)]; rfl) | (rw [if_neg (by omega)]; rfl), rfl⟩
      · refine go_iload_n C dX2_neighbor_113 rfl ?_
        refine go_bipush C (nI 96) dX2_neighbor_114 rfl ?_
        refine go_isubN C dX2_neighbor_116 (by simp only [cX, cY, cZ] at *; omega) ?_
        refine go_goto C 121 dX2_neighbor_117 (by decide) ?_
        refine go_iret hr dX2_neighbor_121 rfl ?_
        exact ⟨by simp only [nbr]; first | (rw [if_pos (by omega)]; rfl) | (rw [if_neg (by omega)]; rfl), rfl⟩
    · refine go_tableIn C 122 121 dX2_neighbor_1 (by decide) (by decide) rfl (by decide) ?_
      refine go_iload_n C dX2_neighbor_122 rfl ?_
      refine go_S1P C ok_X2_z lk_X2_9 dX2_neighbor_123 (k_X2_z (by omega)) (by decide) (Nat.le_of_ble_eq_true rfl) ?_
      refine go_bipush C (nI 11) dX2_neighbor_126 rfl ?_
      refine go_icmp_geN C 138 dX2_neighbor_128 (by decide) (by omega) (by omega) (fun h128 => ?_) (fun h128 => ?_)
      · refine go_iconst C (-1) dX2_neighbor_138 rfl ?_
        refine go_iret hr dX2_neighbor_139 rfl ?_
        exact ⟨by simp only [nbr]; first | (rw [if_pos (by omega)]; rfl) | (rw [if_neg (by omega)]; rfl), rfl⟩
      · refine go_iload_n C dX2_neighbor_131 rfl ?_
        refine go_bipush C (nI 96) dX2_neighbor_132 rfl ?_
        refine go_iaddN C dX2_neighbor_134 ?_
        refine go_goto C 139 dX2_neighbor_135 (by decide) ?_
        refine go_iret hr dX2_neighbor_139 rfl ?_
        exact ⟨by simp only [nbr]; first | (rw [if_pos (by omega)]; rfl) | (rw [if_neg (by omega)]; rfl), rfl⟩
set_option maxHeartbeats 4000000 in
set_option maxRecDepth 100000 in
theorem k_X5_lossAt {σ : Mem} {w : Wd} (hO : OkW w) (hW : HasW σ 1 w) {k c : Nat} (hk : k < 1152) (hc : c < 4) : CtI objC NC yX5_lossAt cX5_lossAt 3 .int 0 0 [.ref 1, .int (nI k), .int (nI c)] σ (Pv (nI (lossN w c k)) σ) := by
  have ht := hO.1 k hk
  refine ct_ofI rfl ?_ (Nat.le_of_ble_eq_true rfl) (fun X C hr => ?_)
  · intro v hv; simp only [List.mem_cons, List.not_mem_nil, or_false] at hv; rcases hv with rfl | rfl | rfl <;> rfl
  · refine go_aload_n C dX5_lossAt_0 rfl ?_
    refine go_getR C gf_X5_15 dX5_lossAt_1 (by decide) rfl rfl ?_
    refine go_aload_n C dX5_lossAt_4 rfl ?_
    refine go_getR C gf_X5_9 dX5_lossAt_5 (by decide) rfl rfl ?_
    refine go_iload_n C dX5_lossAt_8 rfl ?_
    refine go_ialdN C dX5_lossAt_9 (by decide) rfl (by decide) (by omega) ?_
    refine go_top _ (hW.1 _ (by omega)) ?_
    refine go_iconst C (nI 4) dX5_lossAt_10 rfl ?_
    refine go_imulN C dX5_lossAt_11 ?_
    refine go_iload_n C dX5_lossAt_12 rfl ?_
    refine go_iaddN C dX5_lossAt_13 ?_
    refine go_ialdN C dX5_lossAt_14 (by decide) rfl (by decide) (by omega) ?_
    refine go_top _ (hW.2.1 _ (by omega)) ?_
    refine go_iret hr dX5_lossAt_15 rfl ?_
    exact ⟨congrArg nI (by unfold lossN; rw [Nat.mul_comm]), rfl⟩
set_option maxHeartbeats 4000000 in
set_option maxRecDepth 100000 in
theorem k_X5_emissionAt {σ : Mem} {w : Wd} (hO : OkW w) (hW : HasW σ 1 w) {k c : Nat} (hk : k < 1152) (hc : c < 4) : CtI objC NC yX5_emissionAt cX5_emissionAt 3 .int 0 0 [.ref 1, .int (nI k), .int (nI c)] σ (Pv (nI (emN w c k)) σ) := by
  have ht := hO.1 k hk
  refine ct_ofI rfl ?_ (Nat.le_of_ble_eq_true rfl) (fun X C hr => ?_)
  · intro v hv; simp only [List.mem_cons, List.not_mem_nil, or_false] at hv; rcases hv with rfl | rfl | rfl <;> rfl
  · refine go_aload_n C dX5_emissionAt_0 rfl ?_
    refine go_getR C gf_X5_18 dX5_emissionAt_1 (by decide) rfl rfl ?_
    refine go_aload_n C dX5_emissionAt_4 rfl ?_
    refine go_getR C gf_X5_9 dX5_emissionAt_5 (by decide) rfl rfl ?_
    refine go_iload_n C dX5_emissionAt_8 rfl ?_
    refine go_ialdN C dX5_emissionAt_9 (by decide) rfl (by decide) (by omega) ?_
    refine go_top _ (hW.1 _ (by omega)) ?_
    refine go_iconst C (nI 4) dX5_emissionAt_10 rfl ?_
    refine go_imulN C dX5_emissionAt_11 ?_
    refine go_iload_n C dX5_emissionAt_12 rfl ?_
    refine go_iaddN C dX5_emissionAt_13 ?_
    refine go_ialdN C dX5_emissionAt_14 (by decide) rfl (by decide) (by omega) ?_
    refine go_top _ (hW.2.2 _ (by omega)) ?_
    refine go_iret hr dX5_emissionAt_15 rfl ?_
    exact ⟨congrArg nI (by unfold emN; rw [Nat.mul_comm]), rfl⟩
/-- cells of a type other than 0 -/
noncomputable def filled (w : Wd) : Nat := cnt (fun j => wT w j ≠ 0) 1152
set_option maxHeartbeats 4000000 in
set_option maxRecDepth 100000 in
theorem k_X5_countFilled {σ : Mem} {w : Wd} (hO : OkW w) (hW : HasW σ 1 w) : CtI objC NC yX5_countFilled cX5_countFilled 3 .int 0 0 [.ref 1] σ (Pv (nI (filled w)) σ) := by
  refine ct_ofI rfl ?_ (Nat.le_of_ble_eq_true rfl) (fun X C hr => ?_)
  · intro v hv; simp only [List.mem_cons, List.not_mem_nil, or_false] at hv; rcases hv with rfl <;> rfl
  · have L : ∀ (n : Nat) (i : Nat), (i + n = 1152) → Go objC NC X 4 [some (.ref 1), some (.int (nI (cnt (fun j => wT w j ≠ 0) i))), some (.int (nI i))] [] σ := by
      intro n
      induction n using Nat.strongRecOn with
      | _ n ih =>
        intro i hi
        have hc := cnt_le (p := fun j => wT w j ≠ 0) i
        have ht : i < 1152 → wT w i < 8 := hO.1 i
        refine go_iload_n C dX5_countFilled_4 rfl ?_
        refine go_sipush C (nI 1152) dX5_countFilled_5 rfl ?_
        refine go_icmp_geN C 29 dX5_countFilled_8 (by decide) (by omega) (by omega) (fun h8 => ?_) (fun h8 => ?_)
        · refine go_iload_n C dX5_countFilled_29 rfl ?_
          refine go_iret hr dX5_countFilled_30 rfl ?_
          exact ⟨by rw [show i = 1152 by omega]; rfl, rfl⟩
        · refine go_aload_n C dX5_countFilled_11 rfl ?_
          refine go_getR C gf_X5_9 dX5_countFilled_12 (by decide) rfl rfl ?_
          refine go_iload_n C dX5_countFilled_15 rfl ?_
          refine go_ialdN C dX5_countFilled_16 (by decide) rfl (by decide) (by omega) ?_
          refine go_top _ (hW.1 _ (by omega)) ?_
          refine go_if_eqN C 23 dX5_countFilled_17 (by decide) (by omega) (fun h17 => ?_) (fun h17 => ?_)
          · refine go_iincN C 1 dX5_countFilled_23 rfl rfl (by decide) rfl rfl ?_
            refine go_goto C 4 dX5_countFilled_26 (by decide) ?_
            have q := ih (n - 1) (by omega) (i + 1) (by omega)
            first | (rw [show cnt (fun j => wT w j ≠ 0) (i + 1) = cnt (fun j => wT w j ≠ 0) i + 1 from congrArg (cnt (fun j => wT w j ≠ 0) i + ·) (pN_t (by omega))] at q; exact q) | (rw [show cnt (fun j => wT w j ≠ 0) (i + 1) = cnt (fun j => wT w j ≠ 0) i from congrArg (cnt (fun j => wT w j ≠ 0) i + ·) (pN_f (by omega))] at q; exact q)
          · refine go_iincN C 1 dX5_countFilled_20 rfl rfl (by decide) rfl rfl ?_
            refine go_iincN C 1 dX5_countFilled_23 rfl rfl (by decide) rfl rfl ?_
            refine go_goto C 4 dX5_countFilled_26 (by decide) ?_
            have q := ih (n - 1) (by omega) (i + 1) (by omega)
            first | (rw [show cnt (fun j => wT w j ≠ 0) (i + 1) = cnt (fun j => wT w j ≠ 0) i + 1 from congrArg (cnt (fun j => wT w j ≠ 0) i + ·) (pN_t (by omega))] at q; exact q) | (rw [show cnt (fun j => wT w j ≠ 0) (i + 1) = cnt (fun j => wT w j ≠ 0) i from congrArg (cnt (fun j => wT w j ≠ 0) i + ·) (pN_f (by omega))] at q; exact q)
    refine go_iconst C (nI 0) dX5_countFilled_0 rfl ?_
    refine go_istore_n C dX5_countFilled_1 (by decide) rfl rfl ?_
    refine go_iconst C (nI 0) dX5_countFilled_2 rfl ?_
    refine go_istore_n C dX5_countFilled_3 (by decide) rfl rfl ?_
    exact L 1152 0 (by omega)
