def inI (v a b : Int32) : Prop := ¬ v < a ∧ ¬ b < v
theorem inI_rng {v : Int32} {k : Nat} (hk : k + 1 < 2 ^ 31) : inI v (nI 0) (nI k) ↔ rng (k + 1) v := by
  constructor
  · rintro ⟨h1, h2⟩
    refine ⟨h1, fun q => ?_⟩
    exact h2 (Int32.lt_of_lt_of_le (nI_lt (Nat.lt_succ_self k) hk) q)
  · rintro h
    obtain ⟨a, ha, rfl⟩ := rng_nat hk h
    exact ⟨nI_pos (by omega), nI_nlt (by omega) (by omega)⟩
theorem inI_nI {a b c : Nat} (ha : a < 2 ^ 31) (hb : b < 2 ^ 31) (hc : c < 2 ^ 31) : inI (nI a) (nI b) (nI c) ↔ b ≤ a ∧ a ≤ c := by
  unfold inI
  rw [nI_ltI ha hb, nI_ltI hc ha]
  omega
set_option maxHeartbeats 4000000 in
set_option maxRecDepth 100000 in
theorem k_X7_in0 {σ : Mem} (v a b : Int32) : CtI objM NM yX7_in cX7_in 3 .boolean 0 0 [.int v, .int a, .int b] σ (Pv (bP (inI v a b)) σ) := by
  refine ct_ofI rfl ?_ (Nat.le_of_ble_eq_true rfl) (fun X C hr => ?_)
  · intro v hv; simp only [List.mem_cons, List.not_mem_nil, or_false] at hv; rcases hv with rfl | rfl | rfl <;> rfl
  · refine go_iload_n C dX7_in_0 rfl ?_
    refine go_iload_n C dX7_in_1 rfl ?_
    refine go_icmp_lt C 14 dX7_in_2 (by decide) (fun h2 => ?_) (fun h2 => ?_)
    · refine go_iconst C (nI 0) dX7_in_14 rfl ?_
      refine go_iret hr dX7_in_15 rfl ?_
      exact ⟨by first | exact bP_t ⟨by assumption, by assumption⟩ | exact bP_f (by rintro ⟨q1, q2⟩; contradiction), rfl⟩
    · refine go_iload_n C dX7_in_5 rfl ?_
      refine go_iload_n C dX7_in_6 rfl ?_
      refine go_icmp_gt C 14 dX7_in_7 (by decide) (fun h7 => ?_) (fun h7 => ?_)
      · refine go_iconst C (nI 0) dX7_in_14 rfl ?_
        refine go_iret hr dX7_in_15 rfl ?_
        exact ⟨by first | exact bP_t ⟨by assumption, by assumption⟩ | exact bP_f (by rintro ⟨q1, q2⟩; contradiction), rfl⟩
      · refine go_iconst C (nI 1) dX7_in_10 rfl ?_
        refine go_goto C 15 dX7_in_11 (by decide) ?_
        refine go_iret hr dX7_in_15 rfl ?_
        exact ⟨by first | exact bP_t ⟨by assumption, by assumption⟩ | exact bP_f (by rintro ⟨q1, q2⟩; contradiction), rfl⟩
theorem k_X7_in {σ : Mem} {k : Nat} (hk : k + 1 < 2 ^ 31) (v : Int32) : CtI objM NM yX7_in cX7_in 3 .boolean 0 0 [.int v, .int (nI 0), .int (nI k)] σ (Pv (bP (rng (k + 1) v)) σ) := by
  rw [← bP_c (inI_rng hk)]
  exact k_X7_in0 v _ _
set_option maxHeartbeats 4000000 in
set_option maxRecDepth 100000 in
theorem k_X7_isCell {σ : Mem} (x y z : Int32) : CtI objM NM yX7_isCell cX7_isCell 3 .boolean 1 22 [.int x, .int y, .int z] σ (Pv (bP (isC x y z)) σ) := by
  refine ct_ofI rfl ?_ (Nat.le_of_ble_eq_true rfl) (fun X C hr => ?_)
  · intro v hv; simp only [List.mem_cons, List.not_mem_nil, or_false] at hv; rcases hv with rfl | rfl | rfl <;> rfl
  · refine go_iload_n C dX7_isCell_0 rfl ?_
    refine go_iconst C (nI 0) dX7_isCell_1 rfl ?_
    refine go_bipush C (nI 11) dX7_isCell_2 rfl ?_
    refine go_S3P C ok_X7_in lk_X7_57 dX7_isCell_4 (k_X7_in (by decide) _) (by decide) (Nat.le_of_ble_eq_true rfl) ?_
    refine go_if_eqB C 34 dX7_isCell_7 (by decide) (fun h7 => ?_) (fun h7 => ?_)
    · refine go_iconst C (nI 0) dX7_isCell_34 rfl ?_
      refine go_iret hr dX7_isCell_35 rfl ?_
      exact ⟨by first | exact bP_t ⟨by assumption, by assumption, by assumption⟩ | exact bP_f (by rintro ⟨q1, q2, q3⟩; contradiction), rfl⟩
    · refine go_iload_n C dX7_isCell_10 rfl ?_
      refine go_iconst C (nI 0) dX7_isCell_11 rfl ?_
      refine go_bipush C (nI 7) dX7_isCell_12 rfl ?_
      refine go_S3P C ok_X7_in lk_X7_57 dX7_isCell_14 (k_X7_in (by decide) _) (by decide) (Nat.le_of_ble_eq_true rfl) ?_
      refine go_if_eqB C 34 dX7_isCell_17 (by decide) (fun h17 => ?_) (fun h17 => ?_)
      · refine go_iconst C (nI 0) dX7_isCell_34 rfl ?_
        refine go_iret hr dX7_isCell_35 rfl ?_
        exact ⟨by first | exact bP_t ⟨by assumption, by assumption, by assumption⟩ | exact bP_f (by rintro ⟨q1, q2, q3⟩; contradiction), rfl⟩
      · refine go_iload_n C dX7_isCell_20 rfl ?_
        refine go_iconst C (nI 0) dX7_isCell_21 rfl ?_
        refine go_bipush C (nI 11) dX7_isCell_22 rfl ?_
        refine go_S3P C ok_X7_in lk_X7_57 dX7_isCell_24 (k_X7_in (by decide) _) (by decide) (Nat.le_of_ble_eq_true rfl) ?_
        refine go_if_eqB C 34 dX7_isCell_27 (by decide) (fun h27 => ?_) (fun h27 => ?_)
        · refine go_iconst C (nI 0) dX7_isCell_34 rfl ?_
          refine go_iret hr dX7_isCell_35 rfl ?_
          exact ⟨by first | exact bP_t ⟨by assumption, by assumption, by assumption⟩ | exact bP_f (by rintro ⟨q1, q2, q3⟩; contradiction), rfl⟩
        · refine go_iconst C (nI 1) dX7_isCell_30 rfl ?_
          refine go_goto C 35 dX7_isCell_31 (by decide) ?_
          refine go_iret hr dX7_isCell_35 rfl ?_
          exact ⟨by first | exact bP_t ⟨by assumption, by assumption, by assumption⟩ | exact bP_f (by rintro ⟨q1, q2, q3⟩; contradiction), rfl⟩
set_option maxHeartbeats 4000000 in
set_option maxRecDepth 100000 in
theorem k_X7_xOf {σ : Mem} {k : Nat} (hk : k < 1152) : CtI objM NM yX7_xOf cX7_xOf 1 .int 0 0 [.int (nI k)] σ (Pv (nI (cX k)) σ) := by
  have h1 := cX_lt k
  have h2 := cZ_lt hk
  refine ct_ofI rfl ?_ (Nat.le_of_ble_eq_true rfl) (fun X C hr => ?_)
  · intro v hv; simp only [List.mem_cons, List.not_mem_nil, or_false] at hv; rcases hv with rfl <;> rfl
  · refine go_iload_n C dX7_xOf_0 rfl ?_
    refine go_bipush C (nI 12) dX7_xOf_1 rfl ?_
    refine go_iremN C dX7_xOf_3 (by omega) (by omega) (by omega) ?_
    refine go_iret hr dX7_xOf_4 rfl ?_
    exact ⟨rfl, rfl⟩
set_option maxHeartbeats 4000000 in
set_option maxRecDepth 100000 in
theorem k_X7_yOf {σ : Mem} {k : Nat} (hk : k < 1152) : CtI objM NM yX7_yOf cX7_yOf 1 .int 0 0 [.int (nI k)] σ (Pv (nI (cY k)) σ) := by
  have h1 := cX_lt k
  have h2 := cZ_lt hk
  refine ct_ofI rfl ?_ (Nat.le_of_ble_eq_true rfl) (fun X C hr => ?_)
  · intro v hv; simp only [List.mem_cons, List.not_mem_nil, or_false] at hv; rcases hv with rfl <;> rfl
  · refine go_iload_n C dX7_yOf_0 rfl ?_
    refine go_bipush C (nI 12) dX7_yOf_1 rfl ?_
    refine go_idivN C dX7_yOf_3 (by omega) (by omega) (by omega) ?_
    refine go_bipush C (nI 8) dX7_yOf_4 rfl ?_
    refine go_iremN C dX7_yOf_6 (by omega) (by omega) (by omega) ?_
    refine go_iret hr dX7_yOf_7 rfl ?_
    exact ⟨rfl, rfl⟩
set_option maxHeartbeats 4000000 in
set_option maxRecDepth 100000 in
theorem k_X7_zOf {σ : Mem} {k : Nat} (hk : k < 1152) : CtI objM NM yX7_zOf cX7_zOf 1 .int 0 0 [.int (nI k)] σ (Pv (nI (cZ k)) σ) := by
  have h1 := cX_lt k
  have h2 := cZ_lt hk
  refine ct_ofI rfl ?_ (Nat.le_of_ble_eq_true rfl) (fun X C hr => ?_)
  · intro v hv; simp only [List.mem_cons, List.not_mem_nil, or_false] at hv; rcases hv with rfl <;> rfl
  · refine go_iload_n C dX7_zOf_0 rfl ?_
    refine go_bipush C (nI 96) dX7_zOf_1 rfl ?_
    refine go_idivN C dX7_zOf_3 (by omega) (by omega) (by omega) ?_
    refine go_iret hr dX7_zOf_4 rfl ?_
    exact ⟨rfl, rfl⟩
set_option maxHeartbeats 4000000 in
set_option maxRecDepth 100000 in
theorem k_X7_code {σ : Mem} {k : Nat} (hk : k < 1152) : CtI objM NM yX7_code cX7_code 1 .int 1 20 [.int (nI k)] σ (Pv (nI (cod k)) σ) := by
  have h1 := cX_lt k
  have h2 := cZ_lt hk
  refine ct_ofI rfl ?_ (Nat.le_of_ble_eq_true rfl) (fun X C hr => ?_)
  · intro v hv; simp only [List.mem_cons, List.not_mem_nil, or_false] at hv; rcases hv with rfl <;> rfl
  · refine go_bipush C (nI 100) dX7_code_0 rfl ?_
    refine go_iload_n C dX7_code_2 rfl ?_
    refine go_S1P C ok_X7_zOf lk_X7_61 dX7_code_3 (k_X7_zOf (by omega)) (by decide) (Nat.le_of_ble_eq_true rfl) ?_
    refine go_imulN C dX7_code_6 ?_
    refine go_bipush C (nI 12) dX7_code_7 rfl ?_
    refine go_iload_n C dX7_code_9 rfl ?_
    refine go_S1P C ok_X7_yOf lk_X7_65 dX7_code_10 (k_X7_yOf (by omega)) (by decide) (Nat.le_of_ble_eq_true rfl) ?_
    refine go_imulN C dX7_code_13 ?_
    refine go_iaddN C dX7_code_14 ?_
    refine go_iload_n C dX7_code_15 rfl ?_
    refine go_S1P C ok_X7_xOf lk_X7_68 dX7_code_16 (k_X7_xOf (by omega)) (by decide) (Nat.le_of_ble_eq_true rfl) ?_
    refine go_iaddN C dX7_code_19 ?_
    refine go_iret hr dX7_code_20 rfl ?_
    exact ⟨rfl, rfl⟩
set_option maxHeartbeats 4000000 in
set_option maxRecDepth 100000 in
theorem k_X7_chunkOf {σ : Mem} {k : Nat} (hk : k < 1152) : CtI objM NM yX7_chunkOf cX7_chunkOf 1 .int 1 20 [.int (nI k)] σ (Pv (nI (chk k)) σ) := by
  have h1 := cX_lt k
  have h2 := cZ_lt hk
  refine ct_ofI rfl ?_ (Nat.le_of_ble_eq_true rfl) (fun X C hr => ?_)
  · intro v hv; simp only [List.mem_cons, List.not_mem_nil, or_false] at hv; rcases hv with rfl <;> rfl
  · refine go_iconst C (nI 3) dX7_chunkOf_0 rfl ?_
    refine go_iload_n C dX7_chunkOf_1 rfl ?_
    refine go_S1P C ok_X7_zOf lk_X7_61 dX7_chunkOf_2 (k_X7_zOf (by omega)) (by decide) (Nat.le_of_ble_eq_true rfl) ?_
    refine go_iconst C (nI 4) dX7_chunkOf_5 rfl ?_
    refine go_idivN C dX7_chunkOf_6 (by omega) (by omega) (by omega) ?_
    refine go_imulN C dX7_chunkOf_7 ?_
    refine go_iload_n C dX7_chunkOf_8 rfl ?_
    refine go_S1P C ok_X7_xOf lk_X7_68 dX7_chunkOf_9 (k_X7_xOf (by omega)) (by decide) (Nat.le_of_ble_eq_true rfl) ?_
    refine go_iconst C (nI 4) dX7_chunkOf_12 rfl ?_
    refine go_idivN C dX7_chunkOf_13 (by omega) (by omega) (by omega) ?_
    refine go_iaddN C dX7_chunkOf_14 ?_
    refine go_iret hr dX7_chunkOf_15 rfl ?_
    exact ⟨rfl, rfl⟩
set_option maxHeartbeats 4000000 in
set_option maxRecDepth 100000 in
theorem k_X7_cell {σ : Mem} {a b c : Nat} : CtI objM NM yX7_cell cX7_cell 3 .int 0 0 [.int (nI a), .int (nI b), .int (nI c)] σ (Pv (nI (cel a b c)) σ) := by
  refine ct_ofI rfl ?_ (Nat.le_of_ble_eq_true rfl) (fun X C hr => ?_)
  · intro v hv; simp only [List.mem_cons, List.not_mem_nil, or_false] at hv; rcases hv with rfl | rfl | rfl <;> rfl
  · refine go_iload_n C dX7_cell_0 rfl ?_
    refine go_bipush C (nI 8) dX7_cell_1 rfl ?_
    refine go_imulN C dX7_cell_3 ?_
    refine go_iload_n C dX7_cell_4 rfl ?_
    refine go_iaddN C dX7_cell_5 ?_
    refine go_bipush C (nI 12) dX7_cell_6 rfl ?_
    refine go_imulN C dX7_cell_8 ?_
    refine go_iload_n C dX7_cell_9 rfl ?_
    refine go_iaddN C dX7_cell_10 ?_
    refine go_iret hr dX7_cell_11 rfl ?_
    exact ⟨congrArg nI (by unfold cel; omega), rfl⟩
set_option maxHeartbeats 4000000 in
set_option maxRecDepth 100000 in
theorem k_X7_isType {σ : Mem} (x : Int32) : CtI objM NM yX7_isType cX7_isType 1 .boolean 1 22 [.int x] σ (Pv (bP (rng 8 x)) σ) := by
  refine ct_ofI rfl ?_ (Nat.le_of_ble_eq_true rfl) (fun X C hr => ?_)
  · intro v hv; simp only [List.mem_cons, List.not_mem_nil, or_false] at hv; rcases hv with rfl <;> rfl
  · refine go_iload_n C dX7_isType_0 rfl ?_
    refine go_iconst C (nI 0) dX7_isType_1 rfl ?_
    refine go_bipush C (nI 7) dX7_isType_2 rfl ?_
    refine go_S3P C ok_X7_in lk_X7_57 dX7_isType_4 (k_X7_in (by decide) _) (by decide) (Nat.le_of_ble_eq_true rfl) ?_
    refine go_iret hr dX7_isType_7 bP_nar ?_
    exact ⟨rfl, rfl⟩
def dlX : Nat → Int32
  | 0 => -1
  | 1 => nI 1
  | _ => nI 0
def dlY : Nat → Int32
  | 2 => -1
  | 3 => nI 1
  | _ => nI 0
def dlZ : Nat → Int32
  | 4 => -1
  | 5 => nI 1
  | _ => nI 0
theorem p1_i (a : Nat) : nI a + nI 1 = nI (a + 1) := nI_add a 1
theorem p0_i (a : Nat) : nI a + nI 0 = nI a := nI_add a 0
theorem m1_i {a b : Nat} (ha : a < 2 ^ 30) (hb : b < 2 ^ 30) (h : nI a + (-1) = nI b) : a = b + 1 := by
  rcases Nat.eq_zero_or_pos a with rfl | h0
  · exact absurd h (fun q => oI_ne (j := b) (by omega) (by rw [← q]; rfl))
  · obtain ⟨c, rfl⟩ : ∃ c, a = c + 1 := ⟨a - 1, by omega⟩
    rw [pk_m1] at h
    rw [(nI_eq (by omega) (by omega)).mp h]
theorem nxt_no {k d : Nat} {x y z : Int32} (hk : k < 1152) (hd : d < 6) (hx : x = nI (cX k) + dlX d) (hy : y = nI (cY k) + dlY d) (hz : z = nI (cZ k) + dlZ d) (h : ¬ isC x y z) : -1 = oI (nbr k d) := by
  have b1 := cX_lt k
  have b2 := cY_lt k
  have b3 := cZ_lt hk
  subst hx hy hz
  rcases (show d = 0 ∨ d = 1 ∨ d = 2 ∨ d = 3 ∨ d = 4 ∨ d = 5 by omega) with rfl | rfl | rfl | rfl | rfl | rfl <;> simp only [nbr, dlX, dlY, dlZ, p1_i, p0_i] at h ⊢
  · rw [if_neg]; rfl
    intro q
    obtain ⟨c, hc⟩ : ∃ c, cX k = c + 1 := ⟨cX k - 1, by omega⟩
    rw [hc, pk_m1] at h
    exact h (isC_nI (by omega) b2 b3)
  · rw [if_neg]; rfl
    exact fun q => h (isC_nI (by omega) b2 b3)
  · rw [if_neg]; rfl
    intro q
    obtain ⟨c, hc⟩ : ∃ c, cY k = c + 1 := ⟨cY k - 1, by omega⟩
    rw [hc, pk_m1] at h
    exact h (isC_nI b1 (by omega) b3)
  · rw [if_neg]; rfl
    exact fun q => h (isC_nI b1 (by omega) b3)
  · rw [if_neg]; rfl
    intro q
    obtain ⟨c, hc⟩ : ∃ c, cZ k = c + 1 := ⟨cZ k - 1, by omega⟩
    rw [hc, pk_m1] at h
    exact h (isC_nI b1 b2 (by omega))
  · rw [if_neg]; rfl
    exact fun q => h (isC_nI b1 b2 (by omega))
theorem nxt_yes {k d a b c : Nat} (hk : k < 1152) (hd : d < 6) (ha : a < 12) (hb : b < 8) (hc : c < 12) (hx : nI a = nI (cX k) + dlX d) (hy : nI b = nI (cY k) + dlY d) (hz : nI c = nI (cZ k) + dlZ d) : nI (cel a b c) = oI (nbr k d) := by
  have b1 := cX_lt k
  have b2 := cY_lt k
  have b3 := cZ_lt hk
  have ek := cel_c hk
  have e : ∀ {u v : Nat}, u < 100 → v < 100 → nI u = nI v → u = v := fun hu hv q => (nI_eq (by omega) (by omega)).mp q
  rcases (show d = 0 ∨ d = 1 ∨ d = 2 ∨ d = 3 ∨ d = 4 ∨ d = 5 by omega) with rfl | rfl | rfl | rfl | rfl | rfl <;> simp only [nbr, dlX, dlY, dlZ, p1_i, p0_i] at hx hy hz ⊢
  · have h1 := m1_i (by omega) (by omega) hx.symm
    have h2 := e (by omega) (by omega) hy
    have h3 := e (by omega) (by omega) hz
    rw [if_pos (by omega)]
    refine congrArg nI ?_
    rw [h2, h3]; unfold cel at ek ⊢; omega
  · have h1 := e (by omega) (by omega) hx
    have h2 := e (by omega) (by omega) hy
    have h3 := e (by omega) (by omega) hz
    rw [if_pos (by omega)]
    refine congrArg nI ?_
    rw [h2, h3]; unfold cel at ek ⊢; omega
  · have h1 := e (by omega) (by omega) hx
    have h2 := m1_i (by omega) (by omega) hy.symm
    have h3 := e (by omega) (by omega) hz
    rw [if_pos (by omega)]
    refine congrArg nI ?_
    rw [h1, h3]; unfold cel at ek ⊢; omega
  · have h1 := e (by omega) (by omega) hx
    have h2 := e (by omega) (by omega) hy
    have h3 := e (by omega) (by omega) hz
    rw [if_pos (by omega)]
    refine congrArg nI ?_
    rw [h1, h3]; unfold cel at ek ⊢; omega
  · have h1 := e (by omega) (by omega) hx
    have h2 := e (by omega) (by omega) hy
    have h3 := m1_i (by omega) (by omega) hz.symm
    rw [if_pos (by omega)]
    refine congrArg nI ?_
    rw [h1, h2]; unfold cel at ek ⊢; omega
  · have h1 := e (by omega) (by omega) hx
    have h2 := e (by omega) (by omega) hy
    have h3 := e (by omega) (by omega) hz
    rw [if_pos (by omega)]
    refine congrArg nI ?_
    rw [h1, h2]; unfold cel at ek ⊢; omega
set_option maxHeartbeats 4000000 in
set_option maxRecDepth 100000 in
theorem k_X7_next {σ : Mem} {k d : Nat} (hk : k < 1152) (hd : d < 6) : CtI objM NM yX7_next cX7_next 6 .int 2 44 [.int (nI k), .int (nI d)] σ (Pv (oI (nbr k d)) σ) := by
  refine ct_ofI rfl ?_ (Nat.le_of_ble_eq_true rfl) (fun X C hr => ?_)
  · intro v hv; simp only [List.mem_cons, List.not_mem_nil, or_false] at hv; rcases hv with rfl | rfl <;> rfl
  · have T : ∀ (v2 x y z : Int32), x = nI (cX k) + dlX d → y = nI (cY k) + dlY d → z = nI (cZ k) + dlZ d → Go objM NM X 67 [some (.int (nI k)), some (.int (nI d)), some (.int v2), some (.int x), some (.int y), some (.int z)] [] σ := by
      intro v2 x y z hx hy hz
      refine go_iload_n C dX7_next_67 rfl ?_
      refine go_iload C dX7_next_68 rfl ?_
      refine go_iload C dX7_next_70 rfl ?_
      refine go_S3P C ok_X7_isCell lk_X7_71 dX7_next_72 (k_X7_isCell _ _ _) (by decide) (Nat.le_of_ble_eq_true rfl) ?_
      refine go_if_eqB C 89 dX7_next_75 (by decide) (fun h75 => ?_) (fun h75 => ?_)
      · skip
        refine go_iconst C (-1) dX7_next_89 rfl ?_
        refine go_iret hr dX7_next_90 rfl ?_
        first | exact ⟨nxt_no hk hd hx hy hz h75, rfl⟩ | exact ⟨nxt_yes hk hd ha hb hc hx hy hz, rfl⟩
      · obtain ⟨r1, r2, r3⟩ := h75
        obtain ⟨a, ha, rfl⟩ := rng_nat (by decide) r1
        obtain ⟨b, hb, rfl⟩ := rng_nat (by decide) r2
        obtain ⟨c, hc, rfl⟩ := rng_nat (by decide) r3
        refine go_iload_n C dX7_next_78 rfl ?_
        refine go_iload C dX7_next_79 rfl ?_
        refine go_iload C dX7_next_81 rfl ?_
        refine go_S3P C ok_X7_cell lk_X7_74 dX7_next_83 k_X7_cell (by decide) (Nat.le_of_ble_eq_true rfl) ?_
        refine go_goto C 90 dX7_next_86 (by decide) ?_
        refine go_iret hr dX7_next_90 rfl ?_
        first | exact ⟨nxt_no hk hd hx hy hz h75, rfl⟩ | exact ⟨nxt_yes hk hd ha hb hc hx hy hz, rfl⟩
    rcases (show d = 0 ∨ d = 1 ∨ d = 2 ∨ d = 3 ∨ d = 4 ∨ d = 5 by omega) with rfl | rfl | rfl | rfl | rfl | rfl
    · refine go_iload_n C dX7_next_0 rfl ?_
      refine go_iconst C (nI 2) dX7_next_1 rfl ?_
      refine go_iremN C dX7_next_2 (by omega) (by omega) (by omega) ?_
      refine go_if_neN C 10 dX7_next_3 (by decide) (by omega) (fun h3 => ?_) (fun h3 => ?_)
      · exact absurd h3 (by omega)
      · refine go_iconst C (-1) dX7_next_6 rfl ?_
        refine go_goto C 11 dX7_next_7 (by decide) ?_
        refine go_istore_n C dX7_next_11 (by decide) rfl rfl ?_
        refine go_iload_n C dX7_next_12 rfl ?_
        refine go_S1P C ok_X7_xOf lk_X7_68 dX7_next_13 (k_X7_xOf (by omega)) (by decide) (Nat.le_of_ble_eq_true rfl) ?_
        refine go_iload_n C dX7_next_16 rfl ?_
        refine go_iconst C (nI 2) dX7_next_17 rfl ?_
        refine go_icmp_geN C 25 dX7_next_18 (by decide) (by omega) (by omega) (fun h18 => ?_) (fun h18 => ?_)
        · exact absurd h18 (by omega)
        · refine go_iload_n C dX7_next_21 rfl ?_
          refine go_goto C 26 dX7_next_22 (by decide) ?_
          refine go_iadd C dX7_next_26 ?_
          refine go_istore_n C dX7_next_27 (by decide) rfl rfl ?_
          refine go_iload_n C dX7_next_28 rfl ?_
          refine go_S1P C ok_X7_yOf lk_X7_65 dX7_next_29 (k_X7_yOf (by omega)) (by decide) (Nat.le_of_ble_eq_true rfl) ?_
          refine go_iload_n C dX7_next_32 rfl ?_
          refine go_iconst C (nI 2) dX7_next_33 rfl ?_
          refine go_icmp_eqN C 42 dX7_next_34 (by decide) (by omega) (by omega) (fun h34 => ?_) (fun h34 => ?_)
          · exact absurd h34 (by omega)
          · refine go_iload_n C dX7_next_37 rfl ?_
            refine go_iconst C (nI 3) dX7_next_38 rfl ?_
            refine go_icmp_neN C 46 dX7_next_39 (by decide) (by omega) (by omega) (fun h39 => ?_) (fun h39 => ?_)
            · refine go_iconst C (nI 0) dX7_next_46 rfl ?_
              refine go_iaddN C dX7_next_47 ?_
              refine go_istore C dX7_next_48 (by decide) rfl rfl ?_
              refine go_iload_n C dX7_next_50 rfl ?_
              refine go_S1P C ok_X7_zOf lk_X7_61 dX7_next_51 (k_X7_zOf (by omega)) (by decide) (Nat.le_of_ble_eq_true rfl) ?_
              refine go_iload_n C dX7_next_54 rfl ?_
              refine go_iconst C (nI 3) dX7_next_55 rfl ?_
              refine go_icmp_leN C 63 dX7_next_56 (by decide) (by omega) (by omega) (fun h56 => ?_) (fun h56 => ?_)
              · refine go_iconst C (nI 0) dX7_next_63 rfl ?_
                refine go_iaddN C dX7_next_64 ?_
                refine go_istore C dX7_next_65 (by decide) rfl rfl ?_
                exact T _ _ _ _ (by simp only [dlX, dlY, dlZ, p1_i, p0_i, Nat.add_zero]) (by simp only [dlX, dlY, dlZ, p1_i, p0_i, Nat.add_zero]) (by simp only [dlX, dlY, dlZ, p1_i, p0_i, Nat.add_zero])
              · exact absurd h56 (by omega)
            · exact absurd h39 (by omega)
    · refine go_iload_n C dX7_next_0 rfl ?_
      refine go_iconst C (nI 2) dX7_next_1 rfl ?_
      refine go_iremN C dX7_next_2 (by omega) (by omega) (by omega) ?_
      refine go_if_neN C 10 dX7_next_3 (by decide) (by omega) (fun h3 => ?_) (fun h3 => ?_)
      · refine go_iconst C (nI 1) dX7_next_10 rfl ?_
        refine go_istore_n C dX7_next_11 (by decide) rfl rfl ?_
        refine go_iload_n C dX7_next_12 rfl ?_
        refine go_S1P C ok_X7_xOf lk_X7_68 dX7_next_13 (k_X7_xOf (by omega)) (by decide) (Nat.le_of_ble_eq_true rfl) ?_
        refine go_iload_n C dX7_next_16 rfl ?_
        refine go_iconst C (nI 2) dX7_next_17 rfl ?_
        refine go_icmp_geN C 25 dX7_next_18 (by decide) (by omega) (by omega) (fun h18 => ?_) (fun h18 => ?_)
        · exact absurd h18 (by omega)
        · refine go_iload_n C dX7_next_21 rfl ?_
          refine go_goto C 26 dX7_next_22 (by decide) ?_
          refine go_iaddN C dX7_next_26 ?_
          refine go_istore_n C dX7_next_27 (by decide) rfl rfl ?_
          refine go_iload_n C dX7_next_28 rfl ?_
          refine go_S1P C ok_X7_yOf lk_X7_65 dX7_next_29 (k_X7_yOf (by omega)) (by decide) (Nat.le_of_ble_eq_true rfl) ?_
          refine go_iload_n C dX7_next_32 rfl ?_
          refine go_iconst C (nI 2) dX7_next_33 rfl ?_
          refine go_icmp_eqN C 42 dX7_next_34 (by decide) (by omega) (by omega) (fun h34 => ?_) (fun h34 => ?_)
          · exact absurd h34 (by omega)
          · refine go_iload_n C dX7_next_37 rfl ?_
            refine go_iconst C (nI 3) dX7_next_38 rfl ?_
            refine go_icmp_neN C 46 dX7_next_39 (by decide) (by omega) (by omega) (fun h39 => ?_) (fun h39 => ?_)
            · refine go_iconst C (nI 0) dX7_next_46 rfl ?_
              refine go_iaddN C dX7_next_47 ?_
              refine go_istore C dX7_next_48 (by decide) rfl rfl ?_
              refine go_iload_n C dX7_next_50 rfl ?_
              refine go_S1P C ok_X7_zOf lk_X7_61 dX7_next_51 (k_X7_zOf (by omega)) (by decide) (Nat.le_of_ble_eq_true rfl) ?_
              refine go_iload_n C dX7_next_54 rfl ?_
              refine go_iconst C (nI 3) dX7_next_55 rfl ?_
              refine go_icmp_leN C 63 dX7_next_56 (by decide) (by omega) (by omega) (fun h56 => ?_) (fun h56 => ?_)
              · refine go_iconst C (nI 0) dX7_next_63 rfl ?_
                refine go_iaddN C dX7_next_64 ?_
                refine go_istore C dX7_next_65 (by decide) rfl rfl ?_
                exact T _ _ _ _ (by simp only [dlX, dlY, dlZ, p1_i, p0_i, Nat.add_zero]) (by simp only [dlX, dlY, dlZ, p1_i, p0_i, Nat.add_zero]) (by simp only [dlX, dlY, dlZ, p1_i, p0_i, Nat.add_zero])
              · exact absurd h56 (by omega)
            · exact absurd h39 (by omega)
      · exact absurd h3 (by omega)
    · refine go_iload_n C dX7_next_0 rfl ?_
      refine go_iconst C (nI 2) dX7_next_1 rfl ?_
      refine go_iremN C dX7_next_2 (by omega) (by omega) (by omega) ?_
      refine go_if_neN C 10 dX7_next_3 (by decide) (by omega) (fun h3 => ?_) (fun h3 => ?_)
      · exact absurd h3 (by omega)
      · refine go_iconst C (-1) dX7_next_6 rfl ?_
        refine go_goto C 11 dX7_next_7 (by decide) ?_
        refine go_istore_n C dX7_next_11 (by decide) rfl rfl ?_
        refine go_iload_n C dX7_next_12 rfl ?_
        refine go_S1P C ok_X7_xOf lk_X7_68 dX7_next_13 (k_X7_xOf (by omega)) (by decide) (Nat.le_of_ble_eq_true rfl) ?_
        refine go_iload_n C dX7_next_16 rfl ?_
        refine go_iconst C (nI 2) dX7_next_17 rfl ?_
        refine go_icmp_geN C 25 dX7_next_18 (by decide) (by omega) (by omega) (fun h18 => ?_) (fun h18 => ?_)
        · refine go_iconst C (nI 0) dX7_next_25 rfl ?_
          refine go_iaddN C dX7_next_26 ?_
          refine go_istore_n C dX7_next_27 (by decide) rfl rfl ?_
          refine go_iload_n C dX7_next_28 rfl ?_
          refine go_S1P C ok_X7_yOf lk_X7_65 dX7_next_29 (k_X7_yOf (by omega)) (by decide) (Nat.le_of_ble_eq_true rfl) ?_
          refine go_iload_n C dX7_next_32 rfl ?_
          refine go_iconst C (nI 2) dX7_next_33 rfl ?_
          refine go_icmp_eqN C 42 dX7_next_34 (by decide) (by omega) (by omega) (fun h34 => ?_) (fun h34 => ?_)
          · refine go_iload_n C dX7_next_42 rfl ?_
            refine go_goto C 47 dX7_next_43 (by decide) ?_
            refine go_iadd C dX7_next_47 ?_
            refine go_istore C dX7_next_48 (by decide) rfl rfl ?_
            refine go_iload_n C dX7_next_50 rfl ?_
            refine go_S1P C ok_X7_zOf lk_X7_61 dX7_next_51 (k_X7_zOf (by omega)) (by decide) (Nat.le_of_ble_eq_true rfl) ?_
            refine go_iload_n C dX7_next_54 rfl ?_
            refine go_iconst C (nI 3) dX7_next_55 rfl ?_
            refine go_icmp_leN C 63 dX7_next_56 (by decide) (by omega) (by omega) (fun h56 => ?_) (fun h56 => ?_)
            · refine go_iconst C (nI 0) dX7_next_63 rfl ?_
              refine go_iaddN C dX7_next_64 ?_
              refine go_istore C dX7_next_65 (by decide) rfl rfl ?_
              exact T _ _ _ _ (by simp only [dlX, dlY, dlZ, p1_i, p0_i, Nat.add_zero]) (by simp only [dlX, dlY, dlZ, p1_i, p0_i, Nat.add_zero]) (by simp only [dlX, dlY, dlZ, p1_i, p0_i, Nat.add_zero])
            · exact absurd h56 (by omega)
          · exact absurd h34 (by omega)
        · exact absurd h18 (by omega)
    · refine go_iload_n C dX7_next_0 rfl ?_
      refine go_iconst C (nI 2) dX7_next_1 rfl ?_
      refine go_iremN C dX7_next_2 (by omega) (by omega) (by omega) ?_
      refine go_if_neN C 10 dX7_next_3 (by decide) (by omega) (fun h3 => ?_) (fun h3 => ?_)
      · refine go_iconst C (nI 1) dX7_next_10 rfl ?_
        refine go_istore_n C dX7_next_11 (by decide) rfl rfl ?_
        refine go_iload_n C dX7_next_12 rfl ?_
        refine go_S1P C ok_X7_xOf lk_X7_68 dX7_next_13 (k_X7_xOf (by omega)) (by decide) (Nat.le_of_ble_eq_true rfl) ?_
        refine go_iload_n C dX7_next_16 rfl ?_
        refine go_iconst C (nI 2) dX7_next_17 rfl ?_
        refine go_icmp_geN C 25 dX7_next_18 (by decide) (by omega) (by omega) (fun h18 => ?_) (fun h18 => ?_)
        · refine go_iconst C (nI 0) dX7_next_25 rfl ?_
          refine go_iaddN C dX7_next_26 ?_
          refine go_istore_n C dX7_next_27 (by decide) rfl rfl ?_
          refine go_iload_n C dX7_next_28 rfl ?_
          refine go_S1P C ok_X7_yOf lk_X7_65 dX7_next_29 (k_X7_yOf (by omega)) (by decide) (Nat.le_of_ble_eq_true rfl) ?_
          refine go_iload_n C dX7_next_32 rfl ?_
          refine go_iconst C (nI 2) dX7_next_33 rfl ?_
          refine go_icmp_eqN C 42 dX7_next_34 (by decide) (by omega) (by omega) (fun h34 => ?_) (fun h34 => ?_)
          · exact absurd h34 (by omega)
          · refine go_iload_n C dX7_next_37 rfl ?_
            refine go_iconst C (nI 3) dX7_next_38 rfl ?_
            refine go_icmp_neN C 46 dX7_next_39 (by decide) (by omega) (by omega) (fun h39 => ?_) (fun h39 => ?_)
            · exact absurd h39 (by omega)
            · refine go_iload_n C dX7_next_42 rfl ?_
              refine go_goto C 47 dX7_next_43 (by decide) ?_
              refine go_iaddN C dX7_next_47 ?_
              refine go_istore C dX7_next_48 (by decide) rfl rfl ?_
              refine go_iload_n C dX7_next_50 rfl ?_
              refine go_S1P C ok_X7_zOf lk_X7_61 dX7_next_51 (k_X7_zOf (by omega)) (by decide) (Nat.le_of_ble_eq_true rfl) ?_
              refine go_iload_n C dX7_next_54 rfl ?_
              refine go_iconst C (nI 3) dX7_next_55 rfl ?_
              refine go_icmp_leN C 63 dX7_next_56 (by decide) (by omega) (by omega) (fun h56 => ?_) (fun h56 => ?_)
              · refine go_iconst C (nI 0) dX7_next_63 rfl ?_
                refine go_iaddN C dX7_next_64 ?_
                refine go_istore C dX7_next_65 (by decide) rfl rfl ?_
                exact T _ _ _ _ (by simp only [dlX, dlY, dlZ, p1_i, p0_i, Nat.add_zero]) (by simp only [dlX, dlY, dlZ, p1_i, p0_i, Nat.add_zero]) (by simp only [dlX, dlY, dlZ, p1_i, p0_i, Nat.add_zero])
              · exact absurd h56 (by omega)
        · exact absurd h18 (by omega)
      · exact absurd h3 (by omega)
    · refine go_iload_n C dX7_next_0 rfl ?_
      refine go_iconst C (nI 2) dX7_next_1 rfl ?_
      refine go_iremN C dX7_next_2 (by omega) (by omega) (by omega) ?_
      refine go_if_neN C 10 dX7_next_3 (by decide) (by omega) (fun h3 => ?_) (fun h3 => ?_)
      · exact absurd h3 (by omega)
      · refine go_iconst C (-1) dX7_next_6 rfl ?_
        refine go_goto C 11 dX7_next_7 (by decide) ?_
        refine go_istore_n C dX7_next_11 (by decide) rfl rfl ?_
        refine go_iload_n C dX7_next_12 rfl ?_
        refine go_S1P C ok_X7_xOf lk_X7_68 dX7_next_13 (k_X7_xOf (by omega)) (by decide) (Nat.le_of_ble_eq_true rfl) ?_
        refine go_iload_n C dX7_next_16 rfl ?_
        refine go_iconst C (nI 2) dX7_next_17 rfl ?_
        refine go_icmp_geN C 25 dX7_next_18 (by decide) (by omega) (by omega) (fun h18 => ?_) (fun h18 => ?_)
        · refine go_iconst C (nI 0) dX7_next_25 rfl ?_
          refine go_iaddN C dX7_next_26 ?_
          refine go_istore_n C dX7_next_27 (by decide) rfl rfl ?_
          refine go_iload_n C dX7_next_28 rfl ?_
          refine go_S1P C ok_X7_yOf lk_X7_65 dX7_next_29 (k_X7_yOf (by omega)) (by decide) (Nat.le_of_ble_eq_true rfl) ?_
          refine go_iload_n C dX7_next_32 rfl ?_
          refine go_iconst C (nI 2) dX7_next_33 rfl ?_
          refine go_icmp_eqN C 42 dX7_next_34 (by decide) (by omega) (by omega) (fun h34 => ?_) (fun h34 => ?_)
          · exact absurd h34 (by omega)
          · refine go_iload_n C dX7_next_37 rfl ?_
            refine go_iconst C (nI 3) dX7_next_38 rfl ?_
            refine go_icmp_neN C 46 dX7_next_39 (by decide) (by omega) (by omega) (fun h39 => ?_) (fun h39 => ?_)
            · refine go_iconst C (nI 0) dX7_next_46 rfl ?_
              refine go_iaddN C dX7_next_47 ?_
              refine go_istore C dX7_next_48 (by decide) rfl rfl ?_
              refine go_iload_n C dX7_next_50 rfl ?_
              refine go_S1P C ok_X7_zOf lk_X7_61 dX7_next_51 (k_X7_zOf (by omega)) (by decide) (Nat.le_of_ble_eq_true rfl) ?_
              refine go_iload_n C dX7_next_54 rfl ?_
              refine go_iconst C (nI 3) dX7_next_55 rfl ?_
              refine go_icmp_leN C 63 dX7_next_56 (by decide) (by omega) (by omega) (fun h56 => ?_) (fun h56 => ?_)
              · exact absurd h56 (by omega)
              · refine go_iload_n C dX7_next_59 rfl ?_
                refine go_goto C 64 dX7_next_60 (by decide) ?_
                refine go_iadd C dX7_next_64 ?_
                refine go_istore C dX7_next_65 (by decide) rfl rfl ?_
                exact T _ _ _ _ (by simp only [dlX, dlY, dlZ, p1_i, p0_i, Nat.add_zero]) (by simp only [dlX, dlY, dlZ, p1_i, p0_i, Nat.add_zero]) (by simp only [dlX, dlY, dlZ, p1_i, p0_i, Nat.add_zero])
            · exact absurd h39 (by omega)
        · exact absurd h18 (by omega)
    · refine go_iload_n C dX7_next_0 rfl ?_
      refine go_iconst C (nI 2) dX7_next_1 rfl ?_
      refine go_iremN C dX7_next_2 (by omega) (by omega) (by omega) ?_
      refine go_if_neN C 10 dX7_next_3 (by decide) (by omega) (fun h3 => ?_) (fun h3 => ?_)
      · refine go_iconst C (nI 1) dX7_next_10 rfl ?_
        refine go_istore_n C dX7_next_11 (by decide) rfl rfl ?_
        refine go_iload_n C dX7_next_12 rfl ?_
        refine go_S1P C ok_X7_xOf lk_X7_68 dX7_next_13 (k_X7_xOf (by omega)) (by decide) (Nat.le_of_ble_eq_true rfl) ?_
        refine go_iload_n C dX7_next_16 rfl ?_
        refine go_iconst C (nI 2) dX7_next_17 rfl ?_
        refine go_icmp_geN C 25 dX7_next_18 (by decide) (by omega) (by omega) (fun h18 => ?_) (fun h18 => ?_)
        · refine go_iconst C (nI 0) dX7_next_25 rfl ?_
          refine go_iaddN C dX7_next_26 ?_
          refine go_istore_n C dX7_next_27 (by decide) rfl rfl ?_
          refine go_iload_n C dX7_next_28 rfl ?_
          refine go_S1P C ok_X7_yOf lk_X7_65 dX7_next_29 (k_X7_yOf (by omega)) (by decide) (Nat.le_of_ble_eq_true rfl) ?_
          refine go_iload_n C dX7_next_32 rfl ?_
          refine go_iconst C (nI 2) dX7_next_33 rfl ?_
          refine go_icmp_eqN C 42 dX7_next_34 (by decide) (by omega) (by omega) (fun h34 => ?_) (fun h34 => ?_)
          · exact absurd h34 (by omega)
          · refine go_iload_n C dX7_next_37 rfl ?_
            refine go_iconst C (nI 3) dX7_next_38 rfl ?_
            refine go_icmp_neN C 46 dX7_next_39 (by decide) (by omega) (by omega) (fun h39 => ?_) (fun h39 => ?_)
            · refine go_iconst C (nI 0) dX7_next_46 rfl ?_
              refine go_iaddN C dX7_next_47 ?_
              refine go_istore C dX7_next_48 (by decide) rfl rfl ?_
              refine go_iload_n C dX7_next_50 rfl ?_
              refine go_S1P C ok_X7_zOf lk_X7_61 dX7_next_51 (k_X7_zOf (by omega)) (by decide) (Nat.le_of_ble_eq_true rfl) ?_
              refine go_iload_n C dX7_next_54 rfl ?_
              refine go_iconst C (nI 3) dX7_next_55 rfl ?_
              refine go_icmp_leN C 63 dX7_next_56 (by decide) (by omega) (by omega) (fun h56 => ?_) (fun h56 => ?_)
              · exact absurd h56 (by omega)
              · refine go_iload_n C dX7_next_59 rfl ?_
                refine go_goto C 64 dX7_next_60 (by decide) ?_
                refine go_iaddN C dX7_next_64 ?_
                refine go_istore C dX7_next_65 (by decide) rfl rfl ?_
                exact T _ _ _ _ (by simp only [dlX, dlY, dlZ, p1_i, p0_i, Nat.add_zero]) (by simp only [dlX, dlY, dlZ, p1_i, p0_i, Nat.add_zero]) (by simp only [dlX, dlY, dlZ, p1_i, p0_i, Nat.add_zero])
            · exact absurd h39 (by omega)
        · exact absurd h18 (by omega)
      · exact absurd h3 (by omega)
