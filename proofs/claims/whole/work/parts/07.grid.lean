set_option maxHeartbeats 4000000 in
set_option maxRecDepth 100000 in
theorem k_X2_x {σ : Mem} {k : Nat} (hk : k < 1152) : CtI objC NC yX2_x cX2_x 1 .int 0 0 [.int (nI k)] σ (Pv (nI (cX k)) σ) := by
  refine ct_ofI rfl ?_ (Nat.le_of_ble_eq_true rfl) (fun X C hr => ?_)
  · intro v hv; simp only [List.mem_cons, List.not_mem_nil, or_false] at hv; rcases hv with rfl <;> rfl
  · refine go_iload_n C dX2_x_0 rfl ?_
    refine go_bipush C (nI 12) dX2_x_1 rfl ?_
    refine go_iremN C dX2_x_3 (by omega) (by omega) (by omega) ?_
    refine go_iret hr dX2_x_4 rfl ?_
    exact ⟨rfl, rfl⟩
set_option maxHeartbeats 4000000 in
set_option maxRecDepth 100000 in
theorem k_X2_y {σ : Mem} {k : Nat} (hk : k < 1152) : CtI objC NC yX2_y cX2_y 1 .int 0 0 [.int (nI k)] σ (Pv (nI (cY k)) σ) := by
  refine ct_ofI rfl ?_ (Nat.le_of_ble_eq_true rfl) (fun X C hr => ?_)
  · intro v hv; simp only [List.mem_cons, List.not_mem_nil, or_false] at hv; rcases hv with rfl <;> rfl
  · refine go_iload_n C dX2_y_0 rfl ?_
    refine go_bipush C (nI 12) dX2_y_1 rfl ?_
    refine go_idivN C dX2_y_3 (by omega) (by omega) (by omega) ?_
    refine go_bipush C (nI 8) dX2_y_4 rfl ?_
    refine go_iremN C dX2_y_6 (by omega) (by omega) (by omega) ?_
    refine go_iret hr dX2_y_7 rfl ?_
    exact ⟨rfl, rfl⟩
set_option maxHeartbeats 4000000 in
set_option maxRecDepth 100000 in
theorem k_X2_z {σ : Mem} {k : Nat} (hk : k < 1152) : CtI objC NC yX2_z cX2_z 1 .int 0 0 [.int (nI k)] σ (Pv (nI (cZ k)) σ) := by
  refine ct_ofI rfl ?_ (Nat.le_of_ble_eq_true rfl) (fun X C hr => ?_)
  · intro v hv; simp only [List.mem_cons, List.not_mem_nil, or_false] at hv; rcases hv with rfl <;> rfl
  · refine go_iload_n C dX2_z_0 rfl ?_
    refine go_bipush C (nI 96) dX2_z_1 rfl ?_
    refine go_idivN C dX2_z_3 (by omega) (by omega) (by omega) ?_
    refine go_iret hr dX2_z_4 rfl ?_
    exact ⟨rfl, rfl⟩
set_option maxHeartbeats 4000000 in
set_option maxRecDepth 100000 in
theorem k_X2_cell {σ : Mem} {a b c : Nat} : CtI objC NC yX2_cell cX2_cell 3 .int 0 0 [.int (nI a), .int (nI b), .int (nI c)] σ (Pv (nI (cel a b c)) σ) := by
  refine ct_ofI rfl ?_ (Nat.le_of_ble_eq_true rfl) (fun X C hr => ?_)
  · intro v hv; simp only [List.mem_cons, List.not_mem_nil, or_false] at hv; rcases hv with rfl | rfl | rfl <;> rfl
  · refine go_iload_n C dX2_cell_0 rfl ?_
    refine go_bipush C (nI 96) dX2_cell_1 rfl ?_
    refine go_imulN C dX2_cell_3 ?_
    refine go_iload_n C dX2_cell_4 rfl ?_
    refine go_bipush C (nI 12) dX2_cell_5 rfl ?_
    refine go_imulN C dX2_cell_7 ?_
    refine go_iaddN C dX2_cell_8 ?_
    refine go_iload_n C dX2_cell_9 rfl ?_
    refine go_iaddN C dX2_cell_10 ?_
    refine go_iret hr dX2_cell_11 rfl ?_
    exact ⟨congrArg nI (by unfold cel; omega), rfl⟩
set_option maxHeartbeats 4000000 in
set_option maxRecDepth 100000 in
theorem k_X2_number {σ : Mem} {k : Nat} (hk : k < 1152) : CtI objC NC yX2_number cX2_number 1 .int 1 20 [.int (nI k)] σ (Pv (nI (cod k)) σ) := by
  refine ct_ofI rfl ?_ (Nat.le_of_ble_eq_true rfl) (fun X C hr => ?_)
  · intro v hv; simp only [List.mem_cons, List.not_mem_nil, or_false] at hv; rcases hv with rfl <;> rfl
  · refine go_bipush C (nI 100) dX2_number_0 rfl ?_
    refine go_iload_n C dX2_number_2 rfl ?_
    refine go_S1P C ok_X2_z lk_X2_9 dX2_number_3 (k_X2_z (by omega)) (by decide) (Nat.le_of_ble_eq_true rfl) ?_
    refine go_imulN C dX2_number_6 ?_
    refine go_bipush C (nI 12) dX2_number_7 rfl ?_
    refine go_iload_n C dX2_number_9 rfl ?_
    refine go_S1P C ok_X2_y lk_X2_15 dX2_number_10 (k_X2_y (by omega)) (by decide) (Nat.le_of_ble_eq_true rfl) ?_
    refine go_imulN C dX2_number_13 ?_
    refine go_iaddN C dX2_number_14 ?_
    refine go_iload_n C dX2_number_15 rfl ?_
    refine go_S1P C ok_X2_x lk_X2_18 dX2_number_16 (k_X2_x (by omega)) (by decide) (Nat.le_of_ble_eq_true rfl) ?_
    refine go_iaddN C dX2_number_19 ?_
    refine go_iret hr dX2_number_20 rfl ?_
    exact ⟨rfl, rfl⟩
set_option maxHeartbeats 4000000 in
set_option maxRecDepth 100000 in
theorem k_X2_chunk {σ : Mem} {k : Nat} (hk : k < 1152) : CtI objC NC yX2_chunk cX2_chunk 1 .int 1 20 [.int (nI k)] σ (Pv (nI (chk k)) σ) := by
  have h1 := cX_lt k
  have h2 := cZ_lt hk
  refine ct_ofI rfl ?_ (Nat.le_of_ble_eq_true rfl) (fun X C hr => ?_)
  · intro v hv; simp only [List.mem_cons, List.not_mem_nil, or_false] at hv; rcases hv with rfl <;> rfl
  · refine go_iconst C (nI 3) dX2_chunk_0 rfl ?_
    refine go_iload_n C dX2_chunk_1 rfl ?_
    refine go_S1P C ok_X2_z lk_X2_9 dX2_chunk_2 (k_X2_z (by omega)) (by decide) (Nat.le_of_ble_eq_true rfl) ?_
    refine go_iconst C (nI 4) dX2_chunk_5 rfl ?_
    refine go_idivN C dX2_chunk_6 (by omega) (by omega) (by omega) ?_
    refine go_imulN C dX2_chunk_7 ?_
    refine go_iload_n C dX2_chunk_8 rfl ?_
    refine go_S1P C ok_X2_x lk_X2_18 dX2_chunk_9 (k_X2_x (by omega)) (by decide) (Nat.le_of_ble_eq_true rfl) ?_
    refine go_iconst C (nI 4) dX2_chunk_12 rfl ?_
    refine go_idivN C dX2_chunk_13 (by omega) (by omega) (by omega) ?_
    refine go_iaddN C dX2_chunk_14 ?_
    refine go_iret hr dX2_chunk_15 rfl ?_
    exact ⟨rfl, rfl⟩
set_option maxHeartbeats 4000000 in
set_option maxRecDepth 100000 in
theorem k_X2_has {σ : Mem} (x y z : Int32) : CtI objC NC yX2_has cX2_has 3 .boolean 0 0 [.int x, .int y, .int z] σ (Pv (bP (isC x y z)) σ) := by
  refine ct_ofI rfl ?_ (Nat.le_of_ble_eq_true rfl) (fun X C hr => ?_)
  · intro v hv; simp only [List.mem_cons, List.not_mem_nil, or_false] at hv; rcases hv with rfl | rfl | rfl <;> rfl
  · refine go_iload_n C dX2_has_0 rfl ?_
    refine go_if_lt C 34 dX2_has_1 (by decide) (fun h1 => ?_) (fun h1 => ?_)
    · refine go_iconst C (nI 0) dX2_has_34 rfl ?_
      refine go_iret hr dX2_has_35 rfl ?_
      exact ⟨by first | exact bP_t (by refine ⟨⟨?_, ?_⟩, ⟨?_, ?_⟩, ⟨?_, ?_⟩⟩ <;> assumption) | exact bP_f (by rintro ⟨⟨q1, q2⟩, ⟨q3, q4⟩, ⟨q5, q6⟩⟩; contradiction), rfl⟩
    · refine go_iload_n C dX2_has_4 rfl ?_
      refine go_bipush C (nI 12) dX2_has_5 rfl ?_
      refine go_icmp_ge C 34 dX2_has_7 (by decide) (fun h7 => ?_) (fun h7 => ?_)
      · refine go_iconst C (nI 0) dX2_has_34 rfl ?_
        refine go_iret hr dX2_has_35 rfl ?_
        exact ⟨by first | exact bP_t (by refine ⟨⟨?_, ?_⟩, ⟨?_, ?_⟩, ⟨?_, ?_⟩⟩ <;> assumption) | exact bP_f (by rintro ⟨⟨q1, q2⟩, ⟨q3, q4⟩, ⟨q5, q6⟩⟩; contradiction), rfl⟩
      · refine go_iload_n C dX2_has_10 rfl ?_
        refine go_if_lt C 34 dX2_has_11 (by decide) (fun h11 => ?_) (fun h11 => ?_)
        · refine go_iconst C (nI 0) dX2_has_34 rfl ?_
          refine go_iret hr dX2_has_35 rfl ?_
          exact ⟨by first | exact bP_t (by refine ⟨⟨?_, ?_⟩, ⟨?_, ?_⟩, ⟨?_, ?_⟩⟩ <;> assumption) | exact bP_f (by rintro ⟨⟨q1, q2⟩, ⟨q3, q4⟩, ⟨q5, q6⟩⟩; contradiction), rfl⟩
        · refine go_iload_n C dX2_has_14 rfl ?_
          refine go_bipush C (nI 8) dX2_has_15 rfl ?_
          refine go_icmp_ge C 34 dX2_has_17 (by decide) (fun h17 => ?_) (fun h17 => ?_)
          · refine go_iconst C (nI 0) dX2_has_34 rfl ?_
            refine go_iret hr dX2_has_35 rfl ?_
            exact ⟨by first | exact bP_t (by refine ⟨⟨?_, ?_⟩, ⟨?_, ?_⟩, ⟨?_, ?_⟩⟩ <;> assumption) | exact bP_f (by rintro ⟨⟨q1, q2⟩, ⟨q3, q4⟩, ⟨q5, q6⟩⟩; contradiction), rfl⟩
          · refine go_iload_n C dX2_has_20 rfl ?_
            refine go_if_lt C 34 dX2_has_21 (by decide) (fun h21 => ?_) (fun h21 => ?_)
            · refine go_iconst C (nI 0) dX2_has_34 rfl ?_
              refine go_iret hr dX2_has_35 rfl ?_
              exact ⟨by first | exact bP_t (by refine ⟨⟨?_, ?_⟩, ⟨?_, ?_⟩, ⟨?_, ?_⟩⟩ <;> assumption) | exact bP_f (by rintro ⟨⟨q1, q2⟩, ⟨q3, q4⟩, ⟨q5, q6⟩⟩; contradiction), rfl⟩
            · refine go_iload_n C dX2_has_24 rfl ?_
              refine go_bipush C (nI 12) dX2_has_25 rfl ?_
              refine go_icmp_ge C 34 dX2_has_27 (by decide) (fun h27 => ?_) (fun h27 => ?_)
              · refine go_iconst C (nI 0) dX2_has_34 rfl ?_
                refine go_iret hr dX2_has_35 rfl ?_
                exact ⟨by first | exact bP_t (by refine ⟨⟨?_, ?_⟩, ⟨?_, ?_⟩, ⟨?_, ?_⟩⟩ <;> assumption) | exact bP_f (by rintro ⟨⟨q1, q2⟩, ⟨q3, q4⟩, ⟨q5, q6⟩⟩; contradiction), rfl⟩
              · refine go_iconst C (nI 1) dX2_has_30 rfl ?_
                refine go_goto C 35 dX2_has_31 (by decide) ?_
                refine go_iret hr dX2_has_35 rfl ?_
                exact ⟨by first | exact bP_t (by refine ⟨⟨?_, ?_⟩, ⟨?_, ?_⟩, ⟨?_, ?_⟩⟩ <;> assumption) | exact bP_f (by rintro ⟨⟨q1, q2⟩, ⟨q3, q4⟩, ⟨q5, q6⟩⟩; contradiction), rfl⟩
set_option maxHeartbeats 4000000 in
set_option maxRecDepth 100000 in
theorem k_X6_isType {σ : Mem} (x : Int32) : CtI objC NC yX6_isType cX6_isType 1 .boolean 0 0 [.int x] σ (Pv (bP (rng 8 x)) σ) := by
  refine ct_ofI rfl ?_ (Nat.le_of_ble_eq_true rfl) (fun X C hr => ?_)
  · intro v hv; simp only [List.mem_cons, List.not_mem_nil, or_false] at hv; rcases hv with rfl <;> rfl
  · refine go_iload_n C dX6_isType_0 rfl ?_
    refine go_if_lt C 14 dX6_isType_1 (by decide) (fun h1 => ?_) (fun h1 => ?_)
    · refine go_iconst C (nI 0) dX6_isType_14 rfl ?_
      refine go_iret hr dX6_isType_15 rfl ?_
      exact ⟨by first | exact bP_t (by refine ⟨?_, ?_⟩ <;> assumption) | exact bP_f (by rintro ⟨q1, q2⟩; contradiction), rfl⟩
    · refine go_iload_n C dX6_isType_4 rfl ?_
      refine go_bipush C (nI 8) dX6_isType_5 rfl ?_
      refine go_icmp_ge C 14 dX6_isType_7 (by decide) (fun h7 => ?_) (fun h7 => ?_)
      · refine go_iconst C (nI 0) dX6_isType_14 rfl ?_
        refine go_iret hr dX6_isType_15 rfl ?_
        exact ⟨by first | exact bP_t (by refine ⟨?_, ?_⟩ <;> assumption) | exact bP_f (by rintro ⟨q1, q2⟩; contradiction), rfl⟩
      · refine go_iconst C (nI 1) dX6_isType_10 rfl ?_
        refine go_goto C 15 dX6_isType_11 (by decide) ?_
        refine go_iret hr dX6_isType_15 rfl ?_
        exact ⟨by first | exact bP_t (by refine ⟨?_, ?_⟩ <;> assumption) | exact bP_f (by rintro ⟨q1, q2⟩; contradiction), rfl⟩
set_option maxHeartbeats 4000000 in
set_option maxRecDepth 100000 in
theorem k_X6_isChannel {σ : Mem} (x : Int32) : CtI objC NC yX6_isChannel cX6_isChannel 1 .boolean 0 0 [.int x] σ (Pv (bP (rng 4 x)) σ) := by
  refine ct_ofI rfl ?_ (Nat.le_of_ble_eq_true rfl) (fun X C hr => ?_)
  · intro v hv; simp only [List.mem_cons, List.not_mem_nil, or_false] at hv; rcases hv with rfl <;> rfl
  · refine go_iload_n C dX6_isChannel_0 rfl ?_
    refine go_if_lt C 13 dX6_isChannel_1 (by decide) (fun h1 => ?_) (fun h1 => ?_)
    · refine go_iconst C (nI 0) dX6_isChannel_13 rfl ?_
      refine go_iret hr dX6_isChannel_14 rfl ?_
      exact ⟨by first | exact bP_t (by refine ⟨?_, ?_⟩ <;> assumption) | exact bP_f (by rintro ⟨q1, q2⟩; contradiction), rfl⟩
    · refine go_iload_n C dX6_isChannel_4 rfl ?_
      refine go_iconst C (nI 4) dX6_isChannel_5 rfl ?_
      refine go_icmp_ge C 13 dX6_isChannel_6 (by decide) (fun h6 => ?_) (fun h6 => ?_)
      · refine go_iconst C (nI 0) dX6_isChannel_13 rfl ?_
        refine go_iret hr dX6_isChannel_14 rfl ?_
        exact ⟨by first | exact bP_t (by refine ⟨?_, ?_⟩ <;> assumption) | exact bP_f (by rintro ⟨q1, q2⟩; contradiction), rfl⟩
      · refine go_iconst C (nI 1) dX6_isChannel_9 rfl ?_
        refine go_goto C 14 dX6_isChannel_10 (by decide) ?_
        refine go_iret hr dX6_isChannel_14 rfl ?_
        exact ⟨by first | exact bP_t (by refine ⟨?_, ?_⟩ <;> assumption) | exact bP_f (by rintro ⟨q1, q2⟩; contradiction), rfl⟩
set_option maxHeartbeats 4000000 in
set_option maxRecDepth 100000 in
theorem k_X6_isColor {σ : Mem} (x : Int32) : CtI objC NC yX6_isColor cX6_isColor 1 .boolean 0 0 [.int x] σ (Pv (bP (rng 3 x)) σ) := by
  refine ct_ofI rfl ?_ (Nat.le_of_ble_eq_true rfl) (fun X C hr => ?_)
  · intro v hv; simp only [List.mem_cons, List.not_mem_nil, or_false] at hv; rcases hv with rfl <;> rfl
  · refine go_iload_n C dX6_isColor_0 rfl ?_
    refine go_if_lt C 13 dX6_isColor_1 (by decide) (fun h1 => ?_) (fun h1 => ?_)
    · refine go_iconst C (nI 0) dX6_isColor_13 rfl ?_
      refine go_iret hr dX6_isColor_14 rfl ?_
      exact ⟨by first | exact bP_t (by refine ⟨?_, ?_⟩ <;> assumption) | exact bP_f (by rintro ⟨q1, q2⟩; contradiction), rfl⟩
    · refine go_iload_n C dX6_isColor_4 rfl ?_
      refine go_iconst C (nI 3) dX6_isColor_5 rfl ?_
      refine go_icmp_ge C 13 dX6_isColor_6 (by decide) (fun h6 => ?_) (fun h6 => ?_)
      · refine go_iconst C (nI 0) dX6_isColor_13 rfl ?_
        refine go_iret hr dX6_isColor_14 rfl ?_
        exact ⟨by first | exact bP_t (by refine ⟨?_, ?_⟩ <;> assumption) | exact bP_f (by rintro ⟨q1, q2⟩; contradiction), rfl⟩
      · refine go_iconst C (nI 1) dX6_isColor_9 rfl ?_
        refine go_goto C 14 dX6_isColor_10 (by decide) ?_
        refine go_iret hr dX6_isColor_14 rfl ?_
        exact ⟨by first | exact bP_t (by refine ⟨?_, ?_⟩ <;> assumption) | exact bP_f (by rintro ⟨q1, q2⟩; contradiction), rfl⟩
set_option maxHeartbeats 4000000 in
set_option maxRecDepth 100000 in
theorem k_X6_isChunk {σ : Mem} (x : Int32) : CtI objC NC yX6_isChunk cX6_isChunk 1 .boolean 0 0 [.int x] σ (Pv (bP (rng 9 x)) σ) := by
  refine ct_ofI rfl ?_ (Nat.le_of_ble_eq_true rfl) (fun X C hr => ?_)
  · intro v hv; simp only [List.mem_cons, List.not_mem_nil, or_false] at hv; rcases hv with rfl <;> rfl
  · refine go_iload_n C dX6_isChunk_0 rfl ?_
    refine go_if_lt C 14 dX6_isChunk_1 (by decide) (fun h1 => ?_) (fun h1 => ?_)
    · refine go_iconst C (nI 0) dX6_isChunk_14 rfl ?_
      refine go_iret hr dX6_isChunk_15 rfl ?_
      exact ⟨by first | exact bP_t (by refine ⟨?_, ?_⟩ <;> assumption) | exact bP_f (by rintro ⟨q1, q2⟩; contradiction), rfl⟩
    · refine go_iload_n C dX6_isChunk_4 rfl ?_
      refine go_bipush C (nI 9) dX6_isChunk_5 rfl ?_
      refine go_icmp_ge C 14 dX6_isChunk_7 (by decide) (fun h7 => ?_) (fun h7 => ?_)
      · refine go_iconst C (nI 0) dX6_isChunk_14 rfl ?_
        refine go_iret hr dX6_isChunk_15 rfl ?_
        exact ⟨by first | exact bP_t (by refine ⟨?_, ?_⟩ <;> assumption) | exact bP_f (by rintro ⟨q1, q2⟩; contradiction), rfl⟩
      · refine go_iconst C (nI 1) dX6_isChunk_10 rfl ?_
        refine go_goto C 15 dX6_isChunk_11 (by decide) ?_
        refine go_iret hr dX6_isChunk_15 rfl ?_
        exact ⟨by first | exact bP_t (by refine ⟨?_, ?_⟩ <;> assumption) | exact bP_f (by rintro ⟨q1, q2⟩; contradiction), rfl⟩
