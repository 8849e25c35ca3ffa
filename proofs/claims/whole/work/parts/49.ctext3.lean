/-! The text of the class: refusing, making, reading. -/
theorem gN_lt {l : List Nat} (h : ∀ v, v ∈ l → v < 100) (j : Nat) : gN l j < 100 := by
  unfold gN
  rw [List.getD_eq_getElem?_getD]
  cases e : l[j]? with
  | none => exact (by decide)
  | some v => exact h v (List.mem_of_getElem? e)
theorem rdN {σ : Mem} {r : Nat} {l : List Nat} (h : ∀ j v, l[j]? = some v → σ r j = nI v) {j : Nat} (hj : j < l.length) : σ r j = nI (gN l j) := by
  have e := List.getElem?_eq_getElem hj
  rw [h j _ e]
  unfold gN
  rw [List.getD_eq_getElem?_getD, e]; rfl
theorem isC_iff {a b c : Nat} (ha : a < 100) (hb : b < 100) (hc : c < 100) : isC (nI a) (nI b) (nI c) ↔ a < 12 ∧ b < 8 ∧ c < 12 := by
  unfold isC
  rw [rng_iff (by decide) (by omega), rng_iff (by decide) (by omega), rng_iff (by decide) (by omega)]
theorem gd_s {l : List Nat} (h : ∀ v, v ∈ l → v < 100) : gdC 115 l ↔ isC (nI (gN l 0)) (nI (gN l 1)) (nI (gN l 2)) ∧ rng 8 (nI (gN l 3)) := by
  rw [isC_iff (gN_lt h 0) (gN_lt h 1) (gN_lt h 2), rng_iff (by decide) (by have := gN_lt h 3; omega)]
  unfold gdC; rw [if_pos rfl]
theorem gd_f {l : List Nat} (h : ∀ v, v ∈ l → v < 100) : gdC 102 l ↔ isC (nI (gN l 0)) (nI (gN l 1)) (nI (gN l 2)) ∧ isC (nI (gN l 3)) (nI (gN l 4)) (nI (gN l 5)) ∧ gN l 0 ≤ gN l 3 ∧ gN l 1 ≤ gN l 4 ∧ gN l 2 ≤ gN l 5 ∧ rng 8 (nI (gN l 6)) := by
  rw [isC_iff (gN_lt h 0) (gN_lt h 1) (gN_lt h 2), isC_iff (gN_lt h 3) (gN_lt h 4) (gN_lt h 5), rng_iff (by decide) (by have := gN_lt h 6; omega)]
  unfold gdC; rw [if_neg (by decide), if_pos rfl]
theorem gd_l {l : List Nat} (h : ∀ v, v ∈ l → v < 100) : gdC 108 l ↔ rng 8 (nI (gN l 0)) ∧ rng 4 (nI (gN l 1)) ∧ rng 16 (nI (gN l 2)) := by
  rw [rng_iff (by decide) (by have := gN_lt h 0; omega), rng_iff (by decide) (by have := gN_lt h 1; omega), rng_iff (by decide) (by have := gN_lt h 2; omega)]
  unfold gdC; rw [if_neg (by decide), if_neg (by decide), if_pos rfl]
theorem gd_e {l : List Nat} (h : ∀ v, v ∈ l → v < 100) : gdC 101 l ↔ rng 8 (nI (gN l 0)) ∧ rng 3 (nI (gN l 1)) ∧ rng 16 (nI (gN l 2)) := by
  rw [rng_iff (by decide) (by have := gN_lt h 0; omega), rng_iff (by decide) (by have := gN_lt h 1; omega), rng_iff (by decide) (by have := gN_lt h 2; omega)]
  unfold gdC; rw [if_neg (by decide), if_neg (by decide), if_neg (by decide)]
theorem doC_s {w : Wd} {s : Nat} {l : List Nat} : doC w (115, s, l) = setT w (cel (gN l 0) (gN l 1) (gN l 2)) (gN l 3) := if_pos rfl
theorem doC_f {w : Wd} {s : Nat} {l : List Nat} : doC w (102, s, l) = bxW w (gN l 0) (gN l 1) (gN l 2) (gN l 3) (gN l 4) (gN l 5) (gN l 6) := by unfold doC; rw [if_neg (by show ¬ (102 : Nat) = 115; decide), if_pos rfl]
theorem doC_l {w : Wd} {s : Nat} {l : List Nat} : doC w (108, s, l) = slW w (gN l 0) (gN l 1) (gN l 2) := by unfold doC; rw [if_neg (by show ¬ (108 : Nat) = 115; decide), if_neg (by show ¬ (108 : Nat) = 102; decide), if_pos rfl]
theorem doC_e {w : Wd} {s : Nat} {l : List Nat} : doC w (101, s, l) = seW w (gN l 0) (gN l 1) (gN l 2) := by unfold doC; rw [if_neg (by show ¬ (101 : Nat) = 115; decide), if_neg (by show ¬ (101 : Nat) = 102; decide), if_neg (by show ¬ (101 : Nat) = 108; decide)]
def frI : Option Nat → Int32
  | none => -4
  | some s => nI s
theorem nI_nm4 {s : Nat} (h : s < 2 ^ 31) : ¬ nI s = -4 := fun q => by
  have e : (nI s).toInt = (s : Int) := Int32.toInt_ofNat_of_lt h
  rw [q, show (-4 : Int32).toInt = -4 by decide] at e
  omega
theorem frst_le : ∀ (l : List Cmd) {s : Nat}, (∀ c, c ∈ l → OkCmd c) → frst l = some s → s ≤ 60
  | [], _, _, h => by cases h
  | c :: r, s, hc, h => by
    by_cases g : gdC c.1 c.2.2
    · rw [frst_1 g] at h; exact frst_le r (fun d hd => hc d (List.mem_cons_of_mem _ hd)) h
    · rw [frst_0 g] at h; cases h; exact (hc c List.mem_cons_self).2.1
theorem frI_no {l : List Cmd} (hc : ∀ c, c ∈ l → OkCmd c) (h : frI (frst l) = -4) : frst l = none := by
  cases e : frst l with
  | none => rfl
  | some s =>
    rw [e] at h
    exact absurd h (nI_nm4 (by have := frst_le l hc e; omega))
theorem frI_some {l : List Cmd} (h : ¬ frI (frst l) = -4) : ∃ s, frst l = some s := by
  cases e : frst l with
  | none => rw [e] at h; exact absurd rfl h
  | some s => exact ⟨s, rfl⟩
theorem drop_c {α : Type} {l : List α} {i : Nat} {x : α} (h : l[i]? = some x) : l.drop i = x :: l.drop (i + 1) := by
  obtain ⟨h1, h2⟩ := List.getElem?_eq_some_iff.mp h
  rw [List.drop_eq_getElem_cons h1, h2]
theorem at_some {α : Type} {l : List α} {i : Nat} (h : i < l.length) : ∃ x, l[i]? = some x := ⟨l[i], List.getElem?_eq_getElem h⟩
theorem OkCmd_k {k : Nat} (h : cntN k ≠ 0) : k < 128 := by rcases cntN_c h with e | e | e | e <;> omega
set_option maxHeartbeats 4000000 in
set_option maxRecDepth 100000 in
theorem k_X1_isRefused {σ : Mem} {k c : Nat} {l : List Nat} (hk : cntN k ≠ 0) (hl : l.length = cntN k) (hv : ∀ v, v ∈ l → v < 100) (hrow : ∀ j v, l[j]? = some v → σ (55 + c) j = nI v) (hc : c < 10) : CtI objC NC yX1_isRefused cX1_isRefused 2 .boolean 1 22 [.int (nI k), .ref (55 + c)] σ (Pv (bP (¬ gdC k l)) σ) := by
  refine ct_ofI rfl ?_ (Nat.le_of_ble_eq_true rfl) (fun X C hr => ?_)
  · intro v hv; simp only [List.mem_cons, List.not_mem_nil, or_false] at hv; rcases hv with rfl | rfl <;> rfl
  · refine go_iload_n C dX1_isRefused_0 rfl ?_
    rcases cntN_c hk with rfl | rfl | rfl | rfl
    · have hln : l.length = 4 := hl
      have hg := gd_s (l := l) hv
      have hb0 := gN_lt hv 0
      have hb1 := gN_lt hv 1
      have hb2 := gN_lt hv 2
      have hb3 := gN_lt hv 3
      refine go_lookup C 44 43 dX1_isRefused_1 (by decide) (sw_off (nI_int (by decide)) (by decide)) (by decide) ?_
      refine go_aload_n C dX1_isRefused_44 rfl ?_
      refine go_iconst C (nI 0) dX1_isRefused_45 rfl ?_
      refine go_ialdN C dX1_isRefused_46 (Nat.lt_of_lt_of_le (Nat.add_lt_add_left hc 55) (by decide)) (hoN hc) (by decide) (by omega) ?_
      refine go_top _ (rdN hrow (by omega)) ?_
      refine go_aload_n C dX1_isRefused_47 rfl ?_
      refine go_iconst C (nI 1) dX1_isRefused_48 rfl ?_
      refine go_ialdN C dX1_isRefused_49 (Nat.lt_of_lt_of_le (Nat.add_lt_add_left hc 55) (by decide)) (hoN hc) (by decide) (by omega) ?_
      refine go_top _ (rdN hrow (by omega)) ?_
      refine go_aload_n C dX1_isRefused_50 rfl ?_
      refine go_iconst C (nI 2) dX1_isRefused_51 rfl ?_
      refine go_ialdN C dX1_isRefused_52 (Nat.lt_of_lt_of_le (Nat.add_lt_add_left hc 55) (by decide)) (hoN hc) (by decide) (by omega) ?_
      refine go_top _ (rdN hrow (by omega)) ?_
      refine go_S3P C ok_X2_has lk_X1_65 dX1_isRefused_53 (k_X2_has _ _ _) (by decide) (Nat.le_of_ble_eq_true rfl) ?_
      refine go_if_eqB C 68 dX1_isRefused_56 (by decide) (fun h56 => ?_) (fun h56 => ?_)
      · refine go_iconst C (nI 1) dX1_isRefused_68 rfl ?_
        refine go_goto C 73 dX1_isRefused_69 (by decide) ?_
        refine go_iret hr dX1_isRefused_73 rfl ?_
        refine ⟨?_, rfl⟩
        first | exact bP_f (fun z => z (hg.mpr ⟨by assumption, by assumption⟩)) | exact bP_f (fun z => z (hg.mpr ⟨by assumption, by assumption, by assumption⟩)) | exact bP_f (fun z => z (hg.mpr ⟨by assumption, by assumption, by assumption, by assumption, by assumption, by assumption⟩)) | (refine bP_t (fun z => ?_); have y := hg.mp z; obtain ⟨y1, y2⟩ := y; contradiction) | (refine bP_t (fun z => ?_); have y := hg.mp z; obtain ⟨y1, y2, y3⟩ := y; contradiction) | (refine bP_t (fun z => ?_); have y := hg.mp z; obtain ⟨y1, y2, y3, y4, y5, y6⟩ := y; first | contradiction | omega)
      · refine go_aload_n C dX1_isRefused_59 rfl ?_
        refine go_iconst C (nI 3) dX1_isRefused_60 rfl ?_
        refine go_ialdN C dX1_isRefused_61 (Nat.lt_of_lt_of_le (Nat.add_lt_add_left hc 55) (by decide)) (hoN hc) (by decide) (by omega) ?_
        refine go_top _ (rdN hrow (by omega)) ?_
        refine go_N1P C ok_X6_isType lk_X1_71 dX1_isRefused_62 (k_X6_isType _) (by decide) (Nat.le_of_ble_eq_true rfl) ?_
        refine go_if_neB C 72 dX1_isRefused_65 (by decide) (fun h65 => ?_) (fun h65 => ?_)
        · refine go_iconst C (nI 0) dX1_isRefused_72 rfl ?_
          refine go_iret hr dX1_isRefused_73 rfl ?_
          refine ⟨?_, rfl⟩
          first | exact bP_f (fun z => z (hg.mpr ⟨by assumption, by assumption⟩)) | exact bP_f (fun z => z (hg.mpr ⟨by assumption, by assumption, by assumption⟩)) | exact bP_f (fun z => z (hg.mpr ⟨by assumption, by assumption, by assumption, by assumption, by assumption, by assumption⟩)) | (refine bP_t (fun z => ?_); have y := hg.mp z; obtain ⟨y1, y2⟩ := y; contradiction) | (refine bP_t (fun z => ?_); have y := hg.mp z; obtain ⟨y1, y2, y3⟩ := y; contradiction) | (refine bP_t (fun z => ?_); have y := hg.mp z; obtain ⟨y1, y2, y3, y4, y5, y6⟩ := y; first | contradiction | omega)
        · refine go_iconst C (nI 1) dX1_isRefused_68 rfl ?_
          refine go_goto C 73 dX1_isRefused_69 (by decide) ?_
          refine go_iret hr dX1_isRefused_73 rfl ?_
          refine ⟨?_, rfl⟩
          first | exact bP_f (fun z => z (hg.mpr ⟨by assumption, by assumption⟩)) | exact bP_f (fun z => z (hg.mpr ⟨by assumption, by assumption, by assumption⟩)) | exact bP_f (fun z => z (hg.mpr ⟨by assumption, by assumption, by assumption, by assumption, by assumption, by assumption⟩)) | (refine bP_t (fun z => ?_); have y := hg.mp z; obtain ⟨y1, y2⟩ := y; contradiction) | (refine bP_t (fun z => ?_); have y := hg.mp z; obtain ⟨y1, y2, y3⟩ := y; contradiction) | (refine bP_t (fun z => ?_); have y := hg.mp z; obtain ⟨y1, y2, y3, y4, y5, y6⟩ := y; first | contradiction | omega)
    · have hln : l.length = 7 := hl
      have hg := gd_f (l := l) hv
      have hb0 := gN_lt hv 0
      have hb1 := gN_lt hv 1
      have hb2 := gN_lt hv 2
      have hb3 := gN_lt hv 3
      have hb4 := gN_lt hv 4
      have hb5 := gN_lt hv 5
      have hb6 := gN_lt hv 6
      refine go_lookup C 74 73 dX1_isRefused_1 (by decide) (sw_off (nI_int (by decide)) (by decide)) (by decide) ?_
      refine go_aload_n C dX1_isRefused_74 rfl ?_
      refine go_iconst C (nI 0) dX1_isRefused_75 rfl ?_
      refine go_ialdN C dX1_isRefused_76 (Nat.lt_of_lt_of_le (Nat.add_lt_add_left hc 55) (by decide)) (hoN hc) (by decide) (by omega) ?_
      refine go_top _ (rdN hrow (by omega)) ?_
      refine go_aload_n C dX1_isRefused_77 rfl ?_
      refine go_iconst C (nI 1) dX1_isRefused_78 rfl ?_
      refine go_ialdN C dX1_isRefused_79 (Nat.lt_of_lt_of_le (Nat.add_lt_add_left hc 55) (by decide)) (hoN hc) (by decide) (by omega) ?_
      refine go_top _ (rdN hrow (by omega)) ?_
      refine go_aload_n C dX1_isRefused_80 rfl ?_
      refine go_iconst C (nI 2) dX1_isRefused_81 rfl ?_
      refine go_ialdN C dX1_isRefused_82 (Nat.lt_of_lt_of_le (Nat.add_lt_add_left hc 55) (by decide)) (hoN hc) (by decide) (by omega) ?_
      refine go_top _ (rdN hrow (by omega)) ?_
      refine go_S3P C ok_X2_has lk_X1_65 dX1_isRefused_83 (k_X2_has _ _ _) (by decide) (Nat.le_of_ble_eq_true rfl) ?_
      refine go_if_eqB C 141 dX1_isRefused_86 (by decide) (fun h86 => ?_) (fun h86 => ?_)
      · refine go_iconst C (nI 1) dX1_isRefused_141 rfl ?_
        refine go_goto C 146 dX1_isRefused_142 (by decide) ?_
        refine go_iret hr dX1_isRefused_146 rfl ?_
        refine ⟨?_, rfl⟩
        first | exact bP_f (fun z => z (hg.mpr ⟨by assumption, by assumption⟩)) | exact bP_f (fun z => z (hg.mpr ⟨by assumption, by assumption, by assumption⟩)) | exact bP_f (fun z => z (hg.mpr ⟨by assumption, by assumption, by assumption, by assumption, by assumption, by assumption⟩)) | (refine bP_t (fun z => ?_); have y := hg.mp z; obtain ⟨y1, y2⟩ := y; contradiction) | (refine bP_t (fun z => ?_); have y := hg.mp z; obtain ⟨y1, y2, y3⟩ := y; contradiction) | (refine bP_t (fun z => ?_); have y := hg.mp z; obtain ⟨y1, y2, y3, y4, y5, y6⟩ := y; first | contradiction | omega)
      · refine go_aload_n C dX1_isRefused_89 rfl ?_
        refine go_iconst C (nI 3) dX1_isRefused_90 rfl ?_
        refine go_ialdN C dX1_isRefused_91 (Nat.lt_of_lt_of_le (Nat.add_lt_add_left hc 55) (by decide)) (hoN hc) (by decide) (by omega) ?_
        refine go_top _ (rdN hrow (by omega)) ?_
        refine go_aload_n C dX1_isRefused_92 rfl ?_
        refine go_iconst C (nI 4) dX1_isRefused_93 rfl ?_
        refine go_ialdN C dX1_isRefused_94 (Nat.lt_of_lt_of_le (Nat.add_lt_add_left hc 55) (by decide)) (hoN hc) (by decide) (by omega) ?_
        refine go_top _ (rdN hrow (by omega)) ?_
        refine go_aload_n C dX1_isRefused_95 rfl ?_
        refine go_iconst C (nI 5) dX1_isRefused_96 rfl ?_
        refine go_ialdN C dX1_isRefused_97 (Nat.lt_of_lt_of_le (Nat.add_lt_add_left hc 55) (by decide)) (hoN hc) (by decide) (by omega) ?_
        refine go_top _ (rdN hrow (by omega)) ?_
        refine go_S3P C ok_X2_has lk_X1_65 dX1_isRefused_98 (k_X2_has _ _ _) (by decide) (Nat.le_of_ble_eq_true rfl) ?_
        refine go_if_eqB C 141 dX1_isRefused_101 (by decide) (fun h101 => ?_) (fun h101 => ?_)
        · refine go_iconst C (nI 1) dX1_isRefused_141 rfl ?_
          refine go_goto C 146 dX1_isRefused_142 (by decide) ?_
          refine go_iret hr dX1_isRefused_146 rfl ?_
          refine ⟨?_, rfl⟩
          first | exact bP_f (fun z => z (hg.mpr ⟨by assumption, by assumption⟩)) | exact bP_f (fun z => z (hg.mpr ⟨by assumption, by assumption, by assumption⟩)) | exact bP_f (fun z => z (hg.mpr ⟨by assumption, by assumption, by assumption, by assumption, by assumption, by assumption⟩)) | (refine bP_t (fun z => ?_); have y := hg.mp z; obtain ⟨y1, y2⟩ := y; contradiction) | (refine bP_t (fun z => ?_); have y := hg.mp z; obtain ⟨y1, y2, y3⟩ := y; contradiction) | (refine bP_t (fun z => ?_); have y := hg.mp z; obtain ⟨y1, y2, y3, y4, y5, y6⟩ := y; first | contradiction | omega)
        · refine go_aload_n C dX1_isRefused_104 rfl ?_
          refine go_bipush C (nI 6) dX1_isRefused_105 rfl ?_
          refine go_ialdN C dX1_isRefused_107 (Nat.lt_of_lt_of_le (Nat.add_lt_add_left hc 55) (by decide)) (hoN hc) (by decide) (by omega) ?_
          refine go_top _ (rdN hrow (by omega)) ?_
          refine go_N1P C ok_X6_isType lk_X1_71 dX1_isRefused_108 (k_X6_isType _) (by decide) (Nat.le_of_ble_eq_true rfl) ?_
          refine go_if_eqB C 141 dX1_isRefused_111 (by decide) (fun h111 => ?_) (fun h111 => ?_)
          · refine go_iconst C (nI 1) dX1_isRefused_141 rfl ?_
            refine go_goto C 146 dX1_isRefused_142 (by decide) ?_
            refine go_iret hr dX1_isRefused_146 rfl ?_
            refine ⟨?_, rfl⟩
            first | exact bP_f (fun z => z (hg.mpr ⟨by assumption, by assumption⟩)) | exact bP_f (fun z => z (hg.mpr ⟨by assumption, by assumption, by assumption⟩)) | exact bP_f (fun z => z (hg.mpr ⟨by assumption, by assumption, by assumption, by assumption, by assumption, by assumption⟩)) | (refine bP_t (fun z => ?_); have y := hg.mp z; obtain ⟨y1, y2⟩ := y; contradiction) | (refine bP_t (fun z => ?_); have y := hg.mp z; obtain ⟨y1, y2, y3⟩ := y; contradiction) | (refine bP_t (fun z => ?_); have y := hg.mp z; obtain ⟨y1, y2, y3, y4, y5, y6⟩ := y; first | contradiction | omega)
          · refine go_aload_n C dX1_isRefused_114 rfl ?_
            refine go_iconst C (nI 3) dX1_isRefused_115 rfl ?_
            refine go_ialdN C dX1_isRefused_116 (Nat.lt_of_lt_of_le (Nat.add_lt_add_left hc 55) (by decide)) (hoN hc) (by decide) (by omega) ?_
            refine go_top _ (rdN hrow (by omega)) ?_
            refine go_aload_n C dX1_isRefused_117 rfl ?_
            refine go_iconst C (nI 0) dX1_isRefused_118 rfl ?_
            refine go_ialdN C dX1_isRefused_119 (Nat.lt_of_lt_of_le (Nat.add_lt_add_left hc 55) (by decide)) (hoN hc) (by decide) (by omega) ?_
            refine go_top _ (rdN hrow (by omega)) ?_
            refine go_icmp_ltN C 141 dX1_isRefused_120 (by decide) (by omega) (by omega) (fun h120 => ?_) (fun h120 => ?_)
            · refine go_iconst C (nI 1) dX1_isRefused_141 rfl ?_
              refine go_goto C 146 dX1_isRefused_142 (by decide) ?_
              refine go_iret hr dX1_isRefused_146 rfl ?_
              refine ⟨?_, rfl⟩
              first | exact bP_f (fun z => z (hg.mpr ⟨by assumption, by assumption⟩)) | exact bP_f (fun z => z (hg.mpr ⟨by assumption, by assumption, by assumption⟩)) | exact bP_f (fun z => z (hg.mpr ⟨by assumption, by assumption, by assumption, by assumption, by assumption, by assumption⟩)) | (refine bP_t (fun z => ?_); have y := hg.mp z; obtain ⟨y1, y2⟩ := y; contradiction) | (refine bP_t (fun z => ?_); have y := hg.mp z; obtain ⟨y1, y2, y3⟩ := y; contradiction) | (refine bP_t (fun z => ?_); have y := hg.mp z; obtain ⟨y1, y2, y3, y4, y5, y6⟩ := y; first | contradiction | omega)
            · refine go_aload_n C dX1_isRefused_123 rfl ?_
              refine go_iconst C (nI 4) dX1_isRefused_124 rfl ?_
              refine go_ialdN C dX1_isRefused_125 (Nat.lt_of_lt_of_le (Nat.add_lt_add_left hc 55) (by decide)) (hoN hc) (by decide) (by omega) ?_
              refine go_top _ (rdN hrow (by omega)) ?_
              refine go_aload_n C dX1_isRefused_126 rfl ?_
              refine go_iconst C (nI 1) dX1_isRefused_127 rfl ?_
              refine go_ialdN C dX1_isRefused_128 (Nat.lt_of_lt_of_le (Nat.add_lt_add_left hc 55) (by decide)) (hoN hc) (by decide) (by omega) ?_
              refine go_top _ (rdN hrow (by omega)) ?_
              refine go_icmp_ltN C 141 dX1_isRefused_129 (by decide) (by omega) (by omega) (fun h129 => ?_) (fun h129 => ?_)
              · refine go_iconst C (nI 1) dX1_isRefused_141 rfl ?_
                refine go_goto C 146 dX1_isRefused_142 (by decide) ?_
                refine go_iret hr dX1_isRefused_146 rfl ?_
                refine ⟨?_, rfl⟩
                first | exact bP_f (fun z => z (hg.mpr ⟨by assumption, by assumption⟩)) | exact bP_f (fun z => z (hg.mpr ⟨by assumption, by assumption, by assumption⟩)) | exact bP_f (fun z => z (hg.mpr ⟨by assumption, by assumption, by assumption, by assumption, by assumption, by assumption⟩)) | (refine bP_t (fun z => ?_); have y := hg.mp z; obtain ⟨y1, y2⟩ := y; contradiction) | (refine bP_t (fun z => ?_); have y := hg.mp z; obtain ⟨y1, y2, y3⟩ := y; contradiction) | (refine bP_t (fun z => ?_); have y := hg.mp z; obtain ⟨y1, y2, y3, y4, y5, y6⟩ := y; first | contradiction | omega)
              · refine go_aload_n C dX1_isRefused_132 rfl ?_
                refine go_iconst C (nI 5) dX1_isRefused_133 rfl ?_
                refine go_ialdN C dX1_isRefused_134 (Nat.lt_of_lt_of_le (Nat.add_lt_add_left hc 55) (by decide)) (hoN hc) (by decide) (by omega) ?_
                refine go_top _ (rdN hrow (by omega)) ?_
                refine go_aload_n C dX1_isRefused_135 rfl ?_
                refine go_iconst C (nI 2) dX1_isRefused_136 rfl ?_
                refine go_ialdN C dX1_isRefused_137 (Nat.lt_of_lt_of_le (Nat.add_lt_add_left hc 55) (by decide)) (hoN hc) (by decide) (by omega) ?_
                refine go_top _ (rdN hrow (by omega)) ?_
                refine go_icmp_geN C 145 dX1_isRefused_138 (by decide) (by omega) (by omega) (fun h138 => ?_) (fun h138 => ?_)
                · refine go_iconst C (nI 0) dX1_isRefused_145 rfl ?_
                  refine go_iret hr dX1_isRefused_146 rfl ?_
                  refine ⟨?_, rfl⟩
                  first | exact bP_f (fun z => z (hg.mpr ⟨by assumption, by assumption⟩)) | exact bP_f (fun z => z (hg.mpr ⟨by assumption, by assumption, by assumption⟩)) | exact bP_f (fun z => z (hg.mpr ⟨by assumption, by assumption, by assumption, by assumption, by assumption, by assumption⟩)) | (refine bP_t (fun z => ?_); have y := hg.mp z; obtain ⟨y1, y2⟩ := y; contradiction) | (refine bP_t (fun z => ?_); have y := hg.mp z; obtain ⟨y1, y2, y3⟩ := y; contradiction) | (refine bP_t (fun z => ?_); have y := hg.mp z; obtain ⟨y1, y2, y3, y4, y5, y6⟩ := y; first | contradiction | omega)
                · refine go_iconst C (nI 1) dX1_isRefused_141 rfl ?_
                  refine go_goto C 146 dX1_isRefused_142 (by decide) ?_
                  refine go_iret hr dX1_isRefused_146 rfl ?_
                  refine ⟨?_, rfl⟩
                  first | exact bP_f (fun z => z (hg.mpr ⟨by assumption, by assumption⟩)) | exact bP_f (fun z => z (hg.mpr ⟨by assumption, by assumption, by assumption⟩)) | exact bP_f (fun z => z (hg.mpr ⟨by assumption, by assumption, by assumption, by assumption, by assumption, by assumption⟩)) | (refine bP_t (fun z => ?_); have y := hg.mp z; obtain ⟨y1, y2⟩ := y; contradiction) | (refine bP_t (fun z => ?_); have y := hg.mp z; obtain ⟨y1, y2, y3⟩ := y; contradiction) | (refine bP_t (fun z => ?_); have y := hg.mp z; obtain ⟨y1, y2, y3, y4, y5, y6⟩ := y; first | contradiction | omega)
    · have hln : l.length = 3 := hl
      have hg := gd_l (l := l) hv
      have hb0 := gN_lt hv 0
      have hb1 := gN_lt hv 1
      have hb2 := gN_lt hv 2
      refine go_lookup C 147 146 dX1_isRefused_1 (by decide) (sw_off (nI_int (by decide)) (by decide)) (by decide) ?_
      refine go_aload_n C dX1_isRefused_147 rfl ?_
      refine go_iconst C (nI 0) dX1_isRefused_148 rfl ?_
      refine go_ialdN C dX1_isRefused_149 (Nat.lt_of_lt_of_le (Nat.add_lt_add_left hc 55) (by decide)) (hoN hc) (by decide) (by omega) ?_
      refine go_top _ (rdN hrow (by omega)) ?_
      refine go_N1P C ok_X6_isType lk_X1_71 dX1_isRefused_150 (k_X6_isType _) (by decide) (Nat.le_of_ble_eq_true rfl) ?_
      refine go_if_eqB C 174 dX1_isRefused_153 (by decide) (fun h153 => ?_) (fun h153 => ?_)
      · refine go_iconst C (nI 1) dX1_isRefused_174 rfl ?_
        refine go_goto C 179 dX1_isRefused_175 (by decide) ?_
        refine go_iret hr dX1_isRefused_179 rfl ?_
        refine ⟨?_, rfl⟩
        first | exact bP_f (fun z => z (hg.mpr ⟨by assumption, by assumption⟩)) | exact bP_f (fun z => z (hg.mpr ⟨by assumption, by assumption, by assumption⟩)) | exact bP_f (fun z => z (hg.mpr ⟨by assumption, by assumption, by assumption, by assumption, by assumption, by assumption⟩)) | (refine bP_t (fun z => ?_); have y := hg.mp z; obtain ⟨y1, y2⟩ := y; contradiction) | (refine bP_t (fun z => ?_); have y := hg.mp z; obtain ⟨y1, y2, y3⟩ := y; contradiction) | (refine bP_t (fun z => ?_); have y := hg.mp z; obtain ⟨y1, y2, y3, y4, y5, y6⟩ := y; first | contradiction | omega)
      · refine go_aload_n C dX1_isRefused_156 rfl ?_
        refine go_iconst C (nI 1) dX1_isRefused_157 rfl ?_
        refine go_ialdN C dX1_isRefused_158 (Nat.lt_of_lt_of_le (Nat.add_lt_add_left hc 55) (by decide)) (hoN hc) (by decide) (by omega) ?_
        refine go_top _ (rdN hrow (by omega)) ?_
        refine go_N1P C ok_X6_isChannel lk_X1_74 dX1_isRefused_159 (k_X6_isChannel _) (by decide) (Nat.le_of_ble_eq_true rfl) ?_
        refine go_if_eqB C 174 dX1_isRefused_162 (by decide) (fun h162 => ?_) (fun h162 => ?_)
        · refine go_iconst C (nI 1) dX1_isRefused_174 rfl ?_
          refine go_goto C 179 dX1_isRefused_175 (by decide) ?_
          refine go_iret hr dX1_isRefused_179 rfl ?_
          refine ⟨?_, rfl⟩
          first | exact bP_f (fun z => z (hg.mpr ⟨by assumption, by assumption⟩)) | exact bP_f (fun z => z (hg.mpr ⟨by assumption, by assumption, by assumption⟩)) | exact bP_f (fun z => z (hg.mpr ⟨by assumption, by assumption, by assumption, by assumption, by assumption, by assumption⟩)) | (refine bP_t (fun z => ?_); have y := hg.mp z; obtain ⟨y1, y2⟩ := y; contradiction) | (refine bP_t (fun z => ?_); have y := hg.mp z; obtain ⟨y1, y2, y3⟩ := y; contradiction) | (refine bP_t (fun z => ?_); have y := hg.mp z; obtain ⟨y1, y2, y3, y4, y5, y6⟩ := y; first | contradiction | omega)
        · refine go_aload_n C dX1_isRefused_165 rfl ?_
          refine go_iconst C (nI 2) dX1_isRefused_166 rfl ?_
          refine go_ialdN C dX1_isRefused_167 (Nat.lt_of_lt_of_le (Nat.add_lt_add_left hc 55) (by decide)) (hoN hc) (by decide) (by omega) ?_
          refine go_top _ (rdN hrow (by omega)) ?_
          refine go_N1P C ok_X6_isStrength lk_X1_77 dX1_isRefused_168 (k_X6_isStrength _) (by decide) (Nat.le_of_ble_eq_true rfl) ?_
          refine go_if_neB C 178 dX1_isRefused_171 (by decide) (fun h171 => ?_) (fun h171 => ?_)
          · refine go_iconst C (nI 0) dX1_isRefused_178 rfl ?_
            refine go_iret hr dX1_isRefused_179 rfl ?_
            refine ⟨?_, rfl⟩
            first | exact bP_f (fun z => z (hg.mpr ⟨by assumption, by assumption⟩)) | exact bP_f (fun z => z (hg.mpr ⟨by assumption, by assumption, by assumption⟩)) | exact bP_f (fun z => z (hg.mpr ⟨by assumption, by assumption, by assumption, by assumption, by assumption, by assumption⟩)) | (refine bP_t (fun z => ?_); have y := hg.mp z; obtain ⟨y1, y2⟩ := y; contradiction) | (refine bP_t (fun z => ?_); have y := hg.mp z; obtain ⟨y1, y2, y3⟩ := y; contradiction) | (refine bP_t (fun z => ?_); have y := hg.mp z; obtain ⟨y1, y2, y3, y4, y5, y6⟩ := y; first | contradiction | omega)
          · refine go_iconst C (nI 1) dX1_isRefused_174 rfl ?_
            refine go_goto C 179 dX1_isRefused_175 (by decide) ?_
            refine go_iret hr dX1_isRefused_179 rfl ?_
            refine ⟨?_, rfl⟩
            first | exact bP_f (fun z => z (hg.mpr ⟨by assumption, by assumption⟩)) | exact bP_f (fun z => z (hg.mpr ⟨by assumption, by assumption, by assumption⟩)) | exact bP_f (fun z => z (hg.mpr ⟨by assumption, by assumption, by assumption, by assumption, by assumption, by assumption⟩)) | (refine bP_t (fun z => ?_); have y := hg.mp z; obtain ⟨y1, y2⟩ := y; contradiction) | (refine bP_t (fun z => ?_); have y := hg.mp z; obtain ⟨y1, y2, y3⟩ := y; contradiction) | (refine bP_t (fun z => ?_); have y := hg.mp z; obtain ⟨y1, y2, y3, y4, y5, y6⟩ := y; first | contradiction | omega)
    · have hln : l.length = 3 := hl
      have hg := gd_e (l := l) hv
      have hb0 := gN_lt hv 0
      have hb1 := gN_lt hv 1
      have hb2 := gN_lt hv 2
      refine go_lookup C 180 179 dX1_isRefused_1 (by decide) (sw_off (nI_int (by decide)) (by decide)) (by decide) ?_
      refine go_aload_n C dX1_isRefused_180 rfl ?_
      refine go_iconst C (nI 0) dX1_isRefused_181 rfl ?_
      refine go_ialdN C dX1_isRefused_182 (Nat.lt_of_lt_of_le (Nat.add_lt_add_left hc 55) (by decide)) (hoN hc) (by decide) (by omega) ?_
      refine go_top _ (rdN hrow (by omega)) ?_
      refine go_N1P C ok_X6_isType lk_X1_71 dX1_isRefused_183 (k_X6_isType _) (by decide) (Nat.le_of_ble_eq_true rfl) ?_
      refine go_if_eqB C 207 dX1_isRefused_186 (by decide) (fun h186 => ?_) (fun h186 => ?_)
      · refine go_iconst C (nI 1) dX1_isRefused_207 rfl ?_
        refine go_goto C 212 dX1_isRefused_208 (by decide) ?_
        refine go_iret hr dX1_isRefused_212 rfl ?_
        refine ⟨?_, rfl⟩
        first | exact bP_f (fun z => z (hg.mpr ⟨by assumption, by assumption⟩)) | exact bP_f (fun z => z (hg.mpr ⟨by assumption, by assumption, by assumption⟩)) | exact bP_f (fun z => z (hg.mpr ⟨by assumption, by assumption, by assumption, by assumption, by assumption, by assumption⟩)) | (refine bP_t (fun z => ?_); have y := hg.mp z; obtain ⟨y1, y2⟩ := y; contradiction) | (refine bP_t (fun z => ?_); have y := hg.mp z; obtain ⟨y1, y2, y3⟩ := y; contradiction) | (refine bP_t (fun z => ?_); have y := hg.mp z; obtain ⟨y1, y2, y3, y4, y5, y6⟩ := y; first | contradiction | omega)
      · refine go_aload_n C dX1_isRefused_189 rfl ?_
        refine go_iconst C (nI 1) dX1_isRefused_190 rfl ?_
        refine go_ialdN C dX1_isRefused_191 (Nat.lt_of_lt_of_le (Nat.add_lt_add_left hc 55) (by decide)) (hoN hc) (by decide) (by omega) ?_
        refine go_top _ (rdN hrow (by omega)) ?_
        refine go_N1P C ok_X6_isColor lk_X1_80 dX1_isRefused_192 (k_X6_isColor _) (by decide) (Nat.le_of_ble_eq_true rfl) ?_
        refine go_if_eqB C 207 dX1_isRefused_195 (by decide) (fun h195 => ?_) (fun h195 => ?_)
        · refine go_iconst C (nI 1) dX1_isRefused_207 rfl ?_
          refine go_goto C 212 dX1_isRefused_208 (by decide) ?_
          refine go_iret hr dX1_isRefused_212 rfl ?_
          refine ⟨?_, rfl⟩
          first | exact bP_f (fun z => z (hg.mpr ⟨by assumption, by assumption⟩)) | exact bP_f (fun z => z (hg.mpr ⟨by assumption, by assumption, by assumption⟩)) | exact bP_f (fun z => z (hg.mpr ⟨by assumption, by assumption, by assumption, by assumption, by assumption, by assumption⟩)) | (refine bP_t (fun z => ?_); have y := hg.mp z; obtain ⟨y1, y2⟩ := y; contradiction) | (refine bP_t (fun z => ?_); have y := hg.mp z; obtain ⟨y1, y2, y3⟩ := y; contradiction) | (refine bP_t (fun z => ?_); have y := hg.mp z; obtain ⟨y1, y2, y3, y4, y5, y6⟩ := y; first | contradiction | omega)
        · refine go_aload_n C dX1_isRefused_198 rfl ?_
          refine go_iconst C (nI 2) dX1_isRefused_199 rfl ?_
          refine go_ialdN C dX1_isRefused_200 (Nat.lt_of_lt_of_le (Nat.add_lt_add_left hc 55) (by decide)) (hoN hc) (by decide) (by omega) ?_
          refine go_top _ (rdN hrow (by omega)) ?_
          refine go_N1P C ok_X6_isStrength lk_X1_77 dX1_isRefused_201 (k_X6_isStrength _) (by decide) (Nat.le_of_ble_eq_true rfl) ?_
          refine go_if_neB C 211 dX1_isRefused_204 (by decide) (fun h204 => ?_) (fun h204 => ?_)
          · refine go_iconst C (nI 0) dX1_isRefused_211 rfl ?_
            refine go_iret hr dX1_isRefused_212 rfl ?_
            refine ⟨?_, rfl⟩
            first | exact bP_f (fun z => z (hg.mpr ⟨by assumption, by assumption⟩)) | exact bP_f (fun z => z (hg.mpr ⟨by assumption, by assumption, by assumption⟩)) | exact bP_f (fun z => z (hg.mpr ⟨by assumption, by assumption, by assumption, by assumption, by assumption, by assumption⟩)) | (refine bP_t (fun z => ?_); have y := hg.mp z; obtain ⟨y1, y2⟩ := y; contradiction) | (refine bP_t (fun z => ?_); have y := hg.mp z; obtain ⟨y1, y2, y3⟩ := y; contradiction) | (refine bP_t (fun z => ?_); have y := hg.mp z; obtain ⟨y1, y2, y3, y4, y5, y6⟩ := y; first | contradiction | omega)
          · refine go_iconst C (nI 1) dX1_isRefused_207 rfl ?_
            refine go_goto C 212 dX1_isRefused_208 (by decide) ?_
            refine go_iret hr dX1_isRefused_212 rfl ?_
            refine ⟨?_, rfl⟩
            first | exact bP_f (fun z => z (hg.mpr ⟨by assumption, by assumption⟩)) | exact bP_f (fun z => z (hg.mpr ⟨by assumption, by assumption, by assumption⟩)) | exact bP_f (fun z => z (hg.mpr ⟨by assumption, by assumption, by assumption, by assumption, by assumption, by assumption⟩)) | (refine bP_t (fun z => ?_); have y := hg.mp z; obtain ⟨y1, y2⟩ := y; contradiction) | (refine bP_t (fun z => ?_); have y := hg.mp z; obtain ⟨y1, y2, y3⟩ := y; contradiction) | (refine bP_t (fun z => ?_); have y := hg.mp z; obtain ⟨y1, y2, y3, y4, y5, y6⟩ := y; first | contradiction | omega)
set_option maxHeartbeats 4000000 in
set_option maxRecDepth 100000 in
theorem k_X1_firstRefused {σ : Mem} {l : List Cmd} (hl : σ 50 6 = nI l.length) (hl10 : l.length ≤ 10) (hcm : ∀ j m, l[j]? = some m → CmdAt σ j m) (hok : ∀ m, m ∈ l → OkCmd m) : CtI objC NC yX1_firstRefused cX1_firstRefused 2 .int 2 43 [.ref 50] σ (Pv (frI (frst l)) σ) := by
  refine ct_ofI rfl ?_ (Nat.le_of_ble_eq_true rfl) (fun X C hr => ?_)
  · intro v hv; simp only [List.mem_cons, List.not_mem_nil, or_false] at hv; rcases hv with rfl <;> rfl
  · have L : ∀ (n : Nat) (i : Nat), (i + n = l.length) → (frst (l.drop i) = frst l) → Go objC NC X 2 [some (.ref 50), some (.int (nI i))] [] σ := by
      intro n
      induction n using Nat.strongRecOn with
      | _ n ih =>
        intro i hi he
        refine go_iload_n C dX1_firstRefused_2 rfl ?_
        refine go_aload_n C dX1_firstRefused_3 rfl ?_
        refine go_getI C gf_X1_34 dX1_firstRefused_4 (by decide) rfl rfl ?_
        refine go_top _ hl ?_
        refine go_icmp_geN C 41 dX1_firstRefused_7 (by decide) (by omega) (by omega) (fun h7 => ?_) (fun h7 => ?_)
        · obtain rfl : i = l.length := by omega
          have hno : frst l = none := by rw [← he, List.drop_length]; rfl
          refine go_bipush C (-4) dX1_firstRefused_41 rfl ?_
          refine go_iret hr dX1_firstRefused_43 rfl ?_
          exact ⟨by rw [hno]; rfl, rfl⟩
        · obtain ⟨m, hm⟩ := at_some h7
          have hc1 := hcm i m hm
          have hk1 := hok m (List.mem_of_getElem? hm)
          have hk2 := OkCmd_k hk1.1
          have hc : i < 10 := by omega
          have hd := drop_c hm
          refine go_aload_n C dX1_firstRefused_10 rfl ?_
          refine go_getR C gf_X1_22 dX1_firstRefused_11 (by decide) rfl rfl ?_
          refine go_iload_n C dX1_firstRefused_14 rfl ?_
          refine go_caldN C dX1_firstRefused_15 (by decide) rfl (by decide) (by omega) ?_
          refine go_top _ hc1.1 ?_
          refine go_aload_n C dX1_firstRefused_16 rfl ?_
          refine go_getR C gf_X1_31 dX1_firstRefused_17 (by decide) rfl rfl ?_
          refine go_iload_n C dX1_firstRefused_20 rfl ?_
          refine go_aald C dX1_firstRefused_21 (by decide) rfl (Or.inl rfl) (by decide) (jsN hc) ?_
          refine go_S2P C ok_X1_isRefused lk_X1_61 dX1_firstRefused_22 (k_X1_isRefused hk1.1 hk1.2.2.1 hk1.2.2.2 hc1.2.2 hc) (by decide) (Nat.le_of_ble_eq_true rfl) ?_
          refine go_if_eqB C 35 dX1_firstRefused_25 (by decide) (fun h25 => ?_) (fun h25 => ?_)
          · have hg : gdC m.1 m.2.2 := Classical.byContradiction h25
            refine go_iincN C 1 dX1_firstRefused_35 rfl rfl (by decide) rfl rfl ?_
            refine go_goto C 2 dX1_firstRefused_38 (by decide) ?_
            exact ih (n - 1) (by omega) (i + 1) (by omega) (by rw [← he, hd, frst_1 hg])
          · refine go_aload_n C dX1_firstRefused_28 rfl ?_
            refine go_getR C gf_X1_25 dX1_firstRefused_29 (by decide) rfl rfl ?_
            refine go_iload_n C dX1_firstRefused_32 rfl ?_
            refine go_ialdN C dX1_firstRefused_33 (by decide) rfl (by decide) (by omega) ?_
            refine go_top _ hc1.2.1 ?_
            refine go_iret hr dX1_firstRefused_34 rfl ?_
            exact ⟨by rw [← he, hd, frst_0 h25]; rfl, rfl⟩
    refine go_iconst C (nI 0) dX1_firstRefused_0 rfl ?_
    refine go_istore_n C dX1_firstRefused_1 (by decide) rfl rfl ?_
    exact L l.length 0 (by omega) rfl
def FrW (σ τ : Mem) : Prop := ∀ q, q ≠ 2 → q ≠ 3 → q ≠ 4 → τ q = σ q
set_option maxHeartbeats 4000000 in
set_option maxRecDepth 100000 in
theorem k_X1_make {σ : Mem} {w : Wd} {k s c : Nat} {l : List Nat} (hk : cntN k ≠ 0) (hl : l.length = cntN k) (hv : ∀ v, v ∈ l → v < 100) (hrow : ∀ j v, l[j]? = some v → σ (55 + c) j = nI v) (hc : c < 10) (hgd : gdC k l) (hW : HasW σ 1 w) : CtV objC NC yX1_make cX1_make 3 2 44 [.int (nI k), .ref (55 + c), .ref 1] σ (fun τ => HasW τ 1 (doC w (k, s, l)) ∧ FrW σ τ) := by
  refine ct_ofV rfl ?_ (Nat.le_of_ble_eq_true rfl) (fun X C hr => ?_)
  · intro v hv; simp only [List.mem_cons, List.not_mem_nil, or_false] at hv; rcases hv with rfl | rfl | rfl <;> rfl
  · refine go_iload_n C dX1_make_0 rfl ?_
    rcases cntN_c hk with rfl | rfl | rfl | rfl
    · have hln : l.length = 4 := hl
      obtain ⟨⟨a1, a2, a3⟩, a4⟩ : (gN l 0 < 12 ∧ gN l 1 < 8 ∧ gN l 2 < 12) ∧ gN l 3 < 8 := hgd
      have hk := cel_lt a1 a2 a3
      refine go_lookup C 44 43 dX1_make_1 (by decide) (sw_off (nI_int (by decide)) (by decide)) (by decide) ?_
      refine go_aload_n C dX1_make_44 rfl ?_
      refine go_getR C gf_X1_87 dX1_make_45 (by decide) rfl rfl ?_
      refine go_aload_n C dX1_make_48 rfl ?_
      refine go_iconst C (nI 0) dX1_make_49 rfl ?_
      refine go_ialdN C dX1_make_50 (Nat.lt_of_lt_of_le (Nat.add_lt_add_left hc 55) (by decide)) (hoN hc) (by decide) (by omega) ?_
      refine go_top _ (rdN hrow (by omega)) ?_
      refine go_aload_n C dX1_make_51 rfl ?_
      refine go_iconst C (nI 1) dX1_make_52 rfl ?_
      refine go_ialdN C dX1_make_53 (Nat.lt_of_lt_of_le (Nat.add_lt_add_left hc 55) (by decide)) (hoN hc) (by decide) (by omega) ?_
      refine go_top _ (rdN hrow (by omega)) ?_
      refine go_aload_n C dX1_make_54 rfl ?_
      refine go_iconst C (nI 2) dX1_make_55 rfl ?_
      refine go_ialdN C dX1_make_56 (Nat.lt_of_lt_of_le (Nat.add_lt_add_left hc 55) (by decide)) (hoN hc) (by decide) (by omega) ?_
      refine go_top _ (rdN hrow (by omega)) ?_
      refine go_S3P C ok_X2_cell lk_X1_92 dX1_make_57 k_X2_cell (by decide) (Nat.le_of_ble_eq_true rfl) ?_
      refine go_aload_n C dX1_make_60 rfl ?_
      refine go_iconst C (nI 3) dX1_make_61 rfl ?_
      refine go_ialdN C dX1_make_62 (Nat.lt_of_lt_of_le (Nat.add_lt_add_left hc 55) (by decide)) (hoN hc) (by decide) (by omega) ?_
      refine go_top _ (rdN hrow (by omega)) ?_
      refine go_iastN C dX1_make_63 (by decide) rfl (by decide) (by omega) ?_
      refine go_goto C 142 dX1_make_64 (by decide) ?_
      refine go_vret hr dX1_make_142 ?_
      first | exact (by
        rw [doC_s]
        refine ⟨⟨fun j hj => ?_, fun j hj => by rw [updR_n (by decide)]; exact hW.2.1 j hj, fun j hj => by rw [updR_n (by decide)]; exact hW.2.2 j hj⟩, fun q a b c => updR_n a⟩
        show updR σ 2 (upd (σ 2) (cel (gN l 0) (gN l 1) (gN l 2)) (nI (gN l 3))) 2 j = nI (un (wT w) (cel (gN l 0) (gN l 1) (gN l 2)) (gN l 3) j)
        rw [updR_s]
        by_cases e : j = cel (gN l 0) (gN l 1) (gN l 2)
        · subst e; rw [pk_us, un_s]
        · rw [pk_un e, un_n e]; exact hW.1 j hj) | exact (by
        rw [doC_f]
        exact ⟨⟨fun j hj => hp.1 j hj, fun j hj => by rw [hp.2 3 (by decide)]; exact hW.2.1 j hj, fun j hj => by rw [hp.2 4 (by decide)]; exact hW.2.2 j hj⟩, fun q a b c => hp.2 q a⟩) | exact (by
        rw [doC_l]
        refine ⟨⟨fun j hj => by rw [updR_n (by decide)]; exact hW.1 j hj, ?_, ?_⟩, fun q a b c => updR_n b⟩
        · exact fun j hj => by
            show updR σ 3 (upd (σ 3) (gN l 0 * 4 + gN l 1) (nI (gN l 2))) 3 j = nI (un (wL w) (4 * gN l 0 + gN l 1) (gN l 2) j)
            rw [updR_s]
            by_cases e : j = 4 * gN l 0 + gN l 1
            · subst e; rw [Nat.mul_comm 4, pk_us, un_s]
            · rw [Nat.mul_comm (gN l 0), pk_un e, un_n e]; exact hW.2.1 j hj
        · exact fun j hj => by rw [updR_n (by decide)]; exact hW.2.2 j hj) | exact (by
        rw [doC_e]
        refine ⟨⟨fun j hj => by rw [updR_n (by decide)]; exact hW.1 j hj, ?_, ?_⟩, fun q a b c => updR_n c⟩
        · exact fun j hj => by rw [updR_n (by decide)]; exact hW.2.1 j hj
        · exact fun j hj => by
            show updR σ 4 (upd (σ 4) (gN l 0 * 4 + gN l 1) (nI (gN l 2))) 4 j = nI (un (wE w) (4 * gN l 0 + gN l 1) (gN l 2) j)
            rw [updR_s]
            by_cases e : j = 4 * gN l 0 + gN l 1
            · subst e; rw [Nat.mul_comm 4, pk_us, un_s]
            · rw [Nat.mul_comm (gN l 0), pk_un e, un_n e]; exact hW.2.2 j hj)
    · have hln : l.length = 7 := hl
      obtain ⟨⟨a1, a2, a3⟩, ⟨b1, b2, b3⟩, c1, c2, c3, c4⟩ : (gN l 0 < 12 ∧ gN l 1 < 8 ∧ gN l 2 < 12) ∧ (gN l 3 < 12 ∧ gN l 4 < 8 ∧ gN l 5 < 12) ∧ gN l 0 ≤ gN l 3 ∧ gN l 1 ≤ gN l 4 ∧ gN l 2 ≤ gN l 5 ∧ gN l 6 < 8 := hgd
      refine go_lookup C 67 66 dX1_make_1 (by decide) (sw_off (nI_int (by decide)) (by decide)) (by decide) ?_
      refine go_aload_n C dX1_make_67 rfl ?_
      refine go_aload_n C dX1_make_68 rfl ?_
      refine go_iconst C (nI 0) dX1_make_69 rfl ?_
      refine go_ialdN C dX1_make_70 (Nat.lt_of_lt_of_le (Nat.add_lt_add_left hc 55) (by decide)) (hoN hc) (by decide) (by omega) ?_
      refine go_top _ (rdN hrow (by omega)) ?_
      refine go_aload_n C dX1_make_71 rfl ?_
      refine go_iconst C (nI 1) dX1_make_72 rfl ?_
      refine go_ialdN C dX1_make_73 (Nat.lt_of_lt_of_le (Nat.add_lt_add_left hc 55) (by decide)) (hoN hc) (by decide) (by omega) ?_
      refine go_top _ (rdN hrow (by omega)) ?_
      refine go_aload_n C dX1_make_74 rfl ?_
      refine go_iconst C (nI 2) dX1_make_75 rfl ?_
      refine go_ialdN C dX1_make_76 (Nat.lt_of_lt_of_le (Nat.add_lt_add_left hc 55) (by decide)) (hoN hc) (by decide) (by omega) ?_
      refine go_top _ (rdN hrow (by omega)) ?_
      refine go_S3P C ok_X2_cell lk_X1_92 dX1_make_77 k_X2_cell (by decide) (Nat.le_of_ble_eq_true rfl) ?_
      refine go_aload_n C dX1_make_80 rfl ?_
      refine go_iconst C (nI 3) dX1_make_81 rfl ?_
      refine go_ialdN C dX1_make_82 (Nat.lt_of_lt_of_le (Nat.add_lt_add_left hc 55) (by decide)) (hoN hc) (by decide) (by omega) ?_
      refine go_top _ (rdN hrow (by omega)) ?_
      refine go_aload_n C dX1_make_83 rfl ?_
      refine go_iconst C (nI 4) dX1_make_84 rfl ?_
      refine go_ialdN C dX1_make_85 (Nat.lt_of_lt_of_le (Nat.add_lt_add_left hc 55) (by decide)) (hoN hc) (by decide) (by omega) ?_
      refine go_top _ (rdN hrow (by omega)) ?_
      refine go_aload_n C dX1_make_86 rfl ?_
      refine go_iconst C (nI 5) dX1_make_87 rfl ?_
      refine go_ialdN C dX1_make_88 (Nat.lt_of_lt_of_le (Nat.add_lt_add_left hc 55) (by decide)) (hoN hc) (by decide) (by omega) ?_
      refine go_top _ (rdN hrow (by omega)) ?_
      refine go_S3P C ok_X2_cell lk_X1_92 dX1_make_89 k_X2_cell (by decide) (Nat.le_of_ble_eq_true rfl) ?_
      refine go_aload_n C dX1_make_92 rfl ?_
      refine go_bipush C (nI 6) dX1_make_93 rfl ?_
      refine go_ialdN C dX1_make_95 (Nat.lt_of_lt_of_le (Nat.add_lt_add_left hc 55) (by decide)) (hoN hc) (by decide) (by omega) ?_
      refine go_top _ (rdN hrow (by omega)) ?_
      refine go_V3V C ok_X5_setBox lk_X1_96 dX1_make_96 (by decide) rfl rfl rfl (k_X5_setBox (f := wT w) (by omega) (by omega) (by omega) (by omega) (by omega) (by omega) (fun j hj => hW.1 j hj)) (by decide) (Nat.le_of_ble_eq_true rfl) (fun τ hp => ?_)
      refine go_goto C 142 dX1_make_99 (by decide) ?_
      refine go_vret hr dX1_make_142 ?_
      first | exact (by
        rw [doC_s]
        refine ⟨⟨fun j hj => ?_, fun j hj => by rw [updR_n (by decide)]; exact hW.2.1 j hj, fun j hj => by rw [updR_n (by decide)]; exact hW.2.2 j hj⟩, fun q a b c => updR_n a⟩
        show updR σ 2 (upd (σ 2) (cel (gN l 0) (gN l 1) (gN l 2)) (nI (gN l 3))) 2 j = nI (un (wT w) (cel (gN l 0) (gN l 1) (gN l 2)) (gN l 3) j)
        rw [updR_s]
        by_cases e : j = cel (gN l 0) (gN l 1) (gN l 2)
        · subst e; rw [pk_us, un_s]
        · rw [pk_un e, un_n e]; exact hW.1 j hj) | exact (by
        rw [doC_f]
        exact ⟨⟨fun j hj => hp.1 j hj, fun j hj => by rw [hp.2 3 (by decide)]; exact hW.2.1 j hj, fun j hj => by rw [hp.2 4 (by decide)]; exact hW.2.2 j hj⟩, fun q a b c => hp.2 q a⟩) | exact (by
        rw [doC_l]
        refine ⟨⟨fun j hj => by rw [updR_n (by decide)]; exact hW.1 j hj, ?_, ?_⟩, fun q a b c => updR_n b⟩
        · exact fun j hj => by
            show updR σ 3 (upd (σ 3) (gN l 0 * 4 + gN l 1) (nI (gN l 2))) 3 j = nI (un (wL w) (4 * gN l 0 + gN l 1) (gN l 2) j)
            rw [updR_s]
            by_cases e : j = 4 * gN l 0 + gN l 1
            · subst e; rw [Nat.mul_comm 4, pk_us, un_s]
            · rw [Nat.mul_comm (gN l 0), pk_un e, un_n e]; exact hW.2.1 j hj
        · exact fun j hj => by rw [updR_n (by decide)]; exact hW.2.2 j hj) | exact (by
        rw [doC_e]
        refine ⟨⟨fun j hj => by rw [updR_n (by decide)]; exact hW.1 j hj, ?_, ?_⟩, fun q a b c => updR_n c⟩
        · exact fun j hj => by rw [updR_n (by decide)]; exact hW.2.1 j hj
        · exact fun j hj => by
            show updR σ 4 (upd (σ 4) (gN l 0 * 4 + gN l 1) (nI (gN l 2))) 4 j = nI (un (wE w) (4 * gN l 0 + gN l 1) (gN l 2) j)
            rw [updR_s]
            by_cases e : j = 4 * gN l 0 + gN l 1
            · subst e; rw [Nat.mul_comm 4, pk_us, un_s]
            · rw [Nat.mul_comm (gN l 0), pk_un e, un_n e]; exact hW.2.2 j hj)
    · have hln : l.length = 3 := hl
      obtain ⟨a1, a2, a3⟩ : gN l 0 < 8 ∧ gN l 1 < 4 ∧ gN l 2 < 16 := hgd
      refine go_lookup C 102 101 dX1_make_1 (by decide) (sw_off (nI_int (by decide)) (by decide)) (by decide) ?_
      refine go_aload_n C dX1_make_102 rfl ?_
      refine go_getR C gf_X1_100 dX1_make_103 (by decide) rfl rfl ?_
      refine go_aload_n C dX1_make_106 rfl ?_
      refine go_iconst C (nI 0) dX1_make_107 rfl ?_
      refine go_ialdN C dX1_make_108 (Nat.lt_of_lt_of_le (Nat.add_lt_add_left hc 55) (by decide)) (hoN hc) (by decide) (by omega) ?_
      refine go_top _ (rdN hrow (by omega)) ?_
      refine go_iconst C (nI 4) dX1_make_109 rfl ?_
      refine go_imulN C dX1_make_110 ?_
      refine go_aload_n C dX1_make_111 rfl ?_
      refine go_iconst C (nI 1) dX1_make_112 rfl ?_
      refine go_ialdN C dX1_make_113 (Nat.lt_of_lt_of_le (Nat.add_lt_add_left hc 55) (by decide)) (hoN hc) (by decide) (by omega) ?_
      refine go_top _ (rdN hrow (by omega)) ?_
      refine go_iaddN C dX1_make_114 ?_
      refine go_aload_n C dX1_make_115 rfl ?_
      refine go_iconst C (nI 2) dX1_make_116 rfl ?_
      refine go_ialdN C dX1_make_117 (Nat.lt_of_lt_of_le (Nat.add_lt_add_left hc 55) (by decide)) (hoN hc) (by decide) (by omega) ?_
      refine go_top _ (rdN hrow (by omega)) ?_
      refine go_iastN C dX1_make_118 (by decide) rfl (by decide) (by omega) ?_
      refine go_goto C 142 dX1_make_119 (by decide) ?_
      refine go_vret hr dX1_make_142 ?_
      first | exact (by
        rw [doC_s]
        refine ⟨⟨fun j hj => ?_, fun j hj => by rw [updR_n (by decide)]; exact hW.2.1 j hj, fun j hj => by rw [updR_n (by decide)]; exact hW.2.2 j hj⟩, fun q a b c => updR_n a⟩
        show updR σ 2 (upd (σ 2) (cel (gN l 0) (gN l 1) (gN l 2)) (nI (gN l 3))) 2 j = nI (un (wT w) (cel (gN l 0) (gN l 1) (gN l 2)) (gN l 3) j)
        rw [updR_s]
        by_cases e : j = cel (gN l 0) (gN l 1) (gN l 2)
        · subst e; rw [pk_us, un_s]
        · rw [pk_un e, un_n e]; exact hW.1 j hj) | exact (by
        rw [doC_f]
        exact ⟨⟨fun j hj => hp.1 j hj, fun j hj => by rw [hp.2 3 (by decide)]; exact hW.2.1 j hj, fun j hj => by rw [hp.2 4 (by decide)]; exact hW.2.2 j hj⟩, fun q a b c => hp.2 q a⟩) | exact (by
        rw [doC_l]
        refine ⟨⟨fun j hj => by rw [updR_n (by decide)]; exact hW.1 j hj, ?_, ?_⟩, fun q a b c => updR_n b⟩
        · exact fun j hj => by
            show updR σ 3 (upd (σ 3) (gN l 0 * 4 + gN l 1) (nI (gN l 2))) 3 j = nI (un (wL w) (4 * gN l 0 + gN l 1) (gN l 2) j)
            rw [updR_s]
            by_cases e : j = 4 * gN l 0 + gN l 1
            · subst e; rw [Nat.mul_comm 4, pk_us, un_s]
            · rw [Nat.mul_comm (gN l 0), pk_un e, un_n e]; exact hW.2.1 j hj
        · exact fun j hj => by rw [updR_n (by decide)]; exact hW.2.2 j hj) | exact (by
        rw [doC_e]
        refine ⟨⟨fun j hj => by rw [updR_n (by decide)]; exact hW.1 j hj, ?_, ?_⟩, fun q a b c => updR_n c⟩
        · exact fun j hj => by rw [updR_n (by decide)]; exact hW.2.1 j hj
        · exact fun j hj => by
            show updR σ 4 (upd (σ 4) (gN l 0 * 4 + gN l 1) (nI (gN l 2))) 4 j = nI (un (wE w) (4 * gN l 0 + gN l 1) (gN l 2) j)
            rw [updR_s]
            by_cases e : j = 4 * gN l 0 + gN l 1
            · subst e; rw [Nat.mul_comm 4, pk_us, un_s]
            · rw [Nat.mul_comm (gN l 0), pk_un e, un_n e]; exact hW.2.2 j hj)
    · have hln : l.length = 3 := hl
      obtain ⟨a1, a2, a3⟩ : gN l 0 < 8 ∧ gN l 1 < 3 ∧ gN l 2 < 16 := hgd
      refine go_lookup C 122 121 dX1_make_1 (by decide) (sw_off (nI_int (by decide)) (by decide)) (by decide) ?_
      refine go_aload_n C dX1_make_122 rfl ?_
      refine go_getR C gf_X1_103 dX1_make_123 (by decide) rfl rfl ?_
      refine go_aload_n C dX1_make_126 rfl ?_
      refine go_iconst C (nI 0) dX1_make_127 rfl ?_
      refine go_ialdN C dX1_make_128 (Nat.lt_of_lt_of_le (Nat.add_lt_add_left hc 55) (by decide)) (hoN hc) (by decide) (by omega) ?_
      refine go_top _ (rdN hrow (by omega)) ?_
      refine go_iconst C (nI 4) dX1_make_129 rfl ?_
      refine go_imulN C dX1_make_130 ?_
      refine go_aload_n C dX1_make_131 rfl ?_
      refine go_iconst C (nI 1) dX1_make_132 rfl ?_
      refine go_ialdN C dX1_make_133 (Nat.lt_of_lt_of_le (Nat.add_lt_add_left hc 55) (by decide)) (hoN hc) (by decide) (by omega) ?_
      refine go_top _ (rdN hrow (by omega)) ?_
      refine go_iaddN C dX1_make_134 ?_
      refine go_aload_n C dX1_make_135 rfl ?_
      refine go_iconst C (nI 2) dX1_make_136 rfl ?_
      refine go_ialdN C dX1_make_137 (Nat.lt_of_lt_of_le (Nat.add_lt_add_left hc 55) (by decide)) (hoN hc) (by decide) (by omega) ?_
      refine go_top _ (rdN hrow (by omega)) ?_
      refine go_iastN C dX1_make_138 (by decide) rfl (by decide) (by omega) ?_
      refine go_goto C 142 dX1_make_139 (by decide) ?_
      refine go_vret hr dX1_make_142 ?_
      first | exact (by
        rw [doC_s]
        refine ⟨⟨fun j hj => ?_, fun j hj => by rw [updR_n (by decide)]; exact hW.2.1 j hj, fun j hj => by rw [updR_n (by decide)]; exact hW.2.2 j hj⟩, fun q a b c => updR_n a⟩
        show updR σ 2 (upd (σ 2) (cel (gN l 0) (gN l 1) (gN l 2)) (nI (gN l 3))) 2 j = nI (un (wT w) (cel (gN l 0) (gN l 1) (gN l 2)) (gN l 3) j)
        rw [updR_s]
        by_cases e : j = cel (gN l 0) (gN l 1) (gN l 2)
        · subst e; rw [pk_us, un_s]
        · rw [pk_un e, un_n e]; exact hW.1 j hj) | exact (by
        rw [doC_f]
        exact ⟨⟨fun j hj => hp.1 j hj, fun j hj => by rw [hp.2 3 (by decide)]; exact hW.2.1 j hj, fun j hj => by rw [hp.2 4 (by decide)]; exact hW.2.2 j hj⟩, fun q a b c => hp.2 q a⟩) | exact (by
        rw [doC_l]
        refine ⟨⟨fun j hj => by rw [updR_n (by decide)]; exact hW.1 j hj, ?_, ?_⟩, fun q a b c => updR_n b⟩
        · exact fun j hj => by
            show updR σ 3 (upd (σ 3) (gN l 0 * 4 + gN l 1) (nI (gN l 2))) 3 j = nI (un (wL w) (4 * gN l 0 + gN l 1) (gN l 2) j)
            rw [updR_s]
            by_cases e : j = 4 * gN l 0 + gN l 1
            · subst e; rw [Nat.mul_comm 4, pk_us, un_s]
            · rw [Nat.mul_comm (gN l 0), pk_un e, un_n e]; exact hW.2.1 j hj
        · exact fun j hj => by rw [updR_n (by decide)]; exact hW.2.2 j hj) | exact (by
        rw [doC_e]
        refine ⟨⟨fun j hj => by rw [updR_n (by decide)]; exact hW.1 j hj, ?_, ?_⟩, fun q a b c => updR_n c⟩
        · exact fun j hj => by rw [updR_n (by decide)]; exact hW.2.1 j hj
        · exact fun j hj => by
            show updR σ 4 (upd (σ 4) (gN l 0 * 4 + gN l 1) (nI (gN l 2))) 4 j = nI (un (wE w) (4 * gN l 0 + gN l 1) (gN l 2) j)
            rw [updR_s]
            by_cases e : j = 4 * gN l 0 + gN l 1
            · subst e; rw [Nat.mul_comm 4, pk_us, un_s]
            · rw [Nat.mul_comm (gN l 0), pk_un e, un_n e]; exact hW.2.2 j hj)
set_option maxHeartbeats 4000000 in
set_option maxRecDepth 100000 in
theorem k_X1_execute {σ : Mem} {w : Wd} {l : List Cmd} (hl : σ 50 6 = nI l.length) (hl10 : l.length ≤ 10) (hcm : ∀ j m, l[j]? = some m → CmdAt σ j m) (hok : ∀ m, m ∈ l → OkCmd m) (hgd : ∀ m, m ∈ l → gdC m.1 m.2.2) (hW : HasW σ 1 w) : CtV objC NC yX1_execute cX1_execute 3 3 66 [.ref 50, .ref 1] σ (fun τ => HasW τ 1 (doAll w l) ∧ FrW σ τ) := by
  refine ct_ofV rfl ?_ (Nat.le_of_ble_eq_true rfl) (fun X C hr => ?_)
  · intro v hv; simp only [List.mem_cons, List.not_mem_nil, or_false] at hv; rcases hv with rfl | rfl <;> rfl
  · have L : ∀ (n : Nat) (i : Nat) (v : Wd) (ρ : Mem), (i + n = l.length) → (HasW ρ 1 v) → (doAll v (l.drop i) = doAll w l) → (FrW σ ρ) → Go objC NC X 2 [some (.ref 50), some (.ref 1), some (.int (nI i))] [] ρ := by
      intro n
      induction n using Nat.strongRecOn with
      | _ n ih =>
        intro i v ρ hi hWv he hF
        refine go_iload_n C dX1_execute_2 rfl ?_
        refine go_aload_n C dX1_execute_3 rfl ?_
        refine go_getI C gf_X1_34 dX1_execute_4 (by decide) rfl rfl ?_
        refine go_top (nI l.length) (by rw [hF 50 (by decide) (by decide) (by decide)]; exact hl) ?_
        refine go_icmp_geN C 32 dX1_execute_7 (by decide) (by omega) (by omega) (fun h7 => ?_) (fun h7 => ?_)
        · obtain rfl : i = l.length := by omega
          refine go_vret hr dX1_execute_32 ?_
          exact ⟨by rw [← he, List.drop_length]; exact hWv, hF⟩
        · obtain ⟨m, hm⟩ := at_some h7
          have hml := List.mem_of_getElem? hm
          have hk1 := hok m hml
          have hk2 := OkCmd_k hk1.1
          have hc : i < 10 := by omega
          have hd := drop_c hm
          have hc1 : CmdAt ρ i m := (hcm i m hm).of (by rw [hF 52 (by decide) (by decide) (by decide)]) (by rw [hF 53 (by decide) (by decide) (by decide)]) (hF _ (by omega) (by omega) (by omega))
          refine go_aload_n C dX1_execute_10 rfl ?_
          refine go_getR C gf_X1_22 dX1_execute_11 (by decide) rfl rfl ?_
          refine go_iload_n C dX1_execute_14 rfl ?_
          refine go_caldN C dX1_execute_15 (by decide) rfl (by decide) (by omega) ?_
          refine go_top _ hc1.1 ?_
          refine go_aload_n C dX1_execute_16 rfl ?_
          refine go_getR C gf_X1_31 dX1_execute_17 (by decide) rfl rfl ?_
          refine go_iload_n C dX1_execute_20 rfl ?_
          refine go_aald C dX1_execute_21 (by decide) rfl (Or.inl rfl) (by decide) (jsN hc) ?_
          refine go_aload_n C dX1_execute_22 rfl ?_
          refine go_S3V C ok_X1_make lk_X1_83 dX1_execute_23 (k_X1_make (s := m.2.1) hk1.1 hk1.2.2.1 hk1.2.2.2 hc1.2.2 hc (hgd m hml) hWv) (by decide) (Nat.le_of_ble_eq_true rfl) (fun τ hp => ?_)
          refine go_iincN C 1 dX1_execute_26 rfl rfl (by decide) rfl rfl ?_
          refine go_goto C 2 dX1_execute_29 (by decide) ?_
          exact ih (n - 1) (by omega) (i + 1) (doC v m) τ (by omega) hp.1 (by rw [← he, hd]; rfl) (fun q a b c => (hp.2 q a b c).trans (hF q a b c))
    refine go_iconst C (nI 0) dX1_execute_0 rfl ?_
    refine go_istore_n C dX1_execute_1 (by decide) rfl rfl ?_
    exact L l.length 0 w σ (by omega) hW rfl (fun _ _ _ _ => rfl)
theorem oRd_no {S : St} {q : Nat} (h : pAll (sX S) 10 0 = (none, q)) : oRd S = (-2, stX S [] (nI q)) := by unfold oRd; rw [h]
theorem oRd_re {S : St} {q s : Nat} {l : List Cmd} (h : pAll (sX S) 10 0 = (some l, q)) (h2 : frst l = some s) : oRd S = (-2, stX S [] (nI s)) := by unfold oRd; rw [h]; show (match frst l with | some s => _ | none => _) = _; rw [h2]
theorem oRd_ok {S : St} {q : Nat} {l : List Cmd} (h : pAll (sX S) 10 0 = (some l, q)) (h2 : frst l = none) : oRd S = (nI l.length, chg (stX S [] (-4)) (doAll (sW S) l)) := by unfold oRd; rw [h]; show (match frst l with | some s => _ | none => _) = _; rw [h2]
theorem tx0 {τ : Mem} (h : τ 50 1 = nI 0) : TxtC τ [] := ⟨h, fun i ch q => by cases q⟩
set_option maxHeartbeats 4000000 in
set_option maxRecDepth 100000 in
theorem k_X6_read {σ : Mem} {S : St} (hR : RepC σ S)  : CtI objC NC yX6_read cX6_read 2 .int 5 117 [.ref 0] σ (RQ (oRead S).1 (oRead S).2) := by
  obtain ⟨hS, hW, hL, hEf, hB, hH, hSv, hX, hFt⟩ := id hR
  have hO := hS.1
  have hOL := hS.2.1
  refine ct_ofI rfl ?_ (Nat.le_of_ble_eq_true rfl) (fun X C hr => ?_)
  · intro v hv; simp only [List.mem_cons, List.not_mem_nil, or_false] at hv; rcases hv with rfl <;> rfl
  · cases hb : sB S with
    | none =>
      rw [hb] at hB
      refine go_aload_n C dX6_read_0 rfl ?_
      refine go_getR C gf_X6_46 dX6_read_1 (by decide) rfl rfl ?_
      refine go_getI C gf_X6_88 dX6_read_4 (by decide) rfl rfl ?_
      refine go_top _ hB.1 ?_
      refine go_if_eqN C 13 dX6_read_7 (by decide) (by omega) (fun h7 => ?_) (fun h7 => ?_)
      · refine go_aload_n C dX6_read_13 rfl ?_
        refine go_getR C gf_X6_67 dX6_read_14 (by decide) rfl rfl ?_
        refine go_V0I C ok_X1_parse lk_X6_138 dX6_read_17 (by decide) rfl rfl rfl (k_X1_parse hX hS.2.2.2.2.2.1 hS.2.2.2.2.2.2) (by decide) (Nat.le_of_ble_eq_true rfl) (fun r σ1 hp1 => ?_)
        obtain ⟨hF1, hc1⟩ := hp1
        refine go_istore_n C dX6_read_20 (by decide) rfl rfl ?_
        refine go_iload_n C dX6_read_21 rfl ?_
        refine go_bipush C (-4) dX6_read_22 rfl ?_
        refine go_icmp_ne C 35 dX6_read_24 (by decide) (fun h24 => ?_) (fun h24 => ?_)
        · obtain ⟨ha, hb2⟩ : (pAll (sX S) 10 0).1 = none ∧ r = nI (pAll (sX S) 10 0).2 := by
            rcases hc1 with h | ⟨l, ha, hb2, hz⟩
            · exact h
            · exact absurd hb2 h24
          have hrd := oRd_no (show pAll (sX S) 10 0 = (none, (pAll (sX S) 10 0).2) from Prod.ext ha rfl)
          have he : oRead S = oRd S := by unfold oRead nB; rw [hb]
          refine go_aload_n C dX6_read_35 rfl ?_
          refine go_getR C gf_X6_67 dX6_read_36 (by decide) rfl rfl ?_
          refine go_iconst C (nI 0) dX6_read_39 rfl ?_
          refine go_putI C gf_X6_144 dX6_read_40 (by decide) rfl rfl rfl rfl rfl ?_
          refine go_aload_n C dX6_read_43 rfl ?_
          refine go_iload_n C dX6_read_44 rfl ?_
          refine go_putI C gf_X6_71 dX6_read_45 (by decide) rfl rfl rfl rfl rfl ?_
          refine go_gen (fun ρ1 hρ => ?_)
          have hf : ∀ q, q < 50 → q ≠ 0 → ρ1 q = σ q := fun q a b => by rw [hρ, updR_n b, updR_n (by omega)]; exact hF1.1 q a
          have h0 : ∀ i, i ≠ 12 → ρ1 0 i = σ 0 i := fun i hi => by rw [hρ, updR_s, pk_un hi, updR_n (by decide), hF1.1 0 (by decide)]
          have h50 : ∀ i, i ≠ 1 → ρ1 50 i = σ1 50 i := fun i hi => by rw [hρ, updR_n (by decide), updR_s, pk_un hi]
          have hX1 : TxtC ρ1 [] := tx0 (by rw [hρ, updR_n (by decide), updR_s, pk_us])
          have hq : ∀ q, q ≠ 0 → q ≠ 50 → ρ1 q = σ1 q := fun q a b => by rw [hρ, updR_n a, updR_n b]
          refine go_iload_n C dX6_read_48 rfl ?_
          refine go_bipush C (-4) dX6_read_49 rfl ?_
          refine go_icmp_eq C 57 dX6_read_51 (by decide) (fun h51 => ?_) (fun h51 => ?_)
          · exact absurd h51 h24
          · refine go_bipush C (-2) dX6_read_54 rfl ?_
            refine go_iret hr dX6_read_56 rfl ?_
            rw [he, hrd]
            exact ⟨rfl, hR.tx ⟨Nat.zero_le _, fun ch h => by cases h⟩ hX1 hf h0 (by rw [hρ, updR_s, pk_us]; exact hb2)⟩
        · obtain ⟨l, ha, hb2, hl6, hcm⟩ : ∃ l, (pAll (sX S) 10 0).1 = some l ∧ r = -4 ∧ σ1 50 6 = nI l.length ∧ ∀ j m, l[j]? = some m → CmdAt σ1 j m := by
            rcases hc1 with ⟨ha, hb2⟩ | h
            · exact absurd (hb2.symm.trans h24) (nI_nm4 (by have := (pAll_ok hS.2.2.2.2.2.1 10 0 (Nat.zero_le _)).1; have h60 := hS.2.2.2.2.2.1; omega))
            · exact h
          have ep : pAll (sX S) 10 0 = (some l, (pAll (sX S) 10 0).2) := Prod.ext ha rfl
          obtain ⟨hl10, hok⟩ := (pAll_ok hS.2.2.2.2.2.1 10 0 (Nat.zero_le _)).2 l ha
          have he : oRead S = oRd S := by unfold oRead nB; rw [hb]
          refine go_aload_n C dX6_read_27 rfl ?_
          refine go_getR C gf_X6_67 dX6_read_28 (by decide) rfl rfl ?_
          refine go_V0P C ok_X1_firstRefused lk_X6_141 dX6_read_31 (by decide) rfl rfl rfl (k_X1_firstRefused hl6 hl10 hcm hok) (by decide) (Nat.le_of_ble_eq_true rfl) ?_
          refine go_istore_n C dX6_read_34 (by decide) rfl rfl ?_
          refine go_aload_n C dX6_read_35 rfl ?_
          refine go_getR C gf_X6_67 dX6_read_36 (by decide) rfl rfl ?_
          refine go_iconst C (nI 0) dX6_read_39 rfl ?_
          refine go_putI C gf_X6_144 dX6_read_40 (by decide) rfl rfl rfl rfl rfl ?_
          refine go_aload_n C dX6_read_43 rfl ?_
          refine go_iload_n C dX6_read_44 rfl ?_
          refine go_putI C gf_X6_71 dX6_read_45 (by decide) rfl rfl rfl rfl rfl ?_
          refine go_gen (fun ρ1 hρ => ?_)
          have hf : ∀ q, q < 50 → q ≠ 0 → ρ1 q = σ q := fun q a b => by rw [hρ, updR_n b, updR_n (by omega)]; exact hF1.1 q a
          have h0 : ∀ i, i ≠ 12 → ρ1 0 i = σ 0 i := fun i hi => by rw [hρ, updR_s, pk_un hi, updR_n (by decide), hF1.1 0 (by decide)]
          have h50 : ∀ i, i ≠ 1 → ρ1 50 i = σ1 50 i := fun i hi => by rw [hρ, updR_n (by decide), updR_s, pk_un hi]
          have hX1 : TxtC ρ1 [] := tx0 (by rw [hρ, updR_n (by decide), updR_s, pk_us])
          have hq : ∀ q, q ≠ 0 → q ≠ 50 → ρ1 q = σ1 q := fun q a b => by rw [hρ, updR_n a, updR_n b]
          refine go_iload_n C dX6_read_48 rfl ?_
          refine go_bipush C (-4) dX6_read_49 rfl ?_
          refine go_icmp_eq C 57 dX6_read_51 (by decide) (fun h51 => ?_) (fun h51 => ?_)
          · have hno := frI_no hok h51
            have hgd := frst_no l hno
            have hR1 : RepC ρ1 (stX S [] (-4)) := hR.tx ⟨Nat.zero_le _, fun ch h => by cases h⟩ hX1 hf h0 (by rw [hρ, updR_s, pk_us]; exact h51)
            obtain ⟨hS1, hW1, hL1, hEf1, hB1, hH1, hSv1, hX1b, hFt1⟩ := id hR1
            have hcm1 : ∀ j m, l[j]? = some m → CmdAt ρ1 j m := fun j m h => (hcm j m h).of (by rw [hq 52 (by decide) (by decide)]) (by rw [hq 53 (by decide) (by decide)]) (hq _ (by omega) (by omega))
            refine go_aload_n C dX6_read_57 rfl ?_
            refine go_getR C gf_X6_53 dX6_read_58 (by decide) rfl rfl ?_
            refine go_aload_n C dX6_read_61 rfl ?_
            refine go_getR C gf_X6_12 dX6_read_62 (by decide) rfl rfl ?_
            refine go_V1V C ok_X3_push lk_X6_95 dX6_read_65 (by decide) rfl rfl rfl (k_X3_push hH1 hS1.2.2.2.1.1 hW1) (by decide) (Nat.le_of_ble_eq_true rfl) (fun σ2 hp2 => ?_)
            refine go_aload_n C dX6_read_68 rfl ?_
            refine go_getR C gf_X6_67 dX6_read_69 (by decide) rfl rfl ?_
            refine go_aload_n C dX6_read_72 rfl ?_
            refine go_getR C gf_X6_12 dX6_read_73 (by decide) rfl rfl ?_
            refine go_V1V C ok_X1_execute lk_X6_147 dX6_read_76 (by decide) rfl rfl rfl (k_X1_execute (w := sW S) (by rw [hp2.2 50 (by decide), h50 6 (by decide)]; exact hl6) hl10 (fun j m h => (hcm1 j m h).of (by rw [hp2.2 52 (by decide)]) (by rw [hp2.2 53 (by decide)]) (hp2.2 _ (by omega))) hok hgd (hW1.of (hp2.2 2 (by decide)) (hp2.2 3 (by decide)) (hp2.2 4 (by decide)))) (by decide) (Nat.le_of_ble_eq_true rfl) (fun σ3 hp3 => ?_)
            have hOv : OkW (doAll (sW S) l) := doAll_ok l hO hgd
            have hF : ∀ q, q ≠ 2 → q ≠ 3 → q ≠ 4 → q ≠ 17 → q ≠ 18 → q ≠ 19 → (q < 20 ∨ 46 ≤ q) → σ3 q = ρ1 q := fun q a b c _ _ _ d => by rw [hp3.2 q a b c]; exact hp2.2 q d
            refine go_aload_n C dX6_read_79 rfl ?_
            refine go_V0I C ok_X6_relight lk_X6_102 dX6_read_80 (by decide) rfl rfl rfl (k_X6_relight (L := lit (sW S)) hOv hp3.1 (fun c hc j hj => by rw [hF _ (by omega) (by omega) (by omega) (by omega) (by omega) (by omega) (by omega)]; exact hL1 c hc j hj) (lit_b hOL)) (by decide) (Nat.le_of_ble_eq_true rfl) (fun r2 τ hp => ?_)
            refine go_pop C dX6_read_83 rfl ?_
            refine go_aload_n C dX6_read_84 rfl ?_
            refine go_getR C gf_X6_67 dX6_read_85 (by decide) rfl rfl ?_
            refine go_getI C gf_X6_150 dX6_read_88 (by decide) rfl rfl ?_
            refine go_top (nI l.length) (by rw [hp.2.2.2.2.1 50 (by decide) (by decide), hF 50 (by decide) (by decide) (by decide) (by decide) (by decide) (by decide) (by decide), h50 6 (by decide)]; exact hl6) ?_
            refine go_iret hr dX6_read_91 rfl ?_
            rw [he, oRd_ok ep hno]
            have hHs : HisC σ3 ((sW S :: sH S).take 6) := hp2.1.of (fun q a b => hp3.2 q (by omega) (by omega) (by omega))
            have hk := chg_ok (v := doAll (sW S) l) hS1 hOv hp.2.1; have hF3 : ∀ q, q ≠ 2 → q ≠ 3 → q ≠ 4 → q < 20 → σ3 q = ρ1 q := fun q a b c d => by rw [hp3.2 q a b c]; exact hp2.2 q (Or.inl d)
            exact ⟨rfl, (chg_rep2 (S := stX S [] (-4)) hR1 hHs hk.2.2.2.1 hF hOv hp3.1 (BatC.of (σ := σ) (b := none) hB ((hF3 17 (by decide) (by decide) (by decide) (by decide)).trans (hf 17 (by decide) (by decide))) ((hF3 18 (by decide) (by decide) (by decide) (by decide)).trans (hf 18 (by decide) (by decide))) ((hF3 19 (by decide) (by decide) (by decide) (by decide)).trans (hf 19 (by decide) (by decide)))) hp).2⟩
          · refine go_bipush C (-2) dX6_read_54 rfl ?_
            refine go_iret hr dX6_read_56 rfl ?_
            obtain ⟨s, hs⟩ := frI_some h51
            rw [he, oRd_re ep hs]
            exact ⟨rfl, hR.tx ⟨Nat.zero_le _, fun ch h => by cases h⟩ hX1 hf h0 (by rw [hρ, updR_s, pk_us, hs]; rfl)⟩
      · exact absurd h7 (by omega)
    | some es =>
      rw [hb] at hB
      refine go_aload_n C dX6_read_0 rfl ?_
      refine go_getR C gf_X6_46 dX6_read_1 (by decide) rfl rfl ?_
      refine go_getI C gf_X6_88 dX6_read_4 (by decide) rfl rfl ?_
      refine go_top _ hB.1 ?_
      refine go_if_eqN C 13 dX6_read_7 (by decide) (by omega) (fun h7 => ?_) (fun h7 => ?_)
      · exact absurd h7 (by omega)
      · refine go_bipush C (-5) dX6_read_10 rfl ?_
        refine go_iret hr dX6_read_12 rfl ?_
        exact ⟨by unfold oRead nB; rw [hb], by unfold oRead nB; rw [hb]; exact hR⟩
