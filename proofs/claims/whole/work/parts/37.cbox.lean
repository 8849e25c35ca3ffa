set_option maxHeartbeats 4000000 in
set_option maxRecDepth 100000 in
theorem k_X0_makeEdits {σ : Mem} {es : List (Nat × Nat)} {f : Nat → Nat} (hB : BatC σ (some es)) (hB1 : es.length ≤ 40) (hB2 : ∀ p, p ∈ es → p.1 < 1152 ∧ p.2 < 8) (hf : ∀ j, j < 1152 → σ 2 j = nI (f j)) : CtV objC NC yX0_makeEdits cX0_makeEdits 3 0 0 [.ref 17, .ref 1] σ (fun τ => (∀ j, j < 1152 → τ 2 j = nI (edT es f j)) ∧ ∀ q, q ≠ 2 → τ q = σ q) := by
  obtain ⟨hop, hsz, hes⟩ := hB
  refine ct_ofV rfl ?_ (Nat.le_of_ble_eq_true rfl) (fun X C hr => ?_)
  · intro v hv; simp only [List.mem_cons, List.not_mem_nil, or_false] at hv; rcases hv with rfl | rfl <;> rfl
  · have L : ∀ (n : Nat) (i : Nat) (g : Nat → Nat) (ρ : Mem), (i + n = es.length) → (∀ j, j < 1152 → ρ 2 j = nI (g j)) → (edT (es.drop i) g = edT es f) → (∀ q, q ≠ 2 → ρ q = σ q) → Go objC NC X 2 [some (.ref 17), some (.ref 1), some (.int (nI i))] [] ρ := by
      intro n
      induction n using Nat.strongRecOn with
      | _ n ih =>
        intro i g ρ hi hg he hF
        refine go_iload_n C dX0_makeEdits_2 rfl ?_
        refine go_aload_n C dX0_makeEdits_3 rfl ?_
        refine go_getI C gf_X0_18 dX0_makeEdits_4 (by decide) rfl rfl ?_
        refine go_top _ (show _ = nI es.length by rw [hF 17 (by decide)]; exact hsz) ?_
        refine go_icmp_geN C 33 dX0_makeEdits_7 (by decide) (by omega) (by omega) (fun h7 => ?_) (fun h7 => ?_)
        · obtain rfl : i = es.length := by omega
          refine go_vret hr dX0_makeEdits_33 ?_
          exact ⟨fun j hj => by rw [← he, List.drop_length]; exact hg j hj, hF⟩
        · obtain ⟨p, hp⟩ : ∃ p, es[i]? = some p := ⟨es[i], List.getElem?_eq_getElem h7⟩
          have hpb := hB2 p (List.mem_of_getElem? hp)
          refine go_aload_n C dX0_makeEdits_10 rfl ?_
          refine go_getR C gf_X0_26 dX0_makeEdits_11 (by decide) rfl rfl ?_
          refine go_aload_n C dX0_makeEdits_14 rfl ?_
          refine go_getR C gf_X0_9 dX0_makeEdits_15 (by decide) rfl rfl ?_
          refine go_iload_n C dX0_makeEdits_18 rfl ?_
          refine go_ialdN C dX0_makeEdits_19 (by decide) rfl (by decide) (by omega) ?_
          refine go_top _ (show _ = nI p.1 by rw [hF 18 (by decide)]; exact (hes i p hp).1) ?_
          refine go_aload_n C dX0_makeEdits_20 rfl ?_
          refine go_getR C gf_X0_15 dX0_makeEdits_21 (by decide) rfl rfl ?_
          refine go_iload_n C dX0_makeEdits_24 rfl ?_
          refine go_ialdN C dX0_makeEdits_25 (by decide) rfl (by decide) (by omega) ?_
          refine go_top _ (show _ = nI p.2 by rw [hF 19 (by decide)]; exact (hes i p hp).2) ?_
          refine go_iastN C dX0_makeEdits_26 (by decide) rfl (by decide) (by omega) ?_
          refine go_iincN C 1 dX0_makeEdits_27 rfl rfl (by decide) rfl rfl ?_
          refine go_goto C 2 dX0_makeEdits_30 (by decide) ?_
          exact ih (n - 1) (by omega) (i + 1) (un g p.1 p.2) _ (by omega) (fun j hj => by
            rw [updR_s]
            by_cases e : j = p.1
            · subst e; rw [pk_us, un_s]
            · rw [pk_un e, un_n e]; exact hg j hj) (by
            rw [← he]
            have hd : es.drop i = p :: es.drop (i + 1) := by rw [List.drop_eq_getElem_cons h7, (List.getElem?_eq_some_iff.mp hp).2]
            rw [hd]; rfl) (fun q hq => (updR_n hq).trans (hF q hq))
    refine go_iconst C (nI 0) dX0_makeEdits_0 rfl ?_
    refine go_istore_n C dX0_makeEdits_1 (by decide) rfl rfl ?_
    exact L es.length 0 f σ (by omega) hf rfl (fun _ _ => rfl)
set_option maxHeartbeats 4000000 in
set_option maxRecDepth 100000 in
theorem k_X0_leave {σ : Mem} : CtV objC NC yX0_leave cX0_leave 1 0 0 [.ref 17] σ (fun τ => BatC τ none ∧ ∀ q, q ≠ 17 → τ q = σ q) := by
  refine ct_ofV rfl ?_ (Nat.le_of_ble_eq_true rfl) (fun X C hr => ?_)
  · intro v hv; simp only [List.mem_cons, List.not_mem_nil, or_false] at hv; rcases hv with rfl <;> rfl
  · refine go_aload_n C dX0_leave_0 rfl ?_
    refine go_iconst C (nI 0) dX0_leave_1 rfl ?_
    refine go_putI C gf_X0_18 dX0_leave_2 (by decide) rfl rfl rfl rfl rfl ?_
    refine go_aload_n C dX0_leave_5 rfl ?_
    refine go_iconst C (nI 0) dX0_leave_6 rfl ?_
    refine go_putI C gf_X0_22 dX0_leave_7 (by decide) rfl rfl rfl rfl rfl ?_
    refine go_vret hr dX0_leave_10 ?_
    exact ⟨⟨by rw [updR_s]; exact pk_us, by rw [updR_s, pk_un (by decide), updR_s]; exact pk_us⟩, fun q hq => by rw [updR_n hq, updR_n hq]⟩
theorem box_iff {a b c a2 b2 c2 j : Nat} (hj : j < 1152) (h1 : a2 < 12) (h2 : b2 < 8) (ha : a ≤ a2) (hb : b ≤ b2) : (cel a b c ≤ j ∧ j < cel a2 b2 c2 + 1 ∧ a ≤ cX j ∧ cX j ≤ a2 ∧ b ≤ cY j ∧ cY j ≤ b2) ↔ (a ≤ cX j ∧ cX j ≤ a2 ∧ b ≤ cY j ∧ cY j ≤ b2 ∧ c ≤ cZ j ∧ cZ j ≤ c2) := by
  have e := cel_c hj
  have y := cY_lt j
  have x := cX_lt j
  unfold cel at *
  omega
set_option maxHeartbeats 4000000 in
set_option maxRecDepth 100000 in
theorem k_X5_setBox {σ : Mem} {f : Nat → Nat} {a b c a2 b2 c2 t : Nat} (ha2 : a2 < 12) (hb2 : b2 < 8) (hc2 : c2 < 12) (haa : a ≤ a2) (hbb : b ≤ b2) (hcc : c ≤ c2) (hf : ∀ j, j < 1152 → σ 2 j = nI (f j)) : CtV objC NC yX5_setBox cX5_setBox 5 1 20 [.ref 1, .int (nI (cel a b c)), .int (nI (cel a2 b2 c2)), .int (nI t)] σ (fun τ => (∀ j, j < 1152 → τ 2 j = nI (bxT f a b c a2 b2 c2 t j)) ∧ ∀ q, q ≠ 2 → τ q = σ q) := by
  have hk1 : cel a b c < 1152 := cel_lt (by omega) (by omega) (by omega)
  have hk2 : cel a2 b2 c2 < 1152 := cel_lt ha2 hb2 hc2
  have hle : cel a b c ≤ cel a2 b2 c2 := by unfold cel; omega
  refine ct_ofV rfl ?_ (Nat.le_of_ble_eq_true rfl) (fun X C hr => ?_)
  · intro v hv; simp only [List.mem_cons, List.not_mem_nil, or_false] at hv; rcases hv with rfl | rfl | rfl | rfl <;> rfl
  · have L : ∀ (n : Nat) (i : Nat) (ρ : Mem), (i + n = cel a2 b2 c2 + 1 ∧ cel a b c ≤ i) → (∀ j, j < 1152 → ρ 2 j = nI (if cel a b c ≤ j ∧ j < i ∧ a ≤ cX j ∧ cX j ≤ a2 ∧ b ≤ cY j ∧ cY j ≤ b2 then t else f j)) → (∀ q, q ≠ 2 → ρ q = σ q) → Go objC NC X 3 [some (.ref 1), some (.int (nI (cel a b c))), some (.int (nI (cel a2 b2 c2))), some (.int (nI t)), some (.int (nI i))] [] ρ := by
      intro n
      induction n using Nat.strongRecOn with
      | _ n ih =>
        intro i ρ hi hg hF
        refine go_iload C dX5_setBox_3 rfl ?_
        refine go_iload_n C dX5_setBox_5 rfl ?_
        refine go_icmp_gtN C 71 dX5_setBox_6 (by decide) (by omega) (by omega) (fun h6 => ?_) (fun h6 => ?_)
        · obtain rfl : i = cel a2 b2 c2 + 1 := by omega
          refine go_vret hr dX5_setBox_71 ?_
          exact ⟨fun j hj => by
            rw [hg j hj]
            refine congrArg nI ?_
            unfold bxT
            have hb := box_iff (c := c) (c2 := c2) hj ha2 hb2 haa hbb
            by_cases z : cel a b c ≤ j ∧ j < cel a2 b2 c2 + 1 ∧ a ≤ cX j ∧ cX j ≤ a2 ∧ b ≤ cY j ∧ cY j ≤ b2
            · rw [if_pos z, if_pos (hb.mp z)]
            · rw [if_neg z, if_neg (fun y => z (hb.mpr y))], hF⟩
        · have hi2 : i < 1152 := by omega
          have bx := cX_lt i
          have by1 := cY_lt i
          refine go_iload C dX5_setBox_9 rfl ?_
          refine go_S1P C ok_X2_x lk_X5_27 dX5_setBox_11 (k_X2_x hi2) (by decide) (Nat.le_of_ble_eq_true rfl) ?_
          refine go_iload_n C dX5_setBox_14 rfl ?_
          refine go_S1P C ok_X2_x lk_X5_27 dX5_setBox_15 (k_X2_x hk1) (by decide) (Nat.le_of_ble_eq_true rfl) ?_
          rw [cX_cel (by omega) (by omega)]
          refine go_icmp_ltN C 65 dX5_setBox_18 (by decide) (by omega) (by omega) (fun h18 => ?_) (fun h18 => ?_)
          · have hno : ¬ (a ≤ cX i ∧ cX i ≤ a2 ∧ b ≤ cY i ∧ cY i ≤ b2) := fun z => by omega
            refine go_iincN C 1 dX5_setBox_65 rfl rfl (by decide) rfl rfl ?_
            refine go_goto C 3 dX5_setBox_68 (by decide) ?_
            exact ih (n - 1) (by omega) (i + 1) ρ (by omega) (fun j hj => by
              rw [hg j hj]
              refine congrArg nI ?_
              by_cases e : j = i
              · subst e; rw [if_neg (fun z => hno z.2.2), if_neg (fun z => hno z.2.2)]
              · by_cases z : cel a b c ≤ j ∧ j < i ∧ a ≤ cX j ∧ cX j ≤ a2 ∧ b ≤ cY j ∧ cY j ≤ b2
                · rw [if_pos z, if_pos ⟨z.1, by omega, z.2.2⟩]
                · rw [if_neg z, if_neg (fun y => z ⟨y.1, by omega, y.2.2⟩)]) hF
          · refine go_iload C dX5_setBox_21 rfl ?_
            refine go_S1P C ok_X2_x lk_X5_27 dX5_setBox_23 (k_X2_x hi2) (by decide) (Nat.le_of_ble_eq_true rfl) ?_
            refine go_iload_n C dX5_setBox_26 rfl ?_
            refine go_S1P C ok_X2_x lk_X5_27 dX5_setBox_27 (k_X2_x hk2) (by decide) (Nat.le_of_ble_eq_true rfl) ?_
            rw [cX_cel (by omega) (by omega)]
            refine go_icmp_gtN C 65 dX5_setBox_30 (by decide) (by omega) (by omega) (fun h30 => ?_) (fun h30 => ?_)
            · have hno : ¬ (a ≤ cX i ∧ cX i ≤ a2 ∧ b ≤ cY i ∧ cY i ≤ b2) := fun z => by omega
              refine go_iincN C 1 dX5_setBox_65 rfl rfl (by decide) rfl rfl ?_
              refine go_goto C 3 dX5_setBox_68 (by decide) ?_
              exact ih (n - 1) (by omega) (i + 1) ρ (by omega) (fun j hj => by
                rw [hg j hj]
                refine congrArg nI ?_
                by_cases e : j = i
                · subst e; rw [if_neg (fun z => hno z.2.2), if_neg (fun z => hno z.2.2)]
                · by_cases z : cel a b c ≤ j ∧ j < i ∧ a ≤ cX j ∧ cX j ≤ a2 ∧ b ≤ cY j ∧ cY j ≤ b2
                  · rw [if_pos z, if_pos ⟨z.1, by omega, z.2.2⟩]
                  · rw [if_neg z, if_neg (fun y => z ⟨y.1, by omega, y.2.2⟩)]) hF
            · refine go_iload C dX5_setBox_33 rfl ?_
              refine go_S1P C ok_X2_y lk_X5_33 dX5_setBox_35 (k_X2_y hi2) (by decide) (Nat.le_of_ble_eq_true rfl) ?_
              refine go_iload_n C dX5_setBox_38 rfl ?_
              refine go_S1P C ok_X2_y lk_X5_33 dX5_setBox_39 (k_X2_y hk1) (by decide) (Nat.le_of_ble_eq_true rfl) ?_
              rw [cY_cel (by omega) (by omega)]
              refine go_icmp_ltN C 65 dX5_setBox_42 (by decide) (by omega) (by omega) (fun h42 => ?_) (fun h42 => ?_)
              · have hno : ¬ (a ≤ cX i ∧ cX i ≤ a2 ∧ b ≤ cY i ∧ cY i ≤ b2) := fun z => by omega
                refine go_iincN C 1 dX5_setBox_65 rfl rfl (by decide) rfl rfl ?_
                refine go_goto C 3 dX5_setBox_68 (by decide) ?_
                exact ih (n - 1) (by omega) (i + 1) ρ (by omega) (fun j hj => by
                  rw [hg j hj]
                  refine congrArg nI ?_
                  by_cases e : j = i
                  · subst e; rw [if_neg (fun z => hno z.2.2), if_neg (fun z => hno z.2.2)]
                  · by_cases z : cel a b c ≤ j ∧ j < i ∧ a ≤ cX j ∧ cX j ≤ a2 ∧ b ≤ cY j ∧ cY j ≤ b2
                    · rw [if_pos z, if_pos ⟨z.1, by omega, z.2.2⟩]
                    · rw [if_neg z, if_neg (fun y => z ⟨y.1, by omega, y.2.2⟩)]) hF
              · refine go_iload C dX5_setBox_45 rfl ?_
                refine go_S1P C ok_X2_y lk_X5_33 dX5_setBox_47 (k_X2_y hi2) (by decide) (Nat.le_of_ble_eq_true rfl) ?_
                refine go_iload_n C dX5_setBox_50 rfl ?_
                refine go_S1P C ok_X2_y lk_X5_33 dX5_setBox_51 (k_X2_y hk2) (by decide) (Nat.le_of_ble_eq_true rfl) ?_
                rw [cY_cel (by omega) (by omega)]
                refine go_icmp_gtN C 65 dX5_setBox_54 (by decide) (by omega) (by omega) (fun h54 => ?_) (fun h54 => ?_)
                · have hno : ¬ (a ≤ cX i ∧ cX i ≤ a2 ∧ b ≤ cY i ∧ cY i ≤ b2) := fun z => by omega
                  refine go_iincN C 1 dX5_setBox_65 rfl rfl (by decide) rfl rfl ?_
                  refine go_goto C 3 dX5_setBox_68 (by decide) ?_
                  exact ih (n - 1) (by omega) (i + 1) ρ (by omega) (fun j hj => by
                    rw [hg j hj]
                    refine congrArg nI ?_
                    by_cases e : j = i
                    · subst e; rw [if_neg (fun z => hno z.2.2), if_neg (fun z => hno z.2.2)]
                    · by_cases z : cel a b c ≤ j ∧ j < i ∧ a ≤ cX j ∧ cX j ≤ a2 ∧ b ≤ cY j ∧ cY j ≤ b2
                      · rw [if_pos z, if_pos ⟨z.1, by omega, z.2.2⟩]
                      · rw [if_neg z, if_neg (fun y => z ⟨y.1, by omega, y.2.2⟩)]) hF
                · refine go_aload_n C dX5_setBox_57 rfl ?_
                  refine go_getR C gf_X5_9 dX5_setBox_58 (by decide) rfl rfl ?_
                  refine go_iload C dX5_setBox_61 rfl ?_
                  refine go_iload_n C dX5_setBox_63 rfl ?_
                  refine go_iastN C dX5_setBox_64 (by decide) rfl (by decide) (by omega) ?_
                  refine go_iincN C 1 dX5_setBox_65 rfl rfl (by decide) rfl rfl ?_
                  refine go_goto C 3 dX5_setBox_68 (by decide) ?_
                  exact ih (n - 1) (by omega) (i + 1) _ (by omega) (fun j hj => by
                    rw [updR_s]
                    by_cases e : j = i
                    · subst e; rw [pk_us, if_pos ⟨hi.2, by omega, by omega, by omega, by omega, by omega⟩]
                    · rw [pk_un e, hg j hj]
                      refine congrArg nI ?_
                      by_cases z : cel a b c ≤ j ∧ j < i ∧ a ≤ cX j ∧ cX j ≤ a2 ∧ b ≤ cY j ∧ cY j ≤ b2
                      · rw [if_pos z, if_pos ⟨z.1, by omega, z.2.2⟩]
                      · rw [if_neg z, if_neg (fun y => z ⟨y.1, by omega, y.2.2⟩)]) (fun q hq => (updR_n hq).trans (hF q hq))
    refine go_iload_n C dX5_setBox_0 rfl ?_
    refine go_istore C dX5_setBox_1 (by decide) rfl rfl ?_
    exact L (cel a2 b2 c2 + 1 - cel a b c) (cel a b c) σ (by omega) (fun j hj => by rw [hf j hj, if_neg (fun z => by omega)]) (fun _ _ => rfl)
