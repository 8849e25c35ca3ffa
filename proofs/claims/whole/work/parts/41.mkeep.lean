def mV (w : Wd) (j : Nat) : Nat := if j < 1152 then wT w j else if j < 1184 then wL w (j - 1152) else wE w (j - 1184)
theorem hasM_iff {τ : Mem} {k o : Nat} {w : Wd} : HasM τ k o w ↔ ∀ j, j < 1216 → τ k (o + j) = nI (mV w j) := by
  constructor
  · intro h j hj
    unfold mV
    by_cases h1 : j < 1152
    · rw [if_pos h1]; exact h.1 j h1
    · rw [if_neg h1]
      by_cases h2 : j < 1184
      · rw [if_pos h2]
        have := h.2.1 (j - 1152) (by omega)
        rw [show o + j = o + (1152 + (j - 1152)) by omega]; exact this
      · rw [if_neg h2]
        have := h.2.2 (j - 1184) (by omega)
        rw [show o + j = o + (1184 + (j - 1184)) by omega]; exact this
  · intro h
    refine ⟨fun j hj => ?_, fun j hj => ?_, fun j hj => ?_⟩
    · rw [h j (by omega)]; unfold mV; rw [if_pos hj]
    · rw [h (1152 + j) (by omega)]; unfold mV; rw [if_neg (by omega), if_pos (by omega), Nat.add_sub_cancel_left]
    · rw [h (1184 + j) (by omega)]; unfold mV; rw [if_neg (by omega), if_neg (by omega), Nat.add_sub_cancel_left]
def FrK (σ τ : Mem) : Prop := (∀ q, q ≠ 0 → q ≠ 3 → τ q = σ q) ∧ ∀ i, i ≠ 4 → τ 0 i = σ 0 i
set_option maxHeartbeats 4000000 in
set_option maxRecDepth 100000 in
theorem k_X7_keep {σ : Mem} {hs : List Wd} {v : Wd} (hH : HisM σ hs) (hl : hs.length ≤ 6) (hM : HasM σ 1 0 v) : CtV objM NM yX7_keep cX7_keep 2 0 0 [.ref 0] σ (fun τ => HisM τ ((v :: hs).take 6) ∧ FrK σ τ) := by
  obtain ⟨hsz, hH0⟩ := hH
  refine ct_ofV rfl ?_ (Nat.le_of_ble_eq_true rfl) (fun X C hr => ?_)
  · intro v hv; simp only [List.mem_cons, List.not_mem_nil, or_false] at hv; rcases hv with rfl <;> rfl
  · have J : ∀ (hs2 : List Wd) (ρ0 : Mem) (v1 : Option Value), hs2.length ≤ 5 → ρ0 0 4 = nI hs2.length → (∀ i w, hs2[i]? = some w → HasM ρ0 3 (1216 * (hs2.length - 1 - i)) w) → FrK σ ρ0 → (v :: hs2 = (v :: hs).take 6) → Go objM NM X 50 [some (.ref 0), v1] [] ρ0 := by
      intro hs2 ρ0 v1 hl2 hc0 hH2 hF0 heq
      rw [← heq] at hr
      have E1 : ∀ (n : Nat) (i : Nat) (ρ : Mem), (i + n = 1216) → (ρ 0 4 = nI hs2.length) → (∀ q, (q < 1216 * hs2.length ∨ 1216 * hs2.length + i ≤ q) → ρ 3 q = ρ0 3 q) → (∀ j, j < i → ρ 3 (1216 * hs2.length + j) = nI (mV v j)) → (FrK σ ρ) → Go objM NM X 52 [some (.ref 0), some (.int (nI i))] [] ρ := by
        intro n
        induction n using Nat.strongRecOn with
        | _ n ih =>
          intro i ρ hi hc hold hnew hF
          refine go_iload_n C dX7_keep_52 rfl ?_
          refine go_sipush C (nI 1216) dX7_keep_53 rfl ?_
          refine go_icmp_geN C 86 dX7_keep_56 (by decide) (by omega) (by omega) (fun h56 => ?_) (fun h56 => ?_)
          · obtain rfl : i = 1216 := by omega
            refine go_aload_n C dX7_keep_86 rfl ?_
            refine go_dup C dX7_keep_87 rfl ?_
            refine go_getI C gf_X7_113 dX7_keep_88 (by decide) rfl rfl ?_
            refine go_top _ hc ?_
            refine go_iconst C (nI 1) dX7_keep_91 rfl ?_
            refine go_iaddN C dX7_keep_92 ?_
            refine go_putI C gf_X7_113 dX7_keep_93 (by decide) rfl rfl rfl rfl rfl ?_
            refine go_vret hr dX7_keep_96 ?_
            refine ⟨⟨by rw [updR_s]; exact pk_us, fun i w2 hw2 => ?_⟩, fun q a b => (updR_n a).trans (hF.1 q a b), fun j hj => by rw [updR_s, pk_un hj]; exact hF.2 j hj⟩
            refine hasM_iff.mpr (fun j hj => ?_)
            rw [updR_n (by decide)]
            cases i with
            | zero =>
              cases hw2
              rw [show 1216 * ((v :: hs2).length - 1 - 0) + j = 1216 * hs2.length + j by rw [List.length_cons]; omega]
              exact hnew j hj
            | succ i =>
              rw [List.getElem?_cons_succ] at hw2
              have hil := (List.getElem?_eq_some_iff.mp hw2).1
              have e1 : (v :: hs2).length - 1 - (i + 1) = hs2.length - 1 - i := by rw [List.length_cons]; omega
              rw [e1, hold _ (by left; have : 1216 * (hs2.length - 1 - i) + 1216 ≤ 1216 * hs2.length := by omega
                                 omega)]
              exact hasM_iff.mp (hH2 i w2 hw2) j hj
          · refine go_aload_n C dX7_keep_59 rfl ?_
            refine go_getR C gf_X7_16 dX7_keep_60 (by decide) rfl rfl ?_
            refine go_sipush C (nI 1216) dX7_keep_63 rfl ?_
            refine go_aload_n C dX7_keep_66 rfl ?_
            refine go_getI C gf_X7_113 dX7_keep_67 (by decide) rfl rfl ?_
            refine go_top _ hc ?_
            refine go_imulN C dX7_keep_70 ?_
            refine go_iload_n C dX7_keep_71 rfl ?_
            refine go_iaddN C dX7_keep_72 ?_
            refine go_aload_n C dX7_keep_73 rfl ?_
            refine go_getR C gf_X7_9 dX7_keep_74 (by decide) rfl rfl ?_
            refine go_iload_n C dX7_keep_77 rfl ?_
            refine go_ialdN C dX7_keep_78 (by decide) rfl (by decide) (by omega) ?_
            refine go_top (nI (mV v i)) (by rw [hF.1 1 (by decide) (by decide)]; have := hasM_iff.mp hM i (by omega); rw [Nat.zero_add] at this; exact this) ?_
            refine go_iastN C dX7_keep_79 (by decide) rfl (by decide) (by omega) ?_
            refine go_iincN C 1 dX7_keep_80 rfl rfl (by decide) rfl rfl ?_
            refine go_goto C 52 dX7_keep_83 (by decide) ?_
            exact ih (n - 1) (by omega) (i + 1) _ (by omega) (by rw [updR_n (by decide)]; exact hc) (fun q hq => by
              show upd (ρ 3) (1216 * hs2.length + i) _ q = _
              rw [pk_un (by omega)]; exact hold q (by omega)) (fun j hj => by
              show upd (ρ 3) (1216 * hs2.length + i) _ (1216 * hs2.length + j) = _
              by_cases e : j = i
              · subst e; rw [pk_us]
              · rw [pk_un (by omega)]; exact hnew j (by omega)) ⟨fun q a b => (updR_n b).trans (hF.1 q a b), fun j hj => by rw [updR_n (by decide)]; exact hF.2 j hj⟩
      refine go_iconst C (nI 0) dX7_keep_50 rfl ?_
      refine go_istore_n C dX7_keep_51 (by decide) rfl rfl ?_
      exact E1 1216 0 ρ0 (by omega) hc0 (fun _ _ => rfl) (fun j h => absurd h (Nat.not_lt_zero _)) hF0
    have D : ∀ (n : Nat) (i : Nat) (ρ : Mem), (i + n = 6080) → (hs.length = 6) → (ρ 0 4 = nI 6) → (∀ j, j < i → ρ 3 j = σ 3 (j + 1216)) → (∀ j, i ≤ j → ρ 3 j = σ 3 j) → (FrK σ ρ) → Go objM NM X 11 [some (.ref 0), some (.int (nI i))] [] ρ := by
      intro n
      induction n using Nat.strongRecOn with
      | _ n ih =>
        intro i ρ hi hl6 hc hlow hup hF
        refine go_iload_n C dX7_keep_11 rfl ?_
        refine go_sipush C (nI 6080) dX7_keep_12 rfl ?_
        refine go_icmp_geN C 40 dX7_keep_15 (by decide) (by omega) (by omega) (fun h15 => ?_) (fun h15 => ?_)
        · obtain rfl : i = 6080 := by omega
          refine go_aload_n C dX7_keep_40 rfl ?_
          refine go_dup C dX7_keep_41 rfl ?_
          refine go_getI C gf_X7_113 dX7_keep_42 (by decide) rfl rfl ?_
          refine go_top _ hc ?_
          refine go_iconst C (nI 1) dX7_keep_45 rfl ?_
          refine go_isubN C dX7_keep_46 (by omega) ?_
          refine go_putI C gf_X7_113 dX7_keep_47 (by decide) rfl rfl rfl rfl rfl ?_
          exact J (hs.take 5) _ _ (by rw [List.length_take]; omega) (by rw [updR_s, pk_us, List.length_take]; exact congrArg nI (by omega)) (fun i w2 hw2 => by
            have hil := (List.getElem?_eq_some_iff.mp hw2).1
            rw [List.length_take] at hil ⊢
            rw [List.getElem?_take_of_lt (by omega)] at hw2
            refine hasM_iff.mpr (fun j hj => ?_)
            have ho := hasM_iff.mp (hH0 i w2 hw2) j hj
            rw [updR_n (by decide), hlow _ (by omega)]
            rw [show 1216 * (min 5 hs.length - 1 - i) + j + 1216 = 1216 * (hs.length - 1 - i) + j by omega]
            exact ho) ⟨fun q a b => (updR_n a).trans (hF.1 q a b), fun j hj => by rw [updR_s, pk_un hj]; exact hF.2 j hj⟩ rfl
        · refine go_aload_n C dX7_keep_18 rfl ?_
          refine go_getR C gf_X7_16 dX7_keep_19 (by decide) rfl rfl ?_
          refine go_iload_n C dX7_keep_22 rfl ?_
          refine go_aload_n C dX7_keep_23 rfl ?_
          refine go_getR C gf_X7_16 dX7_keep_24 (by decide) rfl rfl ?_
          refine go_iload_n C dX7_keep_27 rfl ?_
          refine go_sipush C (nI 1216) dX7_keep_28 rfl ?_
          refine go_iaddN C dX7_keep_31 ?_
          refine go_ialdN C dX7_keep_32 (by decide) rfl (by decide) (by omega) ?_
          refine go_iastN C dX7_keep_33 (by decide) rfl (by decide) (by omega) ?_
          refine go_iincN C 1 dX7_keep_34 rfl rfl (by decide) rfl rfl ?_
          refine go_goto C 11 dX7_keep_37 (by decide) ?_
          exact ih (n - 1) (by omega) (i + 1) _ (by omega) hl6 (by rw [updR_n (by decide)]; exact hc) (fun j hj => by
            show upd (ρ 3) i (ρ 3 (i + 1216)) j = _
            by_cases e : j = i
            · subst e; rw [pk_us]; exact hup _ (by omega)
            · rw [pk_un e]; exact hlow j (by omega)) (fun j hj => by
            show upd (ρ 3) i (ρ 3 (i + 1216)) j = _
            rw [pk_un (by omega)]; exact hup j (by omega)) ⟨fun q a b => (updR_n b).trans (hF.1 q a b), fun j hj => by rw [updR_n (by decide)]; exact hF.2 j hj⟩
    refine go_aload_n C dX7_keep_0 rfl ?_
    refine go_getI C gf_X7_113 dX7_keep_1 (by decide) rfl rfl ?_
    refine go_top _ hsz ?_
    refine go_bipush C (nI 6) dX7_keep_4 rfl ?_
    refine go_icmp_neN C 50 dX7_keep_6 (by decide) (by omega) (by omega) (fun h6 => ?_) (fun h6 => ?_)
    · exact J hs σ _ (by omega) hsz hH0 ⟨fun _ _ _ => rfl, fun _ _ => rfl⟩ (by rw [List.take_succ_cons, List.take_of_length_le (by omega)])
    · refine go_iconst C (nI 0) dX7_keep_9 rfl ?_
      refine go_istore_n C dX7_keep_10 (by decide) rfl rfl ?_
      exact D 6080 0 σ (by omega) h6 (by rw [hsz, h6]) (fun j h => absurd h (Nat.not_lt_zero _)) (fun _ _ => rfl) ⟨fun _ _ _ => rfl, fun _ _ => rfl⟩
