def EntP (σ : Mem) (S : Nat → Prop) (f : Nat → Nat) (E k v : Nat) : Mem → Prop := fun τ => ∃ (G' : Nat → List Nat) (E' : Nat), Ent τ (fun j => S j ∨ j = k) (un f k v) G' E' ∧ (v = 0 → E' = E) ∧ E' ≤ E + 1 ∧ E ≤ E' ∧ kpE σ τ E ∧ FrL σ τ
set_option maxHeartbeats 4000000 in
set_option maxRecDepth 100000 in
theorem k_X4_enter {σ : Mem} {S : Nat → Prop} {f : Nat → Nat} {G : Nat → List Nat} {E k v : Nat} (hE : Ent σ S f G E) (hk : k < 1152) (hv : v < 16) (hlt : 0 < v → E < 2304) : CtV objC NC yX4_enter cX4_enter 4 0 0 [.ref 10, .int (nI k), .int (nI v), .ref 14] σ (EntP σ S f E k v) := by
  have hE0 := hE.1
  refine ct_ofV rfl ?_ (Nat.le_of_ble_eq_true rfl) (fun X C hr => ?_)
  · intro v hv; simp only [List.mem_cons, List.not_mem_nil, or_false] at hv; rcases hv with rfl | rfl | rfl | rfl <;> rfl
  · refine go_aload_n C dX4_enter_0 rfl ?_
    refine go_iload_n C dX4_enter_1 rfl ?_
    refine go_iload_n C dX4_enter_2 rfl ?_
    refine go_iastN C dX4_enter_3 (by decide) rfl (by decide) (by omega) ?_
    refine go_iload_n C dX4_enter_4 rfl ?_
    refine go_if_leN C 69 dX4_enter_5 (by decide) (by omega) (fun h5 => ?_) (fun h5 => ?_)
    · obtain rfl : v = 0 := by omega
      refine go_vret hr dX4_enter_69 ?_
      exact ⟨G, E, ent_0 hE hk rfl rfl rfl rfl rfl, fun _ => rfl, by omega, Nat.le_refl _, fun _ _ => ⟨rfl, rfl⟩, fun q a b c d e => by simp only [updR, a, b, c, d, e, if_false]⟩
    · refine go_iload_n C dX4_enter_8 rfl ?_
      refine go_bipush C (nI 15) dX4_enter_9 rfl ?_
      refine go_icmp_gtN C 69 dX4_enter_11 (by decide) (by omega) (by omega) (fun h11 => ?_) (fun h11 => ?_)
      · exact absurd h11 (by omega)
      · refine go_aload_n C dX4_enter_14 rfl ?_
        refine go_getI C gf_X4_21 dX4_enter_15 (by decide) rfl rfl ?_
        refine go_top (nI E) (show _ = _ from hE.2.1) ?_
        refine go_sipush C (nI 2304) dX4_enter_18 rfl ?_
        refine go_icmp_geN C 69 dX4_enter_21 (by decide) (by omega) (by omega) (fun h21 => ?_) (fun h21 => ?_)
        · exact absurd h21 (by omega)
        · refine go_aload_n C dX4_enter_24 rfl ?_
          refine go_getR C gf_X4_18 dX4_enter_25 (by decide) rfl rfl ?_
          refine go_aload_n C dX4_enter_28 rfl ?_
          refine go_getI C gf_X4_21 dX4_enter_29 (by decide) rfl rfl ?_
          refine go_top (nI E) (show _ = _ from hE.2.1) ?_
          refine go_iload_n C dX4_enter_32 rfl ?_
          refine go_iastN C dX4_enter_33 (by decide) rfl (by decide) (by omega) ?_
          refine go_aload_n C dX4_enter_34 rfl ?_
          refine go_getR C gf_X4_15 dX4_enter_35 (by decide) rfl rfl ?_
          refine go_aload_n C dX4_enter_38 rfl ?_
          refine go_getI C gf_X4_21 dX4_enter_39 (by decide) rfl rfl ?_
          refine go_top (nI E) (show _ = _ from hE.2.1) ?_
          refine go_aload_n C dX4_enter_42 rfl ?_
          refine go_getR C gf_X4_9 dX4_enter_43 (by decide) rfl rfl ?_
          refine go_iload_n C dX4_enter_46 rfl ?_
          refine go_ialdN C dX4_enter_47 (by decide) rfl (by decide) (by omega) ?_
          refine go_iastN C dX4_enter_48 (by decide) rfl (by decide) (by omega) ?_
          refine go_aload_n C dX4_enter_49 rfl ?_
          refine go_getR C gf_X4_9 dX4_enter_50 (by decide) rfl rfl ?_
          refine go_iload_n C dX4_enter_53 rfl ?_
          refine go_aload_n C dX4_enter_54 rfl ?_
          refine go_getI C gf_X4_21 dX4_enter_55 (by decide) rfl rfl ?_
          refine go_top (nI E) (show _ = _ from hE.2.1) ?_
          refine go_iastN C dX4_enter_58 (by decide) rfl (by decide) (by omega) ?_
          refine go_aload_n C dX4_enter_59 rfl ?_
          refine go_dup C dX4_enter_60 rfl ?_
          refine go_getI C gf_X4_21 dX4_enter_61 (by decide) rfl rfl ?_
          refine go_top (nI E) (show _ = _ from hE.2.1) ?_
          refine go_iconst C (nI 1) dX4_enter_64 rfl ?_
          refine go_iaddN C dX4_enter_65 ?_
          refine go_putI C gf_X4_21 dX4_enter_66 (by decide) rfl rfl rfl rfl rfl ?_
          refine go_vret hr dX4_enter_69 ?_
          exact ⟨_, E + 1, (ent_1 hE hk (by omega) hv (hlt (by omega)) rfl rfl rfl rfl rfl).1, fun e => absurd e (by omega), Nat.le_refl _, by omega, (ent_1 hE hk (by omega) hv (hlt (by omega)) rfl rfl rfl rfl rfl).2, fun q a b c d e => by simp only [updR, a, b, c, d, e, if_false]⟩
set_option maxHeartbeats 4000000 in
set_option maxRecDepth 100000 in
theorem k_X4_give {σ : Mem} {w : Wd} (hO : OkW w) (hW : HasW σ 1 w) {c m lv : Nat} {src f : Nat → Nat} {G : Nat → List Nat} {E : Nat} {rz : Nat → Prop} {D : Nat → Nat → Prop} (hc : c < 4) (hm : m < 1152) (hlv : 2 ≤ lv) (hfm : f m = lv) (hE : Ent σ (fun _ => True) f G E) (hP : PI src (lossN w c) lv f D) (hR : Rz rz E f (lossN w c) lv) : CtV objC NC yX4_give cX4_give 9 2 41 [.ref 10, .ref 1, .int (nI c), .int (nI m), .ref 14] σ (fun τ => Gv σ τ src (lossN w c) lv f E (fun a b => D a b ∨ (a = m ∧ ∃ d', nbr m d' = some b))) := by
  have h15 : lv ≤ 15 := by rw [← hfm]; have := (hE.2.2.1 m hm trivial).2; omega
  refine ct_ofV rfl ?_ (Nat.le_of_ble_eq_true rfl) (fun X C hr => ?_)
  · intro v hv; simp only [List.mem_cons, List.not_mem_nil, or_false] at hv; rcases hv with rfl | rfl | rfl | rfl | rfl <;> rfl
  · have L : ∀ (n : Nat) (d : Nat) (ρ : Mem) (f1 : Nat → Nat) (G1 : Nat → List Nat) (E1 : Nat) (rz1 : Nat → Prop) (v7 : Option Value) (v8 : Option Value), (d + n = 6) → (f1 m = lv) → (PI src (lossN w c) lv f1 (fun a b => D a b ∨ (a = m ∧ ∃ d', d' < d ∧ nbr m d' = some b))) → (Ent ρ (fun _ => True) f1 G1 E1) → (Rz rz1 E1 f1 (lossN w c) lv) → (kpE σ ρ E) → (E ≤ E1) → (FrL σ ρ) → (∀ q, q < 1152 → f1 q = lv → f q = lv) → Go objC NC X 11 [some (.ref 10), some (.ref 1), some (.int (nI c)), some (.int (nI m)), some (.ref 14), some (.int (nI (lv - 1))), some (.int (nI d)), v7, v8] [] ρ := by
      intro n
      induction n using Nat.strongRecOn with
      | _ n ih =>
        intro d ρ f1 G1 E1 rz1 v7 v8 hd hfm1 hP1 hE1 hR1 hk1 hEE hF1 hq
        have hW1 := hF1.W hW
        refine go_iload C dX4_give_11 rfl ?_
        refine go_bipush C (nI 6) dX4_give_13 rfl ?_
        refine go_icmp_geN C 80 dX4_give_15 (by decide) (by omega) (by omega) (fun h15 => ?_) (fun h15 => ?_)
        · refine go_vret hr dX4_give_80 ?_
          obtain rfl : d = 6 := by omega
          exact ⟨f1, G1, E1, rz1, PI_mono hP1 (fun a b q => q.elim Or.inl (fun q => Or.inr ⟨q.1, q.2.choose, nbr_d q.2.choose_spec, q.2.choose_spec⟩)), hE1, hR1, hk1, hEE, hF1, hq⟩
        · refine go_iload_n C dX4_give_18 rfl ?_
          refine go_iload C dX4_give_19 rfl ?_
          refine go_S2P C ok_X2_neighbor lk_X4_55 dX4_give_21 (k_X2_neighbor (by omega) (by omega)) (by decide) (Nat.le_of_ble_eq_true rfl) ?_
          refine go_istore C dX4_give_24 (by decide) rfl rfl ?_
          refine go_iload C dX4_give_26 rfl ?_
          refine go_iconst C (-1) dX4_give_28 rfl ?_
          refine go_icmp_eqO C 74 dX4_give_29 (by decide) (fun j hj => by have := nbr_lt hm hj; omega) (fun h29 => ?_) (fun h29 => ?_)
          · skip
            refine go_iincN C 1 dX4_give_74 rfl rfl (by decide) rfl rfl ?_
            refine go_goto C 11 dX4_give_77 (by decide) ?_
            exact ih (n - 1) (by omega) (d + 1) ρ f1 G1 E1 rz1 _ _ (by omega) hfm1 (PI_mono hP1 (fun x y q => q.elim Or.inl (fun q => by
                obtain ⟨q1, d', q2, q3⟩ := q
                rcases Nat.lt_or_ge d' d with q4 | q4
                · exact Or.inr ⟨q1, d', q4, q3⟩
                · obtain rfl : d' = d := by omega
                  rw [h29] at q3; cases q3))) hE1 hR1 hk1 hEE hF1 hq
          · obtain ⟨b, hb⟩ := h29
            rw [hb]
            have hbl := nbr_lt hm hb
            have hl16 := lossN_lt hO hc hbl
            have hf16 := (hE1.2.2.1 b hbl trivial).2
            dsimp only [oI]
            refine go_aload C dX4_give_32 rfl ?_
            refine go_iload C dX4_give_34 rfl ?_
            refine go_ialdN C dX4_give_36 (by decide) rfl (by decide) (by omega) ?_
            refine go_top _ (hE1.2.2.1 _ (by omega) trivial).1 ?_
            refine go_iload C dX4_give_37 rfl ?_
            refine go_icmp_geN C 74 dX4_give_39 (by decide) (by omega) (by omega) (fun h39 => ?_) (fun h39 => ?_)
            · skip
              refine go_iincN C 1 dX4_give_74 rfl rfl (by decide) rfl rfl ?_
              refine go_goto C 11 dX4_give_77 (by decide) ?_
              have hr : rse f1 (lossN w c) lv b = f1 := by unfold rse; rw [Nat.max_eq_left (by omega)]; exact un_id
              have hp2 := PI_rse hP1 (by omega) hm hfm1 hb
              rw [hr] at hp2
              exact ih (n - 1) (by omega) (d + 1) ρ f1 G1 E1 rz1 _ _ (by omega) hfm1 (PI_mono hp2 (fun x y q => q.elim (fun q => Or.inl (Or.inl q)) (fun q => by
                obtain ⟨q1, d', q2, q3⟩ := q
                rcases Nat.lt_or_ge d' d with q4 | q4
                · exact Or.inl (Or.inr ⟨q1, d', q4, q3⟩)
                · obtain rfl : d' = d := by omega
                  rw [hb] at q3; cases q3; exact Or.inr ⟨q1, rfl⟩))) hE1 hR1 hk1 hEE hF1 hq
            · refine go_iload C dX4_give_42 rfl ?_
              refine go_aload_n C dX4_give_44 rfl ?_
              refine go_iload C dX4_give_45 rfl ?_
              refine go_iload_n C dX4_give_47 rfl ?_
              refine go_V2P C ok_X5_lossAt lk_X4_52 dX4_give_48 (by decide) rfl rfl rfl (k_X5_lossAt hO hW1 (by omega) hc) (by decide) (Nat.le_of_ble_eq_true rfl) ?_
              refine go_isub C dX4_give_51 ?_
              refine go_istore C dX4_give_52 (by decide) rfl rfl ?_
              refine go_iload C dX4_give_54 rfl ?_
              refine go_aload C dX4_give_56 rfl ?_
              refine go_iload C dX4_give_58 rfl ?_
              refine go_ialdN C dX4_give_60 (by decide) rfl (by decide) (by omega) ?_
              refine go_top _ (hE1.2.2.1 _ (by omega) trivial).1 ?_
              refine go_icmp_le C 74 dX4_give_61 (by decide) (fun h61 => ?_) (fun h61 => ?_)
              · rw [sb_le (by omega) (by omega) (by omega)] at h61
                refine go_iincN C 1 dX4_give_74 rfl rfl (by decide) rfl rfl ?_
                refine go_goto C 11 dX4_give_77 (by decide) ?_
                have hr : rse f1 (lossN w c) lv b = f1 := by unfold rse; rw [Nat.max_eq_left (by omega)]; exact un_id
                have hp2 := PI_rse hP1 (by omega) hm hfm1 hb
                rw [hr] at hp2
                exact ih (n - 1) (by omega) (d + 1) ρ f1 G1 E1 rz1 _ _ (by omega) hfm1 (PI_mono hp2 (fun x y q => q.elim (fun q => Or.inl (Or.inl q)) (fun q => by
                obtain ⟨q1, d', q2, q3⟩ := q
                rcases Nat.lt_or_ge d' d with q4 | q4
                · exact Or.inl (Or.inr ⟨q1, d', q4, q3⟩)
                · obtain rfl : d' = d := by omega
                  rw [hb] at q3; cases q3; exact Or.inr ⟨q1, rfl⟩))) hE1 hR1 hk1 hEE hF1 hq
              · rw [sb_le (by omega) (by omega) (by omega)] at h61
                have e : nI (lv - 1) - nI (lossN w c b) = nI (lv - 1 - lossN w c b) := pk_sub (by omega)
                rw [e]
                have hnr : ¬ rz1 b := fun q => by have := hR1.2 b hbl q; omega
                have hcl := cnt_lt hnr hbl
                have hR1E := hR1.1
                refine go_aload_n C dX4_give_64 rfl ?_
                refine go_iload C dX4_give_65 rfl ?_
                refine go_iload C dX4_give_67 rfl ?_
                refine go_aload C dX4_give_69 rfl ?_
                refine go_V3V C ok_X4_enter lk_X4_42 dX4_give_71 (by decide) rfl rfl rfl (k_X4_enter hE1 hbl (by omega) (by omega)) (by decide) (Nat.le_of_ble_eq_true rfl) (fun τ hp => ?_)
                refine go_iincN C 1 dX4_give_74 rfl rfl (by decide) rfl rfl ?_
                refine go_goto C 11 dX4_give_77 (by decide) ?_
                have hr : un f1 b (lv - 1 - lossN w c b) = rse f1 (lossN w c) lv b := by unfold rse; rw [Nat.max_eq_right (by omega)]
                have hp2 := PI_rse hP1 (by omega) hm hfm1 hb
                obtain ⟨G2, E2, q1, q2, q3, q4, q5, q6⟩ := hp
                rw [hr] at q1
                exact ih (n - 1) (by omega) (d + 1) τ (rse f1 (lossN w c) lv b) G2 E2 (fun j => j = b ∨ rz1 j) _ _ (by omega) (by rw [rse_hi2 (by omega) (by omega)]; exact hfm1) (PI_mono hp2 (fun x y q => q.elim (fun q => Or.inl (Or.inl q)) (fun q => by
                obtain ⟨q1, d', q2, q3⟩ := q
                rcases Nat.lt_or_ge d' d with q4 | q4
                · exact Or.inl (Or.inr ⟨q1, d', q4, q3⟩)
                · obtain rfl : d' = d := by omega
                  rw [hb] at q3; cases q3; exact Or.inr ⟨q1, rfl⟩))) (q1.c (fun _ _ _ => Or.inl trivial) (fun _ _ _ => rfl)) ⟨by have := cnt_add (p := rz1) (q := fun j => j = b ∨ rz1 j) hnr (Or.inl rfl) (fun j hj => ⟨Or.inr, fun q => q.elim (fun e => absurd e hj) id⟩) 1152 hbl; have := hR1.1; omega, fun x hx hz => by
                rcases hz with rfl | hz
                · unfold rse; rw [un_s]; have := Nat.le_max_right (f1 x) (lv - 1 - lossN w c x); omega
                · exact Nat.le_trans (hR1.2 x hx hz) (by have := rse_ge (f := f1) (ls := lossN w c) (lv := lv) (n := b) x; omega)⟩ (fun e he => ⟨(q5 e (Nat.lt_of_lt_of_le he hEE)).1.trans (hk1 e he).1, (q5 e (Nat.lt_of_lt_of_le he hEE)).2.trans (hk1 e he).2⟩) (Nat.le_trans hEE q4) (hF1.trans q6) (fun x hx hz => hq x hx (by rw [rse_hi (by omega) (by omega)] at hz; exact hz))
    refine go_aload C dX4_give_0 rfl ?_
    refine go_iload_n C dX4_give_2 rfl ?_
    refine go_ialdN C dX4_give_3 (by decide) rfl (by decide) (by omega) ?_
    refine go_top (nI lv) (by rw [← hfm]; exact (hE.2.2.1 m hm trivial).1) ?_
    refine go_iconst C (nI 1) dX4_give_4 rfl ?_
    refine go_isubN C dX4_give_5 (by omega) ?_
    refine go_istore C dX4_give_6 (by decide) rfl rfl ?_
    refine go_iconst C (nI 0) dX4_give_8 rfl ?_
    refine go_istore C dX4_give_9 (by decide) rfl rfl ?_
    exact L 6 0 σ f G E rz none none (by omega) hfm ⟨hP.1, hP.2.1, hP.2.2.1, fun a b q => q.elim (hP.2.2.2 a b) (fun q => absurd q.2.choose_spec.1 (Nat.not_lt_zero _))⟩ hE hR (fun _ _ => ⟨rfl, rfl⟩) (Nat.le_refl _) FrL.refl (fun _ _ h => h)
