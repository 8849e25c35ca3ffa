def RelP (σ : Mem) (L : Nat → Nat → Nat) (v : Wd) : Int32 → Mem → Prop := fun r τ => r = nI (cnt (fun j => ∃ c, c < 4 ∧ L c j ≠ lit v c j) 1152) ∧ OkL v ∧ LitC τ (lit v) ∧ EffC τ (fun j => ∃ c, c < 4 ∧ L c j ≠ lit v c j) ∧ FrR σ τ
set_option maxHeartbeats 4000000 in
set_option maxRecDepth 100000 in
theorem k_X6_relight {σ : Mem} {L : Nat → Nat → Nat} {v : Wd} (hO : OkW v) (hW : HasW σ 1 v) (hL : LitC σ L) (hLb : ∀ c, c < 4 → ∀ j, j < 1152 → L c j < 16) : CtI objC NC yX6_relight cX6_relight 2 .int 4 96 [.ref 0] σ (RelP σ L v) := by
  refine ct_ofI rfl ?_ (Nat.le_of_ble_eq_true rfl) (fun X C hr => ?_)
  · intro v hv; simp only [List.mem_cons, List.not_mem_nil, or_false] at hv; rcases hv with rfl <;> rfl
  · have L1 : ∀ (n : Nat) (c : Nat) (ρ : Mem), (c + n = 4) → (∀ d, d < c → IsLit (srcQ v d 1152 0) (lossN v d) (lit v d)) → (∀ d, d < 4 → ∀ j, j < 1152 → ρ (6 + d) j = nI (if d < c then lit v d j else L d j)) → (EffC ρ (fun j => ∃ d, d < c ∧ L d j ≠ lit v d j)) → (FrR σ ρ) → Go objC NC X 6 [some (.ref 0), some (.int (nI c))] [] ρ := by
      intro n
      induction n using Nat.strongRecOn with
      | _ n ih =>
        intro c ρ hi hOL hp hE1 hF1
        have hW1 : HasW ρ 1 v := hW.of (hF1.1 2 (by decide) (by decide)) (hF1.1 3 (by decide) (by decide)) (hF1.1 4 (by decide) (by decide))
        refine go_iload_n C dX6_relight_6 rfl ?_
        refine go_iconst C (nI 4) dX6_relight_7 rfl ?_
        refine go_icmp_geN C 44 dX6_relight_8 (by decide) (by omega) (by omega) (fun h8 => ?_) (fun h8 => ?_)
        · obtain rfl : c = 4 := by omega
          refine go_aload_n C dX6_relight_44 rfl ?_
          refine go_getI C gf_X6_39 dX6_relight_45 (by decide) rfl rfl ?_
          refine go_top _ hE1.2 ?_
          refine go_iret hr dX6_relight_48 rfl ?_
          exact ⟨rfl, hOL, fun d hd j hj => by rw [hp d hd j hj, if_pos hd], hE1, hF1⟩
        · have hc : c < 4 := by omega
          refine go_aload_n C dX6_relight_11 rfl ?_
          refine go_getR C gf_X6_24 dX6_relight_12 (by decide) rfl rfl ?_
          refine go_aload_n C dX6_relight_15 rfl ?_
          refine go_getR C gf_X6_12 dX6_relight_16 (by decide) rfl rfl ?_
          refine go_iload_n C dX6_relight_19 rfl ?_
          refine go_iconst C (-1) dX6_relight_20 rfl ?_
          refine go_aload_n C dX6_relight_21 rfl ?_
          refine go_getR C gf_X6_28 dX6_relight_22 (by decide) rfl rfl ?_
          refine go_V4V C ok_X4_find lk_X6_172 dX6_relight_25 (by decide) rfl rfl rfl (k_X4_find hO hW1 hc hu_no) (by decide) (Nat.le_of_ble_eq_true rfl) (fun τ hp1 => ?_)
          obtain ⟨g1, g2, g3⟩ := hp1
          have hlv : ∀ j, j < 1152 → lit v c j < 16 := fun j hj => by have := (g2.1 j hj).2; show litQ v c 1152 0 j < 16; omega
          refine go_aload_n C dX6_relight_28 rfl ?_
          refine go_aload_n C dX6_relight_29 rfl ?_
          refine go_getR C gf_X6_18 dX6_relight_30 (by decide) rfl rfl ?_
          refine go_iload_n C dX6_relight_33 rfl ?_
          refine go_aald C dX6_relight_34 (by decide) rfl (Or.inl rfl) (by decide) (jsL hc) ?_
          refine go_V1V C ok_X6_takeTrial lk_X6_207 dX6_relight_35 (by decide) rfl rfl rfl (k_X6_takeTrial (f := lit v c) (g := L c) (E := (fun j => ∃ d, d < c ∧ L d j ≠ lit v d j)) hc g3 (fun j hj => by rw [g1 (6 + c) (by omega) (by omega) (by omega) (by omega) (by omega), hp c hc j hj, if_neg (Nat.lt_irrefl _)]) (fun j hj => ⟨hlv j hj, hLb c hc j hj⟩) ⟨fun j hj => by rw [g1 16 (by decide) (by decide) (by decide) (by decide) (by decide)]; exact hE1.1 j hj, by rw [g1 0 (by decide) (by decide) (by decide) (by decide) (by decide)]; exact hE1.2⟩) (by decide) (Nat.le_of_ble_eq_true rfl) (fun υ hq => ?_)
          refine go_iincN C 1 dX6_relight_38 rfl rfl (by decide) rfl rfl ?_
          refine go_goto C 6 dX6_relight_41 (by decide) ?_
          obtain ⟨q1, q2, q3, q4⟩ := hq
          have hcc : ∀ j, ((∃ d, d < c ∧ L d j ≠ lit v d j) ∨ L c j ≠ lit v c j) ↔ ∃ d, d < c + 1 ∧ L d j ≠ lit v d j := fun j => ⟨fun z => z.elim (fun ⟨d, z1, z2⟩ => ⟨d, by omega, z2⟩) (fun z => ⟨c, by omega, z⟩), fun ⟨d, z1, z2⟩ => by
            rcases Nat.lt_or_ge d c with z | z
            · exact Or.inl ⟨d, z, z2⟩
            · obtain rfl : d = c := by omega
              exact Or.inr z2⟩
          exact ih (n - 1) (by omega) (c + 1) υ (by omega) (fun d hd => by
            rcases Nat.lt_or_ge d c with z | z
            · exact hOL d z
            · obtain rfl : d = c := by omega
              exact g2) (fun d hd j hj => by
            by_cases z : d = c
            · subst z; rw [q1 j hj, if_pos (by omega)]
            · rw [q3 (6 + d) (by omega) (by omega) (by omega), g1 (6 + d) (by omega) (by omega) (by omega) (by omega) (by omega), hp d hd j hj]
              refine congrArg nI ?_
              by_cases z2 : d < c
              · rw [if_pos z2, if_pos (by omega)]
              · rw [if_neg z2, if_neg (by omega)]) ⟨fun j hj => (q2.1 j hj).trans (bP_c (hcc j)), by rw [q2.2]; exact congrArg nI (cnt_c 1152 (fun j _ => hcc j))⟩ ⟨fun q h0 hq2 => by rw [q3 q h0 (by omega) (by omega), g1 q (by omega) (by omega) (by omega) (by omega) (by omega)]; exact hF1.1 q h0 hq2, fun i hi2 => by rw [q4 i hi2, g1 0 (by decide) (by decide) (by decide) (by decide) (by decide)]; exact hF1.2 i hi2⟩
    refine go_aload_n C dX6_relight_0 rfl ?_
    refine go_V0V C ok_X6_clearEffect lk_X6_204 dX6_relight_1 (by decide) rfl rfl rfl k_X6_clearEffect (by decide) (Nat.le_of_ble_eq_true rfl) (fun τ hp => ?_)
    refine go_iconst C (nI 0) dX6_relight_4 rfl ?_
    refine go_istore_n C dX6_relight_5 (by decide) rfl rfl ?_
    exact L1 4 0 τ (by omega) (fun d h => absurd h (Nat.not_lt_zero _)) (fun d hd j hj => by rw [hp.2.1 (6 + d) (by omega) (by omega), hL d hd j hj, if_neg (Nat.not_lt_zero _)]) ⟨fun j hj => (hp.1.1 j hj).trans (bP_c ⟨fun z => z.elim, fun ⟨d, z, _⟩ => absurd z (Nat.not_lt_zero _)⟩), by rw [hp.1.2]; exact congrArg nI (cnt_c 1152 (fun j _ => ⟨fun z => z.elim, fun ⟨d, z, _⟩ => absurd z (Nat.not_lt_zero _)⟩))⟩ ⟨fun q h0 hq => hp.2.1 q h0 (by omega), hp.2.2⟩
set_option maxHeartbeats 4000000 in
set_option maxRecDepth 100000 in
theorem k_X5_copyFrom {σ : Mem} {b1 b2 : Nat} {v : Wd} (h1 : WoC b1) (h2 : WoC b2) (hd : b1 + 4 ≤ b2 ∨ b2 + 4 ≤ b1) (hW : HasW σ b2 v) : CtV objC NC yX5_copyFrom cX5_copyFrom 2 1 24 [.ref b1, .ref b2] σ (fun τ => HasW τ b1 v ∧ ∀ q, q ≠ b1 + 1 → q ≠ b1 + 2 → q ≠ b1 + 3 → τ q = σ q) := by
  refine ct_ofV rfl ?_ (Nat.le_of_ble_eq_true rfl) (fun X C hr => ?_)
  · intro v hv; simp only [List.mem_cons, List.not_mem_nil, or_false] at hv; rcases hv with rfl | rfl <;> rfl
  · refine go_aload_n C dX5_copyFrom_0 rfl ?_
    refine go_getR C gf_X5_9 dX5_copyFrom_1 (Nat.lt_of_le_of_lt (Nat.le_add_right _ 3) h2.1) h2.2.1 rfl ?_
    refine go_iconst C (nI 0) dX5_copyFrom_4 rfl ?_
    refine go_aload_n C dX5_copyFrom_5 rfl ?_
    refine go_getR C gf_X5_9 dX5_copyFrom_6 (Nat.lt_of_le_of_lt (Nat.le_add_right _ 3) h1.1) h1.2.1 rfl ?_
    refine go_iconst C (nI 0) dX5_copyFrom_9 rfl ?_
    refine go_sipush C (nI 1152) dX5_copyFrom_10 rfl ?_
    refine go_acopy C lk_X5_21 dX5_copyFrom_13 (Nat.lt_of_le_of_lt (Nat.add_le_add_left (by decide) _) h2.1) (Nat.lt_of_le_of_lt (Nat.add_le_add_left (by decide) _) h1.1) h2.2.2.1 h1.2.2.1 (by decide) (by decide) (by decide) (by decide) (by decide) (Nat.le_of_ble_eq_true rfl) ?_
    refine go_aload_n C dX5_copyFrom_16 rfl ?_
    refine go_getR C gf_X5_15 dX5_copyFrom_17 (Nat.lt_of_le_of_lt (Nat.le_add_right _ 3) h2.1) h2.2.1 rfl ?_
    refine go_iconst C (nI 0) dX5_copyFrom_20 rfl ?_
    refine go_aload_n C dX5_copyFrom_21 rfl ?_
    refine go_getR C gf_X5_15 dX5_copyFrom_22 (Nat.lt_of_le_of_lt (Nat.le_add_right _ 3) h1.1) h1.2.1 rfl ?_
    refine go_iconst C (nI 0) dX5_copyFrom_25 rfl ?_
    refine go_bipush C (nI 32) dX5_copyFrom_26 rfl ?_
    refine go_acopy C lk_X5_21 dX5_copyFrom_28 (Nat.lt_of_le_of_lt (Nat.add_le_add_left (by decide) _) h2.1) (Nat.lt_of_le_of_lt (Nat.add_le_add_left (by decide) _) h1.1) h2.2.2.2.1 h1.2.2.2.1 (by decide) (by decide) (by decide) (by decide) (by decide) (Nat.le_of_ble_eq_true rfl) ?_
    refine go_aload_n C dX5_copyFrom_31 rfl ?_
    refine go_getR C gf_X5_18 dX5_copyFrom_32 (Nat.lt_of_le_of_lt (Nat.le_add_right _ 3) h2.1) h2.2.1 rfl ?_
    refine go_iconst C (nI 0) dX5_copyFrom_35 rfl ?_
    refine go_aload_n C dX5_copyFrom_36 rfl ?_
    refine go_getR C gf_X5_18 dX5_copyFrom_37 (Nat.lt_of_le_of_lt (Nat.le_add_right _ 3) h1.1) h1.2.1 rfl ?_
    refine go_iconst C (nI 0) dX5_copyFrom_40 rfl ?_
    refine go_bipush C (nI 32) dX5_copyFrom_41 rfl ?_
    refine go_acopy C lk_X5_21 dX5_copyFrom_43 (Nat.lt_of_le_of_lt (Nat.add_le_add_left (by decide) _) h2.1) (Nat.lt_of_le_of_lt (Nat.add_le_add_left (by decide) _) h1.1) h2.2.2.2.2 h1.2.2.2.2 (by decide) (by decide) (by decide) (by decide) (by decide) (Nat.le_of_ble_eq_true rfl) ?_
    refine go_vret hr dX5_copyFrom_46 ?_
    refine ⟨⟨fun j hj => ?_, fun j hj => ?_, fun j hj => ?_⟩, fun q q1 q2 q3 => by rw [updR_n q3, updR_n q2, updR_n q1]⟩
    · rw [updR_n (by omega), updR_n (by omega), updR_s, sb_cpy0 hj]; exact hW.1 j hj
    · rw [updR_n (by omega), updR_s, sb_cpy0 hj, updR_n (by omega)]; exact hW.2.1 j hj
    · rw [updR_s, sb_cpy0 hj, updR_n (by omega), updR_n (by omega)]; exact hW.2.2 j hj
def FrH (σ τ : Mem) : Prop := ∀ q, (q < 20 ∨ 46 ≤ q) → τ q = σ q
set_option maxHeartbeats 4000000 in
set_option maxRecDepth 100000 in
theorem k_X3_push {σ : Mem} {hs : List Wd} {v : Wd} (hH : HisC σ hs) (hl : hs.length ≤ 6) (hW : HasW σ 1 v) : CtV objC NC yX3_push cX3_push 2 2 45 [.ref 20, .ref 1] σ (fun τ => HisC τ ((v :: hs).take 6) ∧ FrH σ τ) := by
  obtain ⟨nw, hnw, hnv, hsz, hold⟩ := hH
  refine ct_ofV rfl ?_ (Nat.le_of_ble_eq_true rfl) (fun X C hr => ?_)
  · intro v hv; simp only [List.mem_cons, List.not_mem_nil, or_false] at hv; rcases hv with rfl | rfl <;> rfl
  · refine go_aload_n C dX3_push_0 rfl ?_
    refine go_aload_n C dX3_push_1 rfl ?_
    refine go_getI C gf_X3_17 dX3_push_2 (by decide) rfl rfl ?_
    refine go_top _ hnv ?_
    refine go_iconst C (nI 1) dX3_push_5 rfl ?_
    refine go_iaddN C dX3_push_6 ?_
    refine go_bipush C (nI 6) dX3_push_7 rfl ?_
    refine go_iremN C dX3_push_9 (by omega) (by omega) (by omega) ?_
    refine go_putI C gf_X3_17 dX3_push_10 (by decide) rfl rfl rfl rfl rfl ?_
    obtain ⟨n1, hn1⟩ : ∃ n1, n1 = (nw + 1) % 6 := ⟨_, rfl⟩
    rw [← hn1]
    have hn6 : n1 < 6 := by omega
    have hwo := wo_h hn6
    refine go_aload_n C dX3_push_13 rfl ?_
    refine go_getR C gf_X3_11 dX3_push_14 (by decide) rfl rfl ?_
    refine go_aload_n C dX3_push_17 rfl ?_
    refine go_getI C gf_X3_17 dX3_push_18 (by decide) rfl rfl ?_
    refine go_top (nI n1) (by rw [updR_s]; exact pk_us) ?_
    refine go_aald C dX3_push_21 (by decide) rfl (Or.inr rfl) (by decide) (jsH hn6) ?_
    refine go_aload_n C dX3_push_22 rfl ?_
    refine go_V1V C ok_X5_copyFrom lk_X3_25 dX3_push_23 (Nat.lt_of_le_of_lt (Nat.le_add_right _ 3) hwo.1) hwo.2.1 rfl rfl (k_X5_copyFrom hwo wo_1 (Or.inr (by omega)) (v := v) (hW.of rfl rfl rfl)) (by decide) (Nat.le_of_ble_eq_true rfl) (fun τ hp => ?_)
    refine go_aload_n C dX3_push_26 rfl ?_
    refine go_aload_n C dX3_push_27 rfl ?_
    refine go_getI C gf_X3_21 dX3_push_28 (by decide) rfl rfl ?_
    refine go_top (nI hs.length) (by rw [hp.2 20 (by omega) (by omega) (by omega), updR_s, pk_un (by decide)]; exact hsz) ?_
    refine go_iconst C (nI 1) dX3_push_31 rfl ?_
    refine go_iaddN C dX3_push_32 ?_
    refine go_bipush C (nI 6) dX3_push_33 rfl ?_
    refine go_minN C lk_X3_29 dX3_push_35 (by decide) (Nat.le_of_ble_eq_true rfl) (by omega) (by omega) ?_
    refine go_putI C gf_X3_21 dX3_push_38 (by decide) rfl rfl rfl rfl rfl ?_
    refine go_vret hr dX3_push_41 ?_
    refine ⟨⟨n1, hn6, ?_, ?_, fun i w2 hw2 => ?_⟩, fun q hq => ?_⟩
    · rw [updR_s, pk_un (by decide), hp.2 20 (by omega) (by omega) (by omega), updR_s, pk_us]
    · rw [updR_s, pk_us, List.length_take, List.length_cons, Nat.min_comm]
    · have hi := (List.getElem?_eq_some_iff.mp hw2).1
      rw [List.length_take, List.length_cons] at hi
      rw [List.getElem?_take_of_lt (by omega)] at hw2
      cases i with
      | zero =>
        cases hw2
        rw [show (n1 + 6 - 0) % 6 = n1 by omega]
        exact hp.1.of (updR_n (by omega)) (updR_n (by omega)) (updR_n (by omega))
      | succ i =>
        rw [List.getElem?_cons_succ] at hw2
        have ho := hold i w2 hw2
        rw [show (n1 + 6 - (i + 1)) % 6 = (nw + 6 - i) % 6 by omega]
        have hne : (nw + 6 - i) % 6 ≠ n1 := by omega
        have hlt : (nw + 6 - i) % 6 < 6 := Nat.mod_lt _ (by decide)
        have f : ∀ z, z = 1 ∨ z = 2 ∨ z = 3 → updR τ 20 (upd (τ 20) 2 (nI (min (hs.length + 1) 6))) (22 + 4 * ((nw + 6 - i) % 6) + z) = σ (22 + 4 * ((nw + 6 - i) % 6) + z) := fun z hz => by rw [updR_n (by omega), hp.2 _ (by omega) (by omega) (by omega), updR_n (by omega)]
        exact ho.of (f 1 (by decide)) (f 2 (by decide)) (f 3 (by decide))
    · rw [updR_n (by omega), hp.2 q (by omega) (by omega) (by omega), updR_n (by omega)]
