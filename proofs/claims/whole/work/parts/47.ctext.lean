/-! The text of the class. -/
theorem i2c_n {n : Nat} (h : n < 256) : ((nI n).toUInt32 % 65536).toInt32 = nI n := by
  have : ∀ n : Fin 256, ((nI n.val).toUInt32 % 65536).toInt32 = nI n.val := by decide +kernel
  exact this ⟨n, h⟩
theorem nar_c {n : Nat} (h : n < 256) : vp_nar .char (nI n) = nI n := by
  have : ∀ n : Fin 256, vp_nar .char (nI n.val) = nI n.val := by decide +kernel
  exact this ⟨n, h⟩
def posC (σ : Mem) (p : Nat) : Mem := updR σ 50 (upd (σ 50) 2 (nI p))
theorem posC_2 {σ : Mem} {p : Nat} : posC σ p 50 2 = nI p := by unfold posC; rw [updR_s]; exact pk_us
theorem posC_i {σ : Mem} {p i : Nat} (h : i ≠ 2) : posC σ p 50 i = σ 50 i := by unfold posC; rw [updR_s, pk_un h]
theorem posC_q {σ : Mem} {p q : Nat} (h : q ≠ 50) : posC σ p q = σ q := updR_n h
theorem TxtC.pos {σ : Mem} {p : Nat} {cs : List Nat} (h : TxtC σ cs) : TxtC (posC σ p) cs := h.of (posC_i (by decide)) (posC_q (by decide))
theorem rdS {σ : Mem} {cs : List Nat} {p : Nat} (h : TxtC σ cs) (hp : p < cs.length) : σ 51 p = nI (chA cs p) := h.2 p _ (chA_get hp)
theorem hoN {i : Nat} (hi : i < 10) : objC (55 + i) = .inr (.inl (0, 7)) := by
  rcases (show i = 0 ∨ i = 1 ∨ i = 2 ∨ i = 3 ∨ i = 4 ∨ i = 5 ∨ i = 6 ∨ i = 7 ∨ i = 8 ∨ i = 9 by omega) with rfl | rfl | rfl | rfl | rfl | rfl | rfl | rfl | rfl | rfl <;> rfl
theorem jsN {i : Nat} (hi : i < 10) : [55, 56, 57, 58, 59, 60, 61, 62, 63, 64][i]? = some (55 + i) := by
  rcases (show i = 0 ∨ i = 1 ∨ i = 2 ∨ i = 3 ∨ i = 4 ∨ i = 5 ∨ i = 6 ∨ i = 7 ∨ i = 8 ∨ i = 9 by omega) with rfl | rfl | rfl | rfl | rfl | rfl | rfl | rfl | rfl | rfl <;> rfl
def TxtF (σ τ : Mem) : Prop := (∀ q, q ≠ 50 → q ≠ 51 → τ q = σ q) ∧ ∀ i, i ≠ 1 → τ 50 i = σ 50 i
def AddP (σ : Mem) (cs : List Nat) (p : Int32) : Int32 → Mem → Prop := fun r τ => ((∃ t, t < 4 ∧ badB p t) ∧ r = -2 ∧ τ = σ) ∨ ((∀ t, t < 4 → ¬ badB p t) ∧ 60 < cs.length + (nzB p 4).length ∧ r = -3 ∧ τ = σ) ∨ ((∀ t, t < 4 → ¬ badB p t) ∧ cs.length + (nzB p 4).length ≤ 60 ∧ r = nI (cs.length + (nzB p 4).length) ∧ TxtC τ (cs ++ nzB p 4) ∧ TxtF σ τ)
set_option maxHeartbeats 4000000 in
set_option maxRecDepth 100000 in
theorem k_X1_add {σ : Mem} {cs : List Nat} (hX : TxtC σ cs) (hcl : cs.length ≤ 60) (p : Int32) : CtI objC NC yX1_add cX1_add 5 .int 0 0 [.ref 50, .int p] σ (AddP σ cs p) := by
  refine ct_ofI rfl ?_ (Nat.le_of_ble_eq_true rfl) (fun X C hr => ?_)
  · intro v hv; simp only [List.mem_cons, List.not_mem_nil, or_false] at hv; rcases hv with rfl | rfl <;> rfl
  · have L : ∀ (n : Nat) (t : Nat) (m : Nat) (v4 : Option Value), (t + n = 4) → (m = (nzB p t).length) → (∀ j, j < t → ¬ badB p j) → Go objC NC X 5 [some (.ref 50), some (.int p), some (.int (nI m)), some (.int (kv t)), v4] [] σ := by
      intro n
      induction n using Nat.strongRecOn with
      | _ n ih =>
        intro t m v4 hi hm hnb
        refine go_iload_n C dX1_add_5 rfl ?_
        refine go_if_lt C 59 dX1_add_6 (by decide) (fun h6 => ?_) (fun h6 => ?_)
        · obtain rfl : t = 4 := (kv_lt (by omega)).mp h6
          have hm4 := nzB_le (p := p) 4
          refine go_aload_n C dX1_add_59 rfl ?_
          refine go_getI C gf_X1_15 dX1_add_60 (by decide) rfl rfl ?_
          refine go_top (nI cs.length) hX.1 ?_
          refine go_iload_n C dX1_add_63 rfl ?_
          refine go_iaddN C dX1_add_64 ?_
          refine go_bipush C (nI 60) dX1_add_65 rfl ?_
          refine go_icmp_leN C 73 dX1_add_67 (by decide) (by omega) (by omega) (fun h67 => ?_) (fun h67 => ?_)
          · rw [hm] at h67
            refine go_bipush C (nI 24) dX1_add_73 rfl ?_
            refine go_istore_n C dX1_add_75 (by decide) rfl rfl ?_
            have E : ∀ (n : Nat) (t : Nat) (v4 : Option Value) (ρ : Mem), (t + n = 4) → (ρ 50 1 = nI (cs.length + (nzB p t).length)) → (∀ i ch, (cs ++ nzB p t)[i]? = some ch → ρ 51 i = nI ch) → (TxtF σ ρ) → Go objC NC X 76 [some (.ref 50), some (.int p), some (.int (nI m)), some (.int (kv t)), v4] [] ρ := by
              intro n
              induction n using Nat.strongRecOn with
              | _ n ih =>
                intro t v4 ρ hi hl hc hF
                refine go_iload_n C dX1_add_76 rfl ?_
                refine go_if_lt C 131 dX1_add_77 (by decide) (fun h77 => ?_) (fun h77 => ?_)
                · obtain rfl : t = 4 := (kv_lt (by omega)).mp h77
                  refine go_aload_n C dX1_add_131 rfl ?_
                  refine go_getI C gf_X1_15 dX1_add_132 (by decide) rfl rfl ?_
                  refine go_top _ hl ?_
                  refine go_iret hr dX1_add_135 rfl ?_
                  exact Or.inr (Or.inr ⟨hnb, h67, rfl, ⟨by rw [hl, List.length_append], hc⟩, hF⟩)
                · have ht : t < 4 := Nat.lt_of_le_of_ne (by omega) (fun q => h77 ((kv_lt (by omega)).mpr q))
                  have hb := byt_lt p t
                  have hmo := nzB_mono (p := p) (t := t + 1) (4 - (t + 1))
                  rw [show t + 1 + (4 - (t + 1)) = 4 by omega] at hmo
                  refine go_iload_n C dX1_add_80 rfl ?_
                  refine go_iload_n C dX1_add_81 rfl ?_
                  refine go_iushr C _ dX1_add_82 rfl ?_
                  refine go_sipush C (nI 255) dX1_add_83 rfl ?_
                  refine go_iand C dX1_add_86 ?_
                  refine go_top _ (byt_eq p t) ?_
                  refine go_istore C dX1_add_87 (by decide) rfl rfl ?_
                  refine go_iload C dX1_add_89 rfl ?_
                  refine go_if_eqN C 125 dX1_add_91 (by decide) (by omega) (fun h91 => ?_) (fun h91 => ?_)
                  · have hz := nzB_0 h91
                    refine go_iinc C (kv (t + 1)) dX1_add_125 rfl (kv_inc ht) (by decide) rfl rfl ?_
                    refine go_goto C 76 dX1_add_128 (by decide) ?_
                    exact ih (n - 1) (by omega) (t + 1) _ ρ (by omega) (by rw [hz]; exact hl) (by rw [hz]; exact hc) hF
                  · have hz := nzB_1 h91
                    have hz2 := nzB_l1 h91
                    refine go_aload_n C dX1_add_94 rfl ?_
                    refine go_getI C gf_X1_15 dX1_add_95 (by decide) rfl rfl ?_
                    refine go_top _ hl ?_
                    refine go_bipush C (nI 60) dX1_add_98 rfl ?_
                    refine go_icmp_geN C 125 dX1_add_100 (by decide) (by omega) (by omega) (fun h100 => ?_) (fun h100 => ?_)
                    · exact absurd h100 (by omega)
                    · refine go_aload_n C dX1_add_103 rfl ?_
                      refine go_getR C gf_X1_11 dX1_add_104 (by decide) rfl rfl ?_
                      refine go_aload_n C dX1_add_107 rfl ?_
                      refine go_getI C gf_X1_15 dX1_add_108 (by decide) rfl rfl ?_
                      refine go_top _ hl ?_
                      refine go_iload C dX1_add_111 rfl ?_
                      refine go_i2c C _ dX1_add_113 (i2c_n hb) ?_
                      refine go_castN C dX1_add_114 (by decide) rfl (by decide) (by omega) ?_
                      refine go_aload_n C dX1_add_115 rfl ?_
                      refine go_dup C dX1_add_116 rfl ?_
                      refine go_getI C gf_X1_15 dX1_add_117 (by decide) rfl rfl ?_
                      refine go_top (nI (cs.length + (nzB p t).length)) (by rw [updR_n (by decide)]; exact hl) ?_
                      refine go_iconst C (nI 1) dX1_add_120 rfl ?_
                      refine go_iaddN C dX1_add_121 ?_
                      refine go_putI C gf_X1_15 dX1_add_122 (by decide) rfl rfl rfl rfl rfl ?_
                      refine go_iinc C (kv (t + 1)) dX1_add_125 rfl (kv_inc ht) (by decide) rfl rfl ?_
                      refine go_goto C 76 dX1_add_128 (by decide) ?_
                      exact ih (n - 1) (by omega) (t + 1) _ _ (by omega) (by rw [updR_s, pk_us, hz2]; rfl) (fun i ch hi2 => by
                        rw [updR_n (by decide), updR_s, nar_c hb]
                        rw [hz, ← List.append_assoc] at hi2
                        by_cases e : i = (cs ++ nzB p t).length
                        · rw [e, List.getElem?_concat_length] at hi2
                          cases hi2
                          rw [e, List.length_append]; exact pk_us
                        · have hlt := (List.getElem?_eq_some_iff.mp hi2).1
                          rw [List.length_append, List.length_singleton] at hlt
                          rw [List.getElem?_append_left (by omega)] at hi2
                          rw [List.length_append] at e
                          rw [pk_un e]; exact hc i ch hi2) ⟨fun q a b => by rw [updR_n a, updR_n b]; exact hF.1 q a b, fun j hj => by rw [updR_s, pk_un hj, updR_n (by decide)]; exact hF.2 j hj⟩
            exact E 4 0 _ σ (by omega) (by rw [hX.1]; rfl) (fun i ch h => hX.2 i ch (by rw [show cs ++ nzB p 0 = cs from List.append_nil cs] at h; exact h)) ⟨fun _ _ _ => rfl, fun _ _ => rfl⟩
          · refine go_bipush C (-3) dX1_add_70 rfl ?_
            refine go_iret hr dX1_add_72 rfl ?_
            exact Or.inr (Or.inl ⟨hnb, by omega, rfl, rfl⟩)
        · have ht : t < 4 := Nat.lt_of_le_of_ne (by omega) (fun q => h6 ((kv_lt (by omega)).mpr q))
          have hb := byt_lt p t
          have hml := nzB_le (p := p) t
          refine go_iload_n C dX1_add_9 rfl ?_
          refine go_iload_n C dX1_add_10 rfl ?_
          refine go_iushr C _ dX1_add_11 rfl ?_
          refine go_sipush C (nI 255) dX1_add_12 rfl ?_
          refine go_iand C dX1_add_15 ?_
          refine go_top _ (byt_eq p t) ?_
          refine go_istore C dX1_add_16 (by decide) rfl rfl ?_
          refine go_iload C dX1_add_18 rfl ?_
          refine go_if_eqN C 40 dX1_add_20 (by decide) (by omega) (fun h20 => ?_) (fun h20 => ?_)
          · refine go_iload_n C dX1_add_40 rfl ?_
            refine go_iload C dX1_add_41 rfl ?_
            refine go_if_eqN C 50 dX1_add_43 (by decide) (by omega) (fun h43 => ?_) (fun h43 => ?_)
            · have hz := nzB_0 h43
              refine go_iconst C (nI 0) dX1_add_50 rfl ?_
              refine go_iaddN C dX1_add_51 ?_
              refine go_istore_n C dX1_add_52 (by decide) rfl rfl ?_
              refine go_iinc C (kv (t + 1)) dX1_add_53 rfl (kv_inc ht) (by decide) rfl rfl ?_
              refine go_goto C 5 dX1_add_56 (by decide) ?_
              exact ih (n - 1) (by omega) (t + 1) _ _ (by omega) (by rw [hz]; omega) (fun j hj => by
                rcases Nat.lt_or_ge j t with q | q
                · exact hnb j q
                · rw [show j = t by omega]
                  unfold badB
                  omega)
            · exact absurd h20 h43
          · refine go_iload C dX1_add_23 rfl ?_
            refine go_bipush C (nI 33) dX1_add_25 rfl ?_
            refine go_icmp_ltN C 37 dX1_add_27 (by decide) (by omega) (by omega) (fun h27 => ?_) (fun h27 => ?_)
            · refine go_bipush C (-2) dX1_add_37 rfl ?_
              refine go_iret hr dX1_add_39 rfl ?_
              exact Or.inl ⟨⟨t, ht, by unfold badB; omega⟩, rfl, rfl⟩
            · refine go_iload C dX1_add_30 rfl ?_
              refine go_bipush C (nI 126) dX1_add_32 rfl ?_
              refine go_icmp_leN C 40 dX1_add_34 (by decide) (by omega) (by omega) (fun h34 => ?_) (fun h34 => ?_)
              · refine go_iload_n C dX1_add_40 rfl ?_
                refine go_iload C dX1_add_41 rfl ?_
                refine go_if_eqN C 50 dX1_add_43 (by decide) (by omega) (fun h43 => ?_) (fun h43 => ?_)
                · exact absurd h43 h20
                · have hz := nzB_l1 h43
                  refine go_iconst C (nI 1) dX1_add_46 rfl ?_
                  refine go_goto C 51 dX1_add_47 (by decide) ?_
                  refine go_iaddN C dX1_add_51 ?_
                  refine go_istore_n C dX1_add_52 (by decide) rfl rfl ?_
                  refine go_iinc C (kv (t + 1)) dX1_add_53 rfl (kv_inc ht) (by decide) rfl rfl ?_
                  refine go_goto C 5 dX1_add_56 (by decide) ?_
                  exact ih (n - 1) (by omega) (t + 1) _ _ (by omega) (by rw [hz]; omega) (fun j hj => by
                    rcases Nat.lt_or_ge j t with q | q
                    · exact hnb j q
                    · rw [show j = t by omega]
                      unfold badB
                      omega)
              · refine go_bipush C (-2) dX1_add_37 rfl ?_
                refine go_iret hr dX1_add_39 rfl ?_
                exact Or.inl ⟨⟨t, ht, by unfold badB; omega⟩, rfl, rfl⟩
    refine go_iconst C (nI 0) dX1_add_0 rfl ?_
    refine go_istore_n C dX1_add_1 (by decide) rfl rfl ?_
    refine go_bipush C (nI 24) dX1_add_2 rfl ?_
    refine go_istore_n C dX1_add_4 (by decide) rfl rfl ?_
    exact L 4 0 0 _ (by omega) rfl (fun j h => absurd h (Nat.not_lt_zero _))
theorem RepC.tx {σ τ : Mem} {S : St} {x : List Nat} {f : Int32} (h : RepC σ S) (hx : x.length ≤ 60 ∧ ∀ ch, ch ∈ x → 33 ≤ ch ∧ ch < 127) (hX : TxtC τ x) (hf : ∀ q, q < 50 → q ≠ 0 → τ q = σ q) (h0 : ∀ i, i ≠ 12 → τ 0 i = σ 0 i) (hF : τ 0 12 = f) : RepC τ (stX S x f) := by
  obtain ⟨h1, h2, h3, h4, h5, h6, h7, h8, h9⟩ := h
  exact ⟨⟨h1.1, h1.2.1, h1.2.2.1, h1.2.2.2.1, h1.2.2.2.2.1, hx⟩, h2.of (hf 2 (by decide) (by decide)) (hf 3 (by decide) (by decide)) (hf 4 (by decide) (by decide)), fun c hc j hj => by rw [hf (6 + c) (by omega) (by omega)]; exact h3 c hc j hj, ⟨fun j hj => by rw [hf 16 (by decide) (by decide)]; exact h4.1 j hj, by rw [h0 6 (by decide)]; exact h4.2⟩,
    h5.of (hf 17 (by decide) (by decide)) (hf 18 (by decide) (by decide)) (hf 19 (by decide) (by decide)), h6.of (fun q a b => hf q (by omega) (by omega)), h7.of (h0 10 (by decide)) (fun q a b => hf q (by omega) (by omega)), hX, hF⟩
theorem nzB_all {S : St} {p : Int32} (hS : OkS S) (hb : ∀ t, t < 4 → ¬ badB p t) (hl : (sX S).length + (nzB p 4).length ≤ 60) : (sX S ++ nzB p 4).length ≤ 60 ∧ ∀ ch, ch ∈ sX S ++ nzB p 4 → 33 ≤ ch ∧ ch < 127 := ⟨by rw [List.length_append]; exact hl, fun ch h => by
  rcases List.mem_append.mp h with q | q
  · exact hS.2.2.2.2.2.2 ch q
  · exact nzB_mem 4 hb ch q⟩
set_option maxHeartbeats 4000000 in
set_option maxRecDepth 100000 in
theorem k_X6_append {σ : Mem} {S : St} (hR : RepC σ S) (p : Int32) : CtI objC NC yX6_append cX6_append 2 .int 1 24 [.ref 0, .int p] σ (RQ (oApp S p).1 (oApp S p).2) := by
  obtain ⟨hS, hW, hL, hEf, hB, hH, hSv, hX, hFt⟩ := id hR
  have hO := hS.1
  have hOL := hS.2.1
  refine ct_ofI rfl ?_ (Nat.le_of_ble_eq_true rfl) (fun X C hr => ?_)
  · intro v hv; simp only [List.mem_cons, List.not_mem_nil, or_false] at hv; rcases hv with rfl | rfl <;> rfl
  · refine go_aload_n C dX6_append_0 rfl ?_
    refine go_getR C gf_X6_67 dX6_append_1 (by decide) rfl rfl ?_
    refine go_iload_n C dX6_append_4 rfl ?_
    refine go_V1I C ok_X1_add lk_X6_134 dX6_append_5 (by decide) rfl rfl rfl (k_X1_add hX hS.2.2.2.2.2.1 p) (by decide) (Nat.le_of_ble_eq_true rfl) (fun r τ hp => ?_)
    refine go_iret hr dX6_append_8 rfl ?_
    unfold oApp
    rcases hp with ⟨a, b, c⟩ | ⟨a, b, c, d⟩ | ⟨a, b, c, d, e⟩
    · rw [iP_t a]; exact ⟨b, by rw [c]; exact hR⟩
    · rw [iP_f (fun ⟨t, z1, z2⟩ => a t z1 z2), iP_t b]; exact ⟨c, by rw [d]; exact hR⟩
    · rw [iP_f (fun ⟨t, z1, z2⟩ => a t z1 z2), iP_f (by omega)]
      exact ⟨c, hR.tx (nzB_all hS a b) d (fun q q1 q2 => e.1 q (by omega) (by omega)) (fun i hi => by rw [e.1 0 (by decide) (by decide)]) ((congrFun (e.1 0 (by decide) (by decide)) 12).trans hFt)⟩
set_option maxHeartbeats 4000000 in
set_option maxRecDepth 100000 in
theorem k_X1_isDigitNext {σ : Mem} {cs : List Nat} (hX : TxtC σ cs) (hcl : cs.length ≤ 60) (hch : ∀ ch, ch ∈ cs → 33 ≤ ch ∧ ch < 127) {p : Nat} (hp : σ 50 2 = nI p) (hpl : p ≤ 60) : CtI objC NC yX1_isDigitNext cX1_isDigitNext 1 .boolean 0 0 [.ref 50] σ (Pv (bP (isD (chA cs p))) σ) := by
  refine ct_ofI rfl ?_ (Nat.le_of_ble_eq_true rfl) (fun X C hr => ?_)
  · intro v hv; simp only [List.mem_cons, List.not_mem_nil, or_false] at hv; rcases hv with rfl <;> rfl
  · refine go_aload_n C dX1_isDigitNext_0 rfl ?_
    refine go_getI C gf_X1_19 dX1_isDigitNext_1 (by decide) rfl rfl ?_
    refine go_top _ hp ?_
    refine go_aload_n C dX1_isDigitNext_4 rfl ?_
    refine go_getI C gf_X1_15 dX1_isDigitNext_5 (by decide) rfl rfl ?_
    refine go_top (nI cs.length) hX.1 ?_
    refine go_icmp_geN C 43 dX1_isDigitNext_8 (by decide) (by omega) (by omega) (fun h8 => ?_) (fun h8 => ?_)
    · have hz : chA cs p = 0 := chA_ge (by omega)
      refine go_iconst C (nI 0) dX1_isDigitNext_43 rfl ?_
      refine go_iret hr dX1_isDigitNext_44 rfl ?_
      first | exact ⟨bP_t ⟨by omega, by omega⟩, rfl⟩ | exact ⟨bP_f (by rintro ⟨q1, q2⟩; omega), rfl⟩
    · have hb := chA_b hch p
      refine go_aload_n C dX1_isDigitNext_11 rfl ?_
      refine go_getR C gf_X1_11 dX1_isDigitNext_12 (by decide) rfl rfl ?_
      refine go_aload_n C dX1_isDigitNext_15 rfl ?_
      refine go_getI C gf_X1_19 dX1_isDigitNext_16 (by decide) rfl rfl ?_
      refine go_top _ hp ?_
      refine go_caldN C dX1_isDigitNext_19 (by decide) rfl (by decide) (by omega) ?_
      refine go_top _ (rdS hX (by omega)) ?_
      refine go_bipush C (nI 48) dX1_isDigitNext_20 rfl ?_
      refine go_icmp_ltN C 43 dX1_isDigitNext_22 (by decide) (by omega) (by omega) (fun h22 => ?_) (fun h22 => ?_)
      · refine go_iconst C (nI 0) dX1_isDigitNext_43 rfl ?_
        refine go_iret hr dX1_isDigitNext_44 rfl ?_
        first | exact ⟨bP_t ⟨by omega, by omega⟩, rfl⟩ | exact ⟨bP_f (by rintro ⟨q1, q2⟩; omega), rfl⟩
      · refine go_aload_n C dX1_isDigitNext_25 rfl ?_
        refine go_getR C gf_X1_11 dX1_isDigitNext_26 (by decide) rfl rfl ?_
        refine go_aload_n C dX1_isDigitNext_29 rfl ?_
        refine go_getI C gf_X1_19 dX1_isDigitNext_30 (by decide) rfl rfl ?_
        refine go_top _ hp ?_
        refine go_caldN C dX1_isDigitNext_33 (by decide) rfl (by decide) (by omega) ?_
        refine go_top _ (rdS hX (by omega)) ?_
        refine go_bipush C (nI 57) dX1_isDigitNext_34 rfl ?_
        refine go_icmp_gtN C 43 dX1_isDigitNext_36 (by decide) (by omega) (by omega) (fun h36 => ?_) (fun h36 => ?_)
        · refine go_iconst C (nI 0) dX1_isDigitNext_43 rfl ?_
          refine go_iret hr dX1_isDigitNext_44 rfl ?_
          first | exact ⟨bP_t ⟨by omega, by omega⟩, rfl⟩ | exact ⟨bP_f (by rintro ⟨q1, q2⟩; omega), rfl⟩
        · refine go_iconst C (nI 1) dX1_isDigitNext_39 rfl ?_
          refine go_goto C 44 dX1_isDigitNext_40 (by decide) ?_
          refine go_iret hr dX1_isDigitNext_44 rfl ?_
          first | exact ⟨bP_t ⟨by omega, by omega⟩, rfl⟩ | exact ⟨bP_f (by rintro ⟨q1, q2⟩; omega), rfl⟩
def SkP (σ : Mem) (cs : List Nat) (p c : Nat) : Int32 → Mem → Prop := fun r τ => r = bP (chA cs p = c) ∧ (chA cs p = c → τ = posC σ (p + 1)) ∧ (chA cs p ≠ c → τ = σ)
set_option maxHeartbeats 4000000 in
set_option maxRecDepth 100000 in
theorem k_X1_skip {σ : Mem} {cs : List Nat} (hX : TxtC σ cs) (hcl : cs.length ≤ 60) (hch : ∀ ch, ch ∈ cs → 33 ≤ ch ∧ ch < 127) {p : Nat} (hp : σ 50 2 = nI p) (hpl : p ≤ 60) {c : Nat} (hc : 0 < c ∧ c < 128) : CtI objC NC yX1_skip cX1_skip 2 .boolean 0 0 [.ref 50, .int (nI c)] σ (SkP σ cs p c) := by
  refine ct_ofI rfl ?_ (Nat.le_of_ble_eq_true rfl) (fun X C hr => ?_)
  · intro v hv; simp only [List.mem_cons, List.not_mem_nil, or_false] at hv; rcases hv with rfl | rfl <;> rfl
  · refine go_aload_n C dX1_skip_0 rfl ?_
    refine go_getI C gf_X1_19 dX1_skip_1 (by decide) rfl rfl ?_
    refine go_top _ hp ?_
    refine go_aload_n C dX1_skip_4 rfl ?_
    refine go_getI C gf_X1_15 dX1_skip_5 (by decide) rfl rfl ?_
    refine go_top (nI cs.length) hX.1 ?_
    refine go_icmp_geN C 24 dX1_skip_8 (by decide) (by omega) (by omega) (fun h8 => ?_) (fun h8 => ?_)
    · have hz : chA cs p = 0 := chA_ge (by omega)
      have hn : ¬ chA cs p = c := by omega
      refine go_iconst C (nI 0) dX1_skip_24 rfl ?_
      refine go_iret hr dX1_skip_25 rfl ?_
      exact ⟨bP_f hn, fun z => absurd z hn, fun _ => rfl⟩
    · have hb := chA_b hch p
      refine go_aload_n C dX1_skip_11 rfl ?_
      refine go_getR C gf_X1_11 dX1_skip_12 (by decide) rfl rfl ?_
      refine go_aload_n C dX1_skip_15 rfl ?_
      refine go_getI C gf_X1_19 dX1_skip_16 (by decide) rfl rfl ?_
      refine go_top _ hp ?_
      refine go_caldN C dX1_skip_19 (by decide) rfl (by decide) (by omega) ?_
      refine go_top _ (rdS hX (by omega)) ?_
      refine go_iload_n C dX1_skip_20 rfl ?_
      refine go_icmp_eqN C 26 dX1_skip_21 (by decide) (by omega) (by omega) (fun h21 => ?_) (fun h21 => ?_)
      · refine go_aload_n C dX1_skip_26 rfl ?_
        refine go_dup C dX1_skip_27 rfl ?_
        refine go_getI C gf_X1_19 dX1_skip_28 (by decide) rfl rfl ?_
        refine go_top _ hp ?_
        refine go_iconst C (nI 1) dX1_skip_31 rfl ?_
        refine go_iaddN C dX1_skip_32 ?_
        refine go_putI C gf_X1_19 dX1_skip_33 (by decide) rfl rfl rfl rfl rfl ?_
        refine go_iconst C (nI 1) dX1_skip_36 rfl ?_
        refine go_iret hr dX1_skip_37 rfl ?_
        exact ⟨bP_t h21, fun _ => rfl, fun z => absurd h21 z⟩
      · have hn : ¬ chA cs p = c := h21
        refine go_iconst C (nI 0) dX1_skip_24 rfl ?_
        refine go_iret hr dX1_skip_25 rfl ?_
        exact ⟨bP_f hn, fun z => absurd z hn, fun _ => rfl⟩
