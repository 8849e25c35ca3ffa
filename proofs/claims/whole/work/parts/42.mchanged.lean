theorem bP_o1 {P : Prop} : bP P ||| nI 1 = nI 1 := by
  by_cases h : P
  · rw [← bP_t h]; decide
  · rw [← bP_f h]; decide
theorem bP_o0 {P : Prop} : bP P ||| nI 0 = bP P := by
  by_cases h : P
  · rw [← bP_t h]; decide
  · rw [← bP_f h]; decide
theorem bP_vn {P : Prop} : vp_nar .boolean (bP P) = bP P := by
  by_cases h : P
  · rw [← bP_t h]; rfl
  · rw [← bP_f h]; rfl
def FrC (σ τ : Mem) : Prop := ∀ q, q ≠ 4 → q ≠ 5 → q ≠ 6 → τ q = σ q
def ChgP (σ : Mem) (L : Nat → Nat → Nat) (v : Wd) : Int32 → Mem → Prop := fun r τ => r = nI (cnt (fun j => ∃ c, c < 4 ∧ L c j ≠ lit v c j) 1152) ∧ OkL v ∧ LitM τ (lit v) ∧ EffM τ (fun j => ∃ c, c < 4 ∧ L c j ≠ lit v c j) ∧ FrC σ τ
theorem View.of0 {τ : Mem} {w : Wd} (hM : HasM τ 1 0 w) (hoc : τ 0 8 = -1) : View τ w 1152 1152 0 :=
  ⟨fun k hk => ⟨fun q => absurd (q.trans hoc) (oI_ne (by omega)), fun q => absurd q (by omega)⟩, fun k hk _ => by have := hM.1 k hk; rw [Nat.zero_add] at this; exact this, fun k hk q => absurd q (by omega), fun j hj => by have := hM.2.1 j hj; rw [Nat.zero_add] at this; exact this, fun j hj => by have := hM.2.2 j hj; rw [Nat.zero_add] at this; exact this, Or.inl ⟨Nat.le_refl _, Nat.le_refl _⟩⟩
set_option maxHeartbeats 4000000 in
set_option maxRecDepth 100000 in
theorem k_X7_changed {σ : Mem} {L : Nat → Nat → Nat} {v : Wd} (hO : OkW v) (hM : HasM σ 1 0 v) (hoc : σ 0 8 = -1) (hL : LitM σ L) (hLb : ∀ c, c < 4 → ∀ j, j < 1152 → L c j < 16) : CtI objM NM yX7_changed cX7_changed 3 .int 5 116 [.ref 0] σ (ChgP σ L v) := by
  have hV := View.of0 hM hoc
  refine ct_ofI rfl ?_ (Nat.le_of_ble_eq_true rfl) (fun X C hr => ?_)
  · intro v hv; simp only [List.mem_cons, List.not_mem_nil, or_false] at hv; rcases hv with rfl <;> rfl
  · have L1 : ∀ (n : Nat) (c : Nat) (v2 : Option Value) (ρ : Mem), (c + n = 4) → (∀ d, d < c → IsLit (srcQ v d 1152 0) (lossN v d) (lit v d)) → (∀ d, d < 4 → ∀ j, j < 1152 → ρ 4 (1152 * d + j) = nI (if d < c then lit v d j else L d j)) → (∀ j, j < 1152 → ρ 5 j = bP (∃ d, d < c ∧ L d j ≠ lit v d j)) → (FrC σ ρ) → Go objM NM X 24 [some (.ref 0), some (.int (nI c)), v2] [] ρ := by
      intro n
      induction n using Nat.strongRecOn with
      | _ n ih =>
        intro c v2 ρ hi hOL hp he hF1
        have hV1 : View ρ v 1152 1152 0 := hV.of (hF1 0 (by decide) (by decide) (by decide)) (hF1 1 (by decide) (by decide) (by decide))
        refine go_iload_n C dX7_changed_24 rfl ?_
        refine go_iconst C (nI 4) dX7_changed_25 rfl ?_
        refine go_icmp_geN C 108 dX7_changed_26 (by decide) (by omega) (by omega) (fun h26 => ?_) (fun h26 => ?_)
        · obtain rfl : c = 4 := by omega
          refine go_aload_n C dX7_changed_108 rfl ?_
          refine go_V0P C ok_X7_effectMany lk_X7_116 dX7_changed_109 (by decide) rfl rfl rfl (k_X7_effectMany (E := fun j => ∃ d, d < 4 ∧ L d j ≠ lit v d j) he) (by decide) (Nat.le_of_ble_eq_true rfl) ?_
          refine go_iret hr dX7_changed_112 rfl ?_
          exact ⟨rfl, hOL, fun d hd j hj => by rw [hp d hd j hj, if_pos hd], he, hF1⟩
        · have hc : c < 4 := by omega
          refine go_aload_n C dX7_changed_29 rfl ?_
          refine go_iload_n C dX7_changed_30 rfl ?_
          refine go_V1V C ok_X7_lay lk_X7_109 dX7_changed_31 (by decide) rfl rfl rfl (k_X7_lay hO hV1 (by decide) hc) (by decide) (Nat.le_of_ble_eq_true rfl) (fun τ hlay => ?_)
          have hlv : ∀ j, j < 1152 → lit v c j < 16 := fun j hj => by have := (hlay.2.1.1 j hj).2; show litQ v c 1152 0 j < 16; omega
          have K : ∀ (n2 : Nat) (k : Nat) (ρ2 : Mem), (k + n2 = 1152) → (∀ d, d < 4 → ∀ j, j < 1152 → ρ2 4 (1152 * d + j) = nI (if d < c ∨ (d = c ∧ j < k) then lit v d j else L d j)) → (∀ j, j < 1152 → ρ2 5 j = bP (∃ d, (d < c ∨ (d = c ∧ j < k)) ∧ L d j ≠ lit v d j)) → (∀ j, j < 1152 → ρ2 6 j = nI (lit v c j)) → (FrC σ ρ2) → Go objM NM X 36 [some (.ref 0), some (.int (nI c)), some (.int (nI k))] [] ρ2 := by
            intro n2
            induction n2 using Nat.strongRecOn with
            | _ n2 ih2 =>
              intro k ρ2 hk hp2 he2 hla hF2
              refine go_iload_n C dX7_changed_36 rfl ?_
              refine go_sipush C (nI 1152) dX7_changed_37 rfl ?_
              refine go_icmp_geN C 102 dX7_changed_40 (by decide) (by omega) (by omega) (fun h40 => ?_) (fun h40 => ?_)
              · obtain rfl : k = 1152 := by omega
                refine go_iincN C 1 dX7_changed_102 rfl rfl (by decide) rfl rfl ?_
                refine go_goto C 24 dX7_changed_105 (by decide) ?_
                exact ih (n - 1) (by omega) (c + 1) _ ρ2 (by omega) (fun d hd => by
                  rcases Nat.lt_or_ge d c with z | z
                  · exact hOL d z
                  · obtain rfl : d = c := by omega
                    exact hlay.2.1) (fun d hd j hj => by
                  rw [hp2 d hd j hj]
                  refine congrArg nI ?_
                  by_cases z : d < c ∨ (d = c ∧ j < 1152)
                  · rw [if_pos z, if_pos (by omega)]
                  · rw [if_neg z, if_neg (by omega)]) (fun j hj => by
                  rw [he2 j hj]
                  exact bP_c ⟨fun ⟨d, z1, z2⟩ => ⟨d, by omega, z2⟩, fun ⟨d, z1, z2⟩ => ⟨d, by omega, z2⟩⟩) hF2
              · have hkl : k < 1152 := by omega
                have h1 := hLb c hc k hkl
                have h2 := hlv k hkl
                have hcur : ρ2 4 (1152 * c + k) = nI (L c k) := by rw [hp2 c hc k hkl, if_neg (by omega)]
                refine go_aload_n C dX7_changed_43 rfl ?_
                refine go_getR C gf_X7_22 dX7_changed_44 (by decide) rfl rfl ?_
                refine go_iload_n C dX7_changed_47 rfl ?_
                refine go_dup2 C dX7_changed_48 rfl rfl ?_
                refine go_zaldN C dX7_changed_49 (by decide) rfl (by decide) (by omega) ?_
                refine go_top _ (he2 k hkl) ?_
                refine go_aload_n C dX7_changed_50 rfl ?_
                refine go_getR C gf_X7_19 dX7_changed_51 (by decide) rfl rfl ?_
                refine go_sipush C (nI 1152) dX7_changed_54 rfl ?_
                refine go_iload_n C dX7_changed_57 rfl ?_
                refine go_imulN C dX7_changed_58 ?_
                refine go_iload_n C dX7_changed_59 rfl ?_
                refine go_iaddN C dX7_changed_60 ?_
                refine go_ialdN C dX7_changed_61 (by decide) rfl (by decide) (by omega) ?_
                refine go_top _ hcur ?_
                refine go_aload_n C dX7_changed_62 rfl ?_
                refine go_getR C gf_X7_26 dX7_changed_63 (by decide) rfl rfl ?_
                refine go_iload_n C dX7_changed_66 rfl ?_
                refine go_ialdN C dX7_changed_67 (by decide) rfl (by decide) (by omega) ?_
                refine go_top _ (hla k hkl) ?_
                refine go_icmp_eqN C 75 dX7_changed_68 (by decide) (by omega) (by omega) (fun h68 => ?_) (fun h68 => ?_)
                · have e3 : bP (∃ d, (d < c ∨ (d = c ∧ k < k)) ∧ L d k ≠ lit v d k) ||| nI 0 = bP (∃ d, (d < c ∨ (d = c ∧ k < k + 1)) ∧ L d k ≠ lit v d k) := by
                    rw [bP_o0]
                    exact bP_c ⟨fun ⟨d, z1, z2⟩ => ⟨d, by omega, z2⟩, fun ⟨d, z1, z2⟩ => ⟨d, Or.inl (by
                      rcases z1 with z | z
                      · exact z
                      · exact absurd (by rw [z.1]; exact h68) z2), z2⟩⟩
                  refine go_iconst C (nI 0) dX7_changed_75 rfl ?_
                  refine go_ior C dX7_changed_76 ?_
                  rw [e3]
                  refine go_zastN C dX7_changed_77 (by decide) rfl (by decide) (by omega) ?_
                  refine go_aload_n C dX7_changed_78 rfl ?_
                  refine go_getR C gf_X7_19 dX7_changed_79 (by decide) rfl rfl ?_
                  refine go_sipush C (nI 1152) dX7_changed_82 rfl ?_
                  refine go_iload_n C dX7_changed_85 rfl ?_
                  refine go_imulN C dX7_changed_86 ?_
                  refine go_iload_n C dX7_changed_87 rfl ?_
                  refine go_iaddN C dX7_changed_88 ?_
                  refine go_aload_n C dX7_changed_89 rfl ?_
                  refine go_getR C gf_X7_26 dX7_changed_90 (by decide) rfl rfl ?_
                  refine go_iload_n C dX7_changed_93 rfl ?_
                  refine go_ialdN C dX7_changed_94 (by decide) rfl (by decide) (by omega) ?_
                  refine go_top (nI (lit v c k)) (by rw [updR_n (by decide)]; exact hla k hkl) ?_
                  refine go_iastN C dX7_changed_95 (by decide) rfl (by decide) (by omega) ?_
                  refine go_iincN C 1 dX7_changed_96 rfl rfl (by decide) rfl rfl ?_
                  refine go_goto C 36 dX7_changed_99 (by decide) ?_
                  exact ih2 (n2 - 1) (by omega) (k + 1) _ (by omega) (fun d hd j hj => by
                    show upd (ρ2 4) (1152 * c + k) (nI (lit v c k)) (1152 * d + j) = _
                    by_cases e : d = c ∧ j = k
                    · obtain ⟨e1, e4⟩ := e; subst e1; subst e4; rw [pk_us, if_pos (Or.inr ⟨rfl, Nat.lt_succ_self _⟩)]
                    · rw [pk_un (by omega), hp2 d hd j hj]
                      refine congrArg nI ?_
                      by_cases z : d < c ∨ (d = c ∧ j < k)
                      · rw [if_pos z, if_pos (by omega)]
                      · rw [if_neg z, if_neg (by omega)]) (fun j hj => by
                    show upd (ρ2 5) k (vp_nar .boolean (bP _)) j = _
                    by_cases e : j = k
                    · subst e; rw [pk_us, bP_vn]
                    · rw [pk_un e, he2 j hj]
                      exact bP_c ⟨fun ⟨d, z1, z2⟩ => ⟨d, by omega, z2⟩, fun ⟨d, z1, z2⟩ => ⟨d, by omega, z2⟩⟩) (fun j hj => by rw [updR_n (by decide), updR_n (by decide)]; exact hla j hj) (fun q a b d => by rw [updR_n a, updR_n b]; exact hF2 q a b d)
                · have e3 : bP (∃ d, (d < c ∨ (d = c ∧ k < k)) ∧ L d k ≠ lit v d k) ||| nI 1 = bP (∃ d, (d < c ∨ (d = c ∧ k < k + 1)) ∧ L d k ≠ lit v d k) := by
                    rw [bP_o1]
                    exact bP_t ⟨c, Or.inr ⟨rfl, Nat.lt_succ_self k⟩, h68⟩
                  refine go_iconst C (nI 1) dX7_changed_71 rfl ?_
                  refine go_goto C 76 dX7_changed_72 (by decide) ?_
                  refine go_ior C dX7_changed_76 ?_
                  rw [e3]
                  refine go_zastN C dX7_changed_77 (by decide) rfl (by decide) (by omega) ?_
                  refine go_aload_n C dX7_changed_78 rfl ?_
                  refine go_getR C gf_X7_19 dX7_changed_79 (by decide) rfl rfl ?_
                  refine go_sipush C (nI 1152) dX7_changed_82 rfl ?_
                  refine go_iload_n C dX7_changed_85 rfl ?_
                  refine go_imulN C dX7_changed_86 ?_
                  refine go_iload_n C dX7_changed_87 rfl ?_
                  refine go_iaddN C dX7_changed_88 ?_
                  refine go_aload_n C dX7_changed_89 rfl ?_
                  refine go_getR C gf_X7_26 dX7_changed_90 (by decide) rfl rfl ?_
                  refine go_iload_n C dX7_changed_93 rfl ?_
                  refine go_ialdN C dX7_changed_94 (by decide) rfl (by decide) (by omega) ?_
                  refine go_top (nI (lit v c k)) (by rw [updR_n (by decide)]; exact hla k hkl) ?_
                  refine go_iastN C dX7_changed_95 (by decide) rfl (by decide) (by omega) ?_
                  refine go_iincN C 1 dX7_changed_96 rfl rfl (by decide) rfl rfl ?_
                  refine go_goto C 36 dX7_changed_99 (by decide) ?_
                  exact ih2 (n2 - 1) (by omega) (k + 1) _ (by omega) (fun d hd j hj => by
                    show upd (ρ2 4) (1152 * c + k) (nI (lit v c k)) (1152 * d + j) = _
                    by_cases e : d = c ∧ j = k
                    · obtain ⟨e1, e4⟩ := e; subst e1; subst e4; rw [pk_us, if_pos (Or.inr ⟨rfl, Nat.lt_succ_self _⟩)]
                    · rw [pk_un (by omega), hp2 d hd j hj]
                      refine congrArg nI ?_
                      by_cases z : d < c ∨ (d = c ∧ j < k)
                      · rw [if_pos z, if_pos (by omega)]
                      · rw [if_neg z, if_neg (by omega)]) (fun j hj => by
                    show upd (ρ2 5) k (vp_nar .boolean (bP _)) j = _
                    by_cases e : j = k
                    · subst e; rw [pk_us, bP_vn]
                    · rw [pk_un e, he2 j hj]
                      exact bP_c ⟨fun ⟨d, z1, z2⟩ => ⟨d, by omega, z2⟩, fun ⟨d, z1, z2⟩ => ⟨d, by omega, z2⟩⟩) (fun j hj => by rw [updR_n (by decide), updR_n (by decide)]; exact hla j hj) (fun q a b d => by rw [updR_n a, updR_n b]; exact hF2 q a b d)
          refine go_iconst C (nI 0) dX7_changed_34 rfl ?_
          refine go_istore_n C dX7_changed_35 (by decide) rfl rfl ?_
          exact K 1152 0 τ (by omega) (fun d hd j hj => by
            rw [hlay.1 4 (by decide), hp d hd j hj]
            refine congrArg nI ?_
            by_cases z : d < c
            · rw [if_pos z, if_pos (Or.inl z)]
            · rw [if_neg z, if_neg (by omega)]) (fun j hj => by
            rw [hlay.1 5 (by decide), he j hj]
            exact bP_c ⟨fun ⟨d, z1, z2⟩ => ⟨d, by omega, z2⟩, fun ⟨d, z1, z2⟩ => ⟨d, by omega, z2⟩⟩) hlay.2.2 (fun q a b d => (hlay.1 q d).trans (hF1 q a b d))
    have L0 : ∀ (n : Nat) (i : Nat) (ρ : Mem), (i + n = 1152) → (∀ j, j < i → ρ 5 j = nI 0) → (∀ q, q ≠ 5 → ρ q = σ q) → Go objM NM X 2 [some (.ref 0), some (.int (nI i)), none] [] ρ := by
      intro n
      induction n using Nat.strongRecOn with
      | _ n ih =>
        intro i ρ hi hz hF1
        refine go_iload_n C dX7_changed_2 rfl ?_
        refine go_sipush C (nI 1152) dX7_changed_3 rfl ?_
        refine go_icmp_geN C 22 dX7_changed_6 (by decide) (by omega) (by omega) (fun h6 => ?_) (fun h6 => ?_)
        · obtain rfl : i = 1152 := by omega
          refine go_iconst C (nI 0) dX7_changed_22 rfl ?_
          refine go_istore_n C dX7_changed_23 (by decide) rfl rfl ?_
          exact L1 4 0 _ ρ (by omega) (fun d h => absurd h (Nat.not_lt_zero _)) (fun d hd j hj => by rw [hF1 4 (by decide), hL d hd j hj, if_neg (Nat.not_lt_zero _)]) (fun j hj => by rw [hz j hj]; exact bP_f (fun ⟨d, z, _⟩ => absurd z (Nat.not_lt_zero _))) (fun q a b d => hF1 q b)
        · refine go_aload_n C dX7_changed_9 rfl ?_
          refine go_getR C gf_X7_22 dX7_changed_10 (by decide) rfl rfl ?_
          refine go_iload_n C dX7_changed_13 rfl ?_
          refine go_iconst C (nI 0) dX7_changed_14 rfl ?_
          refine go_zastN C dX7_changed_15 (by decide) rfl (by decide) (by omega) ?_
          refine go_iincN C 1 dX7_changed_16 rfl rfl (by decide) rfl rfl ?_
          refine go_goto C 2 dX7_changed_19 (by decide) ?_
          exact ih (n - 1) (by omega) (i + 1) _ (by omega) (fun j hj => by
            show upd (ρ 5) i (nI 0) j = nI 0
            by_cases e : j = i
            · subst e; exact pk_us
            · rw [pk_un e]; exact hz j (by omega)) (fun q hq => (updR_n hq).trans (hF1 q hq))
    refine go_iconst C (nI 0) dX7_changed_0 rfl ?_
    refine go_istore_n C dX7_changed_1 (by decide) rfl rfl ?_
    exact L0 1152 0 σ (by omega) (fun j h => absurd h (Nat.not_lt_zero _)) (fun _ _ => rfl)
set_option maxHeartbeats 4000000 in
set_option maxRecDepth 100000 in
theorem k_X7_layAll {σ : Mem} {v : Wd} (hO : OkW v) (hM : HasM σ 1 0 v) : CtV objM NM yX7_layAll cX7_layAll 3 5 116 [.ref 0] σ (fun τ => OkL v ∧ LitM τ (lit v) ∧ τ 0 8 = -1 ∧ (∀ q, q ≠ 0 → q ≠ 4 → q ≠ 6 → τ q = σ q) ∧ ∀ i, i ≠ 8 → τ 0 i = σ 0 i) := by
  refine ct_ofV rfl ?_ (Nat.le_of_ble_eq_true rfl) (fun X C hr => ?_)
  · intro v hv; simp only [List.mem_cons, List.not_mem_nil, or_false] at hv; rcases hv with rfl <;> rfl
  · refine go_aload_n C dX7_layAll_0 rfl ?_
    refine go_iconst C (-1) dX7_layAll_1 rfl ?_
    refine go_putI C gf_X7_29 dX7_layAll_2 (by decide) rfl rfl rfl rfl rfl ?_
    refine go_gen (fun ρ0 hρ0 => ?_)
    have hV : View ρ0 v 1152 1152 0 := View.of0 (hM.of (by rw [hρ0]; exact updR_n (by decide))) (by rw [hρ0, updR_s]; exact pk_us)
    have L1 : ∀ (n : Nat) (c : Nat) (v2 : Option Value) (ρ : Mem), (c + n = 4) → (∀ d, d < c → IsLit (srcQ v d 1152 0) (lossN v d) (lit v d)) → (∀ d, d < 4 → ∀ j, j < 1152 → d < c → ρ 4 (1152 * d + j) = nI (lit v d j)) → (∀ q, q ≠ 4 → q ≠ 6 → ρ q = ρ0 q) → Go objM NM X 7 [some (.ref 0), some (.int (nI c)), v2] [] ρ := by
      intro n
      induction n using Nat.strongRecOn with
      | _ n ih =>
        intro c v2 ρ hi hOL hp hF1
        have hV1 : View ρ v 1152 1152 0 := hV.of (hF1 0 (by decide) (by decide)) (hF1 1 (by decide) (by decide))
        refine go_iload_n C dX7_layAll_7 rfl ?_
        refine go_iconst C (nI 4) dX7_layAll_8 rfl ?_
        refine go_icmp_geN C 56 dX7_layAll_9 (by decide) (by omega) (by omega) (fun h9 => ?_) (fun h9 => ?_)
        · obtain rfl : c = 4 := by omega
          refine go_vret hr dX7_layAll_56 ?_
          exact ⟨hOL, fun d hd j hj => hp d hd j hj hd, by rw [hF1 0 (by decide) (by decide), hρ0, updR_s]; exact pk_us, fun q a b d => by rw [hF1 q b d, hρ0]; exact updR_n a, fun i hi => by rw [hF1 0 (by decide) (by decide), hρ0, updR_s]; exact pk_un hi⟩
        · have hc : c < 4 := by omega
          refine go_aload_n C dX7_layAll_12 rfl ?_
          refine go_iload_n C dX7_layAll_13 rfl ?_
          refine go_V1V C ok_X7_lay lk_X7_109 dX7_layAll_14 (by decide) rfl rfl rfl (k_X7_lay hO hV1 (by decide) hc) (by decide) (Nat.le_of_ble_eq_true rfl) (fun τ hlay => ?_)
          have K : ∀ (n2 : Nat) (k : Nat) (ρ2 : Mem), (k + n2 = 1152) → (∀ d, d < 4 → ∀ j, j < 1152 → (d < c ∨ (d = c ∧ j < k)) → ρ2 4 (1152 * d + j) = nI (lit v d j)) → (∀ j, j < 1152 → ρ2 6 j = nI (lit v c j)) → (∀ q, q ≠ 4 → q ≠ 6 → ρ2 q = ρ0 q) → Go objM NM X 19 [some (.ref 0), some (.int (nI c)), some (.int (nI k))] [] ρ2 := by
            intro n2
            induction n2 using Nat.strongRecOn with
            | _ n2 ih2 =>
              intro k ρ2 hk hp2 hla hF2
              refine go_iload_n C dX7_layAll_19 rfl ?_
              refine go_sipush C (nI 1152) dX7_layAll_20 rfl ?_
              refine go_icmp_geN C 50 dX7_layAll_23 (by decide) (by omega) (by omega) (fun h23 => ?_) (fun h23 => ?_)
              · obtain rfl : k = 1152 := by omega
                refine go_iincN C 1 dX7_layAll_50 rfl rfl (by decide) rfl rfl ?_
                refine go_goto C 7 dX7_layAll_53 (by decide) ?_
                exact ih (n - 1) (by omega) (c + 1) _ ρ2 (by omega) (fun d hd => by
                  rcases Nat.lt_or_ge d c with z | z
                  · exact hOL d z
                  · obtain rfl : d = c := by omega
                    exact hlay.2.1) (fun d hd j hj hz => hp2 d hd j hj (by omega)) hF2
              · have hkl : k < 1152 := by omega
                refine go_aload_n C dX7_layAll_26 rfl ?_
                refine go_getR C gf_X7_19 dX7_layAll_27 (by decide) rfl rfl ?_
                refine go_sipush C (nI 1152) dX7_layAll_30 rfl ?_
                refine go_iload_n C dX7_layAll_33 rfl ?_
                refine go_imulN C dX7_layAll_34 ?_
                refine go_iload_n C dX7_layAll_35 rfl ?_
                refine go_iaddN C dX7_layAll_36 ?_
                refine go_aload_n C dX7_layAll_37 rfl ?_
                refine go_getR C gf_X7_26 dX7_layAll_38 (by decide) rfl rfl ?_
                refine go_iload_n C dX7_layAll_41 rfl ?_
                refine go_ialdN C dX7_layAll_42 (by decide) rfl (by decide) (by omega) ?_
                refine go_top _ (hla k hkl) ?_
                refine go_iastN C dX7_layAll_43 (by decide) rfl (by decide) (by omega) ?_
                refine go_iincN C 1 dX7_layAll_44 rfl rfl (by decide) rfl rfl ?_
                refine go_goto C 19 dX7_layAll_47 (by decide) ?_
                exact ih2 (n2 - 1) (by omega) (k + 1) _ (by omega) (fun d hd j hj hz => by
                  show upd (ρ2 4) (1152 * c + k) (nI (lit v c k)) (1152 * d + j) = _
                  by_cases e : d = c ∧ j = k
                  · obtain ⟨e1, e4⟩ := e; subst e1; subst e4; rw [pk_us]
                  · rw [pk_un (by omega)]; exact hp2 d hd j hj (by omega)) (fun j hj => by rw [updR_n (by decide)]; exact hla j hj) (fun q a d => by rw [updR_n a]; exact hF2 q a d)
          refine go_iconst C (nI 0) dX7_layAll_17 rfl ?_
          refine go_istore_n C dX7_layAll_18 (by decide) rfl rfl ?_
          exact K 1152 0 τ (by omega) (fun d hd j hj hz => by rw [hlay.1 4 (by decide)]; exact hp d hd j hj (by omega)) hlay.2.2 (fun q a d => (hlay.1 q d).trans (hF1 q a d))
    refine go_iconst C (nI 0) dX7_layAll_5 rfl ?_
    refine go_istore_n C dX7_layAll_6 (by decide) rfl rfl ?_
    exact L1 4 0 _ ρ0 (by omega) (fun d h => absurd h (Nat.not_lt_zero _)) (fun d hd j hj h => absurd h (Nat.not_lt_zero _)) (fun _ _ _ => rfl)
set_option maxHeartbeats 4000000 in
set_option maxRecDepth 100000 in
theorem k_X7_blocks {σ : Mem} {v : Wd} (hO : OkW v) (hM : HasM σ 1 0 v) : CtI objM NM yX7_blocks cX7_blocks 3 .int 0 0 [.ref 0] σ (Pv (nI (filled v)) σ) := by
  refine ct_ofI rfl ?_ (Nat.le_of_ble_eq_true rfl) (fun X C hr => ?_)
  · intro v hv; simp only [List.mem_cons, List.not_mem_nil, or_false] at hv; rcases hv with rfl <;> rfl
  · have L : ∀ (n : Nat) (i : Nat), (i + n = 1152) → Go objM NM X 4 [some (.ref 0), some (.int (nI (cnt (fun j => wT v j ≠ 0) i))), some (.int (nI i))] [] σ := by
      intro n
      induction n using Nat.strongRecOn with
      | _ n ih =>
        intro i hi
        have ht : i < 1152 → wT v i < 8 := hO.1 i
        refine go_iload_n C dX7_blocks_4 rfl ?_
        refine go_sipush C (nI 1152) dX7_blocks_5 rfl ?_
        refine go_icmp_geN C 34 dX7_blocks_8 (by decide) (by omega) (by omega) (fun h8 => ?_) (fun h8 => ?_)
        · obtain rfl : i = 1152 := by omega
          refine go_iload_n C dX7_blocks_34 rfl ?_
          refine go_iret hr dX7_blocks_35 rfl ?_
          exact ⟨rfl, rfl⟩
        · refine go_iload_n C dX7_blocks_11 rfl ?_
          refine go_aload_n C dX7_blocks_12 rfl ?_
          refine go_getR C gf_X7_9 dX7_blocks_13 (by decide) rfl rfl ?_
          refine go_iload_n C dX7_blocks_16 rfl ?_
          refine go_ialdN C dX7_blocks_17 (by decide) rfl (by decide) (by omega) ?_
          refine go_top (nI (wT v i)) (by have := hM.1 i (by omega); rw [Nat.zero_add] at this; exact this) ?_
          refine go_if_neN C 25 dX7_blocks_18 (by decide) (by omega) (fun h18 => ?_) (fun h18 => ?_)
          · have e2 : cnt (fun j => wT v j ≠ 0) (i + 1) = cnt (fun j => wT v j ≠ 0) i + 1 := cnt_1 h18
            refine go_iconst C (nI 1) dX7_blocks_25 rfl ?_
            refine go_iaddN C dX7_blocks_26 ?_
            refine go_istore_n C dX7_blocks_27 (by decide) rfl rfl ?_
            refine go_iincN C 1 dX7_blocks_28 rfl rfl (by decide) rfl rfl ?_
            refine go_goto C 4 dX7_blocks_31 (by decide) ?_
            have q := ih (n - 1) (by omega) (i + 1) (by omega)
            rw [e2] at q
            exact q
          · have e2 : cnt (fun j => wT v j ≠ 0) (i + 1) = cnt (fun j => wT v j ≠ 0) i + 0 := cnt_0 (fun z => z h18)
            refine go_iconst C (nI 0) dX7_blocks_21 rfl ?_
            refine go_goto C 26 dX7_blocks_22 (by decide) ?_
            refine go_iaddN C dX7_blocks_26 ?_
            refine go_istore_n C dX7_blocks_27 (by decide) rfl rfl ?_
            refine go_iincN C 1 dX7_blocks_28 rfl rfl (by decide) rfl rfl ?_
            refine go_goto C 4 dX7_blocks_31 (by decide) ?_
            have q := ih (n - 1) (by omega) (i + 1) (by omega)
            rw [e2] at q
            exact q
    refine go_iconst C (nI 0) dX7_blocks_0 rfl ?_
    refine go_istore_n C dX7_blocks_1 (by decide) rfl rfl ?_
    refine go_iconst C (nI 0) dX7_blocks_2 rfl ?_
    refine go_istore_n C dX7_blocks_3 (by decide) rfl rfl ?_
    exact L 1152 0 (by omega)
