/-! The text of the model. -/
theorem RepM.tx {σ τ : Mem} {S : St} {x : List Nat} {f : Int32} (h : RepM σ S) (hx : x.length ≤ 60 ∧ ∀ ch, ch ∈ x → 33 ≤ ch ∧ ch < 127) (hX : TxtM τ x) (hf : ∀ q, q < 9 → q ≠ 0 → q ≠ 6 → τ q = σ q) (h0 : ∀ i, i = 2 ∨ i = 4 ∨ i = 8 ∨ i = 11 ∨ i = 12 → τ 0 i = σ 0 i) (hF : τ 0 17 = f) : RepM τ (stX S x f) := by
  obtain ⟨h1, h2, h3, h4, h5, h6, h7, h8, h9, h10⟩ := h
  have f1 : ∀ q, q = 1 ∨ q = 2 ∨ q = 3 ∨ q = 4 ∨ q = 5 ∨ q = 7 ∨ q = 8 → τ q = σ q := fun q hq => hf q (by omega) (by omega) (by omega)
  exact ⟨⟨h1.1, h1.2.1, h1.2.2.1, h1.2.2.2.1, h1.2.2.2.2.1, hx⟩, h2.of (f1 1 (by decide)), fun c hc j hj => by rw [f1 4 (by decide)]; exact h3 c hc j hj, fun j hj => by rw [f1 5 (by decide)]; exact h4 j hj, h5.of (h0 11 (by decide)) (h0 12 (by decide)) (f1 7 (by decide)) (f1 8 (by decide)), h6.of (h0 4 (by decide)) (f1 3 (by decide)), h7.of (h0 2 (by decide)) (f1 2 (by decide)), hX, hF, by rw [h0 8 (by decide)]; exact h10⟩
def TxtG (σ τ : Mem) : Prop := (∀ q, q ≠ 0 → q ≠ 9 → τ q = σ q) ∧ ∀ i, i ≠ 15 → τ 0 i = σ 0 i
theorem oApp_1 {S : St} {p : Int32} (h : ∃ t, t < 4 ∧ badB p t) : oApp S p = (-2, S) := by unfold oApp; rw [iP_t h]
theorem oApp_2 {S : St} {p : Int32} (h : ∀ t, t < 4 → ¬ badB p t) (h2 : 60 < (sX S).length + (nzB p 4).length) : oApp S p = (-3, S) := by unfold oApp; rw [iP_f (fun ⟨t, z1, z2⟩ => h t z1 z2), iP_t h2]
theorem oApp_3 {S : St} {p : Int32} (h : ∀ t, t < 4 → ¬ badB p t) (h2 : (sX S).length + (nzB p 4).length ≤ 60) : oApp S p = (nI ((sX S).length + (nzB p 4).length), stX S (sX S ++ nzB p 4) (sF S)) := by unfold oApp; rw [iP_f (fun ⟨t, z1, z2⟩ => h t z1 z2), iP_f (by omega)]
set_option maxHeartbeats 4000000 in
set_option maxRecDepth 100000 in
theorem k_X7_append {σ : Mem} {S : St} (hR : RepM σ S) (p : Int32) : CtI objM NM yX7_append cX7_append 5 .int 1 22 [.ref 0, .int p] σ (RQM (oApp S p).1 (oApp S p).2) := by
  obtain ⟨hS, hM, hL, hEf, hB, hH, hSv, hX, hFt, hoc⟩ := id hR
  have hO := hS.1
  have hOL := hS.2.1
  have hV := hR.V
  have hT : ∀ j, j < 1152 → σ 1 j = nI (wT (sW S) j) := fun j hj => by have := hM.1 j hj; rw [Nat.zero_add] at this; exact this
  have hLs := hV.2.2.2.1
  have hEm := hV.2.2.2.2.1
  have hcl := hS.2.2.2.2.2.1
  refine ct_ofI rfl ?_ (Nat.le_of_ble_eq_true rfl) (fun X C hr => ?_)
  · intro v hv; simp only [List.mem_cons, List.not_mem_nil, or_false] at hv; rcases hv with rfl | rfl <;> rfl
  · have L : ∀ (n : Nat) (t : Nat) (m : Nat) (v4 : Option Value), (t + n = 4) → (m = (nzB p t).length) → (∀ j, j < t → ¬ badB p j) → Go objM NM X 5 [some (.ref 0), some (.int p), some (.int (nI m)), some (.int (kv t)), v4] [] σ := by
      intro n
      induction n using Nat.strongRecOn with
      | _ n ih =>
        intro t m v4 hi hm hnb
        refine go_iload_n C dX7_append_5 rfl ?_
        refine go_if_lt C 57 dX7_append_6 (by decide) (fun h6 => ?_) (fun h6 => ?_)
        · obtain rfl : t = 4 := (kv_lt (by omega)).mp h6
          have hm4 := nzB_le (p := p) 4
          refine go_aload_n C dX7_append_57 rfl ?_
          refine go_getI C gf_X7_144 dX7_append_58 (by decide) rfl rfl ?_
          refine go_top (nI (sX S).length) hX.1 ?_
          refine go_iload_n C dX7_append_61 rfl ?_
          refine go_iaddN C dX7_append_62 ?_
          refine go_bipush C (nI 60) dX7_append_63 rfl ?_
          refine go_icmp_leN C 71 dX7_append_65 (by decide) (by omega) (by omega) (fun h65 => ?_) (fun h65 => ?_)
          · rw [hm] at h65
            refine go_bipush C (nI 24) dX7_append_71 rfl ?_
            refine go_istore_n C dX7_append_73 (by decide) rfl rfl ?_
            have E : ∀ (n : Nat) (t : Nat) (v4 : Option Value) (ρ : Mem), (t + n = 4) → (ρ 0 15 = nI ((sX S).length + (nzB p t).length)) → (∀ i ch, (sX S ++ nzB p t)[i]? = some ch → ρ 9 i = nI ch) → (TxtG σ ρ) → Go objM NM X 74 [some (.ref 0), some (.int p), some (.int (nI m)), some (.int (kv t)), v4] [] ρ := by
              intro n
              induction n using Nat.strongRecOn with
              | _ n ih =>
                intro t v4 ρ hi hl hc hF
                refine go_iload_n C dX7_append_74 rfl ?_
                refine go_if_lt C 119 dX7_append_75 (by decide) (fun h75 => ?_) (fun h75 => ?_)
                · obtain rfl : t = 4 := (kv_lt (by omega)).mp h75
                  refine go_aload_n C dX7_append_119 rfl ?_
                  refine go_getI C gf_X7_144 dX7_append_120 (by decide) rfl rfl ?_
                  refine go_top _ hl ?_
                  refine go_iret hr dX7_append_123 rfl ?_
                  rw [oApp_3 hnb h65]
                  exact ⟨rfl, hR.tx (nzB_all hS hnb h65) ⟨by rw [hl, List.length_append], hc⟩ (fun q a b c => hF.1 q b (by omega)) (fun i hi => hF.2 i (by omega)) ((hF.2 17 (by decide)).trans hFt)⟩
                · have ht : t < 4 := Nat.lt_of_le_of_ne (by omega) (fun q => h75 ((kv_lt (by omega)).mpr q))
                  have hb := byt_lt p t
                  have hmo := nzB_mono (p := p) (t := t + 1) (4 - (t + 1))
                  rw [show t + 1 + (4 - (t + 1)) = 4 by omega] at hmo
                  refine go_iload_n C dX7_append_78 rfl ?_
                  refine go_iload_n C dX7_append_79 rfl ?_
                  refine go_iushr C _ dX7_append_80 rfl ?_
                  refine go_sipush C (nI 255) dX7_append_81 rfl ?_
                  refine go_iand C dX7_append_84 ?_
                  refine go_top _ (byt_eq p t) ?_
                  refine go_istore C dX7_append_85 (by decide) rfl rfl ?_
                  refine go_iload C dX7_append_87 rfl ?_
                  refine go_if_eqN C 113 dX7_append_89 (by decide) (by omega) (fun h89 => ?_) (fun h89 => ?_)
                  · have hz := nzB_0 h89
                    refine go_iinc C (kv (t + 1)) dX7_append_113 rfl (kv_inc ht) (by decide) rfl rfl ?_
                    refine go_goto C 74 dX7_append_116 (by decide) ?_
                    exact ih (n - 1) (by omega) (t + 1) _ ρ (by omega) (by rw [hz]; exact hl) (by rw [hz]; exact hc) hF
                  · have hz := nzB_1 h89
                    have hz2 := nzB_l1 h89
                    refine go_aload_n C dX7_append_92 rfl ?_
                    refine go_getR C gf_X7_39 dX7_append_93 (by decide) rfl rfl ?_
                    refine go_aload_n C dX7_append_96 rfl ?_
                    refine go_getI C gf_X7_144 dX7_append_97 (by decide) rfl rfl ?_
                    refine go_top _ hl ?_
                    refine go_iload C dX7_append_100 rfl ?_
                    refine go_iastN C dX7_append_102 (by decide) rfl (by decide) (by omega) ?_
                    refine go_aload_n C dX7_append_103 rfl ?_
                    refine go_dup C dX7_append_104 rfl ?_
                    refine go_getI C gf_X7_144 dX7_append_105 (by decide) rfl rfl ?_
                    refine go_top (nI ((sX S).length + (nzB p t).length)) (by rw [updR_n (by decide)]; exact hl) ?_
                    refine go_iconst C (nI 1) dX7_append_108 rfl ?_
                    refine go_iaddN C dX7_append_109 ?_
                    refine go_putI C gf_X7_144 dX7_append_110 (by decide) rfl rfl rfl rfl rfl ?_
                    refine go_iinc C (kv (t + 1)) dX7_append_113 rfl (kv_inc ht) (by decide) rfl rfl ?_
                    refine go_goto C 74 dX7_append_116 (by decide) ?_
                    exact ih (n - 1) (by omega) (t + 1) _ _ (by omega) (by rw [updR_s, pk_us, hz2]; rfl) (fun i ch hi2 => by
                      rw [updR_n (by decide), updR_s]
                      rw [hz, ← List.append_assoc] at hi2
                      rcases at_snoc hi2 with ⟨q1, q2⟩ | ⟨q1, q2⟩
                      · rw [List.length_append] at q1; rw [pk_un (by omega)]; exact hc i ch q2
                      · rw [q1, q2, List.length_append]; exact pk_us) ⟨fun q a b => by rw [updR_n a, updR_n b]; exact hF.1 q a b, fun j hj => by rw [updR_s, pk_un hj, updR_n (by decide)]; exact hF.2 j hj⟩
            exact E 4 0 _ σ (by omega) (by rw [hX.1]; rfl) (fun i ch h => hX.2 i ch (by rw [show sX S ++ nzB p 0 = sX S from List.append_nil _] at h; exact h)) ⟨fun _ _ _ => rfl, fun _ _ => rfl⟩
          · rw [hm] at h65
            refine go_bipush C (-3) dX7_append_68 rfl ?_
            refine go_iret hr dX7_append_70 rfl ?_
            rw [oApp_2 hnb (by omega)]
            exact ⟨rfl, hR⟩
        · have ht : t < 4 := Nat.lt_of_le_of_ne (by omega) (fun q => h6 ((kv_lt (by omega)).mpr q))
          have hb := byt_lt p t
          have hml := nzB_le (p := p) t
          refine go_iload_n C dX7_append_9 rfl ?_
          refine go_iload_n C dX7_append_10 rfl ?_
          refine go_iushr C _ dX7_append_11 rfl ?_
          refine go_sipush C (nI 255) dX7_append_12 rfl ?_
          refine go_iand C dX7_append_15 ?_
          refine go_top _ (byt_eq p t) ?_
          refine go_istore C dX7_append_16 (by decide) rfl rfl ?_
          refine go_iload C dX7_append_18 rfl ?_
          refine go_if_eqN C 38 dX7_append_20 (by decide) (by omega) (fun h20 => ?_) (fun h20 => ?_)
          · have hg : ¬ badB p t := fun q => q.1 h20
            refine go_iload_n C dX7_append_38 rfl ?_
            refine go_iload C dX7_append_39 rfl ?_
            refine go_if_neN C 48 dX7_append_41 (by decide) (by omega) (fun h41 => ?_) (fun h41 => ?_)
            · have hz := nzB_l1 h41
              refine go_iconst C (nI 1) dX7_append_48 rfl ?_
              refine go_iaddN C dX7_append_49 ?_
              refine go_istore_n C dX7_append_50 (by decide) rfl rfl ?_
              refine go_iinc C (kv (t + 1)) dX7_append_51 rfl (kv_inc ht) (by decide) rfl rfl ?_
              refine go_goto C 5 dX7_append_54 (by decide) ?_
              exact ih (n - 1) (by omega) (t + 1) _ _ (by omega) (by rw [hz]; omega) (fun j hj => by
                rcases Nat.lt_or_ge j t with q | q
                · exact hnb j q
                · rw [show j = t by omega]
                  exact hg)
            · have hz := congrArg List.length (nzB_0 h41)
              refine go_iconst C (nI 0) dX7_append_44 rfl ?_
              refine go_goto C 49 dX7_append_45 (by decide) ?_
              refine go_iaddN C dX7_append_49 ?_
              refine go_istore_n C dX7_append_50 (by decide) rfl rfl ?_
              refine go_iinc C (kv (t + 1)) dX7_append_51 rfl (kv_inc ht) (by decide) rfl rfl ?_
              refine go_goto C 5 dX7_append_54 (by decide) ?_
              exact ih (n - 1) (by omega) (t + 1) _ _ (by omega) (by rw [hz]; omega) (fun j hj => by
                rcases Nat.lt_or_ge j t with q | q
                · exact hnb j q
                · rw [show j = t by omega]
                  exact hg)
          · refine go_iload C dX7_append_23 rfl ?_
            refine go_bipush C (nI 33) dX7_append_25 rfl ?_
            refine go_bipush C (nI 126) dX7_append_27 rfl ?_
            refine go_S3P C ok_X7_in lk_X7_57 dX7_append_29 (k_X7_in0 (nI (byt p t)) (nI 33) (nI 126)) (by decide) (Nat.le_of_ble_eq_true rfl) ?_
            refine go_if_neB C 38 dX7_append_32 (by decide) (fun h32 => ?_) (fun h32 => ?_)
            · have hin := (inI_nI (by omega) (by omega) (by omega)).mp h32
              have hg : ¬ badB p t := fun q => by unfold badB at q; omega
              refine go_iload_n C dX7_append_38 rfl ?_
              refine go_iload C dX7_append_39 rfl ?_
              refine go_if_neN C 48 dX7_append_41 (by decide) (by omega) (fun h41 => ?_) (fun h41 => ?_)
              · have hz := nzB_l1 h41
                refine go_iconst C (nI 1) dX7_append_48 rfl ?_
                refine go_iaddN C dX7_append_49 ?_
                refine go_istore_n C dX7_append_50 (by decide) rfl rfl ?_
                refine go_iinc C (kv (t + 1)) dX7_append_51 rfl (kv_inc ht) (by decide) rfl rfl ?_
                refine go_goto C 5 dX7_append_54 (by decide) ?_
                exact ih (n - 1) (by omega) (t + 1) _ _ (by omega) (by rw [hz]; omega) (fun j hj => by
                  rcases Nat.lt_or_ge j t with q | q
                  · exact hnb j q
                  · rw [show j = t by omega]
                    exact hg)
              · have hz := congrArg List.length (nzB_0 h41)
                refine go_iconst C (nI 0) dX7_append_44 rfl ?_
                refine go_goto C 49 dX7_append_45 (by decide) ?_
                refine go_iaddN C dX7_append_49 ?_
                refine go_istore_n C dX7_append_50 (by decide) rfl rfl ?_
                refine go_iinc C (kv (t + 1)) dX7_append_51 rfl (kv_inc ht) (by decide) rfl rfl ?_
                refine go_goto C 5 dX7_append_54 (by decide) ?_
                exact ih (n - 1) (by omega) (t + 1) _ _ (by omega) (by rw [hz]; omega) (fun j hj => by
                  rcases Nat.lt_or_ge j t with q | q
                  · exact hnb j q
                  · rw [show j = t by omega]
                    exact hg)
            · refine go_bipush C (-2) dX7_append_35 rfl ?_
              refine go_iret hr dX7_append_37 rfl ?_
              have hin : badB p t := ⟨h20, Classical.byContradiction (fun q => h32 ((inI_nI (by omega) (by omega) (by omega)).mpr (by omega)))⟩
              rw [oApp_1 ⟨t, ht, hin⟩]
              exact ⟨rfl, hR⟩
    refine go_iconst C (nI 0) dX7_append_0 rfl ?_
    refine go_istore_n C dX7_append_1 (by decide) rfl rfl ?_
    refine go_bipush C (nI 24) dX7_append_2 rfl ?_
    refine go_istore_n C dX7_append_4 (by decide) rfl rfl ?_
    exact L 4 0 0 _ (by omega) rfl (fun j h => absurd h (Nat.not_lt_zero _))
def RdM (ρ : Mem) (cs : List Nat) (p : Nat) : Prop := ρ 0 18 = nI cs.length ∧ (∀ i ch, cs[i]? = some ch → ρ 9 i = nI ch) ∧ ρ 0 19 = nI p
def hI (cs : List Nat) (p : Nat) : Int32 := if p < cs.length then nI (chA cs p) else -1
theorem hI_in {cs : List Nat} {p : Nat} (h : p < cs.length) : hI cs p = nI (chA cs p) := if_pos h
theorem hI_out {cs : List Nat} {p : Nat} (h : cs.length ≤ p) : hI cs p = -1 := if_neg (by omega)
theorem hI_eq {cs : List Nat} (hch : ∀ ch, ch ∈ cs → 33 ≤ ch ∧ ch < 127) {p c : Nat} (hc : 0 < c ∧ c < 128) : hI cs p = nI c ↔ chA cs p = c := by
  have hb := chA_b hch p
  rcases Nat.lt_or_ge p cs.length with q | q
  · rw [hI_in q]
    exact nI_eq (by omega) (by omega)
  · rw [hI_out q, chA_ge q]
    exact ⟨fun e => absurd e.symm (oI_ne (by omega)), fun e => by omega⟩
theorem hI_D {cs : List Nat} (hch : ∀ ch, ch ∈ cs → 33 ≤ ch ∧ ch < 127) {p : Nat} : inI (hI cs p) (nI 48) (nI 57) ↔ isD (chA cs p) := by
  have hb := chA_b hch p
  rcases Nat.lt_or_ge p cs.length with q | q
  · rw [hI_in q]
    exact inI_nI (by omega) (by omega) (by omega)
  · rw [hI_out q, chA_ge q]
    exact ⟨fun e => absurd (show (-1 : Int32) < nI 48 by decide) e.1, fun e => absurd e.1 (by decide)⟩
def atM (σ : Mem) (p : Nat) : Mem := updR σ 0 (upd (σ 0) 19 (nI p))
def badM (σ : Mem) : Mem := updR σ 0 (upd (σ 0) 20 (nI 1))
theorem atM_s {σ : Mem} {p : Nat} : atM σ p 0 19 = nI p := by unfold atM; rw [updR_s]; exact pk_us
theorem atM_i {σ : Mem} {p i : Nat} (h : i ≠ 19) : atM σ p 0 i = σ 0 i := by unfold atM; rw [updR_s, pk_un h]
theorem atM_q {σ : Mem} {p q : Nat} (h : q ≠ 0) : atM σ p q = σ q := updR_n h
theorem badM_s {σ : Mem} : badM σ 0 20 = nI 1 := by unfold badM; rw [updR_s]; exact pk_us
theorem badM_i {σ : Mem} {i : Nat} (h : i ≠ 20) : badM σ 0 i = σ 0 i := by unfold badM; rw [updR_s, pk_un h]
theorem badM_q {σ : Mem} {q : Nat} (h : q ≠ 0) : badM σ q = σ q := updR_n h
theorem atM_pp {σ : Mem} {p q : Nat} : atM (atM σ p) q = atM σ q := by
  funext j
  by_cases e : j = 0
  · subst e
    funext i
    by_cases h : i = 19
    · subst h; rw [atM_s, atM_s]
    · rw [atM_i h, atM_i h, atM_i h]
  · rw [atM_q e, atM_q e, atM_q e]
theorem atM_id {σ : Mem} {p : Nat} (h : σ 0 19 = nI p) : σ = atM σ p := by
  funext j
  by_cases e : j = 0
  · subst e
    funext i
    by_cases z : i = 19
    · subst z; rw [atM_s, h]
    · rw [atM_i z]
  · rw [atM_q e]
theorem RdM.at {σ : Mem} {cs : List Nat} {p q : Nat} (h : RdM σ cs p) : RdM (atM σ q) cs q := ⟨by rw [atM_i (by decide)]; exact h.1, fun i ch hi => by rw [atM_q (by decide)]; exact h.2.1 i ch hi, atM_s⟩
theorem RdM.bad {σ : Mem} {cs : List Nat} {p : Nat} (h : RdM σ cs p) : RdM (badM σ) cs p := ⟨by rw [badM_i (by decide)]; exact h.1, fun i ch hi => by rw [badM_q (by decide)]; exact h.2.1 i ch hi, by rw [badM_i (by decide)]; exact h.2.2⟩
theorem rdH {σ : Mem} {cs : List Nat} {q p : Nat} (h : RdM σ cs q) (hp : p < cs.length) : σ 9 p = nI (chA cs p) := h.2.1 p _ (chA_get hp)
set_option maxHeartbeats 4000000 in
set_option maxRecDepth 100000 in
theorem k_X7_here {σ : Mem} {cs : List Nat} {p : Nat} (hR : RdM σ cs p) (hcl : cs.length ≤ 60) (hch : ∀ ch, ch ∈ cs → 33 ≤ ch ∧ ch < 127) (hp : p ≤ 60) : CtI objM NM yX7_here cX7_here 1 .int 0 0 [.ref 0] σ (Pv (hI cs p) σ) := by
  refine ct_ofI rfl ?_ (Nat.le_of_ble_eq_true rfl) (fun X C hr => ?_)
  · intro v hv; simp only [List.mem_cons, List.not_mem_nil, or_false] at hv; rcases hv with rfl <;> rfl
  · refine go_aload_n C dX7_here_0 rfl ?_
    refine go_getI C gf_X7_147 dX7_here_1 (by decide) rfl rfl ?_
    refine go_top _ hR.2.2 ?_
    refine go_aload_n C dX7_here_4 rfl ?_
    refine go_getI C gf_X7_150 dX7_here_5 (by decide) rfl rfl ?_
    refine go_top _ hR.1 ?_
    refine go_icmp_geN C 23 dX7_here_8 (by decide) (by omega) (by omega) (fun h8 => ?_) (fun h8 => ?_)
    · refine go_iconst C (-1) dX7_here_23 rfl ?_
      refine go_iret hr dX7_here_24 rfl ?_
      first | exact ⟨(hI_in (by omega)).symm, rfl⟩ | exact ⟨(hI_out (by omega)).symm, rfl⟩
    · refine go_aload_n C dX7_here_11 rfl ?_
      refine go_getR C gf_X7_39 dX7_here_12 (by decide) rfl rfl ?_
      refine go_aload_n C dX7_here_15 rfl ?_
      refine go_getI C gf_X7_147 dX7_here_16 (by decide) rfl rfl ?_
      refine go_top _ hR.2.2 ?_
      refine go_ialdN C dX7_here_19 (by decide) rfl (by decide) (by omega) ?_
      refine go_top _ (rdH hR (by omega)) ?_
      refine go_goto C 24 dX7_here_20 (by decide) ?_
      refine go_iret hr dX7_here_24 rfl ?_
      first | exact ⟨(hI_in (by omega)).symm, rfl⟩ | exact ⟨(hI_out (by omega)).symm, rfl⟩
set_option maxHeartbeats 4000000 in
set_option maxRecDepth 100000 in
theorem k_X7_take {σ : Mem} {cs : List Nat} {p : Nat} (hR : RdM σ cs p) (hcl : cs.length ≤ 60) (hch : ∀ ch, ch ∈ cs → 33 ≤ ch ∧ ch < 127) (hp : p ≤ 60) (hb : σ 0 20 = nI 0) {c : Nat} (hc : 0 < c ∧ c < 128) : CtV objM NM yX7_take cX7_take 2 1 20 [.ref 0, .int (nI c)] σ (fun τ => (chA cs p = c → τ = atM σ (p + 1)) ∧ (chA cs p ≠ c → τ = badM σ)) := by
  refine ct_ofV rfl ?_ (Nat.le_of_ble_eq_true rfl) (fun X C hr => ?_)
  · intro v hv; simp only [List.mem_cons, List.not_mem_nil, or_false] at hv; rcases hv with rfl | rfl <;> rfl
  · refine go_aload_n C dX7_take_0 rfl ?_
    refine go_getI C gf_X7_153 dX7_take_1 (by decide) rfl rfl ?_
    refine go_top _ hb ?_
    refine go_if_neN C 28 dX7_take_4 (by decide) (by omega) (fun h4 => ?_) (fun h4 => ?_)
    · exact absurd rfl h4
    · refine go_aload_n C dX7_take_7 rfl ?_
      refine go_V0P C ok_X7_here lk_X7_156 dX7_take_8 (by decide) rfl rfl rfl (k_X7_here hR hcl hch hp) (by decide) (Nat.le_of_ble_eq_true rfl) ?_
      refine go_iload_n C dX7_take_11 rfl ?_
      refine go_icmp_ne C 28 dX7_take_12 (by decide) (fun h12 => ?_) (fun h12 => ?_)
      · have hne : chA cs p ≠ c := fun q => h12 ((hI_eq hch hc).mpr q)
        refine go_aload_n C dX7_take_28 rfl ?_
        refine go_iconst C (nI 1) dX7_take_29 rfl ?_
        refine go_putI C gf_X7_153 dX7_take_30 (by decide) rfl rfl rfl rfl rfl ?_
        refine go_vret hr dX7_take_33 ?_
        exact ⟨fun q => absurd q hne, fun _ => rfl⟩
      · have heq : chA cs p = c := (hI_eq hch hc).mp h12
        refine go_aload_n C dX7_take_15 rfl ?_
        refine go_dup C dX7_take_16 rfl ?_
        refine go_getI C gf_X7_147 dX7_take_17 (by decide) rfl rfl ?_
        refine go_top _ hR.2.2 ?_
        refine go_iconst C (nI 1) dX7_take_20 rfl ?_
        refine go_iaddN C dX7_take_21 ?_
        refine go_putI C gf_X7_147 dX7_take_22 (by decide) rfl rfl rfl rfl rfl ?_
        refine go_goto C 33 dX7_take_25 (by decide) ?_
        refine go_vret hr dX7_take_33 ?_
        exact ⟨fun _ => rfl, fun q => absurd heq q⟩
def NumM (σ : Mem) (cs : List Nat) (p : Nat) : Int32 → Mem → Prop := fun r τ => (isD (chA cs p) → r = nI (numV cs p) ∧ τ = atM σ (numQ cs p)) ∧ (¬ isD (chA cs p) → r = nI 0 ∧ τ = badM σ)
set_option maxHeartbeats 4000000 in
set_option maxRecDepth 100000 in
theorem k_X7_number0 {σ : Mem} {cs : List Nat} {p : Nat} (hR : RdM σ cs p) (hcl : cs.length ≤ 60) (hch : ∀ ch, ch ∈ cs → 33 ≤ ch ∧ ch < 127) (hp : p ≤ 60) (hb : σ 0 20 = nI 0) : CtI objM NM yX7_number cX7_number 2 .int 1 22 [.ref 0] σ (NumM σ cs p) := by
  refine ct_ofI rfl ?_ (Nat.le_of_ble_eq_true rfl) (fun X C hr => ?_)
  · intro v hv; simp only [List.mem_cons, List.not_mem_nil, or_false] at hv; rcases hv with rfl <;> rfl
  · refine go_aload_n C dX7_number_0 rfl ?_
    refine go_getI C gf_X7_153 dX7_number_1 (by decide) rfl rfl ?_
    refine go_top _ hb ?_
    refine go_if_neN C 21 dX7_number_4 (by decide) (by omega) (fun h4 => ?_) (fun h4 => ?_)
    · exact absurd rfl h4
    · refine go_aload_n C dX7_number_7 rfl ?_
      refine go_V0P C ok_X7_here lk_X7_156 dX7_number_8 (by decide) rfl rfl rfl (k_X7_here hR hcl hch hp) (by decide) (Nat.le_of_ble_eq_true rfl) ?_
      refine go_bipush C (nI 48) dX7_number_11 rfl ?_
      refine go_bipush C (nI 57) dX7_number_13 rfl ?_
      refine go_S3P C ok_X7_in lk_X7_57 dX7_number_15 (k_X7_in0 _ (nI 48) (nI 57)) (by decide) (Nat.le_of_ble_eq_true rfl) ?_
      refine go_if_neB C 28 dX7_number_18 (by decide) (fun h18 => ?_) (fun h18 => ?_)
      · have hd := (hI_D hch).mp h18
        have hp2 := isD_pos hd
        obtain ⟨hd1, hd2⟩ := id hd
        have hbd := chA_b hch p
        refine go_aload_n C dX7_number_28 rfl ?_
        refine go_V0P C ok_X7_here lk_X7_156 dX7_number_29 (by decide) rfl rfl rfl (k_X7_here hR hcl hch hp) (by decide) (Nat.le_of_ble_eq_true rfl) ?_
        refine go_top (nI (chA cs p)) (hI_in hp2) ?_
        refine go_bipush C (nI 48) dX7_number_32 rfl ?_
        refine go_isubN C dX7_number_34 (by omega) ?_
        refine go_istore_n C dX7_number_35 (by decide) rfl rfl ?_
        refine go_aload_n C dX7_number_36 rfl ?_
        refine go_dup C dX7_number_37 rfl ?_
        refine go_getI C gf_X7_147 dX7_number_38 (by decide) rfl rfl ?_
        refine go_top _ hR.2.2 ?_
        refine go_iconst C (nI 1) dX7_number_41 rfl ?_
        refine go_iaddN C dX7_number_42 ?_
        refine go_putI C gf_X7_147 dX7_number_43 (by decide) rfl rfl rfl rfl rfl ?_
        refine go_mem (τ := atM σ (p + 1)) rfl ?_
        refine go_aload_n C dX7_number_46 rfl ?_
        refine go_V0P C ok_X7_here lk_X7_156 dX7_number_47 (by decide) rfl rfl rfl (k_X7_here hR.at hcl hch (p := p + 1) (by omega)) (by decide) (Nat.le_of_ble_eq_true rfl) ?_
        refine go_bipush C (nI 48) dX7_number_50 rfl ?_
        refine go_bipush C (nI 57) dX7_number_52 rfl ?_
        refine go_S3P C ok_X7_in lk_X7_57 dX7_number_54 (k_X7_in0 _ (nI 48) (nI 57)) (by decide) (Nat.le_of_ble_eq_true rfl) ?_
        refine go_if_eqB C 83 dX7_number_57 (by decide) (fun h57 => ?_) (fun h57 => ?_)
        · have he : ¬ isD (chA cs (p + 1)) := fun q => h57 ((hI_D hch).mpr q)
          refine go_iload_n C dX7_number_83 rfl ?_
          refine go_iret hr dX7_number_84 rfl ?_
          exact ⟨fun _ => by unfold numQ numV; rw [if_neg he, if_neg he]; exact ⟨rfl, rfl⟩, fun q => absurd hd q⟩
        · have he := (hI_D hch).mp h57
          have hp3 := isD_pos he
          obtain ⟨he1, he2⟩ := id he
          refine go_bipush C (nI 10) dX7_number_60 rfl ?_
          refine go_iload_n C dX7_number_62 rfl ?_
          refine go_imulN C dX7_number_63 ?_
          refine go_aload_n C dX7_number_64 rfl ?_
          refine go_V0P C ok_X7_here lk_X7_156 dX7_number_65 (by decide) rfl rfl rfl (k_X7_here hR.at hcl hch (p := p + 1) (by omega)) (by decide) (Nat.le_of_ble_eq_true rfl) ?_
          refine go_top (nI (chA cs (p + 1))) (hI_in hp3) ?_
          refine go_iaddN C dX7_number_68 ?_
          refine go_bipush C (nI 48) dX7_number_69 rfl ?_
          refine go_isubN C dX7_number_71 (by omega) ?_
          refine go_istore_n C dX7_number_72 (by decide) rfl rfl ?_
          refine go_aload_n C dX7_number_73 rfl ?_
          refine go_dup C dX7_number_74 rfl ?_
          refine go_getI C gf_X7_147 dX7_number_75 (by decide) rfl rfl ?_
          refine go_top _ atM_s ?_
          refine go_iconst C (nI 1) dX7_number_78 rfl ?_
          refine go_iaddN C dX7_number_79 ?_
          refine go_putI C gf_X7_147 dX7_number_80 (by decide) rfl rfl rfl rfl rfl ?_
          refine go_mem (τ := atM σ (p + 2)) (atM_pp (σ := σ) (p := p + 1) (q := p + 2)) ?_
          refine go_iload_n C dX7_number_83 rfl ?_
          refine go_iret hr dX7_number_84 rfl ?_
          exact ⟨fun _ => by unfold numQ numV; rw [if_pos he, if_pos he]; exact ⟨congrArg nI (by omega), rfl⟩, fun q => absurd hd q⟩
      · refine go_aload_n C dX7_number_21 rfl ?_
        refine go_iconst C (nI 1) dX7_number_22 rfl ?_
        refine go_putI C gf_X7_153 dX7_number_23 (by decide) rfl rfl rfl rfl rfl ?_
        refine go_iconst C (nI 0) dX7_number_26 rfl ?_
        refine go_iret hr dX7_number_27 rfl ?_
        exact ⟨fun q => absurd ((hI_D hch).mpr q) h18, fun _ => ⟨rfl, rfl⟩⟩
set_option maxHeartbeats 4000000 in
set_option maxRecDepth 100000 in
theorem k_X7_number1 {σ : Mem} (hb : σ 0 20 = nI 1) : CtI objM NM yX7_number cX7_number 2 .int 1 22 [.ref 0] σ (fun r τ => r = nI 0 ∧ τ = badM σ) := by
  refine ct_ofI rfl ?_ (Nat.le_of_ble_eq_true rfl) (fun X C hr => ?_)
  · intro v hv; simp only [List.mem_cons, List.not_mem_nil, or_false] at hv; rcases hv with rfl <;> rfl
  · refine go_aload_n C dX7_number_0 rfl ?_
    refine go_getI C gf_X7_153 dX7_number_1 (by decide) rfl rfl ?_
    refine go_top _ hb ?_
    refine go_if_neN C 21 dX7_number_4 (by decide) (by omega) (fun h4 => ?_) (fun h4 => ?_)
    · refine go_aload_n C dX7_number_21 rfl ?_
      refine go_iconst C (nI 1) dX7_number_22 rfl ?_
      refine go_putI C gf_X7_153 dX7_number_23 (by decide) rfl rfl rfl rfl rfl ?_
      refine go_iconst C (nI 0) dX7_number_26 rfl ?_
      refine go_iret hr dX7_number_27 rfl ?_
      exact ⟨rfl, rfl⟩
    · exact absurd h4 (by omega)
