/-! The text of the model: one command. -/
def CmdM (τ : Mem) (j : Nat) (m : Cmd) : Prop := τ 10 (9 * j) = nI m.1 ∧ τ 10 (9 * j + 1) = nI m.2.1 ∧ ∀ i v, m.2.2[i]? = some v → τ 10 (9 * j + 2 + i) = nI v
def RoF (σ τ : Mem) (j : Nat) : Prop := (∀ q, q ≠ 0 → q ≠ 10 → τ q = σ q) ∧ (∀ i, i ≠ 19 → i ≠ 20 → i ≠ 21 → τ 0 i = σ 0 i) ∧ ∀ i, i < 9 * j → τ 10 i = σ 10 i
def RoP (σ : Mem) (cs : List Nat) (p j : Nat) : Mem → Prop := fun τ => RoF σ τ j ∧ τ 0 21 = nI (j + 1) ∧ τ 0 19 = nI (pCmd cs p).2 ∧ (((pCmd cs p).1 = none ∧ τ 0 20 = nI 1) ∨ ∃ l, (pCmd cs p).1 = some l ∧ τ 0 20 = nI 0 ∧ CmdM τ j (chA cs p, p, l))
theorem RoF.rf {σ : Mem} {j : Nat} : RoF σ σ j := ⟨fun _ _ _ => rfl, fun _ _ _ _ => rfl, fun _ _ => rfl⟩
/-- what is written at the command's own place, and in the fields that move -/
theorem RoF.row {σ τ : Mem} {j k : Nat} {x : Int32} (h : RoF σ τ j) (hk : 9 * j ≤ k) : RoF σ (updR τ 10 (upd (τ 10) k x)) j := ⟨fun q a b => by rw [updR_n b]; exact h.1 q a b, fun i a b c => by rw [updR_n (by decide)]; exact h.2.1 i a b c, fun i hi => by rw [updR_s, pk_un (by omega)]; exact h.2.2 i hi⟩
theorem RoF.fld {σ τ : Mem} {j k : Nat} {x : Int32} (h : RoF σ τ j) (hk : k = 19 ∨ k = 20 ∨ k = 21) : RoF σ (updR τ 0 (upd (τ 0) k x)) j := ⟨fun q a b => by rw [updR_n a]; exact h.1 q a b, fun i a b c => by rw [updR_s, pk_un (by omega)]; exact h.2.1 i a b c, fun i hi => by rw [updR_n (by decide)]; exact h.2.2 i hi⟩
theorem RoF.rd {σ τ : Mem} {j : Nat} {cs : List Nat} {p q : Nat} (h : RoF σ τ j) (hR : RdM σ cs p) (h2 : τ 0 19 = nI q) : RdM τ cs q := ⟨by rw [h.2.1 18 (by decide) (by decide) (by decide)]; exact hR.1, fun i ch hi => by rw [h.1 9 (by decide) (by decide)]; exact hR.2.1 i ch hi, h2⟩
theorem RoP.no {σ ρ : Mem} {cs : List Nat} {p j q : Nat} (h : RoF σ ρ j) (h2 : ρ 0 20 = nI 1) (h3 : ρ 0 19 = nI q) (e : pCmd cs p = (none, q)) : RoP σ cs p j (updR ρ 0 (upd (ρ 0) 21 (nI (j + 1)))) := by
  unfold RoP
  rw [e]
  exact ⟨h.fld (Or.inr (Or.inr rfl)), by rw [updR_s, pk_us], by rw [updR_s, pk_un (by decide)]; exact h3, Or.inl ⟨rfl, by rw [updR_s, pk_un (by decide)]; exact h2⟩⟩
theorem RoP.ok {σ ρ : Mem} {cs : List Nat} {p j q : Nat} {l : List Nat} (h : RoF σ ρ j) (h2 : ρ 0 20 = nI 0) (h3 : ρ 0 19 = nI q) (e : pCmd cs p = (some l, q)) (hm : CmdM ρ j (chA cs p, p, l)) : RoP σ cs p j (updR ρ 0 (upd (ρ 0) 21 (nI (j + 1)))) := by
  unfold RoP
  rw [e]
  exact ⟨h.fld (Or.inr (Or.inr rfl)), by rw [updR_s, pk_us], by rw [updR_s, pk_un (by decide)]; exact h3, Or.inr ⟨l, rfl, by rw [updR_s, pk_un (by decide)]; exact h2, by rw [updR_n (by decide)]; exact hm.1, by rw [updR_n (by decide)]; exact hm.2.1, fun i v hv => by rw [updR_n (by decide)]; exact hm.2.2 i v hv⟩⟩
set_option maxHeartbeats 4000000 in
set_option maxRecDepth 100000 in
theorem k_X7_readOne {σ : Mem} {cs : List Nat} {p j : Nat} (hR : RdM σ cs p) (hcl : cs.length ≤ 60) (hch : ∀ ch, ch ∈ cs → 33 ≤ ch ∧ ch < 127) (hp : p ≤ cs.length) (hj : j < 59) (h21 : σ 0 21 = nI j) : CtV objM NM yX7_readOne cX7_readOne 5 2 43 [.ref 0] σ (RoP σ cs p j) := by
  refine ct_ofV rfl ?_ (Nat.le_of_ble_eq_true rfl) (fun X C hr => ?_)
  · intro v hv; simp only [List.mem_cons, List.not_mem_nil, or_false] at hv; rcases hv with rfl <;> rfl
  · have hcn := cntN_le (chA cs p)
    have JB : ∀ (cnt i q : Nat) (ρ : Mem), cnt ≤ 7 → i ≤ 8 → RoF σ ρ j → ρ 0 21 = nI j → ρ 0 20 = nI 1 → ρ 0 19 = nI q → pCmd cs p = (none, q) → Go objM NM X 112 [some (.ref 0), some (.int (hI cs p)), some (.int (nI (9 * j))), some (.int (nI cnt)), some (.int (nI i))] [] ρ := by
      intro cnt i q ρ hcnt hi8 hF h21 hb h19 he
      refine go_iload C dX7_readOne_112 rfl ?_
      refine go_iload_n C dX7_readOne_114 rfl ?_
      refine go_icmp_geN C 175 dX7_readOne_115 (by decide) (by omega) (by omega) (fun h115 => ?_) (fun h115 => ?_)
      · refine go_aload_n C dX7_readOne_175 rfl ?_
        refine go_dup C dX7_readOne_176 rfl ?_
        refine go_getI C gf_X7_159 dX7_readOne_177 (by decide) rfl rfl ?_
        refine go_top _ h21 ?_
        refine go_iconst C (nI 1) dX7_readOne_180 rfl ?_
        refine go_iaddN C dX7_readOne_181 ?_
        refine go_putI C gf_X7_159 dX7_readOne_182 (by decide) rfl rfl rfl rfl rfl ?_
        refine go_vret hr dX7_readOne_185 ?_
        exact RoP.no hF hb h19 he
      · refine go_aload_n C dX7_readOne_118 rfl ?_
        refine go_getI C gf_X7_153 dX7_readOne_119 (by decide) rfl rfl ?_
        refine go_top _ hb ?_
        refine go_if_neN C 175 dX7_readOne_122 (by decide) (by omega) (fun h122 => ?_) (fun h122 => ?_)
        · refine go_aload_n C dX7_readOne_175 rfl ?_
          refine go_dup C dX7_readOne_176 rfl ?_
          refine go_getI C gf_X7_159 dX7_readOne_177 (by decide) rfl rfl ?_
          refine go_top _ h21 ?_
          refine go_iconst C (nI 1) dX7_readOne_180 rfl ?_
          refine go_iaddN C dX7_readOne_181 ?_
          refine go_putI C gf_X7_159 dX7_readOne_182 (by decide) rfl rfl rfl rfl rfl ?_
          refine go_vret hr dX7_readOne_185 ?_
          exact RoP.no hF hb h19 he
        · exact absurd h122 (by omega)
    have L : ∀ (n : Nat) (i : Nat) (p2 : Nat) (dn : List Nat) (ρ : Mem), (i + n = (cntN (chA cs p))) → (ρ 0 19 = nI p2) → (p2 ≤ cs.length) → (ρ 0 20 = nI 0) → (pCmd cs p = ((pArgs cs (cntN (chA cs p)) n p2).1.map (dn ++ ·), (pArgs cs (cntN (chA cs p)) n p2).2)) → (dn.length = i ∧ ∀ a v, dn[a]? = some v → ρ 10 (9 * j + 2 + a) = nI v) → (ρ 10 (9 * j) = nI (chA cs p) ∧ ρ 10 (9 * j + 1) = nI p) → (RoF σ ρ j) → (ρ 0 21 = nI j) → Go objM NM X 112 [some (.ref 0), some (.int (hI cs p)), some (.int (nI (9 * j))), some (.int (nI (cntN (chA cs p)))), some (.int (nI i))] [] ρ := by
      intro n
      induction n using Nat.strongRecOn with
      | _ n ih =>
        intro i p2 dn ρ hi hq hp2 hb he hdn h10 hF h21
        refine go_iload C dX7_readOne_112 rfl ?_
        refine go_iload_n C dX7_readOne_114 rfl ?_
        refine go_icmp_geN C 175 dX7_readOne_115 (by decide) (by omega) (by omega) (fun h115 => ?_) (fun h115 => ?_)
        · obtain rfl : n = 0 := by omega
          refine go_aload_n C dX7_readOne_175 rfl ?_
          refine go_dup C dX7_readOne_176 rfl ?_
          refine go_getI C gf_X7_159 dX7_readOne_177 (by decide) rfl rfl ?_
          refine go_top _ h21 ?_
          refine go_iconst C (nI 1) dX7_readOne_180 rfl ?_
          refine go_iaddN C dX7_readOne_181 ?_
          refine go_putI C gf_X7_159 dX7_readOne_182 (by decide) rfl rfl rfl rfl rfl ?_
          refine go_vret hr dX7_readOne_185 ?_
          exact RoP.ok hF hb hq (pCb he) ⟨h10.1, h10.2, hdn.2⟩
        · obtain ⟨n, rfl⟩ : ∃ m, n = m + 1 := ⟨n - 1, by omega⟩
          have hR2 : RdM ρ cs p2 := hF.rd hR hq
          have J : (i ≠ 0 → chA cs p2 = sepC (cntN (chA cs p)) i) → Go objM NM X 154 [some (.ref 0), some (.int (hI cs p)), some (.int (nI (9 * j))), some (.int (nI (cntN (chA cs p)))), some (.int (nI i))] [] (atM ρ (argP (cntN (chA cs p)) i p2)) := by
            intro hs
            have hql : (argP (cntN (chA cs p)) i p2) ≤ cs.length := by
              by_cases z : i = 0
              · rw [z, argP_0]; exact hp2
              · rw [argP_1 z]
                have h3 := hs z
                have h4 := sepC_b (cntN (chA cs p)) i
                have := chA_pos (cs := cs) (p := p2) (by omega)
                omega
            refine go_aload_n C dX7_readOne_154 rfl ?_
            refine go_getR C gf_X7_45 dX7_readOne_155 (by decide) rfl rfl ?_
            refine go_iload_n C dX7_readOne_158 rfl ?_
            refine go_iconst C (nI 2) dX7_readOne_159 rfl ?_
            refine go_iaddN C dX7_readOne_160 ?_
            refine go_iload C dX7_readOne_161 rfl ?_
            refine go_iaddN C dX7_readOne_163 ?_
            refine go_aload_n C dX7_readOne_164 rfl ?_
            refine go_V0I C ok_X7_number lk_X7_165 dX7_readOne_165 (by decide) rfl rfl rfl (k_X7_number0 hR2.at hcl hch (Nat.le_trans hql hcl) (by rw [atM_i (by decide)]; exact hb)) (by decide) (Nat.le_of_ble_eq_true rfl) (fun r τ hp3 => ?_)
            refine go_iastN C dX7_readOne_168 (by decide) rfl (by decide) (by omega) ?_
            refine go_iincN C 1 dX7_readOne_169 rfl rfl (by decide) rfl rfl ?_
            refine go_goto C 112 dX7_readOne_172 (by decide) ?_
            by_cases hd : isD (chA cs (argP (cntN (chA cs p)) i p2))
            · have hno := num_ok hd
              obtain ⟨hr, hτ⟩ := hp3.1 hd
              have hFτ : RoF σ τ j := by rw [hτ, atM_pp]; exact hF.fld (Or.inl rfl)
              refine ih n (by omega) (i + 1) (numQ cs (argP (cntN (chA cs p)) i p2)) (dn ++ [numV cs (argP (cntN (chA cs p)) i p2)]) _ (by omega) (by rw [updR_n (by decide), hτ]; exact atM_s) hno.2.2 (by rw [updR_n (by decide), hτ, atM_i (by decide), atM_i (by decide)]; exact hb) (pCc he (pA_ok (by omega) hs hd)) ⟨by rw [List.length_append, hdn.1]; rfl, fun a v hv => ?_⟩ ⟨?_, ?_⟩ (hFτ.row (by omega)) (by rw [updR_n (by decide), hτ, atM_i (by decide), atM_i (by decide)]; exact h21)
              · rw [updR_s]
                rcases at_snoc hv with ⟨q1, q2⟩ | ⟨q1, q2⟩
                · rw [pk_un (by omega), hτ, atM_q (by decide), atM_q (by decide)]; exact hdn.2 a v q2
                · rw [q1, hdn.1, pk_us, hr, q2]
              · rw [updR_s, pk_un (by omega), hτ, atM_q (by decide), atM_q (by decide)]; exact h10.1
              · rw [updR_s, pk_un (by omega), hτ, atM_q (by decide), atM_q (by decide)]; exact h10.2
            · obtain ⟨hr, hτ⟩ := hp3.2 hd
              have hFτ : RoF σ τ j := by rw [hτ]; exact (hF.fld (Or.inl rfl) : RoF σ (atM ρ (argP (cntN (chA cs p)) i p2)) j).fld (Or.inr (Or.inl rfl))
              exact JB (cntN (chA cs p)) (i + 1) (argP (cntN (chA cs p)) i p2) _ hcn (by omega) (hFτ.row (by omega)) (by rw [updR_n (by decide), hτ, badM_i (by decide), atM_i (by decide)]; exact h21) (by rw [updR_n (by decide), hτ]; exact badM_s) (by rw [updR_n (by decide), hτ, badM_i (by decide)]; exact atM_s) (pCa he (pA_no (by omega) hs hd))
          have Jb : i ≠ 0 → chA cs p2 ≠ sepC (cntN (chA cs p)) i → Go objM NM X 154 [some (.ref 0), some (.int (hI cs p)), some (.int (nI (9 * j))), some (.int (nI (cntN (chA cs p)))), some (.int (nI i))] [] (badM ρ) := by
            intro hi0 hs
            refine go_aload_n C dX7_readOne_154 rfl ?_
            refine go_getR C gf_X7_45 dX7_readOne_155 (by decide) rfl rfl ?_
            refine go_iload_n C dX7_readOne_158 rfl ?_
            refine go_iconst C (nI 2) dX7_readOne_159 rfl ?_
            refine go_iaddN C dX7_readOne_160 ?_
            refine go_iload C dX7_readOne_161 rfl ?_
            refine go_iaddN C dX7_readOne_163 ?_
            refine go_aload_n C dX7_readOne_164 rfl ?_
            refine go_V0I C ok_X7_number lk_X7_165 dX7_readOne_165 (by decide) rfl rfl rfl (k_X7_number1 badM_s) (by decide) (Nat.le_of_ble_eq_true rfl) (fun r τ hp3 => ?_)
            refine go_iastN C dX7_readOne_168 (by decide) rfl (by decide) (by omega) ?_
            refine go_iincN C 1 dX7_readOne_169 rfl rfl (by decide) rfl rfl ?_
            refine go_goto C 112 dX7_readOne_172 (by decide) ?_
            obtain ⟨hr, hτ⟩ := hp3
            have hFτ : RoF σ τ j := by rw [hτ]; exact (hF.fld (Or.inr (Or.inl rfl)) : RoF σ (badM ρ) j).fld (Or.inr (Or.inl rfl))
            exact JB (cntN (chA cs p)) (i + 1) p2 _ hcn (by omega) (hFτ.row (by omega)) (by rw [updR_n (by decide), hτ, badM_i (by decide), badM_i (by decide)]; exact h21) (by rw [updR_n (by decide), hτ]; exact badM_s) (by rw [updR_n (by decide), hτ, badM_i (by decide), badM_i (by decide)]; exact hq) (pCa he (pA_sep (by omega) hi0 hs))
          refine go_aload_n C dX7_readOne_118 rfl ?_
          refine go_getI C gf_X7_153 dX7_readOne_119 (by decide) rfl rfl ?_
          refine go_top _ hb ?_
          refine go_if_neN C 175 dX7_readOne_122 (by decide) (by omega) (fun h122 => ?_) (fun h122 => ?_)
          · exact absurd rfl h122
          · refine go_iload C dX7_readOne_125 rfl ?_
            refine go_if_leN C 154 dX7_readOne_127 (by decide) (by omega) (fun h127 => ?_) (fun h127 => ?_)
            · obtain rfl : i = 0 := by omega
              refine go_mem (by rw [argP_0]; exact atM_id hq) (J (fun z => absurd rfl z))
            · refine go_aload_n C dX7_readOne_130 rfl ?_
              refine go_iload C dX7_readOne_131 rfl ?_
              refine go_iload_n C dX7_readOne_133 rfl ?_
              refine go_iconst C (nI 1) dX7_readOne_134 rfl ?_
              refine go_isubN C dX7_readOne_135 (by omega) ?_
              refine go_icmp_neN C 149 dX7_readOne_136 (by decide) (by omega) (by omega) (fun h136 => ?_) (fun h136 => ?_)
              · refine go_bipush C (nI 44) dX7_readOne_149 rfl ?_
                refine go_top (nI (sepC (cntN (chA cs p)) i)) (by first | (rw [sepC_no h136]) | (rw [show sepC (cntN (chA cs p)) i = 44 from if_neg (fun q => by omega)])) ?_
                refine go_V1V C ok_X7_take lk_X7_162 dX7_readOne_151 (by decide) rfl rfl rfl (k_X7_take hR2 hcl hch (Nat.le_trans hp2 hcl) hb (sepC_b _ _)) (by decide) (Nat.le_of_ble_eq_true rfl) (fun τ hp3 => ?_)
                by_cases hsp : chA cs p2 = sepC (cntN (chA cs p)) i
                · exact go_mem (show τ = atM ρ (argP (cntN (chA cs p)) i p2) by rw [hp3.1 hsp, argP_1 (by omega)]) (J (fun _ => hsp))
                · exact go_mem (hp3.2 hsp) (Jb (by omega) hsp)
              · refine go_iload_n C dX7_readOne_139 rfl ?_
                refine go_iconst C (nI 3) dX7_readOne_140 rfl ?_
                refine go_icmp_leN C 149 dX7_readOne_141 (by decide) (by omega) (by omega) (fun h141 => ?_) (fun h141 => ?_)
                · refine go_bipush C (nI 44) dX7_readOne_149 rfl ?_
                  refine go_top (nI (sepC (cntN (chA cs p)) i)) (by first | (rw [sepC_no h136]) | (rw [show sepC (cntN (chA cs p)) i = 44 from if_neg (fun q => by omega)])) ?_
                  refine go_V1V C ok_X7_take lk_X7_162 dX7_readOne_151 (by decide) rfl rfl rfl (k_X7_take hR2 hcl hch (Nat.le_trans hp2 hcl) hb (sepC_b _ _)) (by decide) (Nat.le_of_ble_eq_true rfl) (fun τ hp3 => ?_)
                  by_cases hsp : chA cs p2 = sepC (cntN (chA cs p)) i
                  · exact go_mem (show τ = atM ρ (argP (cntN (chA cs p)) i p2) by rw [hp3.1 hsp, argP_1 (by omega)]) (J (fun _ => hsp))
                  · exact go_mem (hp3.2 hsp) (Jb (by omega) hsp)
                · refine go_bipush C (nI 61) dX7_readOne_144 rfl ?_
                  refine go_top (nI (sepC (cntN (chA cs p)) i)) (by rw [show sepC (cntN (chA cs p)) i = 61 from if_pos ⟨h136, h141⟩]) ?_
                  refine go_goto C 151 dX7_readOne_146 (by decide) ?_
                  refine go_V1V C ok_X7_take lk_X7_162 dX7_readOne_151 (by decide) rfl rfl rfl (k_X7_take hR2 hcl hch (Nat.le_trans hp2 hcl) hb (sepC_b _ _)) (by decide) (Nat.le_of_ble_eq_true rfl) (fun τ hp3 => ?_)
                  by_cases hsp : chA cs p2 = sepC (cntN (chA cs p)) i
                  · exact go_mem (show τ = atM ρ (argP (cntN (chA cs p)) i p2) by rw [hp3.1 hsp, argP_1 (by omega)]) (J (fun _ => hsp))
                  · exact go_mem (hp3.2 hsp) (Jb (by omega) hsp)
    refine go_aload_n C dX7_readOne_0 rfl ?_
    refine go_V0P C ok_X7_here lk_X7_156 dX7_readOne_1 (by decide) rfl rfl rfl (k_X7_here hR hcl hch (Nat.le_trans hp hcl)) (by decide) (Nat.le_of_ble_eq_true rfl) ?_
    refine go_istore_n C dX7_readOne_4 (by decide) rfl rfl ?_
    refine go_bipush C (nI 9) dX7_readOne_5 rfl ?_
    refine go_aload_n C dX7_readOne_7 rfl ?_
    refine go_getI C gf_X7_159 dX7_readOne_8 (by decide) rfl rfl ?_
    refine go_top _ h21 ?_
    refine go_imulN C dX7_readOne_11 ?_
    refine go_istore_n C dX7_readOne_12 (by decide) rfl rfl ?_
    refine go_aload_n C dX7_readOne_13 rfl ?_
    refine go_getR C gf_X7_45 dX7_readOne_14 (by decide) rfl rfl ?_
    refine go_iload_n C dX7_readOne_17 rfl ?_
    refine go_iload_n C dX7_readOne_18 rfl ?_
    refine go_iastN C dX7_readOne_19 (by decide) rfl (by decide) (by omega) ?_
    refine go_aload_n C dX7_readOne_20 rfl ?_
    refine go_getR C gf_X7_45 dX7_readOne_21 (by decide) rfl rfl ?_
    refine go_iload_n C dX7_readOne_24 rfl ?_
    refine go_iconst C (nI 1) dX7_readOne_25 rfl ?_
    refine go_iaddN C dX7_readOne_26 ?_
    refine go_aload_n C dX7_readOne_27 rfl ?_
    refine go_getI C gf_X7_147 dX7_readOne_28 (by decide) rfl rfl ?_
    refine go_top (nI p) (by rw [updR_n (by decide)]; exact hR.2.2) ?_
    refine go_iastN C dX7_readOne_31 (by decide) rfl (by decide) (by omega) ?_
    refine go_gen (fun ρ1 hρ1 => ?_)
    have hF1 : RoF σ ρ1 j := by rw [hρ1]; exact (RoF.rf.row (Nat.le_refl _)).row (by omega)
    have h191 : ρ1 0 19 = nI p := by rw [hρ1, updR_n (by decide), updR_n (by decide)]; exact hR.2.2
    have h211 : ρ1 0 21 = nI j := by rw [hρ1, updR_n (by decide), updR_n (by decide)]; exact h21
    have h101 : ρ1 10 (9 * j) = hI cs p ∧ ρ1 10 (9 * j + 1) = nI p := ⟨by rw [hρ1, updR_s, pk_un (by omega), updR_s, pk_us], by rw [hρ1, updR_s, pk_us]⟩
    have J62 : Go objM NM X 62 [some (.ref 0), some (.int (hI cs p)), some (.int (nI (9 * j))), none, none] [.int (bP (cntN (chA cs p) = 0)), .ref 0] ρ1 := by
      refine go_putI C gf_X7_153 dX7_readOne_62 (by decide) rfl rfl rfl bP_nar bP_fit ?_
      refine go_aload_n C dX7_readOne_65 rfl ?_
      refine go_dup C dX7_readOne_66 rfl ?_
      refine go_getI C gf_X7_147 dX7_readOne_67 (by decide) rfl rfl ?_
      refine go_top (nI p) (by rw [updR_s, pk_un (by decide)]; exact h191) ?_
      refine go_aload_n C dX7_readOne_70 rfl ?_
      refine go_getI C gf_X7_153 dX7_readOne_71 (by decide) rfl rfl ?_
      refine go_top (bP (cntN (chA cs p) = 0)) (by rw [updR_s, pk_us]) ?_
      refine go_if_eqB C 81 dX7_readOne_74 (by decide) (fun h74 => ?_) (fun h74 => ?_)
      · have hz := h74
        refine go_iconst C (nI 1) dX7_readOne_81 rfl ?_
        refine go_iaddN C dX7_readOne_82 ?_
        refine go_putI C gf_X7_147 dX7_readOne_83 (by decide) rfl rfl rfl rfl rfl ?_
        refine go_gen (fun ρ2 hρ => ?_)
        refine go_iload_n C dX7_readOne_86 rfl ?_
        refine go_bipush C (nI 102) dX7_readOne_87 rfl ?_
        refine go_icmp_ne C 97 dX7_readOne_89 (by decide) (fun h89 => ?_) (fun h89 => ?_)
        · refine go_iload_n C dX7_readOne_97 rfl ?_
          refine go_bipush C (nI 115) dX7_readOne_98 rfl ?_
          refine go_icmp_ne C 107 dX7_readOne_100 (by decide) (fun h100 => ?_) (fun h100 => ?_)
          · have hk2 : nI 3 = nI (cntN (chA cs p)) := by
              rcases cntN_c hz with e | e | e | e
              · exact absurd ((hI_eq hch (by decide)).mpr e) h100
              · exact absurd ((hI_eq hch (by decide)).mpr e) h89
              · rw [e]; rfl
              · rw [e]; rfl
            refine go_iconst C (nI 3) dX7_readOne_107 rfl ?_
            have hF2 : RoF σ ρ2 j := by rw [hρ]; exact (hF1.fld (Or.inr (Or.inl rfl))).fld (Or.inl rfl)
            have hb2 : ρ2 0 20 = nI 0 := by rw [hρ, updR_s, pk_un (by decide), updR_s, pk_us]; exact (bP_f hz).symm
            have h192 : ρ2 0 19 = nI (p + 1) := by rw [hρ, updR_s]; exact pk_us
            have h212 : ρ2 0 21 = nI j := by rw [hρ, updR_s, pk_un (by decide), updR_s, pk_un (by decide)]; exact h211
            refine go_top _ hk2 ?_
            refine go_istore_n C dX7_readOne_108 (by decide) rfl rfl ?_
            refine go_iconst C (nI 0) dX7_readOne_109 rfl ?_
            refine go_istore C dX7_readOne_110 (by decide) rfl rfl ?_
            have hpp := chA_pos (cs := cs) (p := p) (fun q => hz (by rw [q]; rfl))
            exact L (cntN (chA cs p)) 0 (p + 1) [] ρ2 (by omega) h192 (by omega) hb2 ((pCmd_go hz).trans (Prod.ext (by cases (pArgs cs (cntN (chA cs p)) (cntN (chA cs p)) (p + 1)).1 <;> rfl) rfl)) ⟨rfl, fun a v hv => by cases hv⟩ ⟨by rw [hρ, updR_n (by decide), updR_n (by decide), h101.1]; exact hI_in hpp, by rw [hρ, updR_n (by decide), updR_n (by decide)]; exact h101.2⟩ hF2 h212
          · have hk := (hI_eq hch (by decide)).mp h100
            have hk2 : nI 4 = nI (cntN (chA cs p)) := by rw [hk]; rfl
            refine go_iconst C (nI 4) dX7_readOne_103 rfl ?_
            refine go_goto C 108 dX7_readOne_104 (by decide) ?_
            have hF2 : RoF σ ρ2 j := by rw [hρ]; exact (hF1.fld (Or.inr (Or.inl rfl))).fld (Or.inl rfl)
            have hb2 : ρ2 0 20 = nI 0 := by rw [hρ, updR_s, pk_un (by decide), updR_s, pk_us]; exact (bP_f hz).symm
            have h192 : ρ2 0 19 = nI (p + 1) := by rw [hρ, updR_s]; exact pk_us
            have h212 : ρ2 0 21 = nI j := by rw [hρ, updR_s, pk_un (by decide), updR_s, pk_un (by decide)]; exact h211
            refine go_top _ hk2 ?_
            refine go_istore_n C dX7_readOne_108 (by decide) rfl rfl ?_
            refine go_iconst C (nI 0) dX7_readOne_109 rfl ?_
            refine go_istore C dX7_readOne_110 (by decide) rfl rfl ?_
            have hpp := chA_pos (cs := cs) (p := p) (fun q => hz (by rw [q]; rfl))
            exact L (cntN (chA cs p)) 0 (p + 1) [] ρ2 (by omega) h192 (by omega) hb2 ((pCmd_go hz).trans (Prod.ext (by cases (pArgs cs (cntN (chA cs p)) (cntN (chA cs p)) (p + 1)).1 <;> rfl) rfl)) ⟨rfl, fun a v hv => by cases hv⟩ ⟨by rw [hρ, updR_n (by decide), updR_n (by decide), h101.1]; exact hI_in hpp, by rw [hρ, updR_n (by decide), updR_n (by decide)]; exact h101.2⟩ hF2 h212
        · have hk := (hI_eq hch (by decide)).mp h89
          have hk2 : nI 7 = nI (cntN (chA cs p)) := by rw [hk]; rfl
          refine go_bipush C (nI 7) dX7_readOne_92 rfl ?_
          refine go_goto C 108 dX7_readOne_94 (by decide) ?_
          have hF2 : RoF σ ρ2 j := by rw [hρ]; exact (hF1.fld (Or.inr (Or.inl rfl))).fld (Or.inl rfl)
          have hb2 : ρ2 0 20 = nI 0 := by rw [hρ, updR_s, pk_un (by decide), updR_s, pk_us]; exact (bP_f hz).symm
          have h192 : ρ2 0 19 = nI (p + 1) := by rw [hρ, updR_s]; exact pk_us
          have h212 : ρ2 0 21 = nI j := by rw [hρ, updR_s, pk_un (by decide), updR_s, pk_un (by decide)]; exact h211
          refine go_top _ hk2 ?_
          refine go_istore_n C dX7_readOne_108 (by decide) rfl rfl ?_
          refine go_iconst C (nI 0) dX7_readOne_109 rfl ?_
          refine go_istore C dX7_readOne_110 (by decide) rfl rfl ?_
          have hpp := chA_pos (cs := cs) (p := p) (fun q => hz (by rw [q]; rfl))
          exact L (cntN (chA cs p)) 0 (p + 1) [] ρ2 (by omega) h192 (by omega) hb2 ((pCmd_go hz).trans (Prod.ext (by cases (pArgs cs (cntN (chA cs p)) (cntN (chA cs p)) (p + 1)).1 <;> rfl) rfl)) ⟨rfl, fun a v hv => by cases hv⟩ ⟨by rw [hρ, updR_n (by decide), updR_n (by decide), h101.1]; exact hI_in hpp, by rw [hρ, updR_n (by decide), updR_n (by decide)]; exact h101.2⟩ hF2 h212
      · have hz := h74
        refine go_iconst C (nI 0) dX7_readOne_77 rfl ?_
        refine go_goto C 82 dX7_readOne_78 (by decide) ?_
        refine go_iaddN C dX7_readOne_82 ?_
        refine go_putI C gf_X7_147 dX7_readOne_83 (by decide) rfl rfl rfl rfl rfl ?_
        refine go_gen (fun ρ2 hρ => ?_)
        refine go_iload_n C dX7_readOne_86 rfl ?_
        refine go_bipush C (nI 102) dX7_readOne_87 rfl ?_
        refine go_icmp_ne C 97 dX7_readOne_89 (by decide) (fun h89 => ?_) (fun h89 => ?_)
        · refine go_iload_n C dX7_readOne_97 rfl ?_
          refine go_bipush C (nI 115) dX7_readOne_98 rfl ?_
          refine go_icmp_ne C 107 dX7_readOne_100 (by decide) (fun h100 => ?_) (fun h100 => ?_)
          · refine go_iconst C (nI 3) dX7_readOne_107 rfl ?_
            have hF2 : RoF σ ρ2 j := by rw [hρ]; exact (hF1.fld (Or.inr (Or.inl rfl))).fld (Or.inl rfl)
            have hb2 : ρ2 0 20 = nI 1 := by rw [hρ, updR_s, pk_un (by decide), updR_s, pk_us]; exact (bP_t hz).symm
            have h192 : ρ2 0 19 = nI p := by rw [hρ, updR_s]; exact pk_us
            have h212 : ρ2 0 21 = nI j := by rw [hρ, updR_s, pk_un (by decide), updR_s, pk_un (by decide)]; exact h211
            refine go_istore_n C dX7_readOne_108 (by decide) rfl rfl ?_
            refine go_iconst C (nI 0) dX7_readOne_109 rfl ?_
            refine go_istore C dX7_readOne_110 (by decide) rfl rfl ?_
            exact JB 3 0 p ρ2 (by decide) (by decide) hF2 h212 hb2 h192 (pCmd_no hz)
          · exact absurd ((hI_eq hch (by decide)).mp h100) (fun q => by rw [q] at hz; exact absurd hz (by decide))
        · exact absurd ((hI_eq hch (by decide)).mp h89) (fun q => by rw [q] at hz; exact absurd hz (by decide))
    refine go_aload_n C dX7_readOne_32 rfl ?_
    refine go_iload_n C dX7_readOne_33 rfl ?_
    refine go_bipush C (nI 115) dX7_readOne_34 rfl ?_
    refine go_icmp_eq C 61 dX7_readOne_36 (by decide) (fun h36 => ?_) (fun h36 => ?_)
    · have hk := (hI_eq hch (by decide)).mp h36
      refine go_iconst C (nI 0) dX7_readOne_61 rfl ?_
      exact go_top (bP (cntN (chA cs p) = 0)) (bP_f (fun q => by rw [hk] at q; exact absurd q (by decide))) J62
    · refine go_iload_n C dX7_readOne_39 rfl ?_
      refine go_bipush C (nI 102) dX7_readOne_40 rfl ?_
      refine go_icmp_eq C 61 dX7_readOne_42 (by decide) (fun h42 => ?_) (fun h42 => ?_)
      · have hk := (hI_eq hch (by decide)).mp h42
        refine go_iconst C (nI 0) dX7_readOne_61 rfl ?_
        exact go_top (bP (cntN (chA cs p) = 0)) (bP_f (fun q => by rw [hk] at q; exact absurd q (by decide))) J62
      · refine go_iload_n C dX7_readOne_45 rfl ?_
        refine go_bipush C (nI 108) dX7_readOne_46 rfl ?_
        refine go_icmp_eq C 61 dX7_readOne_48 (by decide) (fun h48 => ?_) (fun h48 => ?_)
        · have hk := (hI_eq hch (by decide)).mp h48
          refine go_iconst C (nI 0) dX7_readOne_61 rfl ?_
          exact go_top (bP (cntN (chA cs p) = 0)) (bP_f (fun q => by rw [hk] at q; exact absurd q (by decide))) J62
        · refine go_iload_n C dX7_readOne_51 rfl ?_
          refine go_bipush C (nI 101) dX7_readOne_52 rfl ?_
          refine go_icmp_eq C 61 dX7_readOne_54 (by decide) (fun h54 => ?_) (fun h54 => ?_)
          · have hk := (hI_eq hch (by decide)).mp h54
            refine go_iconst C (nI 0) dX7_readOne_61 rfl ?_
            exact go_top (bP (cntN (chA cs p) = 0)) (bP_f (fun q => by rw [hk] at q; exact absurd q (by decide))) J62
          · have hz0 : cntN (chA cs p) = 0 := cntN_0 (fun q => h36 ((hI_eq hch (by decide)).mpr q)) (fun q => h42 ((hI_eq hch (by decide)).mpr q)) (fun q => h48 ((hI_eq hch (by decide)).mpr q)) (fun q => h54 ((hI_eq hch (by decide)).mpr q))
            refine go_iconst C (nI 1) dX7_readOne_57 rfl ?_
            refine go_goto C 62 dX7_readOne_58 (by decide) ?_
            exact go_top (bP (cntN (chA cs p) = 0)) (bP_t hz0) J62
