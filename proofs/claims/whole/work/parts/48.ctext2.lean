/-! The text of the class: commands. -/
theorem sw_off {x : Int32} {n : Int} (h : x.toInt = n) {ps : List (Int × Int)} {df off : Int} (ho : Op.lookupswitch.offset ps df n = off) : Op.lookupswitch.offset ps df x.toInt = off := by rw [h]; exact ho
theorem nI_int {k : Nat} (h : k < 2 ^ 31) : (nI k).toInt = k := Int32.toInt_ofNat_of_lt h
theorem cntN_le (k : Nat) : cntN k ≤ 7 := by unfold cntN; split; decide; split; decide; split <;> decide
theorem sepC_no {c i : Nat} (h : i ≠ c - 1) : sepC c i = 44 := if_neg (fun q => h q.1)
theorem argP_1 {c i p : Nat} (h : i ≠ 0) : argP c i p = p + 1 := if_neg h
theorem argP_0 {c p : Nat} : argP c 0 p = p := if_pos rfl
theorem posC_pp {σ : Mem} {p q : Nat} : posC (posC σ p) q = posC σ q := by
  funext j
  by_cases e : j = 50
  · subst e
    funext i
    by_cases h : i = 2
    · subst h; rw [posC_2, posC_2]
    · rw [posC_i h, posC_i h, posC_i h]
  · rw [posC_q e, posC_q e, posC_q e]
theorem posC_id {σ : Mem} {p : Nat} (h : σ 50 2 = nI p) : σ = posC σ p := by
  funext j
  by_cases e : j = 50
  · subst e
    funext i
    by_cases z : i = 2
    · subst z; rw [posC_2, h]
    · rw [posC_i z]
  · rw [posC_q e]
def CmdAt (τ : Mem) (c : Nat) (m : Cmd) : Prop := τ 52 c = nI m.1 ∧ τ 53 c = nI m.2.1 ∧ ∀ j v, m.2.2[j]? = some v → τ (55 + c) j = nI v
theorem CmdAt.of {σ τ : Mem} {c : Nat} {m : Cmd} (h : CmdAt σ c m) (h1 : τ 52 c = σ 52 c) (h2 : τ 53 c = σ 53 c) (h3 : τ (55 + c) = σ (55 + c)) : CmdAt τ c m := by
  unfold CmdAt; rw [h1, h2, h3]; exact h
theorem om_app {dn : List Nat} {v : Nat} {o : Option (List Nat)} : (o.map (v :: ·)).map (dn ++ ·) = o.map ((dn ++ [v]) ++ ·) := by
  cases o with
  | none => rfl
  | some l => exact congrArg some (by show dn ++ v :: l = (dn ++ [v]) ++ l; rw [List.append_assoc]; rfl)
theorem om_apc {dn : List Cmd} {v : Cmd} {o : Option (List Cmd)} : (o.map (v :: ·)).map (dn ++ ·) = o.map ((dn ++ [v]) ++ ·) := by
  cases o with
  | none => rfl
  | some l => exact congrArg some (by show dn ++ v :: l = (dn ++ [v]) ++ l; rw [List.append_assoc]; rfl)
theorem at_snoc {α : Type} {dn : List α} {v x : α} {j : Nat} (h : (dn ++ [v])[j]? = some x) : (j < dn.length ∧ dn[j]? = some x) ∨ (j = dn.length ∧ x = v) := by
  by_cases e : j = dn.length
  · right
    rw [e, List.getElem?_concat_length] at h
    cases h
    exact ⟨e, rfl⟩
  · left
    have hlt := (List.getElem?_eq_some_iff.mp h).1
    rw [List.length_append, List.length_singleton] at hlt
    rw [List.getElem?_append_left (by omega)] at h
    exact ⟨by omega, h⟩
set_option maxHeartbeats 4000000 in
set_option maxRecDepth 100000 in
theorem k_X1_countOfNumbers {σ : Mem} {k : Nat} (hk : k < 128) : CtI objC NC yX1_countOfNumbers cX1_countOfNumbers 1 .int 0 0 [.int (nI k)] σ (Pv (nI (cntN k)) σ) := by
  refine ct_ofI rfl ?_ (Nat.le_of_ble_eq_true rfl) (fun X C hr => ?_)
  · intro v hv; simp only [List.mem_cons, List.not_mem_nil, or_false] at hv; rcases hv with rfl <;> rfl
  · refine go_iload_n C dX1_countOfNumbers_0 rfl ?_
    rcases (show k = 101 ∨ k = 102 ∨ k = 108 ∨ k = 115 ∨ (k ≠ 101 ∧ k ≠ 102 ∧ k ≠ 108 ∧ k ≠ 115) by omega) with rfl | rfl | rfl | rfl | ⟨n1, n2, n3, n4⟩
    · refine go_lookup C 49 48 dX1_countOfNumbers_1 (by decide) (sw_off (nI_int (by decide)) (by decide)) (by decide) ?_
      refine go_iconst C (nI 3) dX1_countOfNumbers_49 rfl ?_
      refine go_iret hr dX1_countOfNumbers_50 rfl ?_
      first | exact ⟨rfl, rfl⟩ | exact ⟨by rw [cntN_0 n4 n2 n3 n1], rfl⟩
    · refine go_lookup C 46 45 dX1_countOfNumbers_1 (by decide) (sw_off (nI_int (by decide)) (by decide)) (by decide) ?_
      refine go_bipush C (nI 7) dX1_countOfNumbers_46 rfl ?_
      refine go_iret hr dX1_countOfNumbers_48 rfl ?_
      first | exact ⟨rfl, rfl⟩ | exact ⟨by rw [cntN_0 n4 n2 n3 n1], rfl⟩
    · refine go_lookup C 49 48 dX1_countOfNumbers_1 (by decide) (sw_off (nI_int (by decide)) (by decide)) (by decide) ?_
      refine go_iconst C (nI 3) dX1_countOfNumbers_49 rfl ?_
      refine go_iret hr dX1_countOfNumbers_50 rfl ?_
      first | exact ⟨rfl, rfl⟩ | exact ⟨by rw [cntN_0 n4 n2 n3 n1], rfl⟩
    · refine go_lookup C 44 43 dX1_countOfNumbers_1 (by decide) (sw_off (nI_int (by decide)) (by decide)) (by decide) ?_
      refine go_iconst C (nI 4) dX1_countOfNumbers_44 rfl ?_
      refine go_iret hr dX1_countOfNumbers_45 rfl ?_
      first | exact ⟨rfl, rfl⟩ | exact ⟨by rw [cntN_0 n4 n2 n3 n1], rfl⟩
    · refine go_lookup C 51 50 dX1_countOfNumbers_1 (by decide) (sw_off (nI_int (by omega)) (by
        show Op.lookupswitch.offset [(101, 48), (102, 45), (108, 48), (115, 43)] 50 (k : Int) = 50
        rw [Op.lookupswitch.offset_cons, if_neg (by omega), Op.lookupswitch.offset_cons, if_neg (by omega), Op.lookupswitch.offset_cons, if_neg (by omega), Op.lookupswitch.offset_cons, if_neg (by omega)]; rfl)) (by decide) ?_
      refine go_iconst C (nI 0) dX1_countOfNumbers_51 rfl ?_
      refine go_iret hr dX1_countOfNumbers_52 rfl ?_
      first | exact ⟨rfl, rfl⟩ | exact ⟨by rw [cntN_0 n4 n2 n3 n1], rfl⟩
set_option maxHeartbeats 4000000 in
set_option maxRecDepth 100000 in
theorem k_X1_lastSeparator {σ : Mem} {k : Nat} (hk : k < 128) (hk2 : cntN k ≠ 0) : CtI objC NC yX1_lastSeparator cX1_lastSeparator 1 .char 0 0 [.int (nI k)] σ (Pv (nI (sepC (cntN k) (cntN k - 1))) σ) := by
  refine ct_ofI rfl ?_ (Nat.le_of_ble_eq_true rfl) (fun X C hr => ?_)
  · intro v hv; simp only [List.mem_cons, List.not_mem_nil, or_false] at hv; rcases hv with rfl <;> rfl
  · refine go_iload_n C dX1_lastSeparator_0 rfl ?_
    refine go_bipush C (nI 115) dX1_lastSeparator_1 rfl ?_
    refine go_icmp_eqN C 12 dX1_lastSeparator_3 (by decide) (by omega) (by omega) (fun h3 => ?_) (fun h3 => ?_)
    · refine go_bipush C (nI 61) dX1_lastSeparator_12 rfl ?_
      refine go_goto C 19 dX1_lastSeparator_14 (by decide) ?_
      refine go_iret hr dX1_lastSeparator_19 rfl ?_
      rcases cntN_c hk2 with e | e | e | e <;> subst e <;> first | exact ⟨rfl, rfl⟩ | (exfalso; omega)
    · refine go_iload_n C dX1_lastSeparator_6 rfl ?_
      refine go_bipush C (nI 102) dX1_lastSeparator_7 rfl ?_
      refine go_icmp_neN C 17 dX1_lastSeparator_9 (by decide) (by omega) (by omega) (fun h9 => ?_) (fun h9 => ?_)
      · refine go_bipush C (nI 44) dX1_lastSeparator_17 rfl ?_
        refine go_iret hr dX1_lastSeparator_19 rfl ?_
        rcases cntN_c hk2 with e | e | e | e <;> subst e <;> first | exact ⟨rfl, rfl⟩ | (exfalso; omega)
      · refine go_bipush C (nI 61) dX1_lastSeparator_12 rfl ?_
        refine go_goto C 19 dX1_lastSeparator_14 (by decide) ?_
        refine go_iret hr dX1_lastSeparator_19 rfl ?_
        rcases cntN_c hk2 with e | e | e | e <;> subst e <;> first | exact ⟨rfl, rfl⟩ | (exfalso; omega)
def NumP (σ : Mem) (cs : List Nat) (p c i : Nat) : Int32 → Mem → Prop := fun r τ => r = bP (isD (chA cs p)) ∧ (isD (chA cs p) → τ = updR (posC σ (numQ cs p)) (55 + c) (upd (σ (55 + c)) i (nI (numV cs p)))) ∧ (¬ isD (chA cs p) → τ = σ)
set_option maxHeartbeats 4000000 in
set_option maxRecDepth 100000 in
theorem k_X1_parseNumber {σ : Mem} {cs : List Nat} (hX : TxtC σ cs) (hcl : cs.length ≤ 60) (hch : ∀ ch, ch ∈ cs → 33 ≤ ch ∧ ch < 127) {p : Nat} (hp : σ 50 2 = nI p) (hpl : p ≤ 60) {c i : Nat} (hc : c < 10) (hi : i < 7) : CtI objC NC yX1_parseNumber cX1_parseNumber 4 .boolean 1 20 [.ref 50, .int (nI c), .int (nI i)] σ (NumP σ cs p c i) := by
  refine ct_ofI rfl ?_ (Nat.le_of_ble_eq_true rfl) (fun X C hr => ?_)
  · intro v hv; simp only [List.mem_cons, List.not_mem_nil, or_false] at hv; rcases hv with rfl | rfl | rfl <;> rfl
  · refine go_aload_n C dX1_parseNumber_0 rfl ?_
    refine go_V0P C ok_X1_isDigitNext lk_X1_57 dX1_parseNumber_1 (by decide) rfl rfl rfl (k_X1_isDigitNext hX hcl hch hp hpl) (by decide) (Nat.le_of_ble_eq_true rfl) ?_
    refine go_if_neB C 9 dX1_parseNumber_4 (by decide) (fun h4 => ?_) (fun h4 => ?_)
    · have hp2 := isD_pos h4
      obtain ⟨hd1, hd2⟩ := id h4
      refine go_aload_n C dX1_parseNumber_9 rfl ?_
      refine go_getR C gf_X1_11 dX1_parseNumber_10 (by decide) rfl rfl ?_
      refine go_aload_n C dX1_parseNumber_13 rfl ?_
      refine go_getI C gf_X1_19 dX1_parseNumber_14 (by decide) rfl rfl ?_
      refine go_top _ hp ?_
      refine go_caldN C dX1_parseNumber_17 (by decide) rfl (by decide) (by omega) ?_
      refine go_top _ (rdS hX (by omega)) ?_
      refine go_bipush C (nI 48) dX1_parseNumber_18 rfl ?_
      refine go_isubN C dX1_parseNumber_20 (by omega) ?_
      refine go_istore_n C dX1_parseNumber_21 (by decide) rfl rfl ?_
      refine go_aload_n C dX1_parseNumber_22 rfl ?_
      refine go_dup C dX1_parseNumber_23 rfl ?_
      refine go_getI C gf_X1_19 dX1_parseNumber_24 (by decide) rfl rfl ?_
      refine go_top _ hp ?_
      refine go_iconst C (nI 1) dX1_parseNumber_27 rfl ?_
      refine go_iaddN C dX1_parseNumber_28 ?_
      refine go_putI C gf_X1_19 dX1_parseNumber_29 (by decide) rfl rfl rfl rfl rfl ?_
      refine go_mem (τ := posC σ (p + 1)) rfl ?_
      refine go_aload_n C dX1_parseNumber_32 rfl ?_
      refine go_V0P C ok_X1_isDigitNext lk_X1_57 dX1_parseNumber_33 (by decide) rfl rfl rfl (k_X1_isDigitNext hX.pos hcl hch posC_2 (by omega)) (by decide) (Nat.le_of_ble_eq_true rfl) ?_
      refine go_if_eqB C 67 dX1_parseNumber_36 (by decide) (fun h36 => ?_) (fun h36 => ?_)
      · refine go_aload_n C dX1_parseNumber_67 rfl ?_
        refine go_getR C gf_X1_31 dX1_parseNumber_68 (by decide) rfl rfl ?_
        refine go_iload_n C dX1_parseNumber_71 rfl ?_
        refine go_aald C dX1_parseNumber_72 (by decide) rfl (Or.inl rfl) (by decide) (jsN hc) ?_
        refine go_iload_n C dX1_parseNumber_73 rfl ?_
        refine go_iload_n C dX1_parseNumber_74 rfl ?_
        refine go_iastN C dX1_parseNumber_75 (Nat.lt_of_lt_of_le (Nat.add_lt_add_left hc 55) (by decide)) (hoN hc) (by decide) (by omega) ?_
        refine go_iconst C (nI 1) dX1_parseNumber_76 rfl ?_
        refine go_iret hr dX1_parseNumber_77 rfl ?_
        exact ⟨bP_t h4, fun _ => by unfold numQ numV; rw [if_neg h36, if_neg h36, posC_q (by omega)], fun z => absurd h4 z⟩
      · have hp3 := isD_pos h36
        obtain ⟨he1, he2⟩ := id h36
        refine go_bipush C (nI 10) dX1_parseNumber_39 rfl ?_
        refine go_iload_n C dX1_parseNumber_41 rfl ?_
        refine go_imulN C dX1_parseNumber_42 ?_
        refine go_aload_n C dX1_parseNumber_43 rfl ?_
        refine go_getR C gf_X1_11 dX1_parseNumber_44 (by decide) rfl rfl ?_
        refine go_aload_n C dX1_parseNumber_47 rfl ?_
        refine go_getI C gf_X1_19 dX1_parseNumber_48 (by decide) rfl rfl ?_
        refine go_top _ posC_2 ?_
        refine go_caldN C dX1_parseNumber_51 (by decide) rfl (by decide) (by omega) ?_
        refine go_top _ (rdS hX.pos (by omega)) ?_
        refine go_iaddN C dX1_parseNumber_52 ?_
        refine go_bipush C (nI 48) dX1_parseNumber_53 rfl ?_
        refine go_isubN C dX1_parseNumber_55 (by omega) ?_
        refine go_istore_n C dX1_parseNumber_56 (by decide) rfl rfl ?_
        refine go_aload_n C dX1_parseNumber_57 rfl ?_
        refine go_dup C dX1_parseNumber_58 rfl ?_
        refine go_getI C gf_X1_19 dX1_parseNumber_59 (by decide) rfl rfl ?_
        refine go_top _ posC_2 ?_
        refine go_iconst C (nI 1) dX1_parseNumber_62 rfl ?_
        refine go_iaddN C dX1_parseNumber_63 ?_
        refine go_putI C gf_X1_19 dX1_parseNumber_64 (by decide) rfl rfl rfl rfl rfl ?_
        refine go_mem (τ := posC σ (p + 2)) (posC_pp (σ := σ) (p := p + 1) (q := p + 2)) ?_
        refine go_aload_n C dX1_parseNumber_67 rfl ?_
        refine go_getR C gf_X1_31 dX1_parseNumber_68 (by decide) rfl rfl ?_
        refine go_iload_n C dX1_parseNumber_71 rfl ?_
        refine go_aald C dX1_parseNumber_72 (by decide) rfl (Or.inl rfl) (by decide) (jsN hc) ?_
        refine go_iload_n C dX1_parseNumber_73 rfl ?_
        refine go_iload_n C dX1_parseNumber_74 rfl ?_
        refine go_iastN C dX1_parseNumber_75 (Nat.lt_of_lt_of_le (Nat.add_lt_add_left hc 55) (by decide)) (hoN hc) (by decide) (by omega) ?_
        refine go_iconst C (nI 1) dX1_parseNumber_76 rfl ?_
        refine go_iret hr dX1_parseNumber_77 rfl ?_
        exact ⟨bP_t h4, fun _ => by unfold numQ numV; rw [if_pos h36, if_pos h36, posC_q (by omega), show 10 * (chA cs p - 48) + chA cs (p + 1) - 48 = 10 * (chA cs p - 48) + (chA cs (p + 1) - 48) by omega], fun z => absurd h4 z⟩
    · refine go_iconst C (nI 0) dX1_parseNumber_7 rfl ?_
      refine go_iret hr dX1_parseNumber_8 rfl ?_
      exact ⟨bP_f h4, fun z => absurd z h4, fun _ => rfl⟩
def PcF (σ τ : Mem) (c : Nat) : Prop := (∀ q, q ≠ 50 → q ≠ 52 → q ≠ 53 → q ≠ 55 + c → τ q = σ q) ∧ (∀ j, j ≠ 2 → τ 50 j = σ 50 j) ∧ ∀ j, j ≠ c → τ 52 j = σ 52 j ∧ τ 53 j = σ 53 j
theorem PcF.tx {σ τ : Mem} {c : Nat} {cs : List Nat} (h : PcF σ τ c) (hX : TxtC σ cs) : TxtC τ cs := hX.of (h.2.1 1 (by decide)) (h.1 51 (by decide) (by decide) (by decide) (by omega))
theorem PcF.pos {σ τ : Mem} {c q : Nat} (h : PcF σ τ c) : PcF σ (posC τ q) c := ⟨fun z a b d e => by rw [posC_q a]; exact h.1 z a b d e, fun j hj => by rw [posC_i hj]; exact h.2.1 j hj, fun j hj => by rw [posC_q (by decide), posC_q (by decide)]; exact h.2.2 j hj⟩
def PcP (σ : Mem) (cs : List Nat) (p c : Nat) : Int32 → Mem → Prop := fun r τ => PcF σ τ c ∧ τ 50 2 = nI (pCmd cs p).2 ∧ (((pCmd cs p).1 = none ∧ r = nI 0) ∨ ∃ l, (pCmd cs p).1 = some l ∧ r = nI 1 ∧ CmdAt τ c (chA cs p, p, l))
theorem PcP.no {σ τ : Mem} {cs : List Nat} {p c q : Nat} (h : PcF σ τ c) (h2 : τ 50 2 = nI q) (e : pCmd cs p = (none, q)) : PcP σ cs p c (nI 0) τ := by
  unfold PcP
  rw [e]
  exact ⟨h, h2, Or.inl ⟨rfl, rfl⟩⟩
theorem pCa {cs : List Nat} {p : Nat} {c n p2 q : Nat} {dn : List Nat} (he : pCmd cs p = ((pArgs cs c n p2).1.map (dn ++ ·), (pArgs cs c n p2).2)) (h : pArgs cs c n p2 = (none, q)) : pCmd cs p = (none, q) := by rw [he, h]; rfl
theorem pCb {cs : List Nat} {p : Nat} {c p2 : Nat} {dn : List Nat} (he : pCmd cs p = ((pArgs cs c 0 p2).1.map (dn ++ ·), (pArgs cs c 0 p2).2)) : pCmd cs p = (some dn, p2) := he.trans (by show (some (dn ++ []), p2) = _; rw [List.append_nil])
theorem pCc {cs : List Nat} {p : Nat} {c n p2 q v : Nat} {dn : List Nat} (he : pCmd cs p = ((pArgs cs c (n + 1) p2).1.map (dn ++ ·), (pArgs cs c (n + 1) p2).2)) (h : pArgs cs c (n + 1) p2 = ((pArgs cs c n q).1.map (v :: ·), (pArgs cs c n q).2)) : pCmd cs p = ((pArgs cs c n q).1.map ((dn ++ [v]) ++ ·), (pArgs cs c n q).2) := by rw [he, h]; exact Prod.ext om_app rfl
set_option maxHeartbeats 4000000 in
set_option maxRecDepth 100000 in
theorem k_X1_parseCommand {σ : Mem} {cs : List Nat} (hX : TxtC σ cs) (hcl : cs.length ≤ 60) (hch : ∀ ch, ch ∈ cs → 33 ≤ ch ∧ ch < 127) {p : Nat} (hp : σ 50 2 = nI p) (hpl : p ≤ 60) {c : Nat} (hc : c < 10) : CtI objC NC yX1_parseCommand cX1_parseCommand 5 .boolean 2 43 [.ref 50, .int (nI c)] σ (PcP σ cs p c) := by
  refine ct_ofI rfl ?_ (Nat.le_of_ble_eq_true rfl) (fun X C hr => ?_)
  · intro v hv; simp only [List.mem_cons, List.not_mem_nil, or_false] at hv; rcases hv with rfl | rfl <;> rfl
  · refine go_aload_n C dX1_parseCommand_0 rfl ?_
    refine go_getI C gf_X1_19 dX1_parseCommand_1 (by decide) rfl rfl ?_
    refine go_top _ hp ?_
    refine go_aload_n C dX1_parseCommand_4 rfl ?_
    refine go_getI C gf_X1_15 dX1_parseCommand_5 (by decide) rfl rfl ?_
    refine go_top (nI cs.length) hX.1 ?_
    refine go_icmp_geN C 23 dX1_parseCommand_8 (by decide) (by omega) (by omega) (fun h8 => ?_) (fun h8 => ?_)
    · have hz : chA cs p = 0 := chA_ge (by omega)
      have hcn := cntN_le 32
      refine go_bipush C (nI 32) dX1_parseCommand_23 rfl ?_
      refine go_istore_n C dX1_parseCommand_25 (by decide) rfl rfl ?_
      refine go_iload_n C dX1_parseCommand_26 rfl ?_
      refine go_S1P C ok_X1_countOfNumbers lk_X1_45 dX1_parseCommand_27 (k_X1_countOfNumbers (k := 32) (by omega)) (by decide) (Nat.le_of_ble_eq_true rfl) ?_
      refine go_istore_n C dX1_parseCommand_30 (by decide) rfl rfl ?_
      refine go_iload_n C dX1_parseCommand_31 rfl ?_
      refine go_if_neN C 37 dX1_parseCommand_32 (by decide) (by omega) (fun h32 => ?_) (fun h32 => ?_)
      · exact absurd rfl h32
      · have hno := pCmd_no (cs := cs) (p := p) (by rw [hz]; rfl)
        refine go_iconst C (nI 0) dX1_parseCommand_35 rfl ?_
        refine go_iret hr dX1_parseCommand_36 rfl ?_
        exact PcP.no ⟨fun _ _ _ _ _ => rfl, fun _ _ => rfl, fun _ _ => ⟨rfl, rfl⟩⟩ hp hno
    · have hbd := chA_b hch p
      have hcn := cntN_le (chA cs p)
      refine go_aload_n C dX1_parseCommand_11 rfl ?_
      refine go_getR C gf_X1_11 dX1_parseCommand_12 (by decide) rfl rfl ?_
      refine go_aload_n C dX1_parseCommand_15 rfl ?_
      refine go_getI C gf_X1_19 dX1_parseCommand_16 (by decide) rfl rfl ?_
      refine go_top _ hp ?_
      refine go_caldN C dX1_parseCommand_19 (by decide) rfl (by decide) (by omega) ?_
      refine go_top _ (rdS hX (by omega)) ?_
      refine go_goto C 25 dX1_parseCommand_20 (by decide) ?_
      refine go_istore_n C dX1_parseCommand_25 (by decide) rfl rfl ?_
      refine go_iload_n C dX1_parseCommand_26 rfl ?_
      refine go_S1P C ok_X1_countOfNumbers lk_X1_45 dX1_parseCommand_27 (k_X1_countOfNumbers (k := chA cs p) (by omega)) (by decide) (Nat.le_of_ble_eq_true rfl) ?_
      refine go_istore_n C dX1_parseCommand_30 (by decide) rfl rfl ?_
      refine go_iload_n C dX1_parseCommand_31 rfl ?_
      refine go_if_neN C 37 dX1_parseCommand_32 (by decide) (by omega) (fun h32 => ?_) (fun h32 => ?_)
      · have hcn0 : cntN (chA cs p) ≠ 0 := h32
        refine go_aload_n C dX1_parseCommand_37 rfl ?_
        refine go_getR C gf_X1_22 dX1_parseCommand_38 (by decide) rfl rfl ?_
        refine go_iload_n C dX1_parseCommand_41 rfl ?_
        refine go_iload_n C dX1_parseCommand_42 rfl ?_
        refine go_castN C dX1_parseCommand_43 (by decide) rfl (by decide) (by omega) ?_
        refine go_aload_n C dX1_parseCommand_44 rfl ?_
        refine go_getR C gf_X1_25 dX1_parseCommand_45 (by decide) rfl rfl ?_
        refine go_iload_n C dX1_parseCommand_48 rfl ?_
        refine go_aload_n C dX1_parseCommand_49 rfl ?_
        refine go_getI C gf_X1_19 dX1_parseCommand_50 (by decide) rfl rfl ?_
        refine go_top (nI p) (by rw [updR_n (by decide)]; exact hp) ?_
        refine go_iastN C dX1_parseCommand_53 (by decide) rfl (by decide) (by omega) ?_
        refine go_aload_n C dX1_parseCommand_54 rfl ?_
        refine go_dup C dX1_parseCommand_55 rfl ?_
        refine go_getI C gf_X1_19 dX1_parseCommand_56 (by decide) rfl rfl ?_
        refine go_top (nI p) (by rw [updR_n (by decide), updR_n (by decide)]; exact hp) ?_
        refine go_iconst C (nI 1) dX1_parseCommand_59 rfl ?_
        refine go_iaddN C dX1_parseCommand_60 ?_
        refine go_putI C gf_X1_19 dX1_parseCommand_61 (by decide) rfl rfl rfl rfl rfl ?_
        refine go_gen (fun ρ0 hρ => ?_)
        have hF0 : PcF σ ρ0 c := ⟨fun q a b d e => by rw [hρ, updR_n a, updR_n d, updR_n b], fun j hj => by rw [hρ, updR_s, pk_un hj, updR_n (by decide), updR_n (by decide)], fun j hj => ⟨by rw [hρ, updR_n (by decide), updR_n (by decide), updR_s, pk_un hj], by rw [hρ, updR_n (by decide), updR_s, pk_un hj, updR_n (by decide)]⟩⟩
        have h520 : ρ0 52 c = nI (chA cs p) ∧ ρ0 53 c = nI p := ⟨by rw [hρ, updR_n (by decide), updR_n (by decide), updR_s, pk_us]; exact nar_c (by omega), by rw [hρ, updR_n (by decide), updR_s, pk_us]⟩
        have hq0 : ρ0 50 2 = nI (p + 1) := by rw [hρ, updR_s, pk_us]
        have L : ∀ (n : Nat) (i : Nat) (p2 : Nat) (dn : List Nat) (ρ : Mem), (i + n = (cntN (chA cs p))) → (ρ 50 2 = nI p2) → (p2 ≤ cs.length) → (pCmd cs p = ((pArgs cs (cntN (chA cs p)) n p2).1.map (dn ++ ·), (pArgs cs (cntN (chA cs p)) n p2).2)) → (dn.length = i ∧ ∀ j v, dn[j]? = some v → ρ (55 + c) j = nI v) → (ρ 52 c = nI (chA cs p) ∧ ρ 53 c = nI p) → (PcF σ ρ c) → Go objC NC X 67 [some (.ref 50), some (.int (nI c)), some (.int (nI (chA cs p))), some (.int (nI (cntN (chA cs p)))), some (.int (nI i))] [] ρ := by
          intro n
          induction n using Nat.strongRecOn with
          | _ n ih =>
            intro i p2 dn ρ hi hq hp2 he hdn h52 hF
            refine go_iload C dX1_parseCommand_67 rfl ?_
            refine go_iload_n C dX1_parseCommand_69 rfl ?_
            refine go_icmp_geN C 122 dX1_parseCommand_70 (by decide) (by omega) (by omega) (fun h70 => ?_) (fun h70 => ?_)
            · obtain rfl : n = 0 := by omega
              have he2 := pCb he
              refine go_iconst C (nI 1) dX1_parseCommand_122 rfl ?_
              refine go_iret hr dX1_parseCommand_123 rfl ?_
              unfold PcP
              rw [he2]
              exact ⟨hF, hq, Or.inr ⟨dn, rfl, rfl, h52.1, h52.2, hdn.2⟩⟩
            · obtain ⟨n, rfl⟩ : ∃ m, n = m + 1 := ⟨n - 1, by omega⟩
              have hXr := hF.tx hX
              have hi7 : i < 7 := by omega
              have J : (i ≠ 0 → chA cs p2 = sepC (cntN (chA cs p)) i) → Go objC NC X 104 [some (.ref 50), some (.int (nI c)), some (.int (nI (chA cs p))), some (.int (nI (cntN (chA cs p)))), some (.int (nI i))] [] (posC ρ (argP (cntN (chA cs p)) i p2)) := by
                intro hs
                have hql : argP (cntN (chA cs p)) i p2 ≤ cs.length := by
                  by_cases z : i = 0
                  · rw [z, argP_0]; exact hp2
                  · rw [argP_1 z]
                    have h3 := hs z
                    have h4 := sepC_b (cntN (chA cs p)) i
                    have := chA_pos (cs := cs) (p := p2) (by omega)
                    omega
                refine go_aload_n C dX1_parseCommand_104 rfl ?_
                refine go_iload_n C dX1_parseCommand_105 rfl ?_
                refine go_iload C dX1_parseCommand_106 rfl ?_
                refine go_V2I C ok_X1_parseNumber lk_X1_53 dX1_parseCommand_108 (by decide) rfl rfl rfl (k_X1_parseNumber hXr.pos hcl hch posC_2 (Nat.le_trans hql hcl) hc hi7) (by decide) (Nat.le_of_ble_eq_true rfl) (fun r τ hp3 => ?_)
                obtain ⟨hr1, hr2, hr3⟩ := hp3
                subst hr1
                refine go_if_neB C 116 dX1_parseCommand_111 (by decide) (fun h111 => ?_) (fun h111 => ?_)
                · have hno := num_ok h111
                  have hτ := hr2 h111
                  refine go_iincN C 1 dX1_parseCommand_116 rfl rfl (by decide) rfl rfl ?_
                  refine go_goto C 67 dX1_parseCommand_119 (by decide) ?_
                  exact ih n (by omega) (i + 1) (numQ cs (argP (cntN (chA cs p)) i p2)) (dn ++ [numV cs (argP (cntN (chA cs p)) i p2)]) τ (by omega) (by rw [hτ, updR_n (by omega), posC_2]) hno.2.2 (pCc he (pA_ok (by omega) hs h111)) ⟨by rw [List.length_append, hdn.1]; rfl, fun j v hv => by
                    rw [hτ, updR_s]
                    rcases at_snoc hv with ⟨q1, q2⟩ | ⟨q1, q2⟩
                    · rw [pk_un (by omega), posC_q (by omega)]; exact hdn.2 j v q2
                    · rw [q1, hdn.1, pk_us, q2]⟩ ⟨by rw [hτ, updR_n (by omega), posC_q (by decide), posC_q (by decide)]; exact h52.1, by rw [hτ, updR_n (by omega), posC_q (by decide), posC_q (by decide)]; exact h52.2⟩ ⟨fun z a b d e => by rw [hτ, updR_n e, posC_q a, posC_q a]; exact hF.1 z a b d e, fun j hj => by rw [hτ, updR_n (by omega), posC_i hj, posC_i hj]; exact hF.2.1 j hj, fun j hj => by rw [hτ, updR_n (by omega), updR_n (by omega), posC_q (by decide), posC_q (by decide), posC_q (by decide), posC_q (by decide)]; exact hF.2.2 j hj⟩
                · refine go_iconst C (nI 0) dX1_parseCommand_114 rfl ?_
                  refine go_iret hr dX1_parseCommand_115 rfl ?_
                  exact PcP.no (by rw [hr3 h111]; exact hF.pos) (by rw [hr3 h111]; exact posC_2) (pCa he (pA_no (by omega) hs h111))
              refine go_iload C dX1_parseCommand_73 rfl ?_
              refine go_if_leN C 104 dX1_parseCommand_75 (by decide) (by omega) (fun h75 => ?_) (fun h75 => ?_)
              · obtain rfl : i = 0 := by omega
                refine go_mem (by rw [argP_0]; exact posC_id hq) (J (fun z => absurd rfl z))
              · refine go_aload_n C dX1_parseCommand_78 rfl ?_
                refine go_iload C dX1_parseCommand_79 rfl ?_
                refine go_iload_n C dX1_parseCommand_81 rfl ?_
                refine go_iconst C (nI 1) dX1_parseCommand_82 rfl ?_
                refine go_isubN C dX1_parseCommand_83 (by omega) ?_
                refine go_icmp_neN C 94 dX1_parseCommand_84 (by decide) (by omega) (by omega) (fun h84 => ?_) (fun h84 => ?_)
                · refine go_bipush C (nI 44) dX1_parseCommand_94 rfl ?_
                  refine go_top (nI (sepC (cntN (chA cs p)) i)) (by rw [sepC_no h84]) ?_
                  refine go_V1I C ok_X1_skip lk_X1_41 dX1_parseCommand_96 (by decide) rfl rfl rfl (k_X1_skip hXr hcl hch hq (Nat.le_trans hp2 hcl) (sepC_b _ _)) (by decide) (Nat.le_of_ble_eq_true rfl) (fun r τ hp3 => ?_)
                  obtain ⟨hs1, hs2, hs3⟩ := hp3
                  subst hs1
                  refine go_if_neB C 104 dX1_parseCommand_99 (by decide) (fun h99 => ?_) (fun h99 => ?_)
                  · refine go_mem (show τ = posC ρ (argP (cntN (chA cs p)) i p2) by rw [hs2 h99, argP_1 (by omega)]) (J (fun _ => h99))
                  · refine go_iconst C (nI 0) dX1_parseCommand_102 rfl ?_
                    refine go_iret hr dX1_parseCommand_103 rfl ?_
                    exact PcP.no (by rw [hs3 h99]; exact hF) (by rw [hs3 h99]; exact hq) (pCa he (pA_sep (by omega) (by omega) h99))
                · refine go_iload_n C dX1_parseCommand_87 rfl ?_
                  refine go_S1P C ok_X1_lastSeparator lk_X1_49 dX1_parseCommand_88 (k_X1_lastSeparator (by omega) hcn0) (by decide) (Nat.le_of_ble_eq_true rfl) ?_
                  refine go_top (nI (sepC (cntN (chA cs p)) i)) (by rw [h84]) ?_
                  refine go_goto C 96 dX1_parseCommand_91 (by decide) ?_
                  refine go_V1I C ok_X1_skip lk_X1_41 dX1_parseCommand_96 (by decide) rfl rfl rfl (k_X1_skip hXr hcl hch hq (Nat.le_trans hp2 hcl) (sepC_b _ _)) (by decide) (Nat.le_of_ble_eq_true rfl) (fun r τ hp3 => ?_)
                  obtain ⟨hs1, hs2, hs3⟩ := hp3
                  subst hs1
                  refine go_if_neB C 104 dX1_parseCommand_99 (by decide) (fun h99 => ?_) (fun h99 => ?_)
                  · refine go_mem (show τ = posC ρ (argP (cntN (chA cs p)) i p2) by rw [hs2 h99, argP_1 (by omega)]) (J (fun _ => h99))
                  · refine go_iconst C (nI 0) dX1_parseCommand_102 rfl ?_
                    refine go_iret hr dX1_parseCommand_103 rfl ?_
                    exact PcP.no (by rw [hs3 h99]; exact hF) (by rw [hs3 h99]; exact hq) (pCa he (pA_sep (by omega) (by omega) h99))
        refine go_iconst C (nI 0) dX1_parseCommand_64 rfl ?_
        refine go_istore C dX1_parseCommand_65 (by decide) rfl rfl ?_
        exact L (cntN (chA cs p)) 0 (p + 1) [] ρ0 (by omega) hq0 (by omega) ((pCmd_go h32).trans (Prod.ext (by cases (pArgs cs (cntN (chA cs p)) (cntN (chA cs p)) (p + 1)).1 <;> rfl) rfl)) ⟨rfl, fun j v hv => by cases hv⟩ h520 hF0
      · have hno := pCmd_no h32
        refine go_iconst C (nI 0) dX1_parseCommand_35 rfl ?_
        refine go_iret hr dX1_parseCommand_36 rfl ?_
        exact PcP.no ⟨fun _ _ _ _ _ => rfl, fun _ _ => rfl, fun _ _ => ⟨rfl, rfl⟩⟩ hp hno
def ParF (σ τ : Mem) : Prop := (∀ q, q < 50 → τ q = σ q) ∧ τ 51 = σ 51 ∧ τ 50 1 = σ 50 1
def ParP (σ : Mem) (cs : List Nat) : Int32 → Mem → Prop := fun r τ => ParF σ τ ∧ (((pAll cs 10 0).1 = none ∧ r = nI (pAll cs 10 0).2) ∨ ∃ l, (pAll cs 10 0).1 = some l ∧ r = -4 ∧ τ 50 6 = nI l.length ∧ ∀ j m, l[j]? = some m → CmdAt τ j m)
theorem ParP.no {σ τ : Mem} {cs : List Nat} {q : Nat} (h : ParF σ τ) (e : pAll cs 10 0 = (none, q)) : ParP σ cs (nI q) τ := by
  unfold ParP
  rw [e]
  exact ⟨h, Or.inl ⟨rfl, rfl⟩⟩
theorem pAa {cs : List Nat} {n p2 q : Nat} {dn : List Cmd} {z : Option (List Cmd) × Nat} (he : z = ((pAll cs n p2).1.map (dn ++ ·), (pAll cs n p2).2)) (h : pAll cs n p2 = (none, q)) : z = (none, q) := by rw [he, h]; rfl
theorem pAb {cs : List Nat} {n p2 q : Nat} {v : Cmd} {dn : List Cmd} {z : Option (List Cmd) × Nat} (he : z = ((pAll cs n p2).1.map (dn ++ ·), (pAll cs n p2).2)) (h : pAll cs n p2 = (some [v], q)) : z = (some (dn ++ [v]), q) := by rw [he, h]; rfl
theorem pAc {cs : List Nat} {n p2 q : Nat} {v : Cmd} {dn : List Cmd} {z : Option (List Cmd) × Nat} (he : z = ((pAll cs (n + 1) p2).1.map (dn ++ ·), (pAll cs (n + 1) p2).2)) (h : pAll cs (n + 1) p2 = ((pAll cs n q).1.map (v :: ·), (pAll cs n q).2)) : z = ((pAll cs n q).1.map ((dn ++ [v]) ++ ·), (pAll cs n q).2) := by rw [he, h]; exact Prod.ext om_apc rfl
set_option maxHeartbeats 4000000 in
set_option maxRecDepth 100000 in
theorem k_X1_parse {σ : Mem} {cs : List Nat} (hX : TxtC σ cs) (hcl : cs.length ≤ 60) (hch : ∀ ch, ch ∈ cs → 33 ≤ ch ∧ ch < 127) : CtI objC NC yX1_parse cX1_parse 2 .int 3 67 [.ref 50] σ (ParP σ cs) := by
  refine ct_ofI rfl ?_ (Nat.le_of_ble_eq_true rfl) (fun X C hr => ?_)
  · intro v hv; simp only [List.mem_cons, List.not_mem_nil, or_false] at hv; rcases hv with rfl <;> rfl
  · have L : ∀ (n : Nat) (i : Nat) (p2 : Nat) (dn : List Cmd) (ρ : Mem), (i + n = 10) → (ρ 50 2 = nI p2) → (p2 ≤ cs.length) → (ρ 50 6 = nI i) → (dn.length = i ∧ ∀ j m, dn[j]? = some m → CmdAt ρ j m) → (pAll cs 10 0 = ((pAll cs n p2).1.map (dn ++ ·), (pAll cs n p2).2)) → (ParF σ ρ) → Go objC NC X 12 [some (.ref 50), some (.int (nI i))] [] ρ := by
      intro n
      induction n using Nat.strongRecOn with
      | _ n ih =>
        intro i p2 dn ρ hi hq hp2 h6 hdn he hF
        refine go_iload_n C dX1_parse_12 rfl ?_
        refine go_bipush C (nI 10) dX1_parse_13 rfl ?_
        refine go_icmp_geN C 75 dX1_parse_15 (by decide) (by omega) (by omega) (fun h15 => ?_) (fun h15 => ?_)
        · obtain rfl : n = 0 := by omega
          refine go_aload_n C dX1_parse_75 rfl ?_
          refine go_getI C gf_X1_19 dX1_parse_76 (by decide) rfl rfl ?_
          refine go_top _ hq ?_
          refine go_iret hr dX1_parse_79 rfl ?_
          exact ParP.no hF (pAa he rfl)
        · obtain ⟨n, rfl⟩ : ∃ m, n = m + 1 := ⟨n - 1, by omega⟩
          have hXr : TxtC ρ cs := hX.of hF.2.2 hF.2.1
          obtain ⟨hco1, hco2⟩ := pCmd_ok hp2
          refine go_aload_n C dX1_parse_18 rfl ?_
          refine go_iload_n C dX1_parse_19 rfl ?_
          refine go_V1I C ok_X1_parseCommand lk_X1_37 dX1_parse_20 (by decide) rfl rfl rfl (k_X1_parseCommand hXr hcl hch hq (Nat.le_trans hp2 hcl) (c := i) (by omega)) (by decide) (Nat.le_of_ble_eq_true rfl) (fun r τ hp3 => ?_)
          obtain ⟨hf3, hq3, hc3⟩ := hp3
          have hFt : ParF σ τ := ⟨fun q a => by rw [hf3.1 q (by omega) (by omega) (by omega) (by omega)]; exact hF.1 q a, by rw [hf3.1 51 (by decide) (by decide) (by decide) (by omega)]; exact hF.2.1, by rw [hf3.2.1 1 (by decide)]; exact hF.2.2⟩
          refine go_if_ne C 31 dX1_parse_23 (by decide) (fun h23 => ?_) (fun h23 => ?_)
          · obtain ⟨l, ha, hb, hcm⟩ : ∃ l, (pCmd cs p2).1 = some l ∧ r = nI 1 ∧ CmdAt τ i (chA cs p2, p2, l) := by
              rcases hc3 with ⟨ha, hb⟩ | hx
              · exact absurd hb h23
              · exact hx
            have ep : pCmd cs p2 = (some l, (pCmd cs p2).2) := Prod.ext ha rfl
            refine go_aload_n C dX1_parse_31 rfl ?_
            refine go_dup C dX1_parse_32 rfl ?_
            refine go_getI C gf_X1_34 dX1_parse_33 (by decide) rfl rfl ?_
            refine go_top (nI i) (by rw [hf3.2.1 6 (by decide)]; exact h6) ?_
            refine go_iconst C (nI 1) dX1_parse_36 rfl ?_
            refine go_iaddN C dX1_parse_37 ?_
            refine go_putI C gf_X1_34 dX1_parse_38 (by decide) rfl rfl rfl rfl rfl ?_
            refine go_gen (fun ρ3 hρ => ?_)
            have hq4 : ρ3 50 2 = nI (pCmd cs p2).2 := by rw [hρ, updR_s, pk_un (by decide)]; exact hq3
            have h64 : ρ3 50 6 = nI (i + 1) := by rw [hρ, updR_s, pk_us]
            have hF4 : ParF σ ρ3 := ⟨fun q a => by rw [hρ, updR_n (by omega)]; exact hFt.1 q a, by rw [hρ, updR_n (by decide)]; exact hFt.2.1, by rw [hρ, updR_s, pk_un (by decide)]; exact hFt.2.2⟩
            have hX4 : TxtC ρ3 cs := hX.of hF4.2.2 hF4.2.1
            have hdn4 : (dn ++ [(chA cs p2, p2, l)]).length = i + 1 ∧ ∀ j m, (dn ++ [(chA cs p2, p2, l)])[j]? = some m → CmdAt ρ3 j m := by
              refine ⟨by rw [List.length_append, hdn.1]; rfl, fun j m hm => ?_⟩
              have ho : ∀ q, q ≠ 50 → ρ3 q = τ q := fun q a => by rw [hρ, updR_n a]
              rcases at_snoc hm with ⟨q1, q2⟩ | ⟨q1, q2⟩
              · exact (hdn.2 j m q2).of (by rw [ho 52 (by decide)]; exact (hf3.2.2 j (by omega)).1) (by rw [ho 53 (by decide)]; exact (hf3.2.2 j (by omega)).2) (by rw [ho _ (by omega)]; exact hf3.1 _ (by omega) (by omega) (by omega) (by omega))
              · rw [q1, hdn.1, q2]
                exact hcm.of (by rw [ho 52 (by decide)]) (by rw [ho 53 (by decide)]) (ho _ (by omega))
            refine go_aload_n C dX1_parse_41 rfl ?_
            refine go_getI C gf_X1_19 dX1_parse_42 (by decide) rfl rfl ?_
            refine go_top _ hq4 ?_
            refine go_aload_n C dX1_parse_45 rfl ?_
            refine go_getI C gf_X1_15 dX1_parse_46 (by decide) rfl rfl ?_
            refine go_top (nI cs.length) hX4.1 ?_
            refine go_icmp_ltN C 55 dX1_parse_49 (by decide) (by omega) (by omega) (fun h49 => ?_) (fun h49 => ?_)
            · refine go_aload_n C dX1_parse_55 rfl ?_
              refine go_bipush C (nI 59) dX1_parse_56 rfl ?_
              refine go_V1I C ok_X1_skip lk_X1_41 dX1_parse_58 (by decide) rfl rfl rfl (k_X1_skip hX4 hcl hch hq4 (Nat.le_trans hco1 hcl) (c := 59) (by decide)) (by decide) (Nat.le_of_ble_eq_true rfl) (fun r2 τ2 hp5 => ?_)
              obtain ⟨hs1, hs2, hs3⟩ := hp5
              subst hs1
              refine go_if_neB C 69 dX1_parse_61 (by decide) (fun h61 => ?_) (fun h61 => ?_)
              · refine go_iincN C 1 dX1_parse_69 rfl rfl (by decide) rfl rfl ?_
                refine go_goto C 12 dX1_parse_72 (by decide) ?_
                exact ih n (by omega) (i + 1) ((pCmd cs p2).2 + 1) (dn ++ [(chA cs p2, p2, l)]) τ2 (by omega) (by rw [hs2 h61]; exact posC_2) (by omega) (by rw [hs2 h61, posC_i (by decide)]; exact h64) ⟨hdn4.1, fun j m hm => (hdn4.2 j m hm).of (by rw [hs2 h61, posC_q (by decide)]) (by rw [hs2 h61, posC_q (by decide)]) (by rw [hs2 h61, posC_q (by omega)])⟩ (pAc he (pL_go ep (by omega) h61)) ⟨fun q a => by rw [hs2 h61, posC_q (by omega)]; exact hF4.1 q a, by rw [hs2 h61, posC_q (by decide)]; exact hF4.2.1, by rw [hs2 h61, posC_i (by decide)]; exact hF4.2.2⟩
              · refine go_aload_n C dX1_parse_64 rfl ?_
                refine go_getI C gf_X1_19 dX1_parse_65 (by decide) rfl rfl ?_
                refine go_top (nI (pCmd cs p2).2) (by rw [hs3 h61]; exact hq4) ?_
                refine go_iret hr dX1_parse_68 rfl ?_
                exact ParP.no (by rw [hs3 h61]; exact hF4) (pAa he (pL_bad ep (by omega) h61))
            · refine go_bipush C (-4) dX1_parse_52 rfl ?_
              refine go_iret hr dX1_parse_54 rfl ?_
              have e2 := pAb he (pL_end ep (by omega))
              unfold ParP
              rw [e2]
              exact ⟨hF4, Or.inr ⟨_, rfl, rfl, by rw [hdn4.1]; exact h64, hdn4.2⟩⟩
          · have ha : (pCmd cs p2).1 = none := by
              rcases hc3 with ⟨ha, hb⟩ | ⟨l, ha, hb, hcm⟩
              · exact ha
              · rw [hb] at h23; exact absurd h23 (by decide)
            have ep : pCmd cs p2 = (none, (pCmd cs p2).2) := Prod.ext ha rfl
            refine go_aload_n C dX1_parse_26 rfl ?_
            refine go_getI C gf_X1_19 dX1_parse_27 (by decide) rfl rfl ?_
            refine go_top _ hq3 ?_
            refine go_iret hr dX1_parse_30 rfl ?_
            exact ParP.no hFt (pAa he (pL_no ep))
    refine go_aload_n C dX1_parse_0 rfl ?_
    refine go_iconst C (nI 0) dX1_parse_1 rfl ?_
    refine go_putI C gf_X1_34 dX1_parse_2 (by decide) rfl rfl rfl rfl rfl ?_
    refine go_aload_n C dX1_parse_5 rfl ?_
    refine go_iconst C (nI 0) dX1_parse_6 rfl ?_
    refine go_putI C gf_X1_19 dX1_parse_7 (by decide) rfl rfl rfl rfl rfl ?_
    refine go_gen (fun ρ0 hρ => ?_)
    have hF0 : ParF σ ρ0 := ⟨fun q a => by rw [hρ, updR_n (by omega), updR_n (by omega)], by rw [hρ, updR_n (by decide), updR_n (by decide)], by rw [hρ, updR_s, pk_un (by decide), updR_s, pk_un (by decide)]⟩
    refine go_iconst C (nI 0) dX1_parse_10 rfl ?_
    refine go_istore_n C dX1_parse_11 (by decide) rfl rfl ?_
    exact L 10 0 0 [] ρ0 (by omega) (by rw [hρ, updR_s, pk_us]) (Nat.zero_le _) (by rw [hρ, updR_s, pk_un (by decide), updR_s, pk_us]) ⟨rfl, fun j m h => by cases h⟩ (Prod.ext (by cases (pAll cs 10 0).1 <;> rfl) rfl) hF0
