/-! The text, purely. -/
def kv (t : Nat) : Int32 := match t with | 0 => nI 24 | 1 => nI 16 | 2 => nI 8 | 3 => nI 0 | _ => -8
theorem kv_lt {t : Nat} (ht : t ≤ 4) : kv t < 0 ↔ t = 4 := by
  rcases (show t = 0 ∨ t = 1 ∨ t = 2 ∨ t = 3 ∨ t = 4 by omega) with rfl | rfl | rfl | rfl | rfl <;> decide
theorem kv_inc {t : Nat} (ht : t < 4) : kv t + Int32.ofInt (-8) = kv (t + 1) := by
  rcases (show t = 0 ∨ t = 1 ∨ t = 2 ∨ t = 3 by omega) with rfl | rfl | rfl | rfl <;> decide
theorem and255 (x : Int32) : ∃ n : Nat, n < 256 ∧ x &&& nI 255 = nI n := by
  refine ⟨(x.toBitVec &&& 255#32).toNat, ?_, ?_⟩
  · rw [BitVec.toNat_and]
    exact Nat.lt_of_le_of_lt Nat.and_le_right (by decide)
  · apply Int32.toBitVec_inj.mp
    show x.toBitVec &&& (nI 255).toBitVec = (nI _).toBitVec
    apply BitVec.eq_of_toNat_eq
    have h : (x.toBitVec &&& 255#32).toNat < 2 ^ 32 := (x.toBitVec &&& 255#32).isLt
    show (x.toBitVec &&& 255#32).toNat = (Int32.ofNat (x.toBitVec &&& 255#32).toNat).toBitVec.toNat
    rw [Int32.toBitVec_ofNat', BitVec.toNat_ofNat, Nat.mod_eq_of_lt h]
/-- the byte that the shift t brings down -/
noncomputable def byt (p : Int32) (t : Nat) : Nat := (and255 (p.toUInt32 >>> ((kv t).toUInt32 &&& Int32.toUInt32 31)).toInt32).choose
theorem byt_lt (p : Int32) (t : Nat) : byt p t < 256 := (and255 (p.toUInt32 >>> ((kv t).toUInt32 &&& Int32.toUInt32 31)).toInt32).choose_spec.1
theorem byt_eq (p : Int32) (t : Nat) : (p.toUInt32 >>> ((kv t).toUInt32 &&& Int32.toUInt32 31)).toInt32 &&& nI 255 = nI (byt p t) := (and255 (p.toUInt32 >>> ((kv t).toUInt32 &&& Int32.toUInt32 31)).toInt32).choose_spec.2
noncomputable def nzB (p : Int32) : Nat → List Nat
  | 0 => []
  | t + 1 => nzB p t ++ (if byt p t = 0 then [] else [byt p t])
theorem nzB_0 {p : Int32} {t : Nat} (h : byt p t = 0) : nzB p (t + 1) = nzB p t := by
  show nzB p t ++ (if byt p t = 0 then [] else [byt p t]) = _
  rw [if_pos h, List.append_nil]
theorem nzB_1 {p : Int32} {t : Nat} (h : ¬ byt p t = 0) : nzB p (t + 1) = nzB p t ++ [byt p t] := by
  show nzB p t ++ (if byt p t = 0 then [] else [byt p t]) = _
  rw [if_neg h]
theorem nzB_l1 {p : Int32} {t : Nat} (h : ¬ byt p t = 0) : (nzB p (t + 1)).length = (nzB p t).length + 1 := by rw [nzB_1 h, List.length_append]; rfl
theorem nzB_le {p : Int32} : ∀ t, (nzB p t).length ≤ t
  | 0 => Nat.le_refl 0
  | t + 1 => by
    have := nzB_le (p := p) t
    by_cases h : byt p t = 0
    · rw [nzB_0 h]; omega
    · rw [nzB_l1 h]; omega
theorem nzB_mono {p : Int32} {t : Nat} : ∀ d, (nzB p t).length ≤ (nzB p (t + d)).length
  | 0 => Nat.le_refl _
  | d + 1 => by
    have := nzB_mono (p := p) (t := t) d
    have e : t + (d + 1) = (t + d) + 1 := rfl
    rw [e]
    by_cases h : byt p (t + d) = 0
    · rw [nzB_0 h]; omega
    · rw [nzB_l1 h]; omega
/-- a byte that no sign may have -/
def badB (p : Int32) (t : Nat) : Prop := byt p t ≠ 0 ∧ (byt p t < 33 ∨ 126 < byt p t)
theorem nzB_mem {p : Int32} : ∀ t, (∀ j, j < t → ¬ badB p j) → ∀ ch, ch ∈ nzB p t → 33 ≤ ch ∧ ch < 127
  | 0, _, ch, h => by cases h
  | t + 1, hb, ch, h => by
    have ht := hb t (Nat.lt_succ_self t)
    have hr := nzB_mem t (fun j hj => hb j (Nat.lt_succ_of_lt hj)) ch
    by_cases z : byt p t = 0
    · rw [nzB_0 z] at h; exact hr h
    · rw [nzB_1 z] at h
      rcases List.mem_append.mp h with q | q
      · exact hr q
      · rw [List.mem_singleton.mp q]
        unfold badB at ht
        omega
def stX (S : St) (x : List Nat) (f : Int32) : St := (sW S, sE S, sB S, sH S, sS S, x, f)
noncomputable def oApp (S : St) (p : Int32) : Int32 × St := iP (∃ t, t < 4 ∧ badB p t) (-2, S) (iP (60 < (sX S).length + (nzB p 4).length) (-3, S) (nI ((sX S).length + (nzB p 4).length), stX S (sX S ++ nzB p 4) (sF S)))
/-! Reading. -/
def chA (cs : List Nat) (p : Nat) : Nat := cs.getD p 0
theorem chA_at {cs : List Nat} {p ch : Nat} (h : cs[p]? = some ch) : chA cs p = ch := by
  unfold chA; rw [List.getD_eq_getElem?_getD, h]; rfl
theorem chA_ge {cs : List Nat} {p : Nat} (h : cs.length ≤ p) : chA cs p = 0 := by
  unfold chA; rw [List.getD_eq_getElem?_getD, List.getElem?_eq_none h]; rfl
theorem chA_pos {cs : List Nat} {p : Nat} (h : chA cs p ≠ 0) : p < cs.length := by
  rcases Nat.lt_or_ge p cs.length with q | q
  · exact q
  · exact absurd (chA_ge q) h
theorem chA_get {cs : List Nat} {p : Nat} (h : p < cs.length) : cs[p]? = some (chA cs p) := by
  rw [chA_at (List.getElem?_eq_getElem h)]; exact List.getElem?_eq_getElem h
theorem chA_b {cs : List Nat} (hc : ∀ ch, ch ∈ cs → 33 ≤ ch ∧ ch < 127) (p : Nat) : chA cs p < 127 := by
  rcases Nat.lt_or_ge p cs.length with q | q
  · exact (hc _ (List.mem_of_getElem? (chA_get q))).2
  · rw [chA_ge q]; decide
abbrev isD (ch : Nat) : Prop := 48 ≤ ch ∧ ch ≤ 57
theorem isD_pos {cs : List Nat} {p : Nat} (h : isD (chA cs p)) : p < cs.length := chA_pos (by unfold isD at h; omega)
def numV (cs : List Nat) (p : Nat) : Nat := if isD (chA cs (p + 1)) then 10 * (chA cs p - 48) + (chA cs (p + 1) - 48) else chA cs p - 48
def numQ (cs : List Nat) (p : Nat) : Nat := if isD (chA cs (p + 1)) then p + 2 else p + 1
theorem num_ok {cs : List Nat} {p : Nat} (h : isD (chA cs p)) : numV cs p < 100 ∧ p < numQ cs p ∧ numQ cs p ≤ cs.length := by
  have h1 := isD_pos h
  unfold numV numQ
  unfold isD at h
  by_cases q : isD (chA cs (p + 1))
  · have h2 := isD_pos q
    rw [if_pos q, if_pos q]
    unfold isD at q
    omega
  · rw [if_neg q, if_neg q]
    omega
def sepC (c i : Nat) : Nat := if i = c - 1 ∧ 3 < c then 61 else 44
theorem sepC_b (c i : Nat) : 0 < sepC c i ∧ sepC c i < 128 := by unfold sepC; split <;> decide
def pArgs (cs : List Nat) (c : Nat) : Nat → Nat → Option (List Nat) × Nat
  | 0, p => (some [], p)
  | n + 1, p => if c ≠ n + 1 ∧ chA cs p ≠ sepC c (c - (n + 1)) then (none, p) else
      if isD (chA cs (if c = n + 1 then p else p + 1)) then ((pArgs cs c n (numQ cs (if c = n + 1 then p else p + 1))).1.map (numV cs (if c = n + 1 then p else p + 1) :: ·), (pArgs cs c n (numQ cs (if c = n + 1 then p else p + 1))).2) else (none, if c = n + 1 then p else p + 1)
/-- ahead of argument i of c: where the number begins, if the sign before it is there -/
def argP (c i p : Nat) : Nat := if i = 0 then p else p + 1
theorem pA_sep {cs : List Nat} {c n i p : Nat} (hi : i + (n + 1) = c) (h0 : i ≠ 0) (h : chA cs p ≠ sepC c i) : pArgs cs c (n + 1) p = (none, p) := by
  show (if _ then _ else _) = _
  rw [if_pos ⟨by omega, by rw [show c - (n + 1) = i by omega]; exact h⟩]
theorem pA_step {cs : List Nat} {c n i p : Nat} (hi : i + (n + 1) = c) (h : i ≠ 0 → chA cs p = sepC c i) : pArgs cs c (n + 1) p = if isD (chA cs (argP c i p)) then ((pArgs cs c n (numQ cs (argP c i p))).1.map (numV cs (argP c i p) :: ·), (pArgs cs c n (numQ cs (argP c i p))).2) else (none, argP c i p) := by
  have e : (if c = n + 1 then p else p + 1) = argP c i p := by
    unfold argP
    by_cases z : i = 0
    · rw [if_pos z, if_pos (by omega)]
    · rw [if_neg z, if_neg (by omega)]
  show (if _ then _ else _) = _
  rw [if_neg (by
    rintro ⟨q1, q2⟩
    rw [show c - (n + 1) = i by omega] at q2
    exact q2 (h (by omega))), e]
theorem pA_no {cs : List Nat} {c n i p : Nat} (hi : i + (n + 1) = c) (h : i ≠ 0 → chA cs p = sepC c i) (hd : ¬ isD (chA cs (argP c i p))) : pArgs cs c (n + 1) p = (none, argP c i p) := by rw [pA_step hi h, if_neg hd]
theorem pA_ok {cs : List Nat} {c n i p : Nat} (hi : i + (n + 1) = c) (h : i ≠ 0 → chA cs p = sepC c i) (hd : isD (chA cs (argP c i p))) : pArgs cs c (n + 1) p = ((pArgs cs c n (numQ cs (argP c i p))).1.map (numV cs (argP c i p) :: ·), (pArgs cs c n (numQ cs (argP c i p))).2) := by rw [pA_step hi h, if_pos hd]
/-- where reading arguments ends, and what it brings -/
theorem pArgs_ok {cs : List Nat} {c : Nat} : ∀ n i p, i + n = c → p ≤ cs.length → (pArgs cs c n p).2 ≤ cs.length ∧ ∀ l, (pArgs cs c n p).1 = some l → l.length = n ∧ (∀ v, v ∈ l → v < 100) ∧ p + n + (if i = 0 then n - 1 else n) ≤ (pArgs cs c n p).2
  | 0, i, p, hi, hp => ⟨hp, fun l hl => by cases hl; exact ⟨rfl, fun v hv => (by cases hv), by show _ ≤ p; split <;> omega⟩⟩
  | n + 1, i, p, hi, hp => by
    by_cases h : i ≠ 0 ∧ chA cs p ≠ sepC c i
    · rw [pA_sep hi h.1 h.2]; exact ⟨hp, fun l hl => by cases hl⟩
    · have h2 : i ≠ 0 → chA cs p = sepC c i := fun z => Classical.byContradiction (fun y => h ⟨z, y⟩)
      by_cases hd : isD (chA cs (argP c i p))
      · rw [pA_ok hi h2 hd]
        have hn := num_ok hd
        obtain ⟨r1, r2⟩ := pArgs_ok (cs := cs) (c := c) n (i + 1) (numQ cs (argP c i p)) (by omega) hn.2.2
        refine ⟨r1, fun l hl => ?_⟩
        cases e : (pArgs cs c n (numQ cs (argP c i p))).1 with
        | none => rw [e] at hl; cases hl
        | some l2 =>
          rw [e] at hl
          cases hl
          obtain ⟨q1, q2, q3⟩ := r2 l2 e
          refine ⟨by rw [List.length_cons, q1], fun v hv => ?_, ?_⟩
          · rcases List.mem_cons.mp hv with rfl | y
            · exact hn.1
            · exact q2 v y
          · rw [if_neg (by omega)] at q3
            unfold argP at q3 hn ⊢
            by_cases z : i = 0
            · simp only [z, if_pos] at q3 hn ⊢
              omega
            · simp only [z, if_neg, not_false_eq_true] at q3 hn ⊢
              omega
      · rw [pA_no hi h2 hd]
        refine ⟨?_, fun l hl => by cases hl⟩
        show argP c i p ≤ _
        unfold argP
        by_cases z : i = 0
        · rw [if_pos z]; exact hp
        · rw [if_neg z]
          have h3 := h2 z
          have h4 := sepC_b c i
          have := chA_pos (cs := cs) (p := p) (by omega)
          omega
def cntN (k : Nat) : Nat := if k = 115 then 4 else if k = 102 then 7 else if k = 108 ∨ k = 101 then 3 else 0
theorem cntN_c {k : Nat} (h : cntN k ≠ 0) : k = 115 ∨ k = 102 ∨ k = 108 ∨ k = 101 := by
  unfold cntN at h
  apply Classical.byContradiction
  intro q
  rw [if_neg (by omega), if_neg (by omega), if_neg (by omega)] at h
  exact h rfl
theorem cntN_0 {k : Nat} (h1 : k ≠ 115) (h2 : k ≠ 102) (h3 : k ≠ 108) (h4 : k ≠ 101) : cntN k = 0 := by
  unfold cntN
  rw [if_neg h1, if_neg h2, if_neg (by omega)]
def pCmd (cs : List Nat) (p : Nat) : Option (List Nat) × Nat := if cntN (chA cs p) = 0 then (none, p) else pArgs cs (cntN (chA cs p)) (cntN (chA cs p)) (p + 1)
theorem pCmd_no {cs : List Nat} {p : Nat} (h : cntN (chA cs p) = 0) : pCmd cs p = (none, p) := by unfold pCmd; rw [if_pos h]
theorem pCmd_go {cs : List Nat} {p : Nat} (h : cntN (chA cs p) ≠ 0) : pCmd cs p = pArgs cs (cntN (chA cs p)) (cntN (chA cs p)) (p + 1) := by unfold pCmd; rw [if_neg h]
abbrev Cmd := Nat × Nat × List Nat
def OkCmd (c : Cmd) : Prop := cntN c.1 ≠ 0 ∧ c.2.1 ≤ 60 ∧ c.2.2.length = cntN c.1 ∧ ∀ v, v ∈ c.2.2 → v < 100
theorem pCmd_ok {cs : List Nat} {p : Nat} (hp : p ≤ cs.length) : (pCmd cs p).2 ≤ cs.length ∧ ∀ l, (pCmd cs p).1 = some l → cntN (chA cs p) ≠ 0 ∧ l.length = cntN (chA cs p) ∧ (∀ v, v ∈ l → v < 100) ∧ p + 6 ≤ (pCmd cs p).2 := by
  by_cases h : cntN (chA cs p) = 0
  · rw [pCmd_no h]; exact ⟨hp, fun l hl => by cases hl⟩
  · rw [pCmd_go h]
    have h1 := chA_pos (cs := cs) (p := p) (fun z => h (by rw [z]; rfl))
    obtain ⟨r1, r2⟩ := pArgs_ok (cs := cs) (c := cntN (chA cs p)) (cntN (chA cs p)) 0 (p + 1) (by omega) h1
    refine ⟨r1, fun l hl => ?_⟩
    obtain ⟨q1, q2, q3⟩ := r2 l hl
    refine ⟨h, q1, q2, ?_⟩
    rw [if_pos rfl] at q3
    have h3 : 3 ≤ cntN (chA cs p) := by
      rcases cntN_c h with e | e | e | e <;> rw [e] <;> decide
    omega
def pAll (cs : List Nat) : Nat → Nat → Option (List Cmd) × Nat
  | 0, p => (none, p)
  | n + 1, p => match pCmd cs p with
    | (none, q) => (none, q)
    | (some l, q) => if cs.length ≤ q then (some [(chA cs p, p, l)], q) else if chA cs q = 59 then ((pAll cs n (q + 1)).1.map ((chA cs p, p, l) :: ·), (pAll cs n (q + 1)).2) else (none, q)
theorem pL_no {cs : List Nat} {n p q : Nat} (h : pCmd cs p = (none, q)) : pAll cs (n + 1) p = (none, q) := by unfold pAll; rw [h]
theorem pL_end {cs : List Nat} {n p q : Nat} {l : List Nat} (h : pCmd cs p = (some l, q)) (hq : cs.length ≤ q) : pAll cs (n + 1) p = (some [(chA cs p, p, l)], q) := by
  unfold pAll; rw [h]; show (if _ then _ else _) = _; rw [if_pos hq]
theorem pL_bad {cs : List Nat} {n p q : Nat} {l : List Nat} (h : pCmd cs p = (some l, q)) (hq : ¬ cs.length ≤ q) (hc : chA cs q ≠ 59) : pAll cs (n + 1) p = (none, q) := by
  unfold pAll; rw [h]; show (if _ then _ else _) = _; rw [if_neg hq, if_neg hc]
theorem pL_go {cs : List Nat} {n p q : Nat} {l : List Nat} (h : pCmd cs p = (some l, q)) (hq : ¬ cs.length ≤ q) (hc : chA cs q = 59) : pAll cs (n + 1) p = ((pAll cs n (q + 1)).1.map ((chA cs p, p, l) :: ·), (pAll cs n (q + 1)).2) := by
  show (match pCmd cs p with | (none, q) => _ | (some l, q) => _) = _; rw [h]; show (if _ then _ else _) = _; rw [if_neg hq, if_pos hc]
theorem pAll_ok {cs : List Nat} (h60 : cs.length ≤ 60) : ∀ n p, p ≤ cs.length → (pAll cs n p).2 ≤ cs.length ∧ ∀ l, (pAll cs n p).1 = some l → l.length ≤ n ∧ ∀ c, c ∈ l → OkCmd c
  | 0, p, hp => ⟨hp, fun l hl => by cases hl⟩
  | n + 1, p, hp => by
    obtain ⟨r1, r2⟩ := pCmd_ok hp
    cases e : pCmd cs p with
    | mk o q =>
      rw [e] at r1 r2
      cases o with
      | none => rw [pL_no e]; exact ⟨r1, fun l hl => by cases hl⟩
      | some l =>
        obtain ⟨s1, s2, s3, s4⟩ := r2 l rfl
        have hok : OkCmd (chA cs p, p, l) := ⟨s1, Nat.le_trans hp h60, s2, s3⟩
        by_cases hq : cs.length ≤ q
        · rw [pL_end e hq]
          refine ⟨r1, fun l2 hl => ?_⟩
          cases hl
          exact ⟨Nat.succ_le_succ (Nat.zero_le n), fun c hc => by rw [List.mem_singleton.mp hc]; exact hok⟩
        · by_cases hc : chA cs q = 59
          · rw [pL_go e hq hc]
            obtain ⟨t1, t2⟩ := pAll_ok h60 n (q + 1) (by omega)
            refine ⟨t1, fun l2 hl => ?_⟩
            cases e2 : (pAll cs n (q + 1)).1 with
            | none => rw [e2] at hl; cases hl
            | some l3 =>
              rw [e2] at hl
              cases hl
              obtain ⟨u1, u2⟩ := t2 l3 e2
              refine ⟨Nat.succ_le_succ u1, fun c hc2 => ?_⟩
              rcases List.mem_cons.mp hc2 with rfl | y
              · exact hok
              · exact u2 c y
          · rw [pL_bad e hq hc]
            exact ⟨r1, fun l hl => by cases hl⟩
/-! Refusing and making. -/
def gN (l : List Nat) (j : Nat) : Nat := l.getD j 0
abbrev gdC (k : Nat) (l : List Nat) : Prop := if k = 115 then (gN l 0 < 12 ∧ gN l 1 < 8 ∧ gN l 2 < 12) ∧ gN l 3 < 8 else if k = 102 then (gN l 0 < 12 ∧ gN l 1 < 8 ∧ gN l 2 < 12) ∧ (gN l 3 < 12 ∧ gN l 4 < 8 ∧ gN l 5 < 12) ∧ gN l 0 ≤ gN l 3 ∧ gN l 1 ≤ gN l 4 ∧ gN l 2 ≤ gN l 5 ∧ gN l 6 < 8 else if k = 108 then gN l 0 < 8 ∧ gN l 1 < 4 ∧ gN l 2 < 16 else gN l 0 < 8 ∧ gN l 1 < 3 ∧ gN l 2 < 16
def doC (w : Wd) (c : Cmd) : Wd := if c.1 = 115 then setT w (cel (gN c.2.2 0) (gN c.2.2 1) (gN c.2.2 2)) (gN c.2.2 3) else if c.1 = 102 then bxW w (gN c.2.2 0) (gN c.2.2 1) (gN c.2.2 2) (gN c.2.2 3) (gN c.2.2 4) (gN c.2.2 5) (gN c.2.2 6) else if c.1 = 108 then slW w (gN c.2.2 0) (gN c.2.2 1) (gN c.2.2 2) else seW w (gN c.2.2 0) (gN c.2.2 1) (gN c.2.2 2)
def doAll (w : Wd) : List Cmd → Wd
  | [] => w
  | c :: r => doAll (doC w c) r
theorem doC_ok {w : Wd} (h : OkW w) {c : Cmd} (hc : gdC c.1 c.2.2) : OkW (doC w c) := by
  unfold gdC at hc
  unfold doC
  by_cases h1 : c.1 = 115
  · rw [if_pos h1] at hc ⊢; exact setT_ok h hc.2
  · rw [if_neg h1] at hc ⊢
    by_cases h2 : c.1 = 102
    · rw [if_pos h2] at hc ⊢; exact bxW_ok h hc.2.2.2.2.2
    · rw [if_neg h2] at hc ⊢
      by_cases h3 : c.1 = 108
      · rw [if_pos h3] at hc ⊢; exact slW_ok h hc.2.2
      · rw [if_neg h3] at hc ⊢; exact seW_ok h hc.2.1 hc.2.2
theorem doAll_ok : ∀ (l : List Cmd) {w : Wd}, OkW w → (∀ c, c ∈ l → gdC c.1 c.2.2) → OkW (doAll w l)
  | [], _, h, _ => h
  | c :: r, _, h, hc => doAll_ok r (doC_ok h (hc c List.mem_cons_self)) (fun d hd => hc d (List.mem_cons_of_mem _ hd))
/-- the start of the first command that is refused -/
def frst : List Cmd → Option Nat
  | [] => none
  | c :: r => if gdC c.1 c.2.2 then frst r else some c.2.1
theorem frst_no : ∀ (l : List Cmd), frst l = none → ∀ c, c ∈ l → gdC c.1 c.2.2
  | [], _, c, hc => by cases hc
  | d :: r, h, c, hc => by
    unfold frst at h
    by_cases g : gdC d.1 d.2.2
    · rw [if_pos g] at h
      rcases List.mem_cons.mp hc with rfl | y
      · exact g
      · exact frst_no r h c y
    · rw [if_neg g] at h; cases h
theorem frst_1 {c : Cmd} {r : List Cmd} (g : gdC c.1 c.2.2) : frst (c :: r) = frst r := by
  show (if _ then _ else _) = _; rw [if_pos g]
theorem frst_0 {c : Cmd} {r : List Cmd} (g : ¬ gdC c.1 c.2.2) : frst (c :: r) = some c.2.1 := by
  show (if _ then _ else _) = _; rw [if_neg g]
/-- what reading a text answers, when no batch is open -/
noncomputable def oRd (S : St) : Int32 × St := match pAll (sX S) 10 0 with
  | (none, q) => (-2, stX S [] (nI q))
  | (some l, _) => match frst l with
    | some s => (-2, stX S [] (nI s))
    | none => (nI l.length, chg (stX S [] (-4)) (doAll (sW S) l))
noncomputable def oRead (S : St) : Int32 × St := nB S (oRd S)
