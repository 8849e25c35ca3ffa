def sM : Mem := fun k => [(fun i => if i = 8 then -1 else if i = 17 then -4 else 0), (upd (upd (upd (upd zeroA 1156 (nI 15)) 1157 (nI 15)) 1158 (nI 15)) 1159 (nI 15)), zeroA, zeroA, zeroA, zeroA, zeroA, zeroA, zeroA, zeroA, zeroA, zeroA, zeroA].getD k zeroA
set_option maxRecDepth 100000 in
theorem wsM_eq (cy : Nat → ClassId) (q q1 q2 q3 q4 q5 q6 q7 q8 q9 q10 q11 q12 : Nat) (AD : Nat → Nat) (hAD : AD = (fun k => [q, q1, q2, q3, q4, q5, q6, q7, q8, q9, q10, q11, q12].getD k 0)) : WS objM NM AD cy sM = [(q, .inr (6, [.ref q1, .ref q2, .int 0, .ref q3, .int 0, .ref q4, .ref q5, .ref q6, .int (-1), .int 0, .int 0, .int 0, .int 0, .ref q7, .ref q8, .int 0, .ref q9, .int (-4), .int 0, .int 0, .int 0, .int 0, .ref q10, .int 0, .ref q11, .ref q12])), (q1, .inl (cy 0, 1216, .inl (upd (upd (upd (upd zeroA 1156 (nI 15)) 1157 (nI 15)) 1158 (nI 15)) 1159 (nI 15)))), (q2, .inl (cy 0, 1216, .inl zeroA)), (q3, .inl (cy 0, 7296, .inl zeroA)), (q4, .inl (cy 0, 4608, .inl zeroA)), (q5, .inl (cy 1, 1152, .inl zeroA)), (q6, .inl (cy 0, 1152, .inl zeroA)), (q7, .inl (cy 0, 40, .inl zeroA)), (q8, .inl (cy 0, 40, .inl zeroA)), (q9, .inl (cy 0, 60, .inl zeroA)), (q10, .inl (cy 0, 540, .inl zeroA)), (q11, .inl (cy 1, 1152, .inl zeroA)), (q12, .inl (cy 0, 1152, .inl zeroA))] := by
  subst hAD
  rfl
theorem sM_lo {j : Nat} (h : j < 1156) : sM 1 j = 0 := by
  show (upd (upd (upd (upd zeroA 1156 (nI 15)) 1157 (nI 15)) 1158 (nI 15)) 1159 (nI 15)) j = 0
  rw [pk_un (by omega), pk_un (by omega), pk_un (by omega), pk_un (by omega)]
theorem sM_hi {j : Nat} (h : 1160 ≤ j) : sM 1 j = 0 := by
  show (upd (upd (upd (upd zeroA 1156 (nI 15)) 1157 (nI 15)) 1158 (nI 15)) 1159 (nI 15)) j = 0
  rw [pk_un (by omega), pk_un (by omega), pk_un (by omega), pk_un (by omega)]
theorem hasM_0 : HasM sM 1 0 w00 := by
  refine ⟨fun j hj => ?_, fun j hj => ?_, fun j hj => ?_⟩
  · rw [Nat.zero_add, sM_lo (by omega)]; rfl
  · rw [Nat.zero_add]
    show sM 1 (1152 + j) = nI (if 4 ≤ j ∧ j < 8 then 15 else 0)
    by_cases h : 4 ≤ j ∧ j < 8
    · rw [if_pos h]
      rcases (show j = 4 ∨ j = 5 ∨ j = 6 ∨ j = 7 by omega) with rfl | rfl | rfl | rfl <;> rfl
    · rw [if_neg h]
      rcases Nat.lt_or_ge j 4 with q | q
      · rw [sM_lo (by omega)]; rfl
      · rw [sM_hi (by omega)]; rfl
  · rw [Nat.zero_add, sM_hi (by omega)]; rfl
theorem repM_0 {τ : Mem} (h : OkL w00 ∧ LitM τ (lit w00) ∧ τ 0 8 = -1 ∧ (∀ q, q ≠ 0 → q ≠ 4 → q ≠ 6 → τ q = sM q) ∧ ∀ i, i ≠ 8 → τ 0 i = sM 0 i) : RepM τ S00 := by
  obtain ⟨h1, h2, h3, h4, h5⟩ := h
  refine ⟨okS_00, hasM_0.of (h4 1 (by decide) (by decide) (by decide)), h2, fun j hj => ?_, ?_, ⟨?_, fun i w h => by cases h⟩, ?_, ⟨?_, fun i ch h => by cases h⟩, ?_, h3⟩
  · show τ 5 j = bP False
    rw [h4 5 (by decide) (by decide) (by decide), ← bP_f (fun h => h)]; rfl
  · show τ 0 11 = nI 0
    rw [h5 11 (by decide)]; rfl
  · show τ 0 4 = nI 0
    rw [h5 4 (by decide)]; rfl
  · show τ 0 2 = nI 0
    rw [h5 2 (by decide)]; rfl
  · show τ 0 15 = nI 0
    rw [h5 15 (by decide)]; rfl
  · show τ 0 17 = -4
    rw [h5 17 (by decide)]; rfl
def pX7_init (cy : Nat → ClassId) (q : Nat) (w : va_W) : Prop := ∃ (ad : Nat → Nat) (τ : Mem), w = WS objM NM ad cy τ ∧ RepM τ S00 ∧ ad 0 = q
set_option maxHeartbeats 8000000 in
set_option maxRecDepth 100000 in
theorem n_X7_init : CtN yX7_init cX7_init 2 6 138 12 19624 6 (dfl tyX7 26) pX7_init := by
  refine ctn_of rfl rfl (by decide) (fun X q C hi hr => ?_)
  refine gn_ws (ws2 := [(q, .inr (6, [.null, .null, .int 0, .null, .int 0, .null, .null, .null, .int 0, .int 0, .int 0, .int 0, .int 0, .null, .null, .int 0, .null, .int 0, .int 0, .int 0, .int 0, .int 0, .null, .int 0, .null, .null]))]) rfl ?_
  refine gn_aload_n C dX7_init_0 rfl ?_
  refine gn_obj C ol_X7 dX7_init_1 (Nat.le_of_ble_eq_true rfl) (Nat.le_of_ble_eq_true rfl) ?_
  refine gn_aload_n C dX7_init_4 rfl ?_
  refine gn_sipush C (nI 1216) dX7_init_5 rfl ?_
  refine gn_newaI C dX7_init_8 (by decide) (Nat.le_of_ble_eq_true rfl) (Nat.le_of_ble_eq_true rfl) (fun q1 => ?_)
  refine gn_ws (ws2 := [(q, .inr (6, [.null, .null, .int 0, .null, .int 0, .null, .null, .null, .int 0, .int 0, .int 0, .int 0, .int 0, .null, .null, .int 0, .null, .int 0, .int 0, .int 0, .int 0, .int 0, .null, .int 0, .null, .null])), (q1, .inl (nxC X 0, 1216, .inl zeroA))]) rfl ?_
  refine gn_putF C hi gf_X7_9 dX7_init_10 0 rfl rfl rfl rfl rfl (Nat.le_of_ble_eq_true rfl) ?_
  refine gn_ws (ws2 := [(q, .inr (6, [.ref q1, .null, .int 0, .null, .int 0, .null, .null, .null, .int 0, .int 0, .int 0, .int 0, .int 0, .null, .null, .int 0, .null, .int 0, .int 0, .int 0, .int 0, .int 0, .null, .int 0, .null, .null])), (q1, .inl (nxC X 0, 1216, .inl zeroA))]) rfl ?_
  refine gn_aload_n C dX7_init_13 rfl ?_
  refine gn_sipush C (nI 1216) dX7_init_14 rfl ?_
  refine gn_newaI C dX7_init_17 (by decide) (Nat.le_of_ble_eq_true rfl) (Nat.le_of_ble_eq_true rfl) (fun q2 => ?_)
  refine gn_ws (ws2 := [(q, .inr (6, [.ref q1, .null, .int 0, .null, .int 0, .null, .null, .null, .int 0, .int 0, .int 0, .int 0, .int 0, .null, .null, .int 0, .null, .int 0, .int 0, .int 0, .int 0, .int 0, .null, .int 0, .null, .null])), (q1, .inl (nxC X 0, 1216, .inl zeroA)), (q2, .inl (nxC X 0, 1216, .inl zeroA))]) rfl ?_
  refine gn_putF C hi gf_X7_13 dX7_init_19 0 rfl rfl rfl rfl rfl (Nat.le_of_ble_eq_true rfl) ?_
  refine gn_ws (ws2 := [(q, .inr (6, [.ref q1, .ref q2, .int 0, .null, .int 0, .null, .null, .null, .int 0, .int 0, .int 0, .int 0, .int 0, .null, .null, .int 0, .null, .int 0, .int 0, .int 0, .int 0, .int 0, .null, .int 0, .null, .null])), (q1, .inl (nxC X 0, 1216, .inl zeroA)), (q2, .inl (nxC X 0, 1216, .inl zeroA))]) rfl ?_
  refine gn_aload_n C dX7_init_22 rfl ?_
  refine gn_sipush C (nI 7296) dX7_init_23 rfl ?_
  refine gn_newaI C dX7_init_26 (by decide) (Nat.le_of_ble_eq_true rfl) (Nat.le_of_ble_eq_true rfl) (fun q3 => ?_)
  refine gn_ws (ws2 := [(q, .inr (6, [.ref q1, .ref q2, .int 0, .null, .int 0, .null, .null, .null, .int 0, .int 0, .int 0, .int 0, .int 0, .null, .null, .int 0, .null, .int 0, .int 0, .int 0, .int 0, .int 0, .null, .int 0, .null, .null])), (q1, .inl (nxC X 0, 1216, .inl zeroA)), (q2, .inl (nxC X 0, 1216, .inl zeroA)), (q3, .inl (nxC X 0, 7296, .inl zeroA))]) rfl ?_
  refine gn_putF C hi gf_X7_16 dX7_init_28 0 rfl rfl rfl rfl rfl (Nat.le_of_ble_eq_true rfl) ?_
  refine gn_ws (ws2 := [(q, .inr (6, [.ref q1, .ref q2, .int 0, .ref q3, .int 0, .null, .null, .null, .int 0, .int 0, .int 0, .int 0, .int 0, .null, .null, .int 0, .null, .int 0, .int 0, .int 0, .int 0, .int 0, .null, .int 0, .null, .null])), (q1, .inl (nxC X 0, 1216, .inl zeroA)), (q2, .inl (nxC X 0, 1216, .inl zeroA)), (q3, .inl (nxC X 0, 7296, .inl zeroA))]) rfl ?_
  refine gn_aload_n C dX7_init_31 rfl ?_
  refine gn_sipush C (nI 4608) dX7_init_32 rfl ?_
  refine gn_newaI C dX7_init_35 (by decide) (Nat.le_of_ble_eq_true rfl) (Nat.le_of_ble_eq_true rfl) (fun q4 => ?_)
  refine gn_ws (ws2 := [(q, .inr (6, [.ref q1, .ref q2, .int 0, .ref q3, .int 0, .null, .null, .null, .int 0, .int 0, .int 0, .int 0, .int 0, .null, .null, .int 0, .null, .int 0, .int 0, .int 0, .int 0, .int 0, .null, .int 0, .null, .null])), (q1, .inl (nxC X 0, 1216, .inl zeroA)), (q2, .inl (nxC X 0, 1216, .inl zeroA)), (q3, .inl (nxC X 0, 7296, .inl zeroA)), (q4, .inl (nxC X 0, 4608, .inl zeroA))]) rfl ?_
  refine gn_putF C hi gf_X7_19 dX7_init_37 0 rfl rfl rfl rfl rfl (Nat.le_of_ble_eq_true rfl) ?_
  refine gn_ws (ws2 := [(q, .inr (6, [.ref q1, .ref q2, .int 0, .ref q3, .int 0, .ref q4, .null, .null, .int 0, .int 0, .int 0, .int 0, .int 0, .null, .null, .int 0, .null, .int 0, .int 0, .int 0, .int 0, .int 0, .null, .int 0, .null, .null])), (q1, .inl (nxC X 0, 1216, .inl zeroA)), (q2, .inl (nxC X 0, 1216, .inl zeroA)), (q3, .inl (nxC X 0, 7296, .inl zeroA)), (q4, .inl (nxC X 0, 4608, .inl zeroA))]) rfl ?_
  refine gn_aload_n C dX7_init_40 rfl ?_
  refine gn_sipush C (nI 1152) dX7_init_41 rfl ?_
  refine gn_newaZ C dX7_init_44 (by decide) (Nat.le_of_ble_eq_true rfl) (Nat.le_of_ble_eq_true rfl) (fun q5 => ?_)
  refine gn_ws (ws2 := [(q, .inr (6, [.ref q1, .ref q2, .int 0, .ref q3, .int 0, .ref q4, .null, .null, .int 0, .int 0, .int 0, .int 0, .int 0, .null, .null, .int 0, .null, .int 0, .int 0, .int 0, .int 0, .int 0, .null, .int 0, .null, .null])), (q1, .inl (nxC X 0, 1216, .inl zeroA)), (q2, .inl (nxC X 0, 1216, .inl zeroA)), (q3, .inl (nxC X 0, 7296, .inl zeroA)), (q4, .inl (nxC X 0, 4608, .inl zeroA)), (q5, .inl (nxC X 1, 1152, .inl zeroA))]) rfl ?_
  refine gn_putF C hi gf_X7_22 dX7_init_46 0 rfl rfl rfl rfl rfl (Nat.le_of_ble_eq_true rfl) ?_
  refine gn_ws (ws2 := [(q, .inr (6, [.ref q1, .ref q2, .int 0, .ref q3, .int 0, .ref q4, .ref q5, .null, .int 0, .int 0, .int 0, .int 0, .int 0, .null, .null, .int 0, .null, .int 0, .int 0, .int 0, .int 0, .int 0, .null, .int 0, .null, .null])), (q1, .inl (nxC X 0, 1216, .inl zeroA)), (q2, .inl (nxC X 0, 1216, .inl zeroA)), (q3, .inl (nxC X 0, 7296, .inl zeroA)), (q4, .inl (nxC X 0, 4608, .inl zeroA)), (q5, .inl (nxC X 1, 1152, .inl zeroA))]) rfl ?_
  refine gn_aload_n C dX7_init_49 rfl ?_
  refine gn_sipush C (nI 1152) dX7_init_50 rfl ?_
  refine gn_newaI C dX7_init_53 (by decide) (Nat.le_of_ble_eq_true rfl) (Nat.le_of_ble_eq_true rfl) (fun q6 => ?_)
  refine gn_ws (ws2 := [(q, .inr (6, [.ref q1, .ref q2, .int 0, .ref q3, .int 0, .ref q4, .ref q5, .null, .int 0, .int 0, .int 0, .int 0, .int 0, .null, .null, .int 0, .null, .int 0, .int 0, .int 0, .int 0, .int 0, .null, .int 0, .null, .null])), (q1, .inl (nxC X 0, 1216, .inl zeroA)), (q2, .inl (nxC X 0, 1216, .inl zeroA)), (q3, .inl (nxC X 0, 7296, .inl zeroA)), (q4, .inl (nxC X 0, 4608, .inl zeroA)), (q5, .inl (nxC X 1, 1152, .inl zeroA)), (q6, .inl (nxC X 0, 1152, .inl zeroA))]) rfl ?_
  refine gn_putF C hi gf_X7_26 dX7_init_55 0 rfl rfl rfl rfl rfl (Nat.le_of_ble_eq_true rfl) ?_
  refine gn_ws (ws2 := [(q, .inr (6, [.ref q1, .ref q2, .int 0, .ref q3, .int 0, .ref q4, .ref q5, .ref q6, .int 0, .int 0, .int 0, .int 0, .int 0, .null, .null, .int 0, .null, .int 0, .int 0, .int 0, .int 0, .int 0, .null, .int 0, .null, .null])), (q1, .inl (nxC X 0, 1216, .inl zeroA)), (q2, .inl (nxC X 0, 1216, .inl zeroA)), (q3, .inl (nxC X 0, 7296, .inl zeroA)), (q4, .inl (nxC X 0, 4608, .inl zeroA)), (q5, .inl (nxC X 1, 1152, .inl zeroA)), (q6, .inl (nxC X 0, 1152, .inl zeroA))]) rfl ?_
  refine gn_aload_n C dX7_init_58 rfl ?_
  refine gn_iconst C (-1) dX7_init_59 rfl ?_
  refine gn_put C gf_X7_29 dX7_init_60 0 rfl rfl rfl rfl (Nat.le_of_ble_eq_true rfl) ?_
  refine gn_ws (ws2 := [(q, .inr (6, [.ref q1, .ref q2, .int 0, .ref q3, .int 0, .ref q4, .ref q5, .ref q6, .int (-1), .int 0, .int 0, .int 0, .int 0, .null, .null, .int 0, .null, .int 0, .int 0, .int 0, .int 0, .int 0, .null, .int 0, .null, .null])), (q1, .inl (nxC X 0, 1216, .inl zeroA)), (q2, .inl (nxC X 0, 1216, .inl zeroA)), (q3, .inl (nxC X 0, 7296, .inl zeroA)), (q4, .inl (nxC X 0, 4608, .inl zeroA)), (q5, .inl (nxC X 1, 1152, .inl zeroA)), (q6, .inl (nxC X 0, 1152, .inl zeroA))]) rfl ?_
  refine gn_aload_n C dX7_init_63 rfl ?_
  refine gn_bipush C (nI 40) dX7_init_64 rfl ?_
  refine gn_newaI C dX7_init_66 (by decide) (Nat.le_of_ble_eq_true rfl) (Nat.le_of_ble_eq_true rfl) (fun q7 => ?_)
  refine gn_ws (ws2 := [(q, .inr (6, [.ref q1, .ref q2, .int 0, .ref q3, .int 0, .ref q4, .ref q5, .ref q6, .int (-1), .int 0, .int 0, .int 0, .int 0, .null, .null, .int 0, .null, .int 0, .int 0, .int 0, .int 0, .int 0, .null, .int 0, .null, .null])), (q1, .inl (nxC X 0, 1216, .inl zeroA)), (q2, .inl (nxC X 0, 1216, .inl zeroA)), (q3, .inl (nxC X 0, 7296, .inl zeroA)), (q4, .inl (nxC X 0, 4608, .inl zeroA)), (q5, .inl (nxC X 1, 1152, .inl zeroA)), (q6, .inl (nxC X 0, 1152, .inl zeroA)), (q7, .inl (nxC X 0, 40, .inl zeroA))]) rfl ?_
  refine gn_putF C hi gf_X7_33 dX7_init_68 0 rfl rfl rfl rfl rfl (Nat.le_of_ble_eq_true rfl) ?_
  refine gn_ws (ws2 := [(q, .inr (6, [.ref q1, .ref q2, .int 0, .ref q3, .int 0, .ref q4, .ref q5, .ref q6, .int (-1), .int 0, .int 0, .int 0, .int 0, .ref q7, .null, .int 0, .null, .int 0, .int 0, .int 0, .int 0, .int 0, .null, .int 0, .null, .null])), (q1, .inl (nxC X 0, 1216, .inl zeroA)), (q2, .inl (nxC X 0, 1216, .inl zeroA)), (q3, .inl (nxC X 0, 7296, .inl zeroA)), (q4, .inl (nxC X 0, 4608, .inl zeroA)), (q5, .inl (nxC X 1, 1152, .inl zeroA)), (q6, .inl (nxC X 0, 1152, .inl zeroA)), (q7, .inl (nxC X 0, 40, .inl zeroA))]) rfl ?_
  refine gn_aload_n C dX7_init_71 rfl ?_
  refine gn_bipush C (nI 40) dX7_init_72 rfl ?_
  refine gn_newaI C dX7_init_74 (by decide) (Nat.le_of_ble_eq_true rfl) (Nat.le_of_ble_eq_true rfl) (fun q8 => ?_)
  refine gn_ws (ws2 := [(q, .inr (6, [.ref q1, .ref q2, .int 0, .ref q3, .int 0, .ref q4, .ref q5, .ref q6, .int (-1), .int 0, .int 0, .int 0, .int 0, .ref q7, .null, .int 0, .null, .int 0, .int 0, .int 0, .int 0, .int 0, .null, .int 0, .null, .null])), (q1, .inl (nxC X 0, 1216, .inl zeroA)), (q2, .inl (nxC X 0, 1216, .inl zeroA)), (q3, .inl (nxC X 0, 7296, .inl zeroA)), (q4, .inl (nxC X 0, 4608, .inl zeroA)), (q5, .inl (nxC X 1, 1152, .inl zeroA)), (q6, .inl (nxC X 0, 1152, .inl zeroA)), (q7, .inl (nxC X 0, 40, .inl zeroA)), (q8, .inl (nxC X 0, 40, .inl zeroA))]) rfl ?_
  refine gn_putF C hi gf_X7_36 dX7_init_76 0 rfl rfl rfl rfl rfl (Nat.le_of_ble_eq_true rfl) ?_
  refine gn_ws (ws2 := [(q, .inr (6, [.ref q1, .ref q2, .int 0, .ref q3, .int 0, .ref q4, .ref q5, .ref q6, .int (-1), .int 0, .int 0, .int 0, .int 0, .ref q7, .ref q8, .int 0, .null, .int 0, .int 0, .int 0, .int 0, .int 0, .null, .int 0, .null, .null])), (q1, .inl (nxC X 0, 1216, .inl zeroA)), (q2, .inl (nxC X 0, 1216, .inl zeroA)), (q3, .inl (nxC X 0, 7296, .inl zeroA)), (q4, .inl (nxC X 0, 4608, .inl zeroA)), (q5, .inl (nxC X 1, 1152, .inl zeroA)), (q6, .inl (nxC X 0, 1152, .inl zeroA)), (q7, .inl (nxC X 0, 40, .inl zeroA)), (q8, .inl (nxC X 0, 40, .inl zeroA))]) rfl ?_
  refine gn_aload_n C dX7_init_79 rfl ?_
  refine gn_bipush C (nI 60) dX7_init_80 rfl ?_
  refine gn_newaI C dX7_init_82 (by decide) (Nat.le_of_ble_eq_true rfl) (Nat.le_of_ble_eq_true rfl) (fun q9 => ?_)
  refine gn_ws (ws2 := [(q, .inr (6, [.ref q1, .ref q2, .int 0, .ref q3, .int 0, .ref q4, .ref q5, .ref q6, .int (-1), .int 0, .int 0, .int 0, .int 0, .ref q7, .ref q8, .int 0, .null, .int 0, .int 0, .int 0, .int 0, .int 0, .null, .int 0, .null, .null])), (q1, .inl (nxC X 0, 1216, .inl zeroA)), (q2, .inl (nxC X 0, 1216, .inl zeroA)), (q3, .inl (nxC X 0, 7296, .inl zeroA)), (q4, .inl (nxC X 0, 4608, .inl zeroA)), (q5, .inl (nxC X 1, 1152, .inl zeroA)), (q6, .inl (nxC X 0, 1152, .inl zeroA)), (q7, .inl (nxC X 0, 40, .inl zeroA)), (q8, .inl (nxC X 0, 40, .inl zeroA)), (q9, .inl (nxC X 0, 60, .inl zeroA))]) rfl ?_
  refine gn_putF C hi gf_X7_39 dX7_init_84 0 rfl rfl rfl rfl rfl (Nat.le_of_ble_eq_true rfl) ?_
  refine gn_ws (ws2 := [(q, .inr (6, [.ref q1, .ref q2, .int 0, .ref q3, .int 0, .ref q4, .ref q5, .ref q6, .int (-1), .int 0, .int 0, .int 0, .int 0, .ref q7, .ref q8, .int 0, .ref q9, .int 0, .int 0, .int 0, .int 0, .int 0, .null, .int 0, .null, .null])), (q1, .inl (nxC X 0, 1216, .inl zeroA)), (q2, .inl (nxC X 0, 1216, .inl zeroA)), (q3, .inl (nxC X 0, 7296, .inl zeroA)), (q4, .inl (nxC X 0, 4608, .inl zeroA)), (q5, .inl (nxC X 1, 1152, .inl zeroA)), (q6, .inl (nxC X 0, 1152, .inl zeroA)), (q7, .inl (nxC X 0, 40, .inl zeroA)), (q8, .inl (nxC X 0, 40, .inl zeroA)), (q9, .inl (nxC X 0, 60, .inl zeroA))]) rfl ?_
  refine gn_aload_n C dX7_init_87 rfl ?_
  refine gn_bipush C (-4) dX7_init_88 rfl ?_
  refine gn_put C gf_X7_42 dX7_init_90 0 rfl rfl rfl rfl (Nat.le_of_ble_eq_true rfl) ?_
  refine gn_ws (ws2 := [(q, .inr (6, [.ref q1, .ref q2, .int 0, .ref q3, .int 0, .ref q4, .ref q5, .ref q6, .int (-1), .int 0, .int 0, .int 0, .int 0, .ref q7, .ref q8, .int 0, .ref q9, .int (-4), .int 0, .int 0, .int 0, .int 0, .null, .int 0, .null, .null])), (q1, .inl (nxC X 0, 1216, .inl zeroA)), (q2, .inl (nxC X 0, 1216, .inl zeroA)), (q3, .inl (nxC X 0, 7296, .inl zeroA)), (q4, .inl (nxC X 0, 4608, .inl zeroA)), (q5, .inl (nxC X 1, 1152, .inl zeroA)), (q6, .inl (nxC X 0, 1152, .inl zeroA)), (q7, .inl (nxC X 0, 40, .inl zeroA)), (q8, .inl (nxC X 0, 40, .inl zeroA)), (q9, .inl (nxC X 0, 60, .inl zeroA))]) rfl ?_
  refine gn_aload_n C dX7_init_93 rfl ?_
  refine gn_sipush C (nI 540) dX7_init_94 rfl ?_
  refine gn_newaI C dX7_init_97 (by decide) (Nat.le_of_ble_eq_true rfl) (Nat.le_of_ble_eq_true rfl) (fun q10 => ?_)
  refine gn_ws (ws2 := [(q, .inr (6, [.ref q1, .ref q2, .int 0, .ref q3, .int 0, .ref q4, .ref q5, .ref q6, .int (-1), .int 0, .int 0, .int 0, .int 0, .ref q7, .ref q8, .int 0, .ref q9, .int (-4), .int 0, .int 0, .int 0, .int 0, .null, .int 0, .null, .null])), (q1, .inl (nxC X 0, 1216, .inl zeroA)), (q2, .inl (nxC X 0, 1216, .inl zeroA)), (q3, .inl (nxC X 0, 7296, .inl zeroA)), (q4, .inl (nxC X 0, 4608, .inl zeroA)), (q5, .inl (nxC X 1, 1152, .inl zeroA)), (q6, .inl (nxC X 0, 1152, .inl zeroA)), (q7, .inl (nxC X 0, 40, .inl zeroA)), (q8, .inl (nxC X 0, 40, .inl zeroA)), (q9, .inl (nxC X 0, 60, .inl zeroA)), (q10, .inl (nxC X 0, 540, .inl zeroA))]) rfl ?_
  refine gn_putF C hi gf_X7_45 dX7_init_99 0 rfl rfl rfl rfl rfl (Nat.le_of_ble_eq_true rfl) ?_
  refine gn_ws (ws2 := [(q, .inr (6, [.ref q1, .ref q2, .int 0, .ref q3, .int 0, .ref q4, .ref q5, .ref q6, .int (-1), .int 0, .int 0, .int 0, .int 0, .ref q7, .ref q8, .int 0, .ref q9, .int (-4), .int 0, .int 0, .int 0, .int 0, .ref q10, .int 0, .null, .null])), (q1, .inl (nxC X 0, 1216, .inl zeroA)), (q2, .inl (nxC X 0, 1216, .inl zeroA)), (q3, .inl (nxC X 0, 7296, .inl zeroA)), (q4, .inl (nxC X 0, 4608, .inl zeroA)), (q5, .inl (nxC X 1, 1152, .inl zeroA)), (q6, .inl (nxC X 0, 1152, .inl zeroA)), (q7, .inl (nxC X 0, 40, .inl zeroA)), (q8, .inl (nxC X 0, 40, .inl zeroA)), (q9, .inl (nxC X 0, 60, .inl zeroA)), (q10, .inl (nxC X 0, 540, .inl zeroA))]) rfl ?_
  refine gn_aload_n C dX7_init_102 rfl ?_
  refine gn_sipush C (nI 1152) dX7_init_103 rfl ?_
  refine gn_newaZ C dX7_init_106 (by decide) (Nat.le_of_ble_eq_true rfl) (Nat.le_of_ble_eq_true rfl) (fun q11 => ?_)
  refine gn_ws (ws2 := [(q, .inr (6, [.ref q1, .ref q2, .int 0, .ref q3, .int 0, .ref q4, .ref q5, .ref q6, .int (-1), .int 0, .int 0, .int 0, .int 0, .ref q7, .ref q8, .int 0, .ref q9, .int (-4), .int 0, .int 0, .int 0, .int 0, .ref q10, .int 0, .null, .null])), (q1, .inl (nxC X 0, 1216, .inl zeroA)), (q2, .inl (nxC X 0, 1216, .inl zeroA)), (q3, .inl (nxC X 0, 7296, .inl zeroA)), (q4, .inl (nxC X 0, 4608, .inl zeroA)), (q5, .inl (nxC X 1, 1152, .inl zeroA)), (q6, .inl (nxC X 0, 1152, .inl zeroA)), (q7, .inl (nxC X 0, 40, .inl zeroA)), (q8, .inl (nxC X 0, 40, .inl zeroA)), (q9, .inl (nxC X 0, 60, .inl zeroA)), (q10, .inl (nxC X 0, 540, .inl zeroA)), (q11, .inl (nxC X 1, 1152, .inl zeroA))]) rfl ?_
  refine gn_putF C hi gf_X7_48 dX7_init_108 0 rfl rfl rfl rfl rfl (Nat.le_of_ble_eq_true rfl) ?_
  refine gn_ws (ws2 := [(q, .inr (6, [.ref q1, .ref q2, .int 0, .ref q3, .int 0, .ref q4, .ref q5, .ref q6, .int (-1), .int 0, .int 0, .int 0, .int 0, .ref q7, .ref q8, .int 0, .ref q9, .int (-4), .int 0, .int 0, .int 0, .int 0, .ref q10, .int 0, .ref q11, .null])), (q1, .inl (nxC X 0, 1216, .inl zeroA)), (q2, .inl (nxC X 0, 1216, .inl zeroA)), (q3, .inl (nxC X 0, 7296, .inl zeroA)), (q4, .inl (nxC X 0, 4608, .inl zeroA)), (q5, .inl (nxC X 1, 1152, .inl zeroA)), (q6, .inl (nxC X 0, 1152, .inl zeroA)), (q7, .inl (nxC X 0, 40, .inl zeroA)), (q8, .inl (nxC X 0, 40, .inl zeroA)), (q9, .inl (nxC X 0, 60, .inl zeroA)), (q10, .inl (nxC X 0, 540, .inl zeroA)), (q11, .inl (nxC X 1, 1152, .inl zeroA))]) rfl ?_
  refine gn_aload_n C dX7_init_111 rfl ?_
  refine gn_sipush C (nI 1152) dX7_init_112 rfl ?_
  refine gn_newaI C dX7_init_115 (by decide) (Nat.le_of_ble_eq_true rfl) (Nat.le_of_ble_eq_true rfl) (fun q12 => ?_)
  refine gn_ws (ws2 := [(q, .inr (6, [.ref q1, .ref q2, .int 0, .ref q3, .int 0, .ref q4, .ref q5, .ref q6, .int (-1), .int 0, .int 0, .int 0, .int 0, .ref q7, .ref q8, .int 0, .ref q9, .int (-4), .int 0, .int 0, .int 0, .int 0, .ref q10, .int 0, .ref q11, .null])), (q1, .inl (nxC X 0, 1216, .inl zeroA)), (q2, .inl (nxC X 0, 1216, .inl zeroA)), (q3, .inl (nxC X 0, 7296, .inl zeroA)), (q4, .inl (nxC X 0, 4608, .inl zeroA)), (q5, .inl (nxC X 1, 1152, .inl zeroA)), (q6, .inl (nxC X 0, 1152, .inl zeroA)), (q7, .inl (nxC X 0, 40, .inl zeroA)), (q8, .inl (nxC X 0, 40, .inl zeroA)), (q9, .inl (nxC X 0, 60, .inl zeroA)), (q10, .inl (nxC X 0, 540, .inl zeroA)), (q11, .inl (nxC X 1, 1152, .inl zeroA)), (q12, .inl (nxC X 0, 1152, .inl zeroA))]) rfl ?_
  refine gn_putF C hi gf_X7_51 dX7_init_117 0 rfl rfl rfl rfl rfl (Nat.le_of_ble_eq_true rfl) ?_
  refine gn_ws (ws2 := [(q, .inr (6, [.ref q1, .ref q2, .int 0, .ref q3, .int 0, .ref q4, .ref q5, .ref q6, .int (-1), .int 0, .int 0, .int 0, .int 0, .ref q7, .ref q8, .int 0, .ref q9, .int (-4), .int 0, .int 0, .int 0, .int 0, .ref q10, .int 0, .ref q11, .ref q12])), (q1, .inl (nxC X 0, 1216, .inl zeroA)), (q2, .inl (nxC X 0, 1216, .inl zeroA)), (q3, .inl (nxC X 0, 7296, .inl zeroA)), (q4, .inl (nxC X 0, 4608, .inl zeroA)), (q5, .inl (nxC X 1, 1152, .inl zeroA)), (q6, .inl (nxC X 0, 1152, .inl zeroA)), (q7, .inl (nxC X 0, 40, .inl zeroA)), (q8, .inl (nxC X 0, 40, .inl zeroA)), (q9, .inl (nxC X 0, 60, .inl zeroA)), (q10, .inl (nxC X 0, 540, .inl zeroA)), (q11, .inl (nxC X 1, 1152, .inl zeroA)), (q12, .inl (nxC X 0, 1152, .inl zeroA))]) rfl ?_
  refine gn_iconst C (nI 0) dX7_init_120 rfl ?_
  refine gn_istore_n C dX7_init_121 (by decide) rfl rfl ?_
  refine gn_iload_n C dX7_init_122 rfl ?_
  refine gn_iconst C (nI 4) dX7_init_123 rfl ?_
  refine gn_icmp_ge C 145 dX7_init_124 (by decide) (fun h => absurd h (show ¬ nI 4 ≤ nI 0 by decide)) (fun _ => ?_)
  refine gn_aload_n C dX7_init_127 rfl ?_
  refine gn_get C gf_X7_9 dX7_init_128 0 rfl rfl ?_
  refine gn_sipush C (nI 1156) dX7_init_131 rfl ?_
  refine gn_iload_n C dX7_init_134 rfl ?_
  refine gn_iaddN C dX7_init_135 ?_
  refine gn_bipush C (nI 15) dX7_init_136 rfl ?_
  refine gn_iastN C 1 rfl (by decide) (by decide) dX7_init_138 ?_
  refine gn_ws (ws2 := [(q, .inr (6, [.ref q1, .ref q2, .int 0, .ref q3, .int 0, .ref q4, .ref q5, .ref q6, .int (-1), .int 0, .int 0, .int 0, .int 0, .ref q7, .ref q8, .int 0, .ref q9, .int (-4), .int 0, .int 0, .int 0, .int 0, .ref q10, .int 0, .ref q11, .ref q12])), (q1, .inl (nxC X 0, 1216, .inl (upd zeroA 1156 (nI 15)))), (q2, .inl (nxC X 0, 1216, .inl zeroA)), (q3, .inl (nxC X 0, 7296, .inl zeroA)), (q4, .inl (nxC X 0, 4608, .inl zeroA)), (q5, .inl (nxC X 1, 1152, .inl zeroA)), (q6, .inl (nxC X 0, 1152, .inl zeroA)), (q7, .inl (nxC X 0, 40, .inl zeroA)), (q8, .inl (nxC X 0, 40, .inl zeroA)), (q9, .inl (nxC X 0, 60, .inl zeroA)), (q10, .inl (nxC X 0, 540, .inl zeroA)), (q11, .inl (nxC X 1, 1152, .inl zeroA)), (q12, .inl (nxC X 0, 1152, .inl zeroA))]) rfl ?_
  refine gn_iinc C (nI 1) dX7_init_139 rfl (by decide) (by decide) rfl rfl ?_
  refine gn_goto C 122 dX7_init_142 (by decide) ?_
  refine gn_iload_n C dX7_init_122 rfl ?_
  refine gn_iconst C (nI 4) dX7_init_123 rfl ?_
  refine gn_icmp_ge C 145 dX7_init_124 (by decide) (fun h => absurd h (show ¬ nI 4 ≤ nI 1 by decide)) (fun _ => ?_)
  refine gn_aload_n C dX7_init_127 rfl ?_
  refine gn_get C gf_X7_9 dX7_init_128 0 rfl rfl ?_
  refine gn_sipush C (nI 1156) dX7_init_131 rfl ?_
  refine gn_iload_n C dX7_init_134 rfl ?_
  refine gn_iaddN C dX7_init_135 ?_
  refine gn_bipush C (nI 15) dX7_init_136 rfl ?_
  refine gn_iastN C 1 rfl (by decide) (by decide) dX7_init_138 ?_
  refine gn_ws (ws2 := [(q, .inr (6, [.ref q1, .ref q2, .int 0, .ref q3, .int 0, .ref q4, .ref q5, .ref q6, .int (-1), .int 0, .int 0, .int 0, .int 0, .ref q7, .ref q8, .int 0, .ref q9, .int (-4), .int 0, .int 0, .int 0, .int 0, .ref q10, .int 0, .ref q11, .ref q12])), (q1, .inl (nxC X 0, 1216, .inl (upd (upd zeroA 1156 (nI 15)) 1157 (nI 15)))), (q2, .inl (nxC X 0, 1216, .inl zeroA)), (q3, .inl (nxC X 0, 7296, .inl zeroA)), (q4, .inl (nxC X 0, 4608, .inl zeroA)), (q5, .inl (nxC X 1, 1152, .inl zeroA)), (q6, .inl (nxC X 0, 1152, .inl zeroA)), (q7, .inl (nxC X 0, 40, .inl zeroA)), (q8, .inl (nxC X 0, 40, .inl zeroA)), (q9, .inl (nxC X 0, 60, .inl zeroA)), (q10, .inl (nxC X 0, 540, .inl zeroA)), (q11, .inl (nxC X 1, 1152, .inl zeroA)), (q12, .inl (nxC X 0, 1152, .inl zeroA))]) rfl ?_
  refine gn_iinc C (nI 2) dX7_init_139 rfl (by decide) (by decide) rfl rfl ?_
  refine gn_goto C 122 dX7_init_142 (by decide) ?_
  refine gn_iload_n C dX7_init_122 rfl ?_
  refine gn_iconst C (nI 4) dX7_init_123 rfl ?_
  refine gn_icmp_ge C 145 dX7_init_124 (by decide) (fun h => absurd h (show ¬ nI 4 ≤ nI 2 by decide)) (fun _ => ?_)
  refine gn_aload_n C dX7_init_127 rfl ?_
  refine gn_get C gf_X7_9 dX7_init_128 0 rfl rfl ?_
  refine gn_sipush C (nI 1156) dX7_init_131 rfl ?_
  refine gn_iload_n C dX7_init_134 rfl ?_
  refine gn_iaddN C dX7_init_135 ?_
  refine gn_bipush C (nI 15) dX7_init_136 rfl ?_
  refine gn_iastN C 1 rfl (by decide) (by decide) dX7_init_138 ?_
  refine gn_ws (ws2 := [(q, .inr (6, [.ref q1, .ref q2, .int 0, .ref q3, .int 0, .ref q4, .ref q5, .ref q6, .int (-1), .int 0, .int 0, .int 0, .int 0, .ref q7, .ref q8, .int 0, .ref q9, .int (-4), .int 0, .int 0, .int 0, .int 0, .ref q10, .int 0, .ref q11, .ref q12])), (q1, .inl (nxC X 0, 1216, .inl (upd (upd (upd zeroA 1156 (nI 15)) 1157 (nI 15)) 1158 (nI 15)))), (q2, .inl (nxC X 0, 1216, .inl zeroA)), (q3, .inl (nxC X 0, 7296, .inl zeroA)), (q4, .inl (nxC X 0, 4608, .inl zeroA)), (q5, .inl (nxC X 1, 1152, .inl zeroA)), (q6, .inl (nxC X 0, 1152, .inl zeroA)), (q7, .inl (nxC X 0, 40, .inl zeroA)), (q8, .inl (nxC X 0, 40, .inl zeroA)), (q9, .inl (nxC X 0, 60, .inl zeroA)), (q10, .inl (nxC X 0, 540, .inl zeroA)), (q11, .inl (nxC X 1, 1152, .inl zeroA)), (q12, .inl (nxC X 0, 1152, .inl zeroA))]) rfl ?_
  refine gn_iinc C (nI 3) dX7_init_139 rfl (by decide) (by decide) rfl rfl ?_
  refine gn_goto C 122 dX7_init_142 (by decide) ?_
  refine gn_iload_n C dX7_init_122 rfl ?_
  refine gn_iconst C (nI 4) dX7_init_123 rfl ?_
  refine gn_icmp_ge C 145 dX7_init_124 (by decide) (fun h => absurd h (show ¬ nI 4 ≤ nI 3 by decide)) (fun _ => ?_)
  refine gn_aload_n C dX7_init_127 rfl ?_
  refine gn_get C gf_X7_9 dX7_init_128 0 rfl rfl ?_
  refine gn_sipush C (nI 1156) dX7_init_131 rfl ?_
  refine gn_iload_n C dX7_init_134 rfl ?_
  refine gn_iaddN C dX7_init_135 ?_
  refine gn_bipush C (nI 15) dX7_init_136 rfl ?_
  refine gn_iastN C 1 rfl (by decide) (by decide) dX7_init_138 ?_
  refine gn_ws (ws2 := [(q, .inr (6, [.ref q1, .ref q2, .int 0, .ref q3, .int 0, .ref q4, .ref q5, .ref q6, .int (-1), .int 0, .int 0, .int 0, .int 0, .ref q7, .ref q8, .int 0, .ref q9, .int (-4), .int 0, .int 0, .int 0, .int 0, .ref q10, .int 0, .ref q11, .ref q12])), (q1, .inl (nxC X 0, 1216, .inl (upd (upd (upd (upd zeroA 1156 (nI 15)) 1157 (nI 15)) 1158 (nI 15)) 1159 (nI 15)))), (q2, .inl (nxC X 0, 1216, .inl zeroA)), (q3, .inl (nxC X 0, 7296, .inl zeroA)), (q4, .inl (nxC X 0, 4608, .inl zeroA)), (q5, .inl (nxC X 1, 1152, .inl zeroA)), (q6, .inl (nxC X 0, 1152, .inl zeroA)), (q7, .inl (nxC X 0, 40, .inl zeroA)), (q8, .inl (nxC X 0, 40, .inl zeroA)), (q9, .inl (nxC X 0, 60, .inl zeroA)), (q10, .inl (nxC X 0, 540, .inl zeroA)), (q11, .inl (nxC X 1, 1152, .inl zeroA)), (q12, .inl (nxC X 0, 1152, .inl zeroA))]) rfl ?_
  refine gn_iinc C (nI 4) dX7_init_139 rfl (by decide) (by decide) rfl rfl ?_
  refine gn_goto C 122 dX7_init_142 (by decide) ?_
  refine gn_iload_n C dX7_init_122 rfl ?_
  refine gn_iconst C (nI 4) dX7_init_123 rfl ?_
  refine gn_icmp_ge C 145 dX7_init_124 (by decide) (fun _ => ?_) (fun h => absurd (show nI 4 ≤ nI 4 by decide) h)
  refine gn_ws (ws2 := [] ++ (WS objM NM (fun k => [q, q1, q2, q3, q4, q5, q6, q7, q8, q9, q10, q11, q12].getD k 0) (nxC X) sM ++ [])) (by rw [wsM_eq (nxC X) q q1 q2 q3 q4 q5 q6 q7 q8 q9 q10 q11 q12 _ rfl]; rfl) ?_
  refine gn_aload_n C dX7_init_145 rfl ?_
  refine gn_cV C (w1 := []) (w2 := []) rfl ok_X7_layAll lk_X7_54 dX7_init_146 (by decide) rfl rfl rfl (k_X7_layAll w00_ok hasM_0) rfl ⟨(Nat.le_of_ble_eq_true rfl), (Nat.le_of_ble_eq_true rfl)⟩ (Nat.le_of_ble_eq_true rfl) (Nat.le_of_ble_eq_true rfl) (Nat.le_of_ble_eq_true rfl) rfl (fun τ hp => ?_)
  refine hr 149 _ _ _ _ dX7_init_149 (Nat.le_of_ble_eq_true rfl) (Nat.le_of_ble_eq_true rfl) ?_
  exact ⟨(fun k => [q, q1, q2, q3, q4, q5, q6, q7, q8, q9, q10, q11, q12].getD k 0), τ, List.append_nil _, repM_0 hp, rfl⟩
