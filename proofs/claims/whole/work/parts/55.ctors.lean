/-! Constructors: the small ones. -/
section GN2
variable {cc : ByteArray} {nL : Nat} {own : String} {R0 : Room} {X : NX} {pc : Nat} {lv : List (Option Value)} {st : List Value} {ws : va_W} {k n : Nat}
theorem gn_iastN (C : OkN cc nL own R0 X) (q0 : Nat) {a N i : Nat} {f : Nat → Int32} (he : ws[q0]? = some (a, .inl (nxC X 0, N, .inl f))) {x : Int32} (hi : i < N) (hN : N < 2 ^ 31) (d : decode cc pc = .ok (.iastore, 1)) (kk : Gn X (pc + 1) lv st (ws.set q0 (a, .inl (nxC X 0, N, .inl (upd f i x)))) k n) : Gn X pc lv (.int x :: .int (nI i) :: .ref a :: st) ws k n := gn_iast C q0 he (vp_in_nI hi hN) d (by rw [nI_clamp (Nat.lt_trans hi hN)]; exact kk)
theorem gn_aastN (C : OkN cc nL own R0 X) (q0 qk : Nat) {a v N i : Nat} {vs : List Value} {f : Nat → Option Nat} (he : ws[q0]? = some (a, .inl (nxC X 4, N, .inr (.inr (.inr (.inr f)))))) (hv : ws[qk]? = some (v, .inr (4, vs))) (hi : i < N) (hN : N < 2 ^ 31) (d : decode cc pc = .ok (.aastore, 1)) (kk : Gn X (pc + 1) lv st (ws.set q0 (a, .inl (nxC X 4, N, .inr (.inr (.inr (.inr (va_up f i (some v)))))))) k n) : Gn X pc lv (.ref v :: .int (nI i) :: .ref a :: st) ws k n := gn_aast C q0 qk he hv (vp_in_nI hi hN) d (by rw [nI_clamp (Nat.lt_trans hi hN)]; exact kk)
theorem gn_aaldN (C : OkN cc nL own R0 X) (q0 : Nat) {a N i j : Nat} {f : Nat → Option Nat} (he : ws[q0]? = some (a, .inl (nxC X 3, N, .inr (.inr (.inr (.inr f)))))) (hi : i < N) (hN : N < 2 ^ 31) (hf : f i = some j) (d : decode cc pc = .ok (.aaload, 1)) (kk : Gn X (pc + 1) lv (.ref j :: st) ws k n) : Gn X pc lv (.int (nI i) :: .ref a :: st) ws k n := gn_aald C q0 he (vp_in_nI hi hN) (by rw [nI_clamp (Nat.lt_trans hi hN)]; exact hf) d kk
end GN2
def pX5_init (cy : Nat → ClassId) (q : Nat) (w : va_W) : Prop := ∃ q1 q2 q3 : Nat, w = [(q, .inr (4, [.ref q1, .ref q2, .ref q3])), (q1, .inl (cy 0, 1152, .inl zeroA)), (q2, .inl (cy 0, 32, .inl (upd (upd (upd (upd zeroA 4 (nI 15)) 5 (nI 15)) 6 (nI 15)) 7 (nI 15)))), (q3, .inl (cy 0, 32, .inl zeroA))]
set_option maxHeartbeats 4000000 in
set_option maxRecDepth 100000 in
theorem n_X5_init : CtN yX5_init cX5_init 2 1 20 3 1216 4 (dfl tyX5 3) pX5_init := by
  refine ctn_of rfl rfl (by decide) (fun X q C hi hr => ?_)
  refine gn_ws (ws2 := [(q, .inr (4, [.null, .null, .null]))]) rfl ?_
  refine gn_aload_n C dX5_init_0 rfl ?_
  refine gn_obj C ol_X5 dX5_init_1 (Nat.le_of_ble_eq_true rfl) (Nat.le_of_ble_eq_true rfl) ?_
  refine gn_aload_n C dX5_init_4 rfl ?_
  refine gn_sipush C (nI 1152) dX5_init_5 rfl ?_
  refine gn_newaI C dX5_init_8 (by decide) (Nat.le_of_ble_eq_true rfl) (Nat.le_of_ble_eq_true rfl) (fun q1 => ?_)
  refine gn_ws (ws2 := [(q, .inr (4, [.null, .null, .null])), (q1, .inl (nxC X 0, 1152, .inl zeroA))]) rfl ?_
  refine gn_putF C hi gf_X5_9 dX5_init_10 0 rfl rfl rfl rfl rfl (Nat.le_of_ble_eq_true rfl) ?_
  refine gn_ws (ws2 := [(q, .inr (4, [.ref q1, .null, .null])), (q1, .inl (nxC X 0, 1152, .inl zeroA))]) rfl ?_
  refine gn_aload_n C dX5_init_13 rfl ?_
  refine gn_bipush C (nI 32) dX5_init_14 rfl ?_
  refine gn_newaI C dX5_init_16 (by decide) (Nat.le_of_ble_eq_true rfl) (Nat.le_of_ble_eq_true rfl) (fun q2 => ?_)
  refine gn_ws (ws2 := [(q, .inr (4, [.ref q1, .null, .null])), (q1, .inl (nxC X 0, 1152, .inl zeroA)), (q2, .inl (nxC X 0, 32, .inl zeroA))]) rfl ?_
  refine gn_putF C hi gf_X5_15 dX5_init_18 0 rfl rfl rfl rfl rfl (Nat.le_of_ble_eq_true rfl) ?_
  refine gn_ws (ws2 := [(q, .inr (4, [.ref q1, .ref q2, .null])), (q1, .inl (nxC X 0, 1152, .inl zeroA)), (q2, .inl (nxC X 0, 32, .inl zeroA))]) rfl ?_
  refine gn_aload_n C dX5_init_21 rfl ?_
  refine gn_bipush C (nI 32) dX5_init_22 rfl ?_
  refine gn_newaI C dX5_init_24 (by decide) (Nat.le_of_ble_eq_true rfl) (Nat.le_of_ble_eq_true rfl) (fun q3 => ?_)
  refine gn_ws (ws2 := [(q, .inr (4, [.ref q1, .ref q2, .null])), (q1, .inl (nxC X 0, 1152, .inl zeroA)), (q2, .inl (nxC X 0, 32, .inl zeroA)), (q3, .inl (nxC X 0, 32, .inl zeroA))]) rfl ?_
  refine gn_putF C hi gf_X5_18 dX5_init_26 0 rfl rfl rfl rfl rfl (Nat.le_of_ble_eq_true rfl) ?_
  refine gn_ws (ws2 := [(q, .inr (4, [.ref q1, .ref q2, .ref q3])), (q1, .inl (nxC X 0, 1152, .inl zeroA)), (q2, .inl (nxC X 0, 32, .inl zeroA)), (q3, .inl (nxC X 0, 32, .inl zeroA))]) rfl ?_
  refine gn_iconst C (nI 0) dX5_init_29 rfl ?_
  refine gn_istore_n C dX5_init_30 (by decide) rfl rfl ?_
  refine gn_iload_n C dX5_init_31 rfl ?_
  refine gn_iconst C (nI 4) dX5_init_32 rfl ?_
  refine gn_icmp_ge C 52 dX5_init_33 (by decide) (fun h => absurd h (show ¬ nI 4 ≤ nI 0 by decide)) (fun _ => ?_)
  refine gn_aload_n C dX5_init_36 rfl ?_
  refine gn_get C gf_X5_15 dX5_init_37 0 rfl rfl ?_
  refine gn_iconst C (nI 4) dX5_init_40 rfl ?_
  refine gn_iload_n C dX5_init_41 rfl ?_
  refine gn_iaddN C dX5_init_42 ?_
  refine gn_bipush C (nI 15) dX5_init_43 rfl ?_
  refine gn_iastN C 2 rfl (by decide) (by decide) dX5_init_45 ?_
  refine gn_ws (ws2 := [(q, .inr (4, [.ref q1, .ref q2, .ref q3])), (q1, .inl (nxC X 0, 1152, .inl zeroA)), (q2, .inl (nxC X 0, 32, .inl (upd zeroA 4 (nI 15)))), (q3, .inl (nxC X 0, 32, .inl zeroA))]) rfl ?_
  refine gn_iinc C (nI 1) dX5_init_46 rfl (by decide) (by decide) rfl rfl ?_
  refine gn_goto C 31 dX5_init_49 (by decide) ?_
  refine gn_iload_n C dX5_init_31 rfl ?_
  refine gn_iconst C (nI 4) dX5_init_32 rfl ?_
  refine gn_icmp_ge C 52 dX5_init_33 (by decide) (fun h => absurd h (show ¬ nI 4 ≤ nI 1 by decide)) (fun _ => ?_)
  refine gn_aload_n C dX5_init_36 rfl ?_
  refine gn_get C gf_X5_15 dX5_init_37 0 rfl rfl ?_
  refine gn_iconst C (nI 4) dX5_init_40 rfl ?_
  refine gn_iload_n C dX5_init_41 rfl ?_
  refine gn_iaddN C dX5_init_42 ?_
  refine gn_bipush C (nI 15) dX5_init_43 rfl ?_
  refine gn_iastN C 2 rfl (by decide) (by decide) dX5_init_45 ?_
  refine gn_ws (ws2 := [(q, .inr (4, [.ref q1, .ref q2, .ref q3])), (q1, .inl (nxC X 0, 1152, .inl zeroA)), (q2, .inl (nxC X 0, 32, .inl (upd (upd zeroA 4 (nI 15)) 5 (nI 15)))), (q3, .inl (nxC X 0, 32, .inl zeroA))]) rfl ?_
  refine gn_iinc C (nI 2) dX5_init_46 rfl (by decide) (by decide) rfl rfl ?_
  refine gn_goto C 31 dX5_init_49 (by decide) ?_
  refine gn_iload_n C dX5_init_31 rfl ?_
  refine gn_iconst C (nI 4) dX5_init_32 rfl ?_
  refine gn_icmp_ge C 52 dX5_init_33 (by decide) (fun h => absurd h (show ¬ nI 4 ≤ nI 2 by decide)) (fun _ => ?_)
  refine gn_aload_n C dX5_init_36 rfl ?_
  refine gn_get C gf_X5_15 dX5_init_37 0 rfl rfl ?_
  refine gn_iconst C (nI 4) dX5_init_40 rfl ?_
  refine gn_iload_n C dX5_init_41 rfl ?_
  refine gn_iaddN C dX5_init_42 ?_
  refine gn_bipush C (nI 15) dX5_init_43 rfl ?_
  refine gn_iastN C 2 rfl (by decide) (by decide) dX5_init_45 ?_
  refine gn_ws (ws2 := [(q, .inr (4, [.ref q1, .ref q2, .ref q3])), (q1, .inl (nxC X 0, 1152, .inl zeroA)), (q2, .inl (nxC X 0, 32, .inl (upd (upd (upd zeroA 4 (nI 15)) 5 (nI 15)) 6 (nI 15)))), (q3, .inl (nxC X 0, 32, .inl zeroA))]) rfl ?_
  refine gn_iinc C (nI 3) dX5_init_46 rfl (by decide) (by decide) rfl rfl ?_
  refine gn_goto C 31 dX5_init_49 (by decide) ?_
  refine gn_iload_n C dX5_init_31 rfl ?_
  refine gn_iconst C (nI 4) dX5_init_32 rfl ?_
  refine gn_icmp_ge C 52 dX5_init_33 (by decide) (fun h => absurd h (show ¬ nI 4 ≤ nI 3 by decide)) (fun _ => ?_)
  refine gn_aload_n C dX5_init_36 rfl ?_
  refine gn_get C gf_X5_15 dX5_init_37 0 rfl rfl ?_
  refine gn_iconst C (nI 4) dX5_init_40 rfl ?_
  refine gn_iload_n C dX5_init_41 rfl ?_
  refine gn_iaddN C dX5_init_42 ?_
  refine gn_bipush C (nI 15) dX5_init_43 rfl ?_
  refine gn_iastN C 2 rfl (by decide) (by decide) dX5_init_45 ?_
  refine gn_ws (ws2 := [(q, .inr (4, [.ref q1, .ref q2, .ref q3])), (q1, .inl (nxC X 0, 1152, .inl zeroA)), (q2, .inl (nxC X 0, 32, .inl (upd (upd (upd (upd zeroA 4 (nI 15)) 5 (nI 15)) 6 (nI 15)) 7 (nI 15)))), (q3, .inl (nxC X 0, 32, .inl zeroA))]) rfl ?_
  refine gn_iinc C (nI 4) dX5_init_46 rfl (by decide) (by decide) rfl rfl ?_
  refine gn_goto C 31 dX5_init_49 (by decide) ?_
  refine gn_iload_n C dX5_init_31 rfl ?_
  refine gn_iconst C (nI 4) dX5_init_32 rfl ?_
  refine gn_icmp_ge C 52 dX5_init_33 (by decide) (fun _ => ?_) (fun h => absurd (show nI 4 ≤ nI 4 by decide) h)
  refine hr 52 _ _ _ _ dX5_init_52 (Nat.le_of_ble_eq_true rfl) (Nat.le_of_ble_eq_true rfl) ?_
  exact ⟨q1, q2, q3, rfl⟩
def pX4_init (cy : Nat → ClassId) (q : Nat) (w : va_W) : Prop := ∃ q1 q2 q3 : Nat, w = [(q, .inr (3, [.ref q1, .ref q2, .ref q3, .int (nI 0)])), (q1, .inl (cy 0, 16, .inl zeroA)), (q2, .inl (cy 0, 2304, .inl zeroA)), (q3, .inl (cy 0, 2304, .inl zeroA))]
set_option maxHeartbeats 4000000 in
set_option maxRecDepth 100000 in
theorem n_X4_init : CtN yX4_init cX4_init 1 1 20 3 4624 3 (dfl tyX4 4) pX4_init := by
  refine ctn_of rfl rfl (by decide) (fun X q C hi hr => ?_)
  refine gn_ws (ws2 := [(q, .inr (3, [.null, .null, .null, .int 0]))]) rfl ?_
  refine gn_aload_n C dX4_init_0 rfl ?_
  refine gn_obj C ol_X4 dX4_init_1 (Nat.le_of_ble_eq_true rfl) (Nat.le_of_ble_eq_true rfl) ?_
  refine gn_aload_n C dX4_init_4 rfl ?_
  refine gn_bipush C (nI 16) dX4_init_5 rfl ?_
  refine gn_newaI C dX4_init_7 (by decide) (Nat.le_of_ble_eq_true rfl) (Nat.le_of_ble_eq_true rfl) (fun q1 => ?_)
  refine gn_ws (ws2 := [(q, .inr (3, [.null, .null, .null, .int 0])), (q1, .inl (nxC X 0, 16, .inl zeroA))]) rfl ?_
  refine gn_putF C hi gf_X4_9 dX4_init_9 0 rfl rfl rfl rfl rfl (Nat.le_of_ble_eq_true rfl) ?_
  refine gn_ws (ws2 := [(q, .inr (3, [.ref q1, .null, .null, .int 0])), (q1, .inl (nxC X 0, 16, .inl zeroA))]) rfl ?_
  refine gn_aload_n C dX4_init_12 rfl ?_
  refine gn_sipush C (nI 2304) dX4_init_13 rfl ?_
  refine gn_newaI C dX4_init_16 (by decide) (Nat.le_of_ble_eq_true rfl) (Nat.le_of_ble_eq_true rfl) (fun q2 => ?_)
  refine gn_ws (ws2 := [(q, .inr (3, [.ref q1, .null, .null, .int 0])), (q1, .inl (nxC X 0, 16, .inl zeroA)), (q2, .inl (nxC X 0, 2304, .inl zeroA))]) rfl ?_
  refine gn_putF C hi gf_X4_15 dX4_init_18 0 rfl rfl rfl rfl rfl (Nat.le_of_ble_eq_true rfl) ?_
  refine gn_ws (ws2 := [(q, .inr (3, [.ref q1, .ref q2, .null, .int 0])), (q1, .inl (nxC X 0, 16, .inl zeroA)), (q2, .inl (nxC X 0, 2304, .inl zeroA))]) rfl ?_
  refine gn_aload_n C dX4_init_21 rfl ?_
  refine gn_sipush C (nI 2304) dX4_init_22 rfl ?_
  refine gn_newaI C dX4_init_25 (by decide) (Nat.le_of_ble_eq_true rfl) (Nat.le_of_ble_eq_true rfl) (fun q3 => ?_)
  refine gn_ws (ws2 := [(q, .inr (3, [.ref q1, .ref q2, .null, .int 0])), (q1, .inl (nxC X 0, 16, .inl zeroA)), (q2, .inl (nxC X 0, 2304, .inl zeroA)), (q3, .inl (nxC X 0, 2304, .inl zeroA))]) rfl ?_
  refine gn_putF C hi gf_X4_18 dX4_init_27 0 rfl rfl rfl rfl rfl (Nat.le_of_ble_eq_true rfl) ?_
  refine gn_ws (ws2 := [(q, .inr (3, [.ref q1, .ref q2, .ref q3, .int 0])), (q1, .inl (nxC X 0, 16, .inl zeroA)), (q2, .inl (nxC X 0, 2304, .inl zeroA)), (q3, .inl (nxC X 0, 2304, .inl zeroA))]) rfl ?_
  refine gn_aload_n C dX4_init_30 rfl ?_
  refine gn_iconst C (nI 0) dX4_init_31 rfl ?_
  refine gn_put C gf_X4_21 dX4_init_32 0 rfl rfl rfl rfl (Nat.le_of_ble_eq_true rfl) ?_
  refine gn_ws (ws2 := [(q, .inr (3, [.ref q1, .ref q2, .ref q3, .int (nI 0)])), (q1, .inl (nxC X 0, 16, .inl zeroA)), (q2, .inl (nxC X 0, 2304, .inl zeroA)), (q3, .inl (nxC X 0, 2304, .inl zeroA))]) rfl ?_
  refine hr 35 _ _ _ _ dX4_init_35 (Nat.le_of_ble_eq_true rfl) (Nat.le_of_ble_eq_true rfl) ?_
  exact ⟨q1, q2, q3, rfl⟩
def pX0_init (cy : Nat → ClassId) (q : Nat) (w : va_W) : Prop := ∃ q1 q2 : Nat, w = [(q, .inr (0, [.ref q1, .ref q2, .int (nI 0), .int (nI 0)])), (q1, .inl (cy 0, 40, .inl zeroA)), (q2, .inl (cy 0, 40, .inl zeroA))]
set_option maxHeartbeats 4000000 in
set_option maxRecDepth 100000 in
theorem n_X0_init : CtN yX0_init cX0_init 1 1 20 2 80 0 (dfl tyX0 4) pX0_init := by
  refine ctn_of rfl rfl (by decide) (fun X q C hi hr => ?_)
  refine gn_ws (ws2 := [(q, .inr (0, [.null, .null, .int 0, .int 0]))]) rfl ?_
  refine gn_aload_n C dX0_init_0 rfl ?_
  refine gn_obj C ol_X0 dX0_init_1 (Nat.le_of_ble_eq_true rfl) (Nat.le_of_ble_eq_true rfl) ?_
  refine gn_aload_n C dX0_init_4 rfl ?_
  refine gn_bipush C (nI 40) dX0_init_5 rfl ?_
  refine gn_newaI C dX0_init_7 (by decide) (Nat.le_of_ble_eq_true rfl) (Nat.le_of_ble_eq_true rfl) (fun q1 => ?_)
  refine gn_ws (ws2 := [(q, .inr (0, [.null, .null, .int 0, .int 0])), (q1, .inl (nxC X 0, 40, .inl zeroA))]) rfl ?_
  refine gn_putF C hi gf_X0_9 dX0_init_9 0 rfl rfl rfl rfl rfl (Nat.le_of_ble_eq_true rfl) ?_
  refine gn_ws (ws2 := [(q, .inr (0, [.ref q1, .null, .int 0, .int 0])), (q1, .inl (nxC X 0, 40, .inl zeroA))]) rfl ?_
  refine gn_aload_n C dX0_init_12 rfl ?_
  refine gn_bipush C (nI 40) dX0_init_13 rfl ?_
  refine gn_newaI C dX0_init_15 (by decide) (Nat.le_of_ble_eq_true rfl) (Nat.le_of_ble_eq_true rfl) (fun q2 => ?_)
  refine gn_ws (ws2 := [(q, .inr (0, [.ref q1, .null, .int 0, .int 0])), (q1, .inl (nxC X 0, 40, .inl zeroA)), (q2, .inl (nxC X 0, 40, .inl zeroA))]) rfl ?_
  refine gn_putF C hi gf_X0_15 dX0_init_17 0 rfl rfl rfl rfl rfl (Nat.le_of_ble_eq_true rfl) ?_
  refine gn_ws (ws2 := [(q, .inr (0, [.ref q1, .ref q2, .int 0, .int 0])), (q1, .inl (nxC X 0, 40, .inl zeroA)), (q2, .inl (nxC X 0, 40, .inl zeroA))]) rfl ?_
  refine gn_aload_n C dX0_init_20 rfl ?_
  refine gn_iconst C (nI 0) dX0_init_21 rfl ?_
  refine gn_put C gf_X0_18 dX0_init_22 0 rfl rfl rfl rfl (Nat.le_of_ble_eq_true rfl) ?_
  refine gn_ws (ws2 := [(q, .inr (0, [.ref q1, .ref q2, .int (nI 0), .int 0])), (q1, .inl (nxC X 0, 40, .inl zeroA)), (q2, .inl (nxC X 0, 40, .inl zeroA))]) rfl ?_
  refine gn_aload_n C dX0_init_25 rfl ?_
  refine gn_iconst C (nI 0) dX0_init_26 rfl ?_
  refine gn_put C gf_X0_22 dX0_init_27 0 rfl rfl rfl rfl (Nat.le_of_ble_eq_true rfl) ?_
  refine gn_ws (ws2 := [(q, .inr (0, [.ref q1, .ref q2, .int (nI 0), .int (nI 0)])), (q1, .inl (nxC X 0, 40, .inl zeroA)), (q2, .inl (nxC X 0, 40, .inl zeroA))]) rfl ?_
  refine hr 30 _ _ _ _ dX0_init_30 (Nat.le_of_ble_eq_true rfl) (Nat.le_of_ble_eq_true rfl) ?_
  exact ⟨q1, q2, rfl⟩
def pX1_init (cy : Nat → ClassId) (q : Nat) (w : va_W) : Prop := ∃ q1 q2 q3 q4 : Nat, w = [(q, .inr (1, [.ref q1, .int (nI 0), .int (nI 0), .ref q2, .ref q3, .ref q4, .int (nI 0)])), (q1, .inl (cy 2, 60, .inl zeroA)), (q2, .inl (cy 2, 10, .inl zeroA)), (q3, .inl (cy 0, 10, .inl zeroA)), (q4, .inl (cy 3, 10, .inr (.inr (.inr (.inr (fun j => if j < 10 then some (q4 + 1 + j) else none)))))), (q4 + 1 + 0, .inl (cy 0, 7, .inl zeroA)), (q4 + 1 + 1, .inl (cy 0, 7, .inl zeroA)), (q4 + 1 + 2, .inl (cy 0, 7, .inl zeroA)), (q4 + 1 + 3, .inl (cy 0, 7, .inl zeroA)), (q4 + 1 + 4, .inl (cy 0, 7, .inl zeroA)), (q4 + 1 + 5, .inl (cy 0, 7, .inl zeroA)), (q4 + 1 + 6, .inl (cy 0, 7, .inl zeroA)), (q4 + 1 + 7, .inl (cy 0, 7, .inl zeroA)), (q4 + 1 + 8, .inl (cy 0, 7, .inl zeroA)), (q4 + 1 + 9, .inl (cy 0, 7, .inl zeroA))]
set_option maxHeartbeats 4000000 in
set_option maxRecDepth 100000 in
theorem n_X1_init : CtN yX1_init cX1_init 1 1 20 14 160 1 (dfl tyX1 7) pX1_init := by
  refine ctn_of rfl rfl (by decide) (fun X q C hi hr => ?_)
  refine gn_ws (ws2 := [(q, .inr (1, [.null, .int 0, .int 0, .null, .null, .null, .int 0]))]) rfl ?_
  refine gn_aload_n C dX1_init_0 rfl ?_
  refine gn_obj C ol_X1 dX1_init_1 (Nat.le_of_ble_eq_true rfl) (Nat.le_of_ble_eq_true rfl) ?_
  refine gn_aload_n C dX1_init_4 rfl ?_
  refine gn_bipush C (nI 60) dX1_init_5 rfl ?_
  refine gn_newaC C dX1_init_7 (by decide) (Nat.le_of_ble_eq_true rfl) (Nat.le_of_ble_eq_true rfl) (fun q1 => ?_)
  refine gn_ws (ws2 := [(q, .inr (1, [.null, .int 0, .int 0, .null, .null, .null, .int 0])), (q1, .inl (nxC X 2, 60, .inl zeroA))]) rfl ?_
  refine gn_putF C hi gf_X1_11 dX1_init_9 0 rfl rfl rfl rfl rfl (Nat.le_of_ble_eq_true rfl) ?_
  refine gn_ws (ws2 := [(q, .inr (1, [.ref q1, .int 0, .int 0, .null, .null, .null, .int 0])), (q1, .inl (nxC X 2, 60, .inl zeroA))]) rfl ?_
  refine gn_aload_n C dX1_init_12 rfl ?_
  refine gn_iconst C (nI 0) dX1_init_13 rfl ?_
  refine gn_put C gf_X1_15 dX1_init_14 0 rfl rfl rfl rfl (Nat.le_of_ble_eq_true rfl) ?_
  refine gn_ws (ws2 := [(q, .inr (1, [.ref q1, .int (nI 0), .int 0, .null, .null, .null, .int 0])), (q1, .inl (nxC X 2, 60, .inl zeroA))]) rfl ?_
  refine gn_aload_n C dX1_init_17 rfl ?_
  refine gn_iconst C (nI 0) dX1_init_18 rfl ?_
  refine gn_put C gf_X1_19 dX1_init_19 0 rfl rfl rfl rfl (Nat.le_of_ble_eq_true rfl) ?_
  refine gn_ws (ws2 := [(q, .inr (1, [.ref q1, .int (nI 0), .int (nI 0), .null, .null, .null, .int 0])), (q1, .inl (nxC X 2, 60, .inl zeroA))]) rfl ?_
  refine gn_aload_n C dX1_init_22 rfl ?_
  refine gn_bipush C (nI 10) dX1_init_23 rfl ?_
  refine gn_newaC C dX1_init_25 (by decide) (Nat.le_of_ble_eq_true rfl) (Nat.le_of_ble_eq_true rfl) (fun q2 => ?_)
  refine gn_ws (ws2 := [(q, .inr (1, [.ref q1, .int (nI 0), .int (nI 0), .null, .null, .null, .int 0])), (q1, .inl (nxC X 2, 60, .inl zeroA)), (q2, .inl (nxC X 2, 10, .inl zeroA))]) rfl ?_
  refine gn_putF C hi gf_X1_22 dX1_init_27 0 rfl rfl rfl rfl rfl (Nat.le_of_ble_eq_true rfl) ?_
  refine gn_ws (ws2 := [(q, .inr (1, [.ref q1, .int (nI 0), .int (nI 0), .ref q2, .null, .null, .int 0])), (q1, .inl (nxC X 2, 60, .inl zeroA)), (q2, .inl (nxC X 2, 10, .inl zeroA))]) rfl ?_
  refine gn_aload_n C dX1_init_30 rfl ?_
  refine gn_bipush C (nI 10) dX1_init_31 rfl ?_
  refine gn_newaI C dX1_init_33 (by decide) (Nat.le_of_ble_eq_true rfl) (Nat.le_of_ble_eq_true rfl) (fun q3 => ?_)
  refine gn_ws (ws2 := [(q, .inr (1, [.ref q1, .int (nI 0), .int (nI 0), .ref q2, .null, .null, .int 0])), (q1, .inl (nxC X 2, 60, .inl zeroA)), (q2, .inl (nxC X 2, 10, .inl zeroA)), (q3, .inl (nxC X 0, 10, .inl zeroA))]) rfl ?_
  refine gn_putF C hi gf_X1_25 dX1_init_35 0 rfl rfl rfl rfl rfl (Nat.le_of_ble_eq_true rfl) ?_
  refine gn_ws (ws2 := [(q, .inr (1, [.ref q1, .int (nI 0), .int (nI 0), .ref q2, .ref q3, .null, .int 0])), (q1, .inl (nxC X 2, 60, .inl zeroA)), (q2, .inl (nxC X 2, 10, .inl zeroA)), (q3, .inl (nxC X 0, 10, .inl zeroA))]) rfl ?_
  refine gn_aload_n C dX1_init_38 rfl ?_
  refine gn_bipush C (nI 10) dX1_init_39 rfl ?_
  refine gn_bipush C (nI 7) dX1_init_41 rfl ?_
  refine gn_multi C cm_X1_29 dX1_init_43 (by decide) (by decide) (Nat.le_of_ble_eq_true rfl) (Nat.le_of_ble_eq_true rfl) (fun q4 => ?_)
  refine gn_ws (ws2 := [(q, .inr (1, [.ref q1, .int (nI 0), .int (nI 0), .ref q2, .ref q3, .null, .int 0])), (q1, .inl (nxC X 2, 60, .inl zeroA)), (q2, .inl (nxC X 2, 10, .inl zeroA)), (q3, .inl (nxC X 0, 10, .inl zeroA)), (q4, .inl (nxC X 3, 10, .inr (.inr (.inr (.inr (fun j => if j < 10 then some (q4 + 1 + j) else none)))))), (q4 + 1 + 0, .inl (nxC X 0, 7, .inl zeroA)), (q4 + 1 + 1, .inl (nxC X 0, 7, .inl zeroA)), (q4 + 1 + 2, .inl (nxC X 0, 7, .inl zeroA)), (q4 + 1 + 3, .inl (nxC X 0, 7, .inl zeroA)), (q4 + 1 + 4, .inl (nxC X 0, 7, .inl zeroA)), (q4 + 1 + 5, .inl (nxC X 0, 7, .inl zeroA)), (q4 + 1 + 6, .inl (nxC X 0, 7, .inl zeroA)), (q4 + 1 + 7, .inl (nxC X 0, 7, .inl zeroA)), (q4 + 1 + 8, .inl (nxC X 0, 7, .inl zeroA)), (q4 + 1 + 9, .inl (nxC X 0, 7, .inl zeroA))]) rfl ?_
  refine gn_putF C hi gf_X1_31 dX1_init_47 0 rfl rfl rfl rfl rfl (Nat.le_of_ble_eq_true rfl) ?_
  refine gn_ws (ws2 := [(q, .inr (1, [.ref q1, .int (nI 0), .int (nI 0), .ref q2, .ref q3, .ref q4, .int 0])), (q1, .inl (nxC X 2, 60, .inl zeroA)), (q2, .inl (nxC X 2, 10, .inl zeroA)), (q3, .inl (nxC X 0, 10, .inl zeroA)), (q4, .inl (nxC X 3, 10, .inr (.inr (.inr (.inr (fun j => if j < 10 then some (q4 + 1 + j) else none)))))), (q4 + 1 + 0, .inl (nxC X 0, 7, .inl zeroA)), (q4 + 1 + 1, .inl (nxC X 0, 7, .inl zeroA)), (q4 + 1 + 2, .inl (nxC X 0, 7, .inl zeroA)), (q4 + 1 + 3, .inl (nxC X 0, 7, .inl zeroA)), (q4 + 1 + 4, .inl (nxC X 0, 7, .inl zeroA)), (q4 + 1 + 5, .inl (nxC X 0, 7, .inl zeroA)), (q4 + 1 + 6, .inl (nxC X 0, 7, .inl zeroA)), (q4 + 1 + 7, .inl (nxC X 0, 7, .inl zeroA)), (q4 + 1 + 8, .inl (nxC X 0, 7, .inl zeroA)), (q4 + 1 + 9, .inl (nxC X 0, 7, .inl zeroA))]) rfl ?_
  refine gn_aload_n C dX1_init_50 rfl ?_
  refine gn_iconst C (nI 0) dX1_init_51 rfl ?_
  refine gn_put C gf_X1_34 dX1_init_52 0 rfl rfl rfl rfl (Nat.le_of_ble_eq_true rfl) ?_
  refine gn_ws (ws2 := [(q, .inr (1, [.ref q1, .int (nI 0), .int (nI 0), .ref q2, .ref q3, .ref q4, .int (nI 0)])), (q1, .inl (nxC X 2, 60, .inl zeroA)), (q2, .inl (nxC X 2, 10, .inl zeroA)), (q3, .inl (nxC X 0, 10, .inl zeroA)), (q4, .inl (nxC X 3, 10, .inr (.inr (.inr (.inr (fun j => if j < 10 then some (q4 + 1 + j) else none)))))), (q4 + 1 + 0, .inl (nxC X 0, 7, .inl zeroA)), (q4 + 1 + 1, .inl (nxC X 0, 7, .inl zeroA)), (q4 + 1 + 2, .inl (nxC X 0, 7, .inl zeroA)), (q4 + 1 + 3, .inl (nxC X 0, 7, .inl zeroA)), (q4 + 1 + 4, .inl (nxC X 0, 7, .inl zeroA)), (q4 + 1 + 5, .inl (nxC X 0, 7, .inl zeroA)), (q4 + 1 + 6, .inl (nxC X 0, 7, .inl zeroA)), (q4 + 1 + 7, .inl (nxC X 0, 7, .inl zeroA)), (q4 + 1 + 8, .inl (nxC X 0, 7, .inl zeroA)), (q4 + 1 + 9, .inl (nxC X 0, 7, .inl zeroA))]) rfl ?_
  refine hr 55 _ _ _ _ dX1_init_55 (Nat.le_of_ble_eq_true rfl) (Nat.le_of_ble_eq_true rfl) ?_
  exact ⟨q1, q2, q3, q4, rfl⟩
def pX3_init (cy : Nat → ClassId) (q : Nat) (w : va_W) : Prop := ∃ q1 q2 q3 q4 q5 q6 q7 q8 q9 q10 q11 q12 q13 q14 q15 q16 q17 q18 q19 q20 q21 q22 q23 q24 q25 : Nat, w = [(q, .inr (2, [.ref q1, .int (nI 0), .int (nI 0)])), (q1, .inl (cy 4, 6, .inr (.inr (.inr (.inr (va_up (va_up (va_up (va_up (va_up (va_up (fun _ => none) 0 (some q2)) 1 (some q6)) 2 (some q10)) 3 (some q14)) 4 (some q18)) 5 (some q22))))))), (q2, .inr (4, [.ref q3, .ref q4, .ref q5])), (q3, .inl (cy 0, 1152, .inl zeroA)), (q4, .inl (cy 0, 32, .inl (upd (upd (upd (upd zeroA 4 (nI 15)) 5 (nI 15)) 6 (nI 15)) 7 (nI 15)))), (q5, .inl (cy 0, 32, .inl zeroA)), (q6, .inr (4, [.ref q7, .ref q8, .ref q9])), (q7, .inl (cy 0, 1152, .inl zeroA)), (q8, .inl (cy 0, 32, .inl (upd (upd (upd (upd zeroA 4 (nI 15)) 5 (nI 15)) 6 (nI 15)) 7 (nI 15)))), (q9, .inl (cy 0, 32, .inl zeroA)), (q10, .inr (4, [.ref q11, .ref q12, .ref q13])), (q11, .inl (cy 0, 1152, .inl zeroA)), (q12, .inl (cy 0, 32, .inl (upd (upd (upd (upd zeroA 4 (nI 15)) 5 (nI 15)) 6 (nI 15)) 7 (nI 15)))), (q13, .inl (cy 0, 32, .inl zeroA)), (q14, .inr (4, [.ref q15, .ref q16, .ref q17])), (q15, .inl (cy 0, 1152, .inl zeroA)), (q16, .inl (cy 0, 32, .inl (upd (upd (upd (upd zeroA 4 (nI 15)) 5 (nI 15)) 6 (nI 15)) 7 (nI 15)))), (q17, .inl (cy 0, 32, .inl zeroA)), (q18, .inr (4, [.ref q19, .ref q20, .ref q21])), (q19, .inl (cy 0, 1152, .inl zeroA)), (q20, .inl (cy 0, 32, .inl (upd (upd (upd (upd zeroA 4 (nI 15)) 5 (nI 15)) 6 (nI 15)) 7 (nI 15)))), (q21, .inl (cy 0, 32, .inl zeroA)), (q22, .inr (4, [.ref q23, .ref q24, .ref q25])), (q23, .inl (cy 0, 1152, .inl zeroA)), (q24, .inl (cy 0, 32, .inl (upd (upd (upd (upd zeroA 4 (nI 15)) 5 (nI 15)) 6 (nI 15)) 7 (nI 15)))), (q25, .inl (cy 0, 32, .inl zeroA))]
set_option maxHeartbeats 4000000 in
set_option maxRecDepth 100000 in
theorem n_X3_init : CtN yX3_init cX3_init 2 2 41 25 7320 2 (dfl tyX3 3) pX3_init := by
  refine ctn_of rfl rfl (by decide) (fun X q C hi hr => ?_)
  refine gn_ws (ws2 := [(q, .inr (2, [.null, .int 0, .int 0]))]) rfl ?_
  refine gn_aload_n C dX3_init_0 rfl ?_
  refine gn_obj C ol_X3 dX3_init_1 (Nat.le_of_ble_eq_true rfl) (Nat.le_of_ble_eq_true rfl) ?_
  refine gn_aload_n C dX3_init_4 rfl ?_
  refine gn_bipush C (nI 6) dX3_init_5 rfl ?_
  refine gn_newq C cq_X3_9 dX3_init_7 (by decide) (Nat.le_of_ble_eq_true rfl) (Nat.le_of_ble_eq_true rfl) (fun q1 => ?_)
  refine gn_ws (ws2 := [(q, .inr (2, [.null, .int 0, .int 0])), (q1, .inl (nxC X 4, 6, .inr (.inr (.inr (.inr (fun _ => none))))))]) rfl ?_
  refine gn_putF C hi gf_X3_11 dX3_init_10 0 rfl rfl rfl rfl rfl (Nat.le_of_ble_eq_true rfl) ?_
  refine gn_ws (ws2 := [(q, .inr (2, [.ref q1, .int 0, .int 0])), (q1, .inl (nxC X 4, 6, .inr (.inr (.inr (.inr (fun _ => none))))))]) rfl ?_
  refine gn_aload_n C dX3_init_13 rfl ?_
  refine gn_iconst C (nI 0) dX3_init_14 rfl ?_
  refine gn_put C gf_X3_17 dX3_init_15 0 rfl rfl rfl rfl (Nat.le_of_ble_eq_true rfl) ?_
  refine gn_ws (ws2 := [(q, .inr (2, [.ref q1, .int (nI 0), .int 0])), (q1, .inl (nxC X 4, 6, .inr (.inr (.inr (.inr (fun _ => none))))))]) rfl ?_
  refine gn_aload_n C dX3_init_18 rfl ?_
  refine gn_iconst C (nI 0) dX3_init_19 rfl ?_
  refine gn_put C gf_X3_21 dX3_init_20 0 rfl rfl rfl rfl (Nat.le_of_ble_eq_true rfl) ?_
  refine gn_ws (ws2 := [(q, .inr (2, [.ref q1, .int (nI 0), .int (nI 0)])), (q1, .inl (nxC X 4, 6, .inr (.inr (.inr (.inr (fun _ => none))))))]) rfl ?_
  refine gn_iconst C (nI 0) dX3_init_23 rfl ?_
  refine gn_istore_n C dX3_init_24 (by decide) rfl rfl ?_
  refine gn_iload_n C dX3_init_25 rfl ?_
  refine gn_bipush C (nI 6) dX3_init_26 rfl ?_
  refine gn_icmp_ge C 50 dX3_init_28 (by decide) (fun h => absurd h (show ¬ nI 6 ≤ nI 0 by decide)) (fun _ => ?_)
  refine gn_aload_n C dX3_init_31 rfl ?_
  refine gn_get C gf_X3_11 dX3_init_32 0 rfl rfl ?_
  refine gn_iload_n C dX3_init_35 rfl ?_
  refine gn_new C gw_X3_9 dX3_init_36 (Nat.le_of_ble_eq_true rfl) (Nat.le_of_ble_eq_true rfl) (fun q2 => ?_)
  refine gn_dup C dX3_init_39 rfl ?_
  refine gn_init C ki_X5 li_X3_24 dX3_init_40 ⟨rfl, rfl⟩ (fun l D sz => n_X5_init (nxC X) _ l D sz) ⟨(Nat.le_of_ble_eq_true rfl), (Nat.le_of_ble_eq_true rfl)⟩ (Nat.le_of_ble_eq_true rfl) (Nat.le_of_ble_eq_true rfl) (Nat.le_of_ble_eq_true rfl) (fun w1 hw1 => ?_)
  obtain ⟨q3, q4, q5, rfl⟩ := hw1
  refine gn_ws (ws2 := [(q, .inr (2, [.ref q1, .int (nI 0), .int (nI 0)])), (q1, .inl (nxC X 4, 6, .inr (.inr (.inr (.inr (fun _ => none)))))), (q2, .inr (4, [.ref q3, .ref q4, .ref q5])), (q3, .inl (nxC X 0, 1152, .inl zeroA)), (q4, .inl (nxC X 0, 32, .inl (upd (upd (upd (upd zeroA 4 (nI 15)) 5 (nI 15)) 6 (nI 15)) 7 (nI 15)))), (q5, .inl (nxC X 0, 32, .inl zeroA))]) rfl ?_
  refine gn_aastN C 1 2 rfl rfl (by decide) (by decide) dX3_init_43 ?_
  refine gn_ws (ws2 := [(q, .inr (2, [.ref q1, .int (nI 0), .int (nI 0)])), (q1, .inl (nxC X 4, 6, .inr (.inr (.inr (.inr (va_up (fun _ => none) 0 (some q2))))))), (q2, .inr (4, [.ref q3, .ref q4, .ref q5])), (q3, .inl (nxC X 0, 1152, .inl zeroA)), (q4, .inl (nxC X 0, 32, .inl (upd (upd (upd (upd zeroA 4 (nI 15)) 5 (nI 15)) 6 (nI 15)) 7 (nI 15)))), (q5, .inl (nxC X 0, 32, .inl zeroA))]) rfl ?_
  refine gn_iinc C (nI 1) dX3_init_44 rfl (by decide) (by decide) rfl rfl ?_
  refine gn_goto C 25 dX3_init_47 (by decide) ?_
  refine gn_iload_n C dX3_init_25 rfl ?_
  refine gn_bipush C (nI 6) dX3_init_26 rfl ?_
  refine gn_icmp_ge C 50 dX3_init_28 (by decide) (fun h => absurd h (show ¬ nI 6 ≤ nI 1 by decide)) (fun _ => ?_)
  refine gn_aload_n C dX3_init_31 rfl ?_
  refine gn_get C gf_X3_11 dX3_init_32 0 rfl rfl ?_
  refine gn_iload_n C dX3_init_35 rfl ?_
  refine gn_new C gw_X3_9 dX3_init_36 (Nat.le_of_ble_eq_true rfl) (Nat.le_of_ble_eq_true rfl) (fun q6 => ?_)
  refine gn_dup C dX3_init_39 rfl ?_
  refine gn_init C ki_X5 li_X3_24 dX3_init_40 ⟨rfl, rfl⟩ (fun l D sz => n_X5_init (nxC X) _ l D sz) ⟨(Nat.le_of_ble_eq_true rfl), (Nat.le_of_ble_eq_true rfl)⟩ (Nat.le_of_ble_eq_true rfl) (Nat.le_of_ble_eq_true rfl) (Nat.le_of_ble_eq_true rfl) (fun w1 hw1 => ?_)
  obtain ⟨q7, q8, q9, rfl⟩ := hw1
  refine gn_ws (ws2 := [(q, .inr (2, [.ref q1, .int (nI 0), .int (nI 0)])), (q1, .inl (nxC X 4, 6, .inr (.inr (.inr (.inr (va_up (fun _ => none) 0 (some q2))))))), (q2, .inr (4, [.ref q3, .ref q4, .ref q5])), (q3, .inl (nxC X 0, 1152, .inl zeroA)), (q4, .inl (nxC X 0, 32, .inl (upd (upd (upd (upd zeroA 4 (nI 15)) 5 (nI 15)) 6 (nI 15)) 7 (nI 15)))), (q5, .inl (nxC X 0, 32, .inl zeroA)), (q6, .inr (4, [.ref q7, .ref q8, .ref q9])), (q7, .inl (nxC X 0, 1152, .inl zeroA)), (q8, .inl (nxC X 0, 32, .inl (upd (upd (upd (upd zeroA 4 (nI 15)) 5 (nI 15)) 6 (nI 15)) 7 (nI 15)))), (q9, .inl (nxC X 0, 32, .inl zeroA))]) rfl ?_
  refine gn_aastN C 1 6 rfl rfl (by decide) (by decide) dX3_init_43 ?_
  refine gn_ws (ws2 := [(q, .inr (2, [.ref q1, .int (nI 0), .int (nI 0)])), (q1, .inl (nxC X 4, 6, .inr (.inr (.inr (.inr (va_up (va_up (fun _ => none) 0 (some q2)) 1 (some q6))))))), (q2, .inr (4, [.ref q3, .ref q4, .ref q5])), (q3, .inl (nxC X 0, 1152, .inl zeroA)), (q4, .inl (nxC X 0, 32, .inl (upd (upd (upd (upd zeroA 4 (nI 15)) 5 (nI 15)) 6 (nI 15)) 7 (nI 15)))), (q5, .inl (nxC X 0, 32, .inl zeroA)), (q6, .inr (4, [.ref q7, .ref q8, .ref q9])), (q7, .inl (nxC X 0, 1152, .inl zeroA)), (q8, .inl (nxC X 0, 32, .inl (upd (upd (upd (upd zeroA 4 (nI 15)) 5 (nI 15)) 6 (nI 15)) 7 (nI 15)))), (q9, .inl (nxC X 0, 32, .inl zeroA))]) rfl ?_
  refine gn_iinc C (nI 2) dX3_init_44 rfl (by decide) (by decide) rfl rfl ?_
  refine gn_goto C 25 dX3_init_47 (by decide) ?_
  refine gn_iload_n C dX3_init_25 rfl ?_
  refine gn_bipush C (nI 6) dX3_init_26 rfl ?_
  refine gn_icmp_ge C 50 dX3_init_28 (by decide) (fun h => absurd h (show ¬ nI 6 ≤ nI 2 by decide)) (fun _ => ?_)
  refine gn_aload_n C dX3_init_31 rfl ?_
  refine gn_get C gf_X3_11 dX3_init_32 0 rfl rfl ?_
  refine gn_iload_n C dX3_init_35 rfl ?_
  refine gn_new C gw_X3_9 dX3_init_36 (Nat.le_of_ble_eq_true rfl) (Nat.le_of_ble_eq_true rfl) (fun q10 => ?_)
  refine gn_dup C dX3_init_39 rfl ?_
  refine gn_init C ki_X5 li_X3_24 dX3_init_40 ⟨rfl, rfl⟩ (fun l D sz => n_X5_init (nxC X) _ l D sz) ⟨(Nat.le_of_ble_eq_true rfl), (Nat.le_of_ble_eq_true rfl)⟩ (Nat.le_of_ble_eq_true rfl) (Nat.le_of_ble_eq_true rfl) (Nat.le_of_ble_eq_true rfl) (fun w1 hw1 => ?_)
  obtain ⟨q11, q12, q13, rfl⟩ := hw1
  refine gn_ws (ws2 := [(q, .inr (2, [.ref q1, .int (nI 0), .int (nI 0)])), (q1, .inl (nxC X 4, 6, .inr (.inr (.inr (.inr (va_up (va_up (fun _ => none) 0 (some q2)) 1 (some q6))))))), (q2, .inr (4, [.ref q3, .ref q4, .ref q5])), (q3, .inl (nxC X 0, 1152, .inl zeroA)), (q4, .inl (nxC X 0, 32, .inl (upd (upd (upd (upd zeroA 4 (nI 15)) 5 (nI 15)) 6 (nI 15)) 7 (nI 15)))), (q5, .inl (nxC X 0, 32, .inl zeroA)), (q6, .inr (4, [.ref q7, .ref q8, .ref q9])), (q7, .inl (nxC X 0, 1152, .inl zeroA)), (q8, .inl (nxC X 0, 32, .inl (upd (upd (upd (upd zeroA 4 (nI 15)) 5 (nI 15)) 6 (nI 15)) 7 (nI 15)))), (q9, .inl (nxC X 0, 32, .inl zeroA)), (q10, .inr (4, [.ref q11, .ref q12, .ref q13])), (q11, .inl (nxC X 0, 1152, .inl zeroA)), (q12, .inl (nxC X 0, 32, .inl (upd (upd (upd (upd zeroA 4 (nI 15)) 5 (nI 15)) 6 (nI 15)) 7 (nI 15)))), (q13, .inl (nxC X 0, 32, .inl zeroA))]) rfl ?_
  refine gn_aastN C 1 10 rfl rfl (by decide) (by decide) dX3_init_43 ?_
  refine gn_ws (ws2 := [(q, .inr (2, [.ref q1, .int (nI 0), .int (nI 0)])), (q1, .inl (nxC X 4, 6, .inr (.inr (.inr (.inr (va_up (va_up (va_up (fun _ => none) 0 (some q2)) 1 (some q6)) 2 (some q10))))))), (q2, .inr (4, [.ref q3, .ref q4, .ref q5])), (q3, .inl (nxC X 0, 1152, .inl zeroA)), (q4, .inl (nxC X 0, 32, .inl (upd (upd (upd (upd zeroA 4 (nI 15)) 5 (nI 15)) 6 (nI 15)) 7 (nI 15)))), (q5, .inl (nxC X 0, 32, .inl zeroA)), (q6, .inr (4, [.ref q7, .ref q8, .ref q9])), (q7, .inl (nxC X 0, 1152, .inl zeroA)), (q8, .inl (nxC X 0, 32, .inl (upd (upd (upd (upd zeroA 4 (nI 15)) 5 (nI 15)) 6 (nI 15)) 7 (nI 15)))), (q9, .inl (nxC X 0, 32, .inl zeroA)), (q10, .inr (4, [.ref q11, .ref q12, .ref q13])), (q11, .inl (nxC X 0, 1152, .inl zeroA)), (q12, .inl (nxC X 0, 32, .inl (upd (upd (upd (upd zeroA 4 (nI 15)) 5 (nI 15)) 6 (nI 15)) 7 (nI 15)))), (q13, .inl (nxC X 0, 32, .inl zeroA))]) rfl ?_
  refine gn_iinc C (nI 3) dX3_init_44 rfl (by decide) (by decide) rfl rfl ?_
  refine gn_goto C 25 dX3_init_47 (by decide) ?_
  refine gn_iload_n C dX3_init_25 rfl ?_
  refine gn_bipush C (nI 6) dX3_init_26 rfl ?_
  refine gn_icmp_ge C 50 dX3_init_28 (by decide) (fun h => absurd h (show ¬ nI 6 ≤ nI 3 by decide)) (fun _ => ?_)
  refine gn_aload_n C dX3_init_31 rfl ?_
  refine gn_get C gf_X3_11 dX3_init_32 0 rfl rfl ?_
  refine gn_iload_n C dX3_init_35 rfl ?_
  refine gn_new C gw_X3_9 dX3_init_36 (Nat.le_of_ble_eq_true rfl) (Nat.le_of_ble_eq_true rfl) (fun q14 => ?_)
  refine gn_dup C dX3_init_39 rfl ?_
  refine gn_init C ki_X5 li_X3_24 dX3_init_40 ⟨rfl, rfl⟩ (fun l D sz => n_X5_init (nxC X) _ l D sz) ⟨(Nat.le_of_ble_eq_true rfl), (Nat.le_of_ble_eq_true rfl)⟩ (Nat.le_of_ble_eq_true rfl) (Nat.le_of_ble_eq_true rfl) (Nat.le_of_ble_eq_true rfl) (fun w1 hw1 => ?_)
  obtain ⟨q15, q16, q17, rfl⟩ := hw1
  refine gn_ws (ws2 := [(q, .inr (2, [.ref q1, .int (nI 0), .int (nI 0)])), (q1, .inl (nxC X 4, 6, .inr (.inr (.inr (.inr (va_up (va_up (va_up (fun _ => none) 0 (some q2)) 1 (some q6)) 2 (some q10))))))), (q2, .inr (4, [.ref q3, .ref q4, .ref q5])), (q3, .inl (nxC X 0, 1152, .inl zeroA)), (q4, .inl (nxC X 0, 32, .inl (upd (upd (upd (upd zeroA 4 (nI 15)) 5 (nI 15)) 6 (nI 15)) 7 (nI 15)))), (q5, .inl (nxC X 0, 32, .inl zeroA)), (q6, .inr (4, [.ref q7, .ref q8, .ref q9])), (q7, .inl (nxC X 0, 1152, .inl zeroA)), (q8, .inl (nxC X 0, 32, .inl (upd (upd (upd (upd zeroA 4 (nI 15)) 5 (nI 15)) 6 (nI 15)) 7 (nI 15)))), (q9, .inl (nxC X 0, 32, .inl zeroA)), (q10, .inr (4, [.ref q11, .ref q12, .ref q13])), (q11, .inl (nxC X 0, 1152, .inl zeroA)), (q12, .inl (nxC X 0, 32, .inl (upd (upd (upd (upd zeroA 4 (nI 15)) 5 (nI 15)) 6 (nI 15)) 7 (nI 15)))), (q13, .inl (nxC X 0, 32, .inl zeroA)), (q14, .inr (4, [.ref q15, .ref q16, .ref q17])), (q15, .inl (nxC X 0, 1152, .inl zeroA)), (q16, .inl (nxC X 0, 32, .inl (upd (upd (upd (upd zeroA 4 (nI 15)) 5 (nI 15)) 6 (nI 15)) 7 (nI 15)))), (q17, .inl (nxC X 0, 32, .inl zeroA))]) rfl ?_
  refine gn_aastN C 1 14 rfl rfl (by decide) (by decide) dX3_init_43 ?_
  refine gn_ws (ws2 := [(q, .inr (2, [.ref q1, .int (nI 0), .int (nI 0)])), (q1, .inl (nxC X 4, 6, .inr (.inr (.inr (.inr (va_up (va_up (va_up (va_up (fun _ => none) 0 (some q2)) 1 (some q6)) 2 (some q10)) 3 (some q14))))))), (q2, .inr (4, [.ref q3, .ref q4, .ref q5])), (q3, .inl (nxC X 0, 1152, .inl zeroA)), (q4, .inl (nxC X 0, 32, .inl (upd (upd (upd (upd zeroA 4 (nI 15)) 5 (nI 15)) 6 (nI 15)) 7 (nI 15)))), (q5, .inl (nxC X 0, 32, .inl zeroA)), (q6, .inr (4, [.ref q7, .ref q8, .ref q9])), (q7, .inl (nxC X 0, 1152, .inl zeroA)), (q8, .inl (nxC X 0, 32, .inl (upd (upd (upd (upd zeroA 4 (nI 15)) 5 (nI 15)) 6 (nI 15)) 7 (nI 15)))), (q9, .inl (nxC X 0, 32, .inl zeroA)), (q10, .inr (4, [.ref q11, .ref q12, .ref q13])), (q11, .inl (nxC X 0, 1152, .inl zeroA)), (q12, .inl (nxC X 0, 32, .inl (upd (upd (upd (upd zeroA 4 (nI 15)) 5 (nI 15)) 6 (nI 15)) 7 (nI 15)))), (q13, .inl (nxC X 0, 32, .inl zeroA)), (q14, .inr (4, [.ref q15, .ref q16, .ref q17])), (q15, .inl (nxC X 0, 1152, .inl zeroA)), (q16, .inl (nxC X 0, 32, .inl (upd (upd (upd (upd zeroA 4 (nI 15)) 5 (nI 15)) 6 (nI 15)) 7 (nI 15)))), (q17, .inl (nxC X 0, 32, .inl zeroA))]) rfl ?_
  refine gn_iinc C (nI 4) dX3_init_44 rfl (by decide) (by decide) rfl rfl ?_
  refine gn_goto C 25 dX3_init_47 (by decide) ?_
  refine gn_iload_n C dX3_init_25 rfl ?_
  refine gn_bipush C (nI 6) dX3_init_26 rfl ?_
  refine gn_icmp_ge C 50 dX3_init_28 (by decide) (fun h => absurd h (show ¬ nI 6 ≤ nI 4 by decide)) (fun _ => ?_)
  refine gn_aload_n C dX3_init_31 rfl ?_
  refine gn_get C gf_X3_11 dX3_init_32 0 rfl rfl ?_
  refine gn_iload_n C dX3_init_35 rfl ?_
  refine gn_new C gw_X3_9 dX3_init_36 (Nat.le_of_ble_eq_true rfl) (Nat.le_of_ble_eq_true rfl) (fun q18 => ?_)
  refine gn_dup C dX3_init_39 rfl ?_
  refine gn_init C ki_X5 li_X3_24 dX3_init_40 ⟨rfl, rfl⟩ (fun l D sz => n_X5_init (nxC X) _ l D sz) ⟨(Nat.le_of_ble_eq_true rfl), (Nat.le_of_ble_eq_true rfl)⟩ (Nat.le_of_ble_eq_true rfl) (Nat.le_of_ble_eq_true rfl) (Nat.le_of_ble_eq_true rfl) (fun w1 hw1 => ?_)
  obtain ⟨q19, q20, q21, rfl⟩ := hw1
  refine gn_ws (ws2 := [(q, .inr (2, [.ref q1, .int (nI 0), .int (nI 0)])), (q1, .inl (nxC X 4, 6, .inr (.inr (.inr (.inr (va_up (va_up (va_up (va_up (fun _ => none) 0 (some q2)) 1 (some q6)) 2 (some q10)) 3 (some q14))))))), (q2, .inr (4, [.ref q3, .ref q4, .ref q5])), (q3, .inl (nxC X 0, 1152, .inl zeroA)), (q4, .inl (nxC X 0, 32, .inl (upd (upd (upd (upd zeroA 4 (nI 15)) 5 (nI 15)) 6 (nI 15)) 7 (nI 15)))), (q5, .inl (nxC X 0, 32, .inl zeroA)), (q6, .inr (4, [.ref q7, .ref q8, .ref q9])), (q7, .inl (nxC X 0, 1152, .inl zeroA)), (q8, .inl (nxC X 0, 32, .inl (upd (upd (upd (upd zeroA 4 (nI 15)) 5 (nI 15)) 6 (nI 15)) 7 (nI 15)))), (q9, .inl (nxC X 0, 32, .inl zeroA)), (q10, .inr (4, [.ref q11, .ref q12, .ref q13])), (q11, .inl (nxC X 0, 1152, .inl zeroA)), (q12, .inl (nxC X 0, 32, .inl (upd (upd (upd (upd zeroA 4 (nI 15)) 5 (nI 15)) 6 (nI 15)) 7 (nI 15)))), (q13, .inl (nxC X 0, 32, .inl zeroA)), (q14, .inr (4, [.ref q15, .ref q16, .ref q17])), (q15, .inl (nxC X 0, 1152, .inl zeroA)), (q16, .inl (nxC X 0, 32, .inl (upd (upd (upd (upd zeroA 4 (nI 15)) 5 (nI 15)) 6 (nI 15)) 7 (nI 15)))), (q17, .inl (nxC X 0, 32, .inl zeroA)), (q18, .inr (4, [.ref q19, .ref q20, .ref q21])), (q19, .inl (nxC X 0, 1152, .inl zeroA)), (q20, .inl (nxC X 0, 32, .inl (upd (upd (upd (upd zeroA 4 (nI 15)) 5 (nI 15)) 6 (nI 15)) 7 (nI 15)))), (q21, .inl (nxC X 0, 32, .inl zeroA))]) rfl ?_
  refine gn_aastN C 1 18 rfl rfl (by decide) (by decide) dX3_init_43 ?_
  refine gn_ws (ws2 := [(q, .inr (2, [.ref q1, .int (nI 0), .int (nI 0)])), (q1, .inl (nxC X 4, 6, .inr (.inr (.inr (.inr (va_up (va_up (va_up (va_up (va_up (fun _ => none) 0 (some q2)) 1 (some q6)) 2 (some q10)) 3 (some q14)) 4 (some q18))))))), (q2, .inr (4, [.ref q3, .ref q4, .ref q5])), (q3, .inl (nxC X 0, 1152, .inl zeroA)), (q4, .inl (nxC X 0, 32, .inl (upd (upd (upd (upd zeroA 4 (nI 15)) 5 (nI 15)) 6 (nI 15)) 7 (nI 15)))), (q5, .inl (nxC X 0, 32, .inl zeroA)), (q6, .inr (4, [.ref q7, .ref q8, .ref q9])), (q7, .inl (nxC X 0, 1152, .inl zeroA)), (q8, .inl (nxC X 0, 32, .inl (upd (upd (upd (upd zeroA 4 (nI 15)) 5 (nI 15)) 6 (nI 15)) 7 (nI 15)))), (q9, .inl (nxC X 0, 32, .inl zeroA)), (q10, .inr (4, [.ref q11, .ref q12, .ref q13])), (q11, .inl (nxC X 0, 1152, .inl zeroA)), (q12, .inl (nxC X 0, 32, .inl (upd (upd (upd (upd zeroA 4 (nI 15)) 5 (nI 15)) 6 (nI 15)) 7 (nI 15)))), (q13, .inl (nxC X 0, 32, .inl zeroA)), (q14, .inr (4, [.ref q15, .ref q16, .ref q17])), (q15, .inl (nxC X 0, 1152, .inl zeroA)), (q16, .inl (nxC X 0, 32, .inl (upd (upd (upd (upd zeroA 4 (nI 15)) 5 (nI 15)) 6 (nI 15)) 7 (nI 15)))), (q17, .inl (nxC X 0, 32, .inl zeroA)), (q18, .inr (4, [.ref q19, .ref q20, .ref q21])), (q19, .inl (nxC X 0, 1152, .inl zeroA)), (q20, .inl (nxC X 0, 32, .inl (upd (upd (upd (upd zeroA 4 (nI 15)) 5 (nI 15)) 6 (nI 15)) 7 (nI 15)))), (q21, .inl (nxC X 0, 32, .inl zeroA))]) rfl ?_
  refine gn_iinc C (nI 5) dX3_init_44 rfl (by decide) (by decide) rfl rfl ?_
  refine gn_goto C 25 dX3_init_47 (by decide) ?_
  refine gn_iload_n C dX3_init_25 rfl ?_
  refine gn_bipush C (nI 6) dX3_init_26 rfl ?_
  refine gn_icmp_ge C 50 dX3_init_28 (by decide) (fun h => absurd h (show ¬ nI 6 ≤ nI 5 by decide)) (fun _ => ?_)
  refine gn_aload_n C dX3_init_31 rfl ?_
  refine gn_get C gf_X3_11 dX3_init_32 0 rfl rfl ?_
  refine gn_iload_n C dX3_init_35 rfl ?_
  refine gn_new C gw_X3_9 dX3_init_36 (Nat.le_of_ble_eq_true rfl) (Nat.le_of_ble_eq_true rfl) (fun q22 => ?_)
  refine gn_dup C dX3_init_39 rfl ?_
  refine gn_init C ki_X5 li_X3_24 dX3_init_40 ⟨rfl, rfl⟩ (fun l D sz => n_X5_init (nxC X) _ l D sz) ⟨(Nat.le_of_ble_eq_true rfl), (Nat.le_of_ble_eq_true rfl)⟩ (Nat.le_of_ble_eq_true rfl) (Nat.le_of_ble_eq_true rfl) (Nat.le_of_ble_eq_true rfl) (fun w1 hw1 => ?_)
  obtain ⟨q23, q24, q25, rfl⟩ := hw1
  refine gn_ws (ws2 := [(q, .inr (2, [.ref q1, .int (nI 0), .int (nI 0)])), (q1, .inl (nxC X 4, 6, .inr (.inr (.inr (.inr (va_up (va_up (va_up (va_up (va_up (fun _ => none) 0 (some q2)) 1 (some q6)) 2 (some q10)) 3 (some q14)) 4 (some q18))))))), (q2, .inr (4, [.ref q3, .ref q4, .ref q5])), (q3, .inl (nxC X 0, 1152, .inl zeroA)), (q4, .inl (nxC X 0, 32, .inl (upd (upd (upd (upd zeroA 4 (nI 15)) 5 (nI 15)) 6 (nI 15)) 7 (nI 15)))), (q5, .inl (nxC X 0, 32, .inl zeroA)), (q6, .inr (4, [.ref q7, .ref q8, .ref q9])), (q7, .inl (nxC X 0, 1152, .inl zeroA)), (q8, .inl (nxC X 0, 32, .inl (upd (upd (upd (upd zeroA 4 (nI 15)) 5 (nI 15)) 6 (nI 15)) 7 (nI 15)))), (q9, .inl (nxC X 0, 32, .inl zeroA)), (q10, .inr (4, [.ref q11, .ref q12, .ref q13])), (q11, .inl (nxC X 0, 1152, .inl zeroA)), (q12, .inl (nxC X 0, 32, .inl (upd (upd (upd (upd zeroA 4 (nI 15)) 5 (nI 15)) 6 (nI 15)) 7 (nI 15)))), (q13, .inl (nxC X 0, 32, .inl zeroA)), (q14, .inr (4, [.ref q15, .ref q16, .ref q17])), (q15, .inl (nxC X 0, 1152, .inl zeroA)), (q16, .inl (nxC X 0, 32, .inl (upd (upd (upd (upd zeroA 4 (nI 15)) 5 (nI 15)) 6 (nI 15)) 7 (nI 15)))), (q17, .inl (nxC X 0, 32, .inl zeroA)), (q18, .inr (4, [.ref q19, .ref q20, .ref q21])), (q19, .inl (nxC X 0, 1152, .inl zeroA)), (q20, .inl (nxC X 0, 32, .inl (upd (upd (upd (upd zeroA 4 (nI 15)) 5 (nI 15)) 6 (nI 15)) 7 (nI 15)))), (q21, .inl (nxC X 0, 32, .inl zeroA)), (q22, .inr (4, [.ref q23, .ref q24, .ref q25])), (q23, .inl (nxC X 0, 1152, .inl zeroA)), (q24, .inl (nxC X 0, 32, .inl (upd (upd (upd (upd zeroA 4 (nI 15)) 5 (nI 15)) 6 (nI 15)) 7 (nI 15)))), (q25, .inl (nxC X 0, 32, .inl zeroA))]) rfl ?_
  refine gn_aastN C 1 22 rfl rfl (by decide) (by decide) dX3_init_43 ?_
  refine gn_ws (ws2 := [(q, .inr (2, [.ref q1, .int (nI 0), .int (nI 0)])), (q1, .inl (nxC X 4, 6, .inr (.inr (.inr (.inr (va_up (va_up (va_up (va_up (va_up (va_up (fun _ => none) 0 (some q2)) 1 (some q6)) 2 (some q10)) 3 (some q14)) 4 (some q18)) 5 (some q22))))))), (q2, .inr (4, [.ref q3, .ref q4, .ref q5])), (q3, .inl (nxC X 0, 1152, .inl zeroA)), (q4, .inl (nxC X 0, 32, .inl (upd (upd (upd (upd zeroA 4 (nI 15)) 5 (nI 15)) 6 (nI 15)) 7 (nI 15)))), (q5, .inl (nxC X 0, 32, .inl zeroA)), (q6, .inr (4, [.ref q7, .ref q8, .ref q9])), (q7, .inl (nxC X 0, 1152, .inl zeroA)), (q8, .inl (nxC X 0, 32, .inl (upd (upd (upd (upd zeroA 4 (nI 15)) 5 (nI 15)) 6 (nI 15)) 7 (nI 15)))), (q9, .inl (nxC X 0, 32, .inl zeroA)), (q10, .inr (4, [.ref q11, .ref q12, .ref q13])), (q11, .inl (nxC X 0, 1152, .inl zeroA)), (q12, .inl (nxC X 0, 32, .inl (upd (upd (upd (upd zeroA 4 (nI 15)) 5 (nI 15)) 6 (nI 15)) 7 (nI 15)))), (q13, .inl (nxC X 0, 32, .inl zeroA)), (q14, .inr (4, [.ref q15, .ref q16, .ref q17])), (q15, .inl (nxC X 0, 1152, .inl zeroA)), (q16, .inl (nxC X 0, 32, .inl (upd (upd (upd (upd zeroA 4 (nI 15)) 5 (nI 15)) 6 (nI 15)) 7 (nI 15)))), (q17, .inl (nxC X 0, 32, .inl zeroA)), (q18, .inr (4, [.ref q19, .ref q20, .ref q21])), (q19, .inl (nxC X 0, 1152, .inl zeroA)), (q20, .inl (nxC X 0, 32, .inl (upd (upd (upd (upd zeroA 4 (nI 15)) 5 (nI 15)) 6 (nI 15)) 7 (nI 15)))), (q21, .inl (nxC X 0, 32, .inl zeroA)), (q22, .inr (4, [.ref q23, .ref q24, .ref q25])), (q23, .inl (nxC X 0, 1152, .inl zeroA)), (q24, .inl (nxC X 0, 32, .inl (upd (upd (upd (upd zeroA 4 (nI 15)) 5 (nI 15)) 6 (nI 15)) 7 (nI 15)))), (q25, .inl (nxC X 0, 32, .inl zeroA))]) rfl ?_
  refine gn_iinc C (nI 6) dX3_init_44 rfl (by decide) (by decide) rfl rfl ?_
  refine gn_goto C 25 dX3_init_47 (by decide) ?_
  refine gn_iload_n C dX3_init_25 rfl ?_
  refine gn_bipush C (nI 6) dX3_init_26 rfl ?_
  refine gn_icmp_ge C 50 dX3_init_28 (by decide) (fun _ => ?_) (fun h => absurd (show nI 6 ≤ nI 6 by decide) h)
  refine hr 50 _ _ _ _ dX3_init_50 (Nat.le_of_ble_eq_true rfl) (Nat.le_of_ble_eq_true rfl) ?_
  exact ⟨q1, q2, q3, q4, q5, q6, q7, q8, q9, q10, q11, q12, q13, q14, q15, q16, q17, q18, q19, q20, q21, q22, q23, q24, q25, rfl⟩
