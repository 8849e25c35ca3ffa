/-! THE CLAIM OUT OF ONE WALK OF THE LAW'S BODY. Your part is whole_start (and what it stands on); all else here is the same for every law, but numbers. -/
def R_law : String := "LightPropagatorLaw"
def lw_P (b : Addr) (xs : List Int32) (args : Array Value) (s : State) : Prop := args = #[.ref b] ∧ s.IntsAt b xs ∧ xs.length ≤ 3584 ∧ (Jvm.Cond.and given_1 narrow_1).before args s = true
def lw_Q (_ : Array Value) (s : State) (o : Outcome) (t : State) : Prop := o = .returned (some (.int 1)) ∧ Framed s o t [] 600000 7302250
def lw_Z (below : List Frame) (a : Array Value) (s : State) : State → Prop := fun t => ∃ o, t.status = .running ∧ Ended t below o ∧ lw_Q a s o t
/-- the law's own end, with 1 on the stack, nothing written that was there before, its room as the claim has it -/
theorem lw_ret {p : Program} {l : Launch} {e : Env} {s : State} {m : MethodId} {below : List Frame} {meth : Method} {c : Code} {b : Nat} (hx : p.tables.exec = Jvm.exec) (hb : c.code = code) (hr : meth.sig.returnType = ret) (hlocks : meth.locks = false) {pc : Nat} {H : Heap} {ls : Array Slot} (hdg : decode code pc = .ok (.ireturn, 1)) : W p l e room_1 s m #[Value.ref b] below meth c H [] 600000 7302250 (lw_Z below #[Value.ref b] s) (F0 m pc ls [.int 1]) := by
  intro T hT X
  obtain ⟨fs, hret, hrun, hended, hW, hframe⟩ := X.leave (v := some (.int 1)) (hlocks := hlocks) (fun h => by rw [hr] at h; cases h)
  have hmeth' : T.vm.method? m = some meth := X.method'
  refine ⟨T.setFrames fs, ?_, .returned (some (.int 1)), hrun, hended, rfl, ⟨_, rfl⟩, hW, hframe⟩
  jvm_step X.here [X.here.top, hx, hb, hdg, hmeth', hr, ret, narrow_b1]
  (try refine ⟨rfl, ?_⟩); (try refine ⟨rfl, ?_⟩)
  first | (intro acts; rw [hret _ acts rfl rfl rfl]) | rw [hret _ _ rfl rfl rfl]
  exact Steps.refl _
/-- what holds at the law's entry: the machine, the code, the tables' words (any of lw_tbl by 'hts w (by decide +kernel)'), the script of L ints xs at the cell b, what the Statement gives of the start (any of its parts by flat_of_before) -/
def lw_At (p : Program) (s : State) (m : MethodId) (meth : Method) (c : Code) (b L : Nat) (xs : Nat → Int32) : Prop :=
  p.tables.exec = Jvm.exec ∧ c.code = code ∧ meth.sig.returnType = ret ∧ c.maxLocals = 4 ∧ s.vm.findClass R_law = some m.cls ∧ (∀ w ∈ lw_tbl, w.before #[Value.ref b] s = true) ∧ va_X b L xs s s.heap ∧ b < s.heap.size ∧ meth.locks = false ∧ (Jvm.Cond.and given_1 narrow_1).before #[Value.ref b] s = true
/-! The law's walk. -/
def NxS (b L : Nat) (xs : Nat → Int32) : NX → Prop
  | (_, _, _, _, s, _, _, _, _, _, _, _, _, A, _) => va_X b L xs s s.heap ∧ b < s.heap.size ∧ ¬ A b
section LAW0
variable {cc : ByteArray} {nL : Nat} {own : String} {R0 : Room} {X : NX} {pc : Nat} {lv : List (Option Value)} {st : List Value} {ws : va_W} {k n : Nat}
theorem gn_sld (C : OkN cc nL own R0 X) {b L i : Nat} {xs : Nat → Int32} (S : NxS b L xs X) (hi : i < L) (hL : L < 2 ^ 31) (d : decode cc pc = .ok (.iaload, 1)) (kk : Gn X (pc + 1) lv (.int (xs i) :: st) ws k n) : Gn X pc lv (.int (nI i) :: .ref b :: st) ws k n := by
  obtain ⟨p, l, e, R, s, m, args, below, meth, c, nL', D, cy, A, Q⟩ := X
  obtain ⟨hx, hb, hml, rfl, hown, hts, hK, hA, rfl⟩ := C
  obtain ⟨hX, hbl, hbA⟩ := S
  intro H locs ls hP hD hS hl
  exact va_sld hx hb hX hbl hbA hS (vp_in_nI hi hL) d (by rw [nI_clamp (Nat.lt_trans hi hL)]; exact kk H locs ls hP hD hS hl)
theorem gn_slen (C : OkN cc nL own R0 X) {b L : Nat} {xs : Nat → Int32} (S : NxS b L xs X) (d : decode cc pc = .ok (.arraylength, 1)) (kk : Gn X (pc + 1) lv (.int (nI L) :: st) ws k n) : Gn X pc lv (.ref b :: st) ws k n := by
  obtain ⟨p, l, e, R, s, m, args, below, meth, c, nL', D, cy, A, Q⟩ := X
  obtain ⟨hx, hb, hml, rfl, hown, hts, hK, hA, rfl⟩ := C
  obtain ⟨hX, hbl, hbA⟩ := S
  intro H locs ls hP hD hS hl
  exact va_slen hx hb hX hbl hbA hS d (kk H locs ls hP hD hS hl)
end LAW0
theorem and63 (x : Int32) : ∃ a : Nat, a < 64 ∧ x &&& nI 63 = nI a := by
  refine ⟨(x.toBitVec &&& 63#32).toNat, ?_, ?_⟩
  · rw [BitVec.toNat_and]
    exact Nat.lt_of_le_of_lt Nat.and_le_right (by decide)
  · apply Int32.toBitVec_inj.mp
    show x.toBitVec &&& (nI 63).toBitVec = (nI _).toBitVec
    apply BitVec.eq_of_toNat_eq
    have h : (x.toBitVec &&& 63#32).toNat < 2 ^ 32 := (x.toBitVec &&& 63#32).isLt
    show (x.toBitVec &&& 63#32).toNat = (Int32.ofNat (x.toBitVec &&& 63#32).toNat).toBitVec.toNat
    rw [Int32.toBitVec_ofNat', BitVec.toNat_ofNat, Nat.mod_eq_of_lt h]
theorem sub7 {L i : Nat} (hL : L ≤ 3584) (hi : i < 2 ^ 31) (h : ¬ nI L - nI 7 < nI i) : i + 7 ≤ L := by
  rcases Nat.lt_or_ge L 7 with q | q
  · exfalso
    have h0 : nI L - nI 7 < 0 := by
      rcases (show L = 0 ∨ L = 1 ∨ L = 2 ∨ L = 3 ∨ L = 4 ∨ L = 5 ∨ L = 6 by omega) with rfl | rfl | rfl | rfl | rfl | rfl | rfl <;> decide
    exact h (Int32.lt_of_lt_of_le h0 (nI_pos' hi))
  · rw [pk_sub q] at h
    apply Classical.byContradiction
    intro z
    exact h (nI_lt (by omega) hi)
theorem cmp_0 {x y : Int64} (h : x = y) : lg_cmp x y = 0 := by
  subst h
  unfold lg_cmp
  rw [if_neg (Int64.lt_irrefl), if_pos rfl]
def LWd (cy : Nat → ClassId) (ac am : Nat → Nat) (σ τ : Mem) : va_W := WS objC NC ac cy σ ++ (WS objM NM am cy τ ++ [])
section LAW1
variable {X : NX} {b L i k n : Nat} {xs : Nat → Int32} {ac am : Nat → Nat} {σ τ : Mem} {S0 : St}
set_option maxHeartbeats 4000000 in
theorem law_c0 (C : OkN cL_law 4 "LightPropagatorLaw" room_1 X) (S : NxS b L xs X) (hi : i + 7 ≤ L) (hL : L ≤ 3584) (hRC : RepC σ S0) (hRM : RepM τ S0) (hk : k ≤ room_1.cells) (hn : n ≤ room_1.slots) (kk : ∀ (S1 : St) (σ1 τ1 : Mem), RepC σ1 S1 → RepM τ1 S1 → Gn X 1430 [some (.ref b), some (.ref (ac 0)), some (.ref (am 0)), some (.int (nI i))] [] (LWd (nxC X) ac am σ1 τ1) k n) : Gn X 196 [some (.ref b), some (.ref (ac 0)), some (.ref (am 0)), some (.int (nI i))] [] (LWd (nxC X) ac am σ τ) k n := by
  refine gn_aload_n C dL_law_196 rfl ?_
  refine gn_aload_n C dL_law_197 rfl ?_
  refine gn_iload_n C dL_law_198 rfl ?_
  refine gn_iconst C (nI 1) dL_law_199 rfl ?_
  refine gn_iaddN C dL_law_200 ?_
  refine gn_sld C S (show i + 1 < L by omega) (by omega) dL_law_201 ?_
  refine gn_aload_n C dL_law_202 rfl ?_
  refine gn_iload_n C dL_law_203 rfl ?_
  refine gn_iconst C (nI 2) dL_law_204 rfl ?_
  refine gn_iaddN C dL_law_205 ?_
  refine gn_sld C S (show i + 2 < L by omega) (by omega) dL_law_206 ?_
  refine gn_aload_n C dL_law_207 rfl ?_
  refine gn_iload_n C dL_law_208 rfl ?_
  refine gn_iconst C (nI 3) dL_law_209 rfl ?_
  refine gn_iaddN C dL_law_210 ?_
  refine gn_sld C S (show i + 3 < L by omega) (by omega) dL_law_211 ?_
  refine gn_aload_n C dL_law_212 rfl ?_
  refine gn_iload_n C dL_law_213 rfl ?_
  refine gn_iconst C (nI 4) dL_law_214 rfl ?_
  refine gn_iaddN C dL_law_215 ?_
  refine gn_sld C S (show i + 4 < L by omega) (by omega) dL_law_216 ?_
  refine gn_cI C (w1 := []) (w2 := WS objM NM am (nxC X) τ ++ []) rfl ok_X6_set lk_L_13 dL_law_217 (by decide) rfl rfl rfl (k_X6_set hRC (xs (i + 1)) (xs (i + 2)) (xs (i + 3)) (xs (i + 4))) rfl ⟨(Nat.le_of_ble_eq_true rfl), (Nat.le_of_ble_eq_true rfl)⟩ hk hn (Nat.le_of_ble_eq_true rfl) rfl (fun r1 σ1 h1 => ?_)
  refine gn_aload_n C dL_law_220 rfl ?_
  refine gn_aload_n C dL_law_221 rfl ?_
  refine gn_iload_n C dL_law_222 rfl ?_
  refine gn_iconst C (nI 1) dL_law_223 rfl ?_
  refine gn_iaddN C dL_law_224 ?_
  refine gn_sld C S (show i + 1 < L by omega) (by omega) dL_law_225 ?_
  refine gn_aload_n C dL_law_226 rfl ?_
  refine gn_iload_n C dL_law_227 rfl ?_
  refine gn_iconst C (nI 2) dL_law_228 rfl ?_
  refine gn_iaddN C dL_law_229 ?_
  refine gn_sld C S (show i + 2 < L by omega) (by omega) dL_law_230 ?_
  refine gn_aload_n C dL_law_231 rfl ?_
  refine gn_iload_n C dL_law_232 rfl ?_
  refine gn_iconst C (nI 3) dL_law_233 rfl ?_
  refine gn_iaddN C dL_law_234 ?_
  refine gn_sld C S (show i + 3 < L by omega) (by omega) dL_law_235 ?_
  refine gn_aload_n C dL_law_236 rfl ?_
  refine gn_iload_n C dL_law_237 rfl ?_
  refine gn_iconst C (nI 4) dL_law_238 rfl ?_
  refine gn_iaddN C dL_law_239 ?_
  refine gn_sld C S (show i + 4 < L by omega) (by omega) dL_law_240 ?_
  refine gn_cI C (w1 := WS objC NC ac (nxC X) σ1) (w2 := []) rfl ok_X7_set lk_L_17 dL_law_241 (by decide) rfl rfl rfl (k_X7_set hRM (xs (i + 1)) (xs (i + 2)) (xs (i + 3)) (xs (i + 4))) rfl ⟨(Nat.le_of_ble_eq_true rfl), (Nat.le_of_ble_eq_true rfl)⟩ hk hn (Nat.le_of_ble_eq_true rfl) rfl (fun r2 τ1 h2 => ?_)
  exact gn_icmp_eq C 1430 dL_law_244 (by decide) (fun _ => kk _ σ1 τ1 h1.2 h2.2) (fun hne => absurd (h1.1.trans h2.1.symm) hne)
set_option maxHeartbeats 4000000 in
theorem law_c1 (C : OkN cL_law 4 "LightPropagatorLaw" room_1 X) (S : NxS b L xs X) (hi : i + 7 ≤ L) (hL : L ≤ 3584) (hRC : RepC σ S0) (hRM : RepM τ S0) (hk : k ≤ room_1.cells) (hn : n ≤ room_1.slots) (kk : ∀ (S1 : St) (σ1 τ1 : Mem), RepC σ1 S1 → RepM τ1 S1 → Gn X 1430 [some (.ref b), some (.ref (ac 0)), some (.ref (am 0)), some (.int (nI i))] [] (LWd (nxC X) ac am σ1 τ1) k n) : Gn X 249 [some (.ref b), some (.ref (ac 0)), some (.ref (am 0)), some (.int (nI i))] [] (LWd (nxC X) ac am σ τ) k n := by
  refine gn_aload_n C dL_law_249 rfl ?_
  refine gn_cI C (w1 := []) (w2 := WS objM NM am (nxC X) τ ++ []) rfl ok_X6_openBatch lk_L_18 dL_law_250 (by decide) rfl rfl rfl (k_X6_openBatch hRC) rfl ⟨(Nat.le_of_ble_eq_true rfl), (Nat.le_of_ble_eq_true rfl)⟩ hk hn (Nat.le_of_ble_eq_true rfl) rfl (fun r1 σ1 h1 => ?_)
  refine gn_aload_n C dL_law_253 rfl ?_
  refine gn_cI C (w1 := WS objC NC ac (nxC X) σ1) (w2 := []) rfl ok_X7_openBatch lk_L_22 dL_law_254 (by decide) rfl rfl rfl (k_X7_openBatch hRM) rfl ⟨(Nat.le_of_ble_eq_true rfl), (Nat.le_of_ble_eq_true rfl)⟩ hk hn (Nat.le_of_ble_eq_true rfl) rfl (fun r2 τ1 h2 => ?_)
  exact gn_icmp_eq C 1430 dL_law_257 (by decide) (fun _ => kk _ σ1 τ1 h1.2 h2.2) (fun hne => absurd (h1.1.trans h2.1.symm) hne)
set_option maxHeartbeats 4000000 in
theorem law_c2 (C : OkN cL_law 4 "LightPropagatorLaw" room_1 X) (S : NxS b L xs X) (hi : i + 7 ≤ L) (hL : L ≤ 3584) (hRC : RepC σ S0) (hRM : RepM τ S0) (hk : k ≤ room_1.cells) (hn : n ≤ room_1.slots) (kk : ∀ (S1 : St) (σ1 τ1 : Mem), RepC σ1 S1 → RepM τ1 S1 → Gn X 1430 [some (.ref b), some (.ref (ac 0)), some (.ref (am 0)), some (.int (nI i))] [] (LWd (nxC X) ac am σ1 τ1) k n) : Gn X 262 [some (.ref b), some (.ref (ac 0)), some (.ref (am 0)), some (.int (nI i))] [] (LWd (nxC X) ac am σ τ) k n := by
  refine gn_aload_n C dL_law_262 rfl ?_
  refine gn_cI C (w1 := []) (w2 := WS objM NM am (nxC X) τ ++ []) rfl ok_X6_closeBatch lk_L_23 dL_law_263 (by decide) rfl rfl rfl (k_X6_closeBatch hRC) rfl ⟨(Nat.le_of_ble_eq_true rfl), (Nat.le_of_ble_eq_true rfl)⟩ hk hn (Nat.le_of_ble_eq_true rfl) rfl (fun r1 σ1 h1 => ?_)
  refine gn_aload_n C dL_law_266 rfl ?_
  refine gn_cI C (w1 := WS objC NC ac (nxC X) σ1) (w2 := []) rfl ok_X7_closeBatch lk_L_26 dL_law_267 (by decide) rfl rfl rfl (k_X7_closeBatch hRM) rfl ⟨(Nat.le_of_ble_eq_true rfl), (Nat.le_of_ble_eq_true rfl)⟩ hk hn (Nat.le_of_ble_eq_true rfl) rfl (fun r2 τ1 h2 => ?_)
  exact gn_icmp_eq C 1430 dL_law_270 (by decide) (fun _ => kk _ σ1 τ1 h1.2 h2.2) (fun hne => absurd (h1.1.trans h2.1.symm) hne)
set_option maxHeartbeats 4000000 in
theorem law_c3 (C : OkN cL_law 4 "LightPropagatorLaw" room_1 X) (S : NxS b L xs X) (hi : i + 7 ≤ L) (hL : L ≤ 3584) (hRC : RepC σ S0) (hRM : RepM τ S0) (hk : k ≤ room_1.cells) (hn : n ≤ room_1.slots) (kk : ∀ (S1 : St) (σ1 τ1 : Mem), RepC σ1 S1 → RepM τ1 S1 → Gn X 1430 [some (.ref b), some (.ref (ac 0)), some (.ref (am 0)), some (.int (nI i))] [] (LWd (nxC X) ac am σ1 τ1) k n) : Gn X 275 [some (.ref b), some (.ref (ac 0)), some (.ref (am 0)), some (.int (nI i))] [] (LWd (nxC X) ac am σ τ) k n := by
  refine gn_aload_n C dL_law_275 rfl ?_
  refine gn_cI C (w1 := []) (w2 := WS objM NM am (nxC X) τ ++ []) rfl ok_X6_dropBatch lk_L_27 dL_law_276 (by decide) rfl rfl rfl (k_X6_dropBatch hRC) rfl ⟨(Nat.le_of_ble_eq_true rfl), (Nat.le_of_ble_eq_true rfl)⟩ hk hn (Nat.le_of_ble_eq_true rfl) rfl (fun r1 σ1 h1 => ?_)
  refine gn_aload_n C dL_law_279 rfl ?_
  refine gn_cI C (w1 := WS objC NC ac (nxC X) σ1) (w2 := []) rfl ok_X7_dropBatch lk_L_30 dL_law_280 (by decide) rfl rfl rfl (k_X7_dropBatch hRM) rfl ⟨(Nat.le_of_ble_eq_true rfl), (Nat.le_of_ble_eq_true rfl)⟩ hk hn (Nat.le_of_ble_eq_true rfl) rfl (fun r2 τ1 h2 => ?_)
  exact gn_icmp_eq C 1430 dL_law_283 (by decide) (fun _ => kk _ σ1 τ1 h1.2 h2.2) (fun hne => absurd (h1.1.trans h2.1.symm) hne)
set_option maxHeartbeats 4000000 in
theorem law_c4 (C : OkN cL_law 4 "LightPropagatorLaw" room_1 X) (S : NxS b L xs X) (hi : i + 7 ≤ L) (hL : L ≤ 3584) (hRC : RepC σ S0) (hRM : RepM τ S0) (hk : k ≤ room_1.cells) (hn : n ≤ room_1.slots) (kk : ∀ (S1 : St) (σ1 τ1 : Mem), RepC σ1 S1 → RepM τ1 S1 → Gn X 1430 [some (.ref b), some (.ref (ac 0)), some (.ref (am 0)), some (.int (nI i))] [] (LWd (nxC X) ac am σ1 τ1) k n) : Gn X 288 [some (.ref b), some (.ref (ac 0)), some (.ref (am 0)), some (.int (nI i))] [] (LWd (nxC X) ac am σ τ) k n := by
  refine gn_aload_n C dL_law_288 rfl ?_
  refine gn_aload_n C dL_law_289 rfl ?_
  refine gn_iload_n C dL_law_290 rfl ?_
  refine gn_iconst C (nI 1) dL_law_291 rfl ?_
  refine gn_iaddN C dL_law_292 ?_
  refine gn_sld C S (show i + 1 < L by omega) (by omega) dL_law_293 ?_
  refine gn_aload_n C dL_law_294 rfl ?_
  refine gn_iload_n C dL_law_295 rfl ?_
  refine gn_iconst C (nI 2) dL_law_296 rfl ?_
  refine gn_iaddN C dL_law_297 ?_
  refine gn_sld C S (show i + 2 < L by omega) (by omega) dL_law_298 ?_
  refine gn_aload_n C dL_law_299 rfl ?_
  refine gn_iload_n C dL_law_300 rfl ?_
  refine gn_iconst C (nI 3) dL_law_301 rfl ?_
  refine gn_iaddN C dL_law_302 ?_
  refine gn_sld C S (show i + 3 < L by omega) (by omega) dL_law_303 ?_
  refine gn_aload_n C dL_law_304 rfl ?_
  refine gn_iload_n C dL_law_305 rfl ?_
  refine gn_iconst C (nI 4) dL_law_306 rfl ?_
  refine gn_iaddN C dL_law_307 ?_
  refine gn_sld C S (show i + 4 < L by omega) (by omega) dL_law_308 ?_
  refine gn_aload_n C dL_law_309 rfl ?_
  refine gn_iload_n C dL_law_310 rfl ?_
  refine gn_iconst C (nI 5) dL_law_311 rfl ?_
  refine gn_iaddN C dL_law_312 ?_
  refine gn_sld C S (show i + 5 < L by omega) (by omega) dL_law_313 ?_
  refine gn_aload_n C dL_law_314 rfl ?_
  refine gn_iload_n C dL_law_315 rfl ?_
  refine gn_bipush C (nI 6) dL_law_316 rfl ?_
  refine gn_iaddN C dL_law_318 ?_
  refine gn_sld C S (show i + 6 < L by omega) (by omega) dL_law_319 ?_
  refine gn_cI C (w1 := []) (w2 := WS objM NM am (nxC X) τ ++ []) rfl ok_X6_fill lk_L_31 dL_law_320 (by decide) rfl rfl rfl (k_X6_fill hRC (xs (i + 1)) (xs (i + 2)) (xs (i + 3)) (xs (i + 4)) (xs (i + 5)) (xs (i + 6))) rfl ⟨(Nat.le_of_ble_eq_true rfl), (Nat.le_of_ble_eq_true rfl)⟩ hk hn (Nat.le_of_ble_eq_true rfl) rfl (fun r1 σ1 h1 => ?_)
  refine gn_aload_n C dL_law_323 rfl ?_
  refine gn_aload_n C dL_law_324 rfl ?_
  refine gn_iload_n C dL_law_325 rfl ?_
  refine gn_iconst C (nI 1) dL_law_326 rfl ?_
  refine gn_iaddN C dL_law_327 ?_
  refine gn_sld C S (show i + 1 < L by omega) (by omega) dL_law_328 ?_
  refine gn_aload_n C dL_law_329 rfl ?_
  refine gn_iload_n C dL_law_330 rfl ?_
  refine gn_iconst C (nI 2) dL_law_331 rfl ?_
  refine gn_iaddN C dL_law_332 ?_
  refine gn_sld C S (show i + 2 < L by omega) (by omega) dL_law_333 ?_
  refine gn_aload_n C dL_law_334 rfl ?_
  refine gn_iload_n C dL_law_335 rfl ?_
  refine gn_iconst C (nI 3) dL_law_336 rfl ?_
  refine gn_iaddN C dL_law_337 ?_
  refine gn_sld C S (show i + 3 < L by omega) (by omega) dL_law_338 ?_
  refine gn_aload_n C dL_law_339 rfl ?_
  refine gn_iload_n C dL_law_340 rfl ?_
  refine gn_iconst C (nI 4) dL_law_341 rfl ?_
  refine gn_iaddN C dL_law_342 ?_
  refine gn_sld C S (show i + 4 < L by omega) (by omega) dL_law_343 ?_
  refine gn_aload_n C dL_law_344 rfl ?_
  refine gn_iload_n C dL_law_345 rfl ?_
  refine gn_iconst C (nI 5) dL_law_346 rfl ?_
  refine gn_iaddN C dL_law_347 ?_
  refine gn_sld C S (show i + 5 < L by omega) (by omega) dL_law_348 ?_
  refine gn_aload_n C dL_law_349 rfl ?_
  refine gn_iload_n C dL_law_350 rfl ?_
  refine gn_bipush C (nI 6) dL_law_351 rfl ?_
  refine gn_iaddN C dL_law_353 ?_
  refine gn_sld C S (show i + 6 < L by omega) (by omega) dL_law_354 ?_
  refine gn_cI C (w1 := WS objC NC ac (nxC X) σ1) (w2 := []) rfl ok_X7_fill lk_L_35 dL_law_355 (by decide) rfl rfl rfl (k_X7_fill hRM (xs (i + 1)) (xs (i + 2)) (xs (i + 3)) (xs (i + 4)) (xs (i + 5)) (xs (i + 6))) rfl ⟨(Nat.le_of_ble_eq_true rfl), (Nat.le_of_ble_eq_true rfl)⟩ hk hn (Nat.le_of_ble_eq_true rfl) rfl (fun r2 τ1 h2 => ?_)
  exact gn_icmp_eq C 1430 dL_law_358 (by decide) (fun _ => kk _ σ1 τ1 h1.2 h2.2) (fun hne => absurd (h1.1.trans h2.1.symm) hne)
set_option maxHeartbeats 4000000 in
theorem law_c5 (C : OkN cL_law 4 "LightPropagatorLaw" room_1 X) (S : NxS b L xs X) (hi : i + 7 ≤ L) (hL : L ≤ 3584) (hRC : RepC σ S0) (hRM : RepM τ S0) (hk : k ≤ room_1.cells) (hn : n ≤ room_1.slots) (kk : ∀ (S1 : St) (σ1 τ1 : Mem), RepC σ1 S1 → RepM τ1 S1 → Gn X 1430 [some (.ref b), some (.ref (ac 0)), some (.ref (am 0)), some (.int (nI i))] [] (LWd (nxC X) ac am σ1 τ1) k n) : Gn X 363 [some (.ref b), some (.ref (ac 0)), some (.ref (am 0)), some (.int (nI i))] [] (LWd (nxC X) ac am σ τ) k n := by
  refine gn_aload_n C dL_law_363 rfl ?_
  refine gn_aload_n C dL_law_364 rfl ?_
  refine gn_iload_n C dL_law_365 rfl ?_
  refine gn_iconst C (nI 1) dL_law_366 rfl ?_
  refine gn_iaddN C dL_law_367 ?_
  refine gn_sld C S (show i + 1 < L by omega) (by omega) dL_law_368 ?_
  refine gn_aload_n C dL_law_369 rfl ?_
  refine gn_iload_n C dL_law_370 rfl ?_
  refine gn_iconst C (nI 2) dL_law_371 rfl ?_
  refine gn_iaddN C dL_law_372 ?_
  refine gn_sld C S (show i + 2 < L by omega) (by omega) dL_law_373 ?_
  refine gn_aload_n C dL_law_374 rfl ?_
  refine gn_iload_n C dL_law_375 rfl ?_
  refine gn_iconst C (nI 3) dL_law_376 rfl ?_
  refine gn_iaddN C dL_law_377 ?_
  refine gn_sld C S (show i + 3 < L by omega) (by omega) dL_law_378 ?_
  refine gn_cI C (w1 := []) (w2 := WS objM NM am (nxC X) τ ++ []) rfl ok_X6_setLoss lk_L_36 dL_law_379 (by decide) rfl rfl rfl (k_X6_setLoss hRC (xs (i + 1)) (xs (i + 2)) (xs (i + 3))) rfl ⟨(Nat.le_of_ble_eq_true rfl), (Nat.le_of_ble_eq_true rfl)⟩ hk hn (Nat.le_of_ble_eq_true rfl) rfl (fun r1 σ1 h1 => ?_)
  refine gn_aload_n C dL_law_382 rfl ?_
  refine gn_aload_n C dL_law_383 rfl ?_
  refine gn_iload_n C dL_law_384 rfl ?_
  refine gn_iconst C (nI 1) dL_law_385 rfl ?_
  refine gn_iaddN C dL_law_386 ?_
  refine gn_sld C S (show i + 1 < L by omega) (by omega) dL_law_387 ?_
  refine gn_aload_n C dL_law_388 rfl ?_
  refine gn_iload_n C dL_law_389 rfl ?_
  refine gn_iconst C (nI 2) dL_law_390 rfl ?_
  refine gn_iaddN C dL_law_391 ?_
  refine gn_sld C S (show i + 2 < L by omega) (by omega) dL_law_392 ?_
  refine gn_aload_n C dL_law_393 rfl ?_
  refine gn_iload_n C dL_law_394 rfl ?_
  refine gn_iconst C (nI 3) dL_law_395 rfl ?_
  refine gn_iaddN C dL_law_396 ?_
  refine gn_sld C S (show i + 3 < L by omega) (by omega) dL_law_397 ?_
  refine gn_cI C (w1 := WS objC NC ac (nxC X) σ1) (w2 := []) rfl ok_X7_setLoss lk_L_40 dL_law_398 (by decide) rfl rfl rfl (k_X7_setLoss hRM (xs (i + 1)) (xs (i + 2)) (xs (i + 3))) rfl ⟨(Nat.le_of_ble_eq_true rfl), (Nat.le_of_ble_eq_true rfl)⟩ hk hn (Nat.le_of_ble_eq_true rfl) rfl (fun r2 τ1 h2 => ?_)
  exact gn_icmp_eq C 1430 dL_law_401 (by decide) (fun _ => kk _ σ1 τ1 h1.2 h2.2) (fun hne => absurd (h1.1.trans h2.1.symm) hne)
set_option maxHeartbeats 4000000 in
theorem law_c6 (C : OkN cL_law 4 "LightPropagatorLaw" room_1 X) (S : NxS b L xs X) (hi : i + 7 ≤ L) (hL : L ≤ 3584) (hRC : RepC σ S0) (hRM : RepM τ S0) (hk : k ≤ room_1.cells) (hn : n ≤ room_1.slots) (kk : ∀ (S1 : St) (σ1 τ1 : Mem), RepC σ1 S1 → RepM τ1 S1 → Gn X 1430 [some (.ref b), some (.ref (ac 0)), some (.ref (am 0)), some (.int (nI i))] [] (LWd (nxC X) ac am σ1 τ1) k n) : Gn X 406 [some (.ref b), some (.ref (ac 0)), some (.ref (am 0)), some (.int (nI i))] [] (LWd (nxC X) ac am σ τ) k n := by
  refine gn_aload_n C dL_law_406 rfl ?_
  refine gn_aload_n C dL_law_407 rfl ?_
  refine gn_iload_n C dL_law_408 rfl ?_
  refine gn_iconst C (nI 1) dL_law_409 rfl ?_
  refine gn_iaddN C dL_law_410 ?_
  refine gn_sld C S (show i + 1 < L by omega) (by omega) dL_law_411 ?_
  refine gn_aload_n C dL_law_412 rfl ?_
  refine gn_iload_n C dL_law_413 rfl ?_
  refine gn_iconst C (nI 2) dL_law_414 rfl ?_
  refine gn_iaddN C dL_law_415 ?_
  refine gn_sld C S (show i + 2 < L by omega) (by omega) dL_law_416 ?_
  refine gn_aload_n C dL_law_417 rfl ?_
  refine gn_iload_n C dL_law_418 rfl ?_
  refine gn_iconst C (nI 3) dL_law_419 rfl ?_
  refine gn_iaddN C dL_law_420 ?_
  refine gn_sld C S (show i + 3 < L by omega) (by omega) dL_law_421 ?_
  refine gn_cI C (w1 := []) (w2 := WS objM NM am (nxC X) τ ++ []) rfl ok_X6_setEmission lk_L_41 dL_law_422 (by decide) rfl rfl rfl (k_X6_setEmission hRC (xs (i + 1)) (xs (i + 2)) (xs (i + 3))) rfl ⟨(Nat.le_of_ble_eq_true rfl), (Nat.le_of_ble_eq_true rfl)⟩ hk hn (Nat.le_of_ble_eq_true rfl) rfl (fun r1 σ1 h1 => ?_)
  refine gn_aload_n C dL_law_425 rfl ?_
  refine gn_aload_n C dL_law_426 rfl ?_
  refine gn_iload_n C dL_law_427 rfl ?_
  refine gn_iconst C (nI 1) dL_law_428 rfl ?_
  refine gn_iaddN C dL_law_429 ?_
  refine gn_sld C S (show i + 1 < L by omega) (by omega) dL_law_430 ?_
  refine gn_aload_n C dL_law_431 rfl ?_
  refine gn_iload_n C dL_law_432 rfl ?_
  refine gn_iconst C (nI 2) dL_law_433 rfl ?_
  refine gn_iaddN C dL_law_434 ?_
  refine gn_sld C S (show i + 2 < L by omega) (by omega) dL_law_435 ?_
  refine gn_aload_n C dL_law_436 rfl ?_
  refine gn_iload_n C dL_law_437 rfl ?_
  refine gn_iconst C (nI 3) dL_law_438 rfl ?_
  refine gn_iaddN C dL_law_439 ?_
  refine gn_sld C S (show i + 3 < L by omega) (by omega) dL_law_440 ?_
  refine gn_cI C (w1 := WS objC NC ac (nxC X) σ1) (w2 := []) rfl ok_X7_setEmission lk_L_44 dL_law_441 (by decide) rfl rfl rfl (k_X7_setEmission hRM (xs (i + 1)) (xs (i + 2)) (xs (i + 3))) rfl ⟨(Nat.le_of_ble_eq_true rfl), (Nat.le_of_ble_eq_true rfl)⟩ hk hn (Nat.le_of_ble_eq_true rfl) rfl (fun r2 τ1 h2 => ?_)
  exact gn_icmp_eq C 1430 dL_law_444 (by decide) (fun _ => kk _ σ1 τ1 h1.2 h2.2) (fun hne => absurd (h1.1.trans h2.1.symm) hne)
set_option maxHeartbeats 4000000 in
theorem law_c7 (C : OkN cL_law 4 "LightPropagatorLaw" room_1 X) (S : NxS b L xs X) (hi : i + 7 ≤ L) (hL : L ≤ 3584) (hRC : RepC σ S0) (hRM : RepM τ S0) (hk : k ≤ room_1.cells) (hn : n ≤ room_1.slots) (kk : ∀ (S1 : St) (σ1 τ1 : Mem), RepC σ1 S1 → RepM τ1 S1 → Gn X 1430 [some (.ref b), some (.ref (ac 0)), some (.ref (am 0)), some (.int (nI i))] [] (LWd (nxC X) ac am σ1 τ1) k n) : Gn X 449 [some (.ref b), some (.ref (ac 0)), some (.ref (am 0)), some (.int (nI i))] [] (LWd (nxC X) ac am σ τ) k n := by
  refine gn_aload_n C dL_law_449 rfl ?_
  refine gn_aload_n C dL_law_450 rfl ?_
  refine gn_iload_n C dL_law_451 rfl ?_
  refine gn_iconst C (nI 1) dL_law_452 rfl ?_
  refine gn_iaddN C dL_law_453 ?_
  refine gn_sld C S (show i + 1 < L by omega) (by omega) dL_law_454 ?_
  refine gn_cI C (w1 := []) (w2 := WS objM NM am (nxC X) τ ++ []) rfl ok_X6_append lk_L_45 dL_law_455 (by decide) rfl rfl rfl (k_X6_append hRC (xs (i + 1))) rfl ⟨(Nat.le_of_ble_eq_true rfl), (Nat.le_of_ble_eq_true rfl)⟩ hk hn (Nat.le_of_ble_eq_true rfl) rfl (fun r1 σ1 h1 => ?_)
  refine gn_aload_n C dL_law_458 rfl ?_
  refine gn_aload_n C dL_law_459 rfl ?_
  refine gn_iload_n C dL_law_460 rfl ?_
  refine gn_iconst C (nI 1) dL_law_461 rfl ?_
  refine gn_iaddN C dL_law_462 ?_
  refine gn_sld C S (show i + 1 < L by omega) (by omega) dL_law_463 ?_
  refine gn_cI C (w1 := WS objC NC ac (nxC X) σ1) (w2 := []) rfl ok_X7_append lk_L_49 dL_law_464 (by decide) rfl rfl rfl (k_X7_append hRM (xs (i + 1))) rfl ⟨(Nat.le_of_ble_eq_true rfl), (Nat.le_of_ble_eq_true rfl)⟩ hk hn (Nat.le_of_ble_eq_true rfl) rfl (fun r2 τ1 h2 => ?_)
  exact gn_icmp_eq C 1430 dL_law_467 (by decide) (fun _ => kk _ σ1 τ1 h1.2 h2.2) (fun hne => absurd (h1.1.trans h2.1.symm) hne)
set_option maxHeartbeats 4000000 in
theorem law_c8 (C : OkN cL_law 4 "LightPropagatorLaw" room_1 X) (S : NxS b L xs X) (hi : i + 7 ≤ L) (hL : L ≤ 3584) (hRC : RepC σ S0) (hRM : RepM τ S0) (hk : k ≤ room_1.cells) (hn : n ≤ room_1.slots) (kk : ∀ (S1 : St) (σ1 τ1 : Mem), RepC σ1 S1 → RepM τ1 S1 → Gn X 1430 [some (.ref b), some (.ref (ac 0)), some (.ref (am 0)), some (.int (nI i))] [] (LWd (nxC X) ac am σ1 τ1) k n) : Gn X 472 [some (.ref b), some (.ref (ac 0)), some (.ref (am 0)), some (.int (nI i))] [] (LWd (nxC X) ac am σ τ) k n := by
  refine gn_aload_n C dL_law_472 rfl ?_
  refine gn_cI C (w1 := []) (w2 := WS objM NM am (nxC X) τ ++ []) rfl ok_X6_read lk_L_50 dL_law_473 (by decide) rfl rfl rfl (k_X6_read hRC) rfl ⟨(Nat.le_of_ble_eq_true rfl), (Nat.le_of_ble_eq_true rfl)⟩ hk hn (Nat.le_of_ble_eq_true rfl) rfl (fun r1 σ1 h1 => ?_)
  refine gn_aload_n C dL_law_476 rfl ?_
  refine gn_cI C (w1 := WS objC NC ac (nxC X) σ1) (w2 := []) rfl ok_X7_read lk_L_53 dL_law_477 (by decide) rfl rfl rfl (k_X7_read hRM) rfl ⟨(Nat.le_of_ble_eq_true rfl), (Nat.le_of_ble_eq_true rfl)⟩ hk hn (Nat.le_of_ble_eq_true rfl) rfl (fun r2 τ1 h2 => ?_)
  exact gn_icmp_eq C 1430 dL_law_480 (by decide) (fun _ => kk _ σ1 τ1 h1.2 h2.2) (fun hne => absurd (h1.1.trans h2.1.symm) hne)
set_option maxHeartbeats 4000000 in
theorem law_c9 (C : OkN cL_law 4 "LightPropagatorLaw" room_1 X) (S : NxS b L xs X) (hi : i + 7 ≤ L) (hL : L ≤ 3584) (hRC : RepC σ S0) (hRM : RepM τ S0) (hk : k ≤ room_1.cells) (hn : n ≤ room_1.slots) (kk : ∀ (S1 : St) (σ1 τ1 : Mem), RepC σ1 S1 → RepM τ1 S1 → Gn X 1430 [some (.ref b), some (.ref (ac 0)), some (.ref (am 0)), some (.int (nI i))] [] (LWd (nxC X) ac am σ1 τ1) k n) : Gn X 485 [some (.ref b), some (.ref (ac 0)), some (.ref (am 0)), some (.int (nI i))] [] (LWd (nxC X) ac am σ τ) k n := by
  refine gn_aload_n C dL_law_485 rfl ?_
  refine gn_cI C (w1 := []) (w2 := WS objM NM am (nxC X) τ ++ []) rfl ok_X6_faultPosition lk_L_54 dL_law_486 (by decide) rfl rfl rfl (k_X6_faultPosition hRC) rfl ⟨(Nat.le_of_ble_eq_true rfl), (Nat.le_of_ble_eq_true rfl)⟩ hk hn (Nat.le_of_ble_eq_true rfl) rfl (fun r1 σ1 h1 => ?_)
  refine gn_aload_n C dL_law_489 rfl ?_
  refine gn_cI C (w1 := WS objC NC ac (nxC X) σ1) (w2 := []) rfl ok_X7_faultPosition lk_L_57 dL_law_490 (by decide) rfl rfl rfl (k_X7_faultPosition hRM) rfl ⟨(Nat.le_of_ble_eq_true rfl), (Nat.le_of_ble_eq_true rfl)⟩ hk hn (Nat.le_of_ble_eq_true rfl) rfl (fun r2 τ1 h2 => ?_)
  exact gn_icmp_eq C 1430 dL_law_493 (by decide) (fun _ => kk _ σ1 τ1 h1.2 h2.2) (fun hne => absurd (h1.1.trans h2.1.symm) hne)
set_option maxHeartbeats 4000000 in
theorem law_c10 (C : OkN cL_law 4 "LightPropagatorLaw" room_1 X) (S : NxS b L xs X) (hi : i + 7 ≤ L) (hL : L ≤ 3584) (hRC : RepC σ S0) (hRM : RepM τ S0) (hk : k ≤ room_1.cells) (hn : n ≤ room_1.slots) (kk : ∀ (S1 : St) (σ1 τ1 : Mem), RepC σ1 S1 → RepM τ1 S1 → Gn X 1430 [some (.ref b), some (.ref (ac 0)), some (.ref (am 0)), some (.int (nI i))] [] (LWd (nxC X) ac am σ1 τ1) k n) : Gn X 498 [some (.ref b), some (.ref (ac 0)), some (.ref (am 0)), some (.int (nI i))] [] (LWd (nxC X) ac am σ τ) k n := by
  refine gn_aload_n C dL_law_498 rfl ?_
  refine gn_cI C (w1 := []) (w2 := WS objM NM am (nxC X) τ ++ []) rfl ok_X6_undo lk_L_58 dL_law_499 (by decide) rfl rfl rfl (k_X6_undo hRC) rfl ⟨(Nat.le_of_ble_eq_true rfl), (Nat.le_of_ble_eq_true rfl)⟩ hk hn (Nat.le_of_ble_eq_true rfl) rfl (fun r1 σ1 h1 => ?_)
  refine gn_aload_n C dL_law_502 rfl ?_
  refine gn_cI C (w1 := WS objC NC ac (nxC X) σ1) (w2 := []) rfl ok_X7_undo lk_L_61 dL_law_503 (by decide) rfl rfl rfl (k_X7_undo hRM) rfl ⟨(Nat.le_of_ble_eq_true rfl), (Nat.le_of_ble_eq_true rfl)⟩ hk hn (Nat.le_of_ble_eq_true rfl) rfl (fun r2 τ1 h2 => ?_)
  exact gn_icmp_eq C 1430 dL_law_506 (by decide) (fun _ => kk _ σ1 τ1 h1.2 h2.2) (fun hne => absurd (h1.1.trans h2.1.symm) hne)
set_option maxHeartbeats 4000000 in
theorem law_c11 (C : OkN cL_law 4 "LightPropagatorLaw" room_1 X) (S : NxS b L xs X) (hi : i + 7 ≤ L) (hL : L ≤ 3584) (hRC : RepC σ S0) (hRM : RepM τ S0) (hk : k ≤ room_1.cells) (hn : n ≤ room_1.slots) (kk : ∀ (S1 : St) (σ1 τ1 : Mem), RepC σ1 S1 → RepM τ1 S1 → Gn X 1430 [some (.ref b), some (.ref (ac 0)), some (.ref (am 0)), some (.int (nI i))] [] (LWd (nxC X) ac am σ1 τ1) k n) : Gn X 511 [some (.ref b), some (.ref (ac 0)), some (.ref (am 0)), some (.int (nI i))] [] (LWd (nxC X) ac am σ τ) k n := by
  refine gn_aload_n C dL_law_511 rfl ?_
  refine gn_aload_n C dL_law_512 rfl ?_
  refine gn_iload_n C dL_law_513 rfl ?_
  refine gn_iconst C (nI 1) dL_law_514 rfl ?_
  refine gn_iaddN C dL_law_515 ?_
  refine gn_sld C S (show i + 1 < L by omega) (by omega) dL_law_516 ?_
  refine gn_aload_n C dL_law_517 rfl ?_
  refine gn_iload_n C dL_law_518 rfl ?_
  refine gn_iconst C (nI 2) dL_law_519 rfl ?_
  refine gn_iaddN C dL_law_520 ?_
  refine gn_sld C S (show i + 2 < L by omega) (by omega) dL_law_521 ?_
  refine gn_aload_n C dL_law_522 rfl ?_
  refine gn_iload_n C dL_law_523 rfl ?_
  refine gn_iconst C (nI 3) dL_law_524 rfl ?_
  refine gn_iaddN C dL_law_525 ?_
  refine gn_sld C S (show i + 3 < L by omega) (by omega) dL_law_526 ?_
  refine gn_cI C (w1 := []) (w2 := WS objM NM am (nxC X) τ ++ []) rfl ok_X6_type lk_L_62 dL_law_527 (by decide) rfl rfl rfl (k_X6_type hRC (xs (i + 1)) (xs (i + 2)) (xs (i + 3))) rfl ⟨(Nat.le_of_ble_eq_true rfl), (Nat.le_of_ble_eq_true rfl)⟩ hk hn (Nat.le_of_ble_eq_true rfl) rfl (fun r1 σ1 h1 => ?_)
  refine gn_aload_n C dL_law_530 rfl ?_
  refine gn_aload_n C dL_law_531 rfl ?_
  refine gn_iload_n C dL_law_532 rfl ?_
  refine gn_iconst C (nI 1) dL_law_533 rfl ?_
  refine gn_iaddN C dL_law_534 ?_
  refine gn_sld C S (show i + 1 < L by omega) (by omega) dL_law_535 ?_
  refine gn_aload_n C dL_law_536 rfl ?_
  refine gn_iload_n C dL_law_537 rfl ?_
  refine gn_iconst C (nI 2) dL_law_538 rfl ?_
  refine gn_iaddN C dL_law_539 ?_
  refine gn_sld C S (show i + 2 < L by omega) (by omega) dL_law_540 ?_
  refine gn_aload_n C dL_law_541 rfl ?_
  refine gn_iload_n C dL_law_542 rfl ?_
  refine gn_iconst C (nI 3) dL_law_543 rfl ?_
  refine gn_iaddN C dL_law_544 ?_
  refine gn_sld C S (show i + 3 < L by omega) (by omega) dL_law_545 ?_
  refine gn_cI C (w1 := WS objC NC ac (nxC X) σ1) (w2 := []) rfl ok_X7_type lk_L_65 dL_law_546 (by decide) rfl rfl rfl (k_X7_type hRM (xs (i + 1)) (xs (i + 2)) (xs (i + 3))) rfl ⟨(Nat.le_of_ble_eq_true rfl), (Nat.le_of_ble_eq_true rfl)⟩ hk hn (Nat.le_of_ble_eq_true rfl) rfl (fun r2 τ1 h2 => ?_)
  exact gn_icmp_eq C 1430 dL_law_549 (by decide) (fun _ => kk _ σ1 τ1 h1.2 h2.2) (fun hne => absurd (h1.1.trans h2.1.symm) hne)
set_option maxHeartbeats 4000000 in
theorem law_c12 (C : OkN cL_law 4 "LightPropagatorLaw" room_1 X) (S : NxS b L xs X) (hi : i + 7 ≤ L) (hL : L ≤ 3584) (hRC : RepC σ S0) (hRM : RepM τ S0) (hk : k ≤ room_1.cells) (hn : n ≤ room_1.slots) (kk : ∀ (S1 : St) (σ1 τ1 : Mem), RepC σ1 S1 → RepM τ1 S1 → Gn X 1430 [some (.ref b), some (.ref (ac 0)), some (.ref (am 0)), some (.int (nI i))] [] (LWd (nxC X) ac am σ1 τ1) k n) : Gn X 554 [some (.ref b), some (.ref (ac 0)), some (.ref (am 0)), some (.int (nI i))] [] (LWd (nxC X) ac am σ τ) k n := by
  refine gn_aload_n C dL_law_554 rfl ?_
  refine gn_aload_n C dL_law_555 rfl ?_
  refine gn_iload_n C dL_law_556 rfl ?_
  refine gn_iconst C (nI 1) dL_law_557 rfl ?_
  refine gn_iaddN C dL_law_558 ?_
  refine gn_sld C S (show i + 1 < L by omega) (by omega) dL_law_559 ?_
  refine gn_aload_n C dL_law_560 rfl ?_
  refine gn_iload_n C dL_law_561 rfl ?_
  refine gn_iconst C (nI 2) dL_law_562 rfl ?_
  refine gn_iaddN C dL_law_563 ?_
  refine gn_sld C S (show i + 2 < L by omega) (by omega) dL_law_564 ?_
  refine gn_cI C (w1 := []) (w2 := WS objM NM am (nxC X) τ ++ []) rfl ok_X6_loss lk_L_66 dL_law_565 (by decide) rfl rfl rfl (k_X6_loss hRC (xs (i + 1)) (xs (i + 2))) rfl ⟨(Nat.le_of_ble_eq_true rfl), (Nat.le_of_ble_eq_true rfl)⟩ hk hn (Nat.le_of_ble_eq_true rfl) rfl (fun r1 σ1 h1 => ?_)
  refine gn_aload_n C dL_law_568 rfl ?_
  refine gn_aload_n C dL_law_569 rfl ?_
  refine gn_iload_n C dL_law_570 rfl ?_
  refine gn_iconst C (nI 1) dL_law_571 rfl ?_
  refine gn_iaddN C dL_law_572 ?_
  refine gn_sld C S (show i + 1 < L by omega) (by omega) dL_law_573 ?_
  refine gn_aload_n C dL_law_574 rfl ?_
  refine gn_iload_n C dL_law_575 rfl ?_
  refine gn_iconst C (nI 2) dL_law_576 rfl ?_
  refine gn_iaddN C dL_law_577 ?_
  refine gn_sld C S (show i + 2 < L by omega) (by omega) dL_law_578 ?_
  refine gn_cI C (w1 := WS objC NC ac (nxC X) σ1) (w2 := []) rfl ok_X7_loss lk_L_70 dL_law_579 (by decide) rfl rfl rfl (k_X7_loss hRM (xs (i + 1)) (xs (i + 2))) rfl ⟨(Nat.le_of_ble_eq_true rfl), (Nat.le_of_ble_eq_true rfl)⟩ hk hn (Nat.le_of_ble_eq_true rfl) rfl (fun r2 τ1 h2 => ?_)
  exact gn_icmp_eq C 1430 dL_law_582 (by decide) (fun _ => kk _ σ1 τ1 h1.2 h2.2) (fun hne => absurd (h1.1.trans h2.1.symm) hne)
set_option maxHeartbeats 4000000 in
theorem law_c13 (C : OkN cL_law 4 "LightPropagatorLaw" room_1 X) (S : NxS b L xs X) (hi : i + 7 ≤ L) (hL : L ≤ 3584) (hRC : RepC σ S0) (hRM : RepM τ S0) (hk : k ≤ room_1.cells) (hn : n ≤ room_1.slots) (kk : ∀ (S1 : St) (σ1 τ1 : Mem), RepC σ1 S1 → RepM τ1 S1 → Gn X 1430 [some (.ref b), some (.ref (ac 0)), some (.ref (am 0)), some (.int (nI i))] [] (LWd (nxC X) ac am σ1 τ1) k n) : Gn X 587 [some (.ref b), some (.ref (ac 0)), some (.ref (am 0)), some (.int (nI i))] [] (LWd (nxC X) ac am σ τ) k n := by
  refine gn_aload_n C dL_law_587 rfl ?_
  refine gn_aload_n C dL_law_588 rfl ?_
  refine gn_iload_n C dL_law_589 rfl ?_
  refine gn_iconst C (nI 1) dL_law_590 rfl ?_
  refine gn_iaddN C dL_law_591 ?_
  refine gn_sld C S (show i + 1 < L by omega) (by omega) dL_law_592 ?_
  refine gn_aload_n C dL_law_593 rfl ?_
  refine gn_iload_n C dL_law_594 rfl ?_
  refine gn_iconst C (nI 2) dL_law_595 rfl ?_
  refine gn_iaddN C dL_law_596 ?_
  refine gn_sld C S (show i + 2 < L by omega) (by omega) dL_law_597 ?_
  refine gn_cI C (w1 := []) (w2 := WS objM NM am (nxC X) τ ++ []) rfl ok_X6_emission lk_L_71 dL_law_598 (by decide) rfl rfl rfl (k_X6_emission hRC (xs (i + 1)) (xs (i + 2))) rfl ⟨(Nat.le_of_ble_eq_true rfl), (Nat.le_of_ble_eq_true rfl)⟩ hk hn (Nat.le_of_ble_eq_true rfl) rfl (fun r1 σ1 h1 => ?_)
  refine gn_aload_n C dL_law_601 rfl ?_
  refine gn_aload_n C dL_law_602 rfl ?_
  refine gn_iload_n C dL_law_603 rfl ?_
  refine gn_iconst C (nI 1) dL_law_604 rfl ?_
  refine gn_iaddN C dL_law_605 ?_
  refine gn_sld C S (show i + 1 < L by omega) (by omega) dL_law_606 ?_
  refine gn_aload_n C dL_law_607 rfl ?_
  refine gn_iload_n C dL_law_608 rfl ?_
  refine gn_iconst C (nI 2) dL_law_609 rfl ?_
  refine gn_iaddN C dL_law_610 ?_
  refine gn_sld C S (show i + 2 < L by omega) (by omega) dL_law_611 ?_
  refine gn_cI C (w1 := WS objC NC ac (nxC X) σ1) (w2 := []) rfl ok_X7_emission lk_L_74 dL_law_612 (by decide) rfl rfl rfl (k_X7_emission hRM (xs (i + 1)) (xs (i + 2))) rfl ⟨(Nat.le_of_ble_eq_true rfl), (Nat.le_of_ble_eq_true rfl)⟩ hk hn (Nat.le_of_ble_eq_true rfl) rfl (fun r2 τ1 h2 => ?_)
  exact gn_icmp_eq C 1430 dL_law_615 (by decide) (fun _ => kk _ σ1 τ1 h1.2 h2.2) (fun hne => absurd (h1.1.trans h2.1.symm) hne)
set_option maxHeartbeats 4000000 in
theorem law_c14 (C : OkN cL_law 4 "LightPropagatorLaw" room_1 X) (S : NxS b L xs X) (hi : i + 7 ≤ L) (hL : L ≤ 3584) (hRC : RepC σ S0) (hRM : RepM τ S0) (hk : k ≤ room_1.cells) (hn : n ≤ room_1.slots) (kk : ∀ (S1 : St) (σ1 τ1 : Mem), RepC σ1 S1 → RepM τ1 S1 → Gn X 1430 [some (.ref b), some (.ref (ac 0)), some (.ref (am 0)), some (.int (nI i))] [] (LWd (nxC X) ac am σ1 τ1) k n) : Gn X 620 [some (.ref b), some (.ref (ac 0)), some (.ref (am 0)), some (.int (nI i))] [] (LWd (nxC X) ac am σ τ) k n := by
  refine gn_aload_n C dL_law_620 rfl ?_
  refine gn_aload_n C dL_law_621 rfl ?_
  refine gn_iload_n C dL_law_622 rfl ?_
  refine gn_iconst C (nI 1) dL_law_623 rfl ?_
  refine gn_iaddN C dL_law_624 ?_
  refine gn_sld C S (show i + 1 < L by omega) (by omega) dL_law_625 ?_
  refine gn_aload_n C dL_law_626 rfl ?_
  refine gn_iload_n C dL_law_627 rfl ?_
  refine gn_iconst C (nI 2) dL_law_628 rfl ?_
  refine gn_iaddN C dL_law_629 ?_
  refine gn_sld C S (show i + 2 < L by omega) (by omega) dL_law_630 ?_
  refine gn_aload_n C dL_law_631 rfl ?_
  refine gn_iload_n C dL_law_632 rfl ?_
  refine gn_iconst C (nI 3) dL_law_633 rfl ?_
  refine gn_iaddN C dL_law_634 ?_
  refine gn_sld C S (show i + 3 < L by omega) (by omega) dL_law_635 ?_
  refine gn_aload_n C dL_law_636 rfl ?_
  refine gn_iload_n C dL_law_637 rfl ?_
  refine gn_iconst C (nI 4) dL_law_638 rfl ?_
  refine gn_iaddN C dL_law_639 ?_
  refine gn_sld C S (show i + 4 < L by omega) (by omega) dL_law_640 ?_
  refine gn_cI C (w1 := []) (w2 := WS objM NM am (nxC X) τ ++ []) rfl ok_X6_light lk_L_75 dL_law_641 (by decide) rfl rfl rfl (k_X6_light hRC (xs (i + 1)) (xs (i + 2)) (xs (i + 3)) (xs (i + 4))) rfl ⟨(Nat.le_of_ble_eq_true rfl), (Nat.le_of_ble_eq_true rfl)⟩ hk hn (Nat.le_of_ble_eq_true rfl) rfl (fun r1 σ1 h1 => ?_)
  refine gn_aload_n C dL_law_644 rfl ?_
  refine gn_aload_n C dL_law_645 rfl ?_
  refine gn_iload_n C dL_law_646 rfl ?_
  refine gn_iconst C (nI 1) dL_law_647 rfl ?_
  refine gn_iaddN C dL_law_648 ?_
  refine gn_sld C S (show i + 1 < L by omega) (by omega) dL_law_649 ?_
  refine gn_aload_n C dL_law_650 rfl ?_
  refine gn_iload_n C dL_law_651 rfl ?_
  refine gn_iconst C (nI 2) dL_law_652 rfl ?_
  refine gn_iaddN C dL_law_653 ?_
  refine gn_sld C S (show i + 2 < L by omega) (by omega) dL_law_654 ?_
  refine gn_aload_n C dL_law_655 rfl ?_
  refine gn_iload_n C dL_law_656 rfl ?_
  refine gn_iconst C (nI 3) dL_law_657 rfl ?_
  refine gn_iaddN C dL_law_658 ?_
  refine gn_sld C S (show i + 3 < L by omega) (by omega) dL_law_659 ?_
  refine gn_aload_n C dL_law_660 rfl ?_
  refine gn_iload_n C dL_law_661 rfl ?_
  refine gn_iconst C (nI 4) dL_law_662 rfl ?_
  refine gn_iaddN C dL_law_663 ?_
  refine gn_sld C S (show i + 4 < L by omega) (by omega) dL_law_664 ?_
  refine gn_cI C (w1 := WS objC NC ac (nxC X) σ1) (w2 := []) rfl ok_X7_light lk_L_78 dL_law_665 (by decide) rfl rfl rfl (k_X7_light hRM (xs (i + 1)) (xs (i + 2)) (xs (i + 3)) (xs (i + 4))) rfl ⟨(Nat.le_of_ble_eq_true rfl), (Nat.le_of_ble_eq_true rfl)⟩ hk hn (Nat.le_of_ble_eq_true rfl) rfl (fun r2 τ1 h2 => ?_)
  exact gn_icmp_eq C 1430 dL_law_668 (by decide) (fun _ => kk _ σ1 τ1 h1.2 h2.2) (fun hne => absurd (h1.1.trans h2.1.symm) hne)
set_option maxHeartbeats 4000000 in
theorem law_c15 (C : OkN cL_law 4 "LightPropagatorLaw" room_1 X) (S : NxS b L xs X) (hi : i + 7 ≤ L) (hL : L ≤ 3584) (hRC : RepC σ S0) (hRM : RepM τ S0) (hk : k ≤ room_1.cells) (hn : n ≤ room_1.slots) (kk : ∀ (S1 : St) (σ1 τ1 : Mem), RepC σ1 S1 → RepM τ1 S1 → Gn X 1430 [some (.ref b), some (.ref (ac 0)), some (.ref (am 0)), some (.int (nI i))] [] (LWd (nxC X) ac am σ1 τ1) k n) : Gn X 673 [some (.ref b), some (.ref (ac 0)), some (.ref (am 0)), some (.int (nI i))] [] (LWd (nxC X) ac am σ τ) k n := by
  refine gn_aload_n C dL_law_673 rfl ?_
  refine gn_aload_n C dL_law_674 rfl ?_
  refine gn_iload_n C dL_law_675 rfl ?_
  refine gn_iconst C (nI 1) dL_law_676 rfl ?_
  refine gn_iaddN C dL_law_677 ?_
  refine gn_sld C S (show i + 1 < L by omega) (by omega) dL_law_678 ?_
  refine gn_aload_n C dL_law_679 rfl ?_
  refine gn_iload_n C dL_law_680 rfl ?_
  refine gn_iconst C (nI 2) dL_law_681 rfl ?_
  refine gn_iaddN C dL_law_682 ?_
  refine gn_sld C S (show i + 2 < L by omega) (by omega) dL_law_683 ?_
  refine gn_aload_n C dL_law_684 rfl ?_
  refine gn_iload_n C dL_law_685 rfl ?_
  refine gn_iconst C (nI 3) dL_law_686 rfl ?_
  refine gn_iaddN C dL_law_687 ?_
  refine gn_sld C S (show i + 3 < L by omega) (by omega) dL_law_688 ?_
  refine gn_cI C (w1 := []) (w2 := WS objM NM am (nxC X) τ ++ []) rfl ok_X6_lights lk_L_79 dL_law_689 (by decide) rfl rfl rfl (k_X6_lights hRC (xs (i + 1)) (xs (i + 2)) (xs (i + 3))) rfl ⟨(Nat.le_of_ble_eq_true rfl), (Nat.le_of_ble_eq_true rfl)⟩ hk hn (Nat.le_of_ble_eq_true rfl) rfl (fun r1 σ1 h1 => ?_)
  refine gn_aload_n C dL_law_692 rfl ?_
  refine gn_aload_n C dL_law_693 rfl ?_
  refine gn_iload_n C dL_law_694 rfl ?_
  refine gn_iconst C (nI 1) dL_law_695 rfl ?_
  refine gn_iaddN C dL_law_696 ?_
  refine gn_sld C S (show i + 1 < L by omega) (by omega) dL_law_697 ?_
  refine gn_aload_n C dL_law_698 rfl ?_
  refine gn_iload_n C dL_law_699 rfl ?_
  refine gn_iconst C (nI 2) dL_law_700 rfl ?_
  refine gn_iaddN C dL_law_701 ?_
  refine gn_sld C S (show i + 2 < L by omega) (by omega) dL_law_702 ?_
  refine gn_aload_n C dL_law_703 rfl ?_
  refine gn_iload_n C dL_law_704 rfl ?_
  refine gn_iconst C (nI 3) dL_law_705 rfl ?_
  refine gn_iaddN C dL_law_706 ?_
  refine gn_sld C S (show i + 3 < L by omega) (by omega) dL_law_707 ?_
  refine gn_cI C (w1 := WS objC NC ac (nxC X) σ1) (w2 := []) rfl ok_X7_lights lk_L_82 dL_law_708 (by decide) rfl rfl rfl (k_X7_lights hRM (xs (i + 1)) (xs (i + 2)) (xs (i + 3))) rfl ⟨(Nat.le_of_ble_eq_true rfl), (Nat.le_of_ble_eq_true rfl)⟩ hk hn (Nat.le_of_ble_eq_true rfl) rfl (fun r2 τ1 h2 => ?_)
  exact gn_icmp_eq C 1430 dL_law_711 (by decide) (fun _ => kk _ σ1 τ1 h1.2 h2.2) (fun hne => absurd (h1.1.trans h2.1.symm) hne)
set_option maxHeartbeats 4000000 in
theorem law_c16 (C : OkN cL_law 4 "LightPropagatorLaw" room_1 X) (S : NxS b L xs X) (hi : i + 7 ≤ L) (hL : L ≤ 3584) (hRC : RepC σ S0) (hRM : RepM τ S0) (hk : k ≤ room_1.cells) (hn : n ≤ room_1.slots) (kk : ∀ (S1 : St) (σ1 τ1 : Mem), RepC σ1 S1 → RepM τ1 S1 → Gn X 1430 [some (.ref b), some (.ref (ac 0)), some (.ref (am 0)), some (.int (nI i))] [] (LWd (nxC X) ac am σ1 τ1) k n) : Gn X 716 [some (.ref b), some (.ref (ac 0)), some (.ref (am 0)), some (.int (nI i))] [] (LWd (nxC X) ac am σ τ) k n := by
  refine gn_aload_n C dL_law_716 rfl ?_
  refine gn_aload_n C dL_law_717 rfl ?_
  refine gn_iload_n C dL_law_718 rfl ?_
  refine gn_iconst C (nI 1) dL_law_719 rfl ?_
  refine gn_iaddN C dL_law_720 ?_
  refine gn_sld C S (show i + 1 < L by omega) (by omega) dL_law_721 ?_
  refine gn_aload_n C dL_law_722 rfl ?_
  refine gn_iload_n C dL_law_723 rfl ?_
  refine gn_iconst C (nI 2) dL_law_724 rfl ?_
  refine gn_iaddN C dL_law_725 ?_
  refine gn_sld C S (show i + 2 < L by omega) (by omega) dL_law_726 ?_
  refine gn_aload_n C dL_law_727 rfl ?_
  refine gn_iload_n C dL_law_728 rfl ?_
  refine gn_iconst C (nI 3) dL_law_729 rfl ?_
  refine gn_iaddN C dL_law_730 ?_
  refine gn_sld C S (show i + 3 < L by omega) (by omega) dL_law_731 ?_
  refine gn_aload_n C dL_law_732 rfl ?_
  refine gn_iload_n C dL_law_733 rfl ?_
  refine gn_iconst C (nI 4) dL_law_734 rfl ?_
  refine gn_iaddN C dL_law_735 ?_
  refine gn_sld C S (show i + 4 < L by omega) (by omega) dL_law_736 ?_
  refine gn_cI C (w1 := []) (w2 := WS objM NM am (nxC X) τ ++ []) rfl ok_X6_origin lk_L_83 dL_law_737 (by decide) rfl rfl rfl (k_X6_origin hRC (xs (i + 1)) (xs (i + 2)) (xs (i + 3)) (xs (i + 4))) rfl ⟨(Nat.le_of_ble_eq_true rfl), (Nat.le_of_ble_eq_true rfl)⟩ hk hn (Nat.le_of_ble_eq_true rfl) rfl (fun r1 σ1 h1 => ?_)
  refine gn_aload_n C dL_law_740 rfl ?_
  refine gn_aload_n C dL_law_741 rfl ?_
  refine gn_iload_n C dL_law_742 rfl ?_
  refine gn_iconst C (nI 1) dL_law_743 rfl ?_
  refine gn_iaddN C dL_law_744 ?_
  refine gn_sld C S (show i + 1 < L by omega) (by omega) dL_law_745 ?_
  refine gn_aload_n C dL_law_746 rfl ?_
  refine gn_iload_n C dL_law_747 rfl ?_
  refine gn_iconst C (nI 2) dL_law_748 rfl ?_
  refine gn_iaddN C dL_law_749 ?_
  refine gn_sld C S (show i + 2 < L by omega) (by omega) dL_law_750 ?_
  refine gn_aload_n C dL_law_751 rfl ?_
  refine gn_iload_n C dL_law_752 rfl ?_
  refine gn_iconst C (nI 3) dL_law_753 rfl ?_
  refine gn_iaddN C dL_law_754 ?_
  refine gn_sld C S (show i + 3 < L by omega) (by omega) dL_law_755 ?_
  refine gn_aload_n C dL_law_756 rfl ?_
  refine gn_iload_n C dL_law_757 rfl ?_
  refine gn_iconst C (nI 4) dL_law_758 rfl ?_
  refine gn_iaddN C dL_law_759 ?_
  refine gn_sld C S (show i + 4 < L by omega) (by omega) dL_law_760 ?_
  refine gn_cI C (w1 := WS objC NC ac (nxC X) σ1) (w2 := []) rfl ok_X7_origin lk_L_86 dL_law_761 (by decide) rfl rfl rfl (k_X7_origin hRM (xs (i + 1)) (xs (i + 2)) (xs (i + 3)) (xs (i + 4))) rfl ⟨(Nat.le_of_ble_eq_true rfl), (Nat.le_of_ble_eq_true rfl)⟩ hk hn (Nat.le_of_ble_eq_true rfl) rfl (fun r2 τ1 h2 => ?_)
  exact gn_icmp_eq C 1430 dL_law_764 (by decide) (fun _ => kk _ σ1 τ1 h1.2 h2.2) (fun hne => absurd (h1.1.trans h2.1.symm) hne)
set_option maxHeartbeats 4000000 in
theorem law_c17 (C : OkN cL_law 4 "LightPropagatorLaw" room_1 X) (S : NxS b L xs X) (hi : i + 7 ≤ L) (hL : L ≤ 3584) (hRC : RepC σ S0) (hRM : RepM τ S0) (hk : k ≤ room_1.cells) (hn : n ≤ room_1.slots) (kk : ∀ (S1 : St) (σ1 τ1 : Mem), RepC σ1 S1 → RepM τ1 S1 → Gn X 1430 [some (.ref b), some (.ref (ac 0)), some (.ref (am 0)), some (.int (nI i))] [] (LWd (nxC X) ac am σ1 τ1) k n) : Gn X 769 [some (.ref b), some (.ref (ac 0)), some (.ref (am 0)), some (.int (nI i))] [] (LWd (nxC X) ac am σ τ) k n := by
  refine gn_aload_n C dL_law_769 rfl ?_
  refine gn_aload_n C dL_law_770 rfl ?_
  refine gn_iload_n C dL_law_771 rfl ?_
  refine gn_iconst C (nI 1) dL_law_772 rfl ?_
  refine gn_iaddN C dL_law_773 ?_
  refine gn_sld C S (show i + 1 < L by omega) (by omega) dL_law_774 ?_
  refine gn_aload_n C dL_law_775 rfl ?_
  refine gn_iload_n C dL_law_776 rfl ?_
  refine gn_iconst C (nI 2) dL_law_777 rfl ?_
  refine gn_iaddN C dL_law_778 ?_
  refine gn_sld C S (show i + 2 < L by omega) (by omega) dL_law_779 ?_
  refine gn_aload_n C dL_law_780 rfl ?_
  refine gn_iload_n C dL_law_781 rfl ?_
  refine gn_iconst C (nI 3) dL_law_782 rfl ?_
  refine gn_iaddN C dL_law_783 ?_
  refine gn_sld C S (show i + 3 < L by omega) (by omega) dL_law_784 ?_
  refine gn_aload_n C dL_law_785 rfl ?_
  refine gn_iload_n C dL_law_786 rfl ?_
  refine gn_iconst C (nI 4) dL_law_787 rfl ?_
  refine gn_iaddN C dL_law_788 ?_
  refine gn_sld C S (show i + 4 < L by omega) (by omega) dL_law_789 ?_
  refine gn_cI C (w1 := []) (w2 := WS objM NM am (nxC X) τ ++ []) rfl ok_X6_wayLength lk_L_87 dL_law_790 (by decide) rfl rfl rfl (k_X6_wayLength hRC (xs (i + 1)) (xs (i + 2)) (xs (i + 3)) (xs (i + 4))) rfl ⟨(Nat.le_of_ble_eq_true rfl), (Nat.le_of_ble_eq_true rfl)⟩ hk hn (Nat.le_of_ble_eq_true rfl) rfl (fun r1 σ1 h1 => ?_)
  refine gn_aload_n C dL_law_793 rfl ?_
  refine gn_aload_n C dL_law_794 rfl ?_
  refine gn_iload_n C dL_law_795 rfl ?_
  refine gn_iconst C (nI 1) dL_law_796 rfl ?_
  refine gn_iaddN C dL_law_797 ?_
  refine gn_sld C S (show i + 1 < L by omega) (by omega) dL_law_798 ?_
  refine gn_aload_n C dL_law_799 rfl ?_
  refine gn_iload_n C dL_law_800 rfl ?_
  refine gn_iconst C (nI 2) dL_law_801 rfl ?_
  refine gn_iaddN C dL_law_802 ?_
  refine gn_sld C S (show i + 2 < L by omega) (by omega) dL_law_803 ?_
  refine gn_aload_n C dL_law_804 rfl ?_
  refine gn_iload_n C dL_law_805 rfl ?_
  refine gn_iconst C (nI 3) dL_law_806 rfl ?_
  refine gn_iaddN C dL_law_807 ?_
  refine gn_sld C S (show i + 3 < L by omega) (by omega) dL_law_808 ?_
  refine gn_aload_n C dL_law_809 rfl ?_
  refine gn_iload_n C dL_law_810 rfl ?_
  refine gn_iconst C (nI 4) dL_law_811 rfl ?_
  refine gn_iaddN C dL_law_812 ?_
  refine gn_sld C S (show i + 4 < L by omega) (by omega) dL_law_813 ?_
  refine gn_cI C (w1 := WS objC NC ac (nxC X) σ1) (w2 := []) rfl ok_X7_wayLength lk_L_90 dL_law_814 (by decide) rfl rfl rfl (k_X7_wayLength hRM (xs (i + 1)) (xs (i + 2)) (xs (i + 3)) (xs (i + 4))) rfl ⟨(Nat.le_of_ble_eq_true rfl), (Nat.le_of_ble_eq_true rfl)⟩ hk hn (Nat.le_of_ble_eq_true rfl) rfl (fun r2 τ1 h2 => ?_)
  exact gn_icmp_eq C 1430 dL_law_817 (by decide) (fun _ => kk _ σ1 τ1 h1.2 h2.2) (fun hne => absurd (h1.1.trans h2.1.symm) hne)
set_option maxHeartbeats 4000000 in
theorem law_c18 (C : OkN cL_law 4 "LightPropagatorLaw" room_1 X) (S : NxS b L xs X) (hi : i + 7 ≤ L) (hL : L ≤ 3584) (hRC : RepC σ S0) (hRM : RepM τ S0) (hk : k ≤ room_1.cells) (hn : n ≤ room_1.slots) (kk : ∀ (S1 : St) (σ1 τ1 : Mem), RepC σ1 S1 → RepM τ1 S1 → Gn X 1430 [some (.ref b), some (.ref (ac 0)), some (.ref (am 0)), some (.int (nI i))] [] (LWd (nxC X) ac am σ1 τ1) k n) : Gn X 822 [some (.ref b), some (.ref (ac 0)), some (.ref (am 0)), some (.int (nI i))] [] (LWd (nxC X) ac am σ τ) k n := by
  refine gn_aload_n C dL_law_822 rfl ?_
  refine gn_aload_n C dL_law_823 rfl ?_
  refine gn_iload_n C dL_law_824 rfl ?_
  refine gn_iconst C (nI 1) dL_law_825 rfl ?_
  refine gn_iaddN C dL_law_826 ?_
  refine gn_sld C S (show i + 1 < L by omega) (by omega) dL_law_827 ?_
  refine gn_aload_n C dL_law_828 rfl ?_
  refine gn_iload_n C dL_law_829 rfl ?_
  refine gn_iconst C (nI 2) dL_law_830 rfl ?_
  refine gn_iaddN C dL_law_831 ?_
  refine gn_sld C S (show i + 2 < L by omega) (by omega) dL_law_832 ?_
  refine gn_aload_n C dL_law_833 rfl ?_
  refine gn_iload_n C dL_law_834 rfl ?_
  refine gn_iconst C (nI 3) dL_law_835 rfl ?_
  refine gn_iaddN C dL_law_836 ?_
  refine gn_sld C S (show i + 3 < L by omega) (by omega) dL_law_837 ?_
  refine gn_aload_n C dL_law_838 rfl ?_
  refine gn_iload_n C dL_law_839 rfl ?_
  refine gn_iconst C (nI 4) dL_law_840 rfl ?_
  refine gn_iaddN C dL_law_841 ?_
  refine gn_sld C S (show i + 4 < L by omega) (by omega) dL_law_842 ?_
  refine gn_cI C (w1 := []) (w2 := WS objM NM am (nxC X) τ ++ []) rfl ok_X6_wayEnd lk_L_91 dL_law_843 (by decide) rfl rfl rfl (k_X6_wayEnd hRC (xs (i + 1)) (xs (i + 2)) (xs (i + 3)) (xs (i + 4))) rfl ⟨(Nat.le_of_ble_eq_true rfl), (Nat.le_of_ble_eq_true rfl)⟩ hk hn (Nat.le_of_ble_eq_true rfl) rfl (fun r1 σ1 h1 => ?_)
  refine gn_aload_n C dL_law_846 rfl ?_
  refine gn_aload_n C dL_law_847 rfl ?_
  refine gn_iload_n C dL_law_848 rfl ?_
  refine gn_iconst C (nI 1) dL_law_849 rfl ?_
  refine gn_iaddN C dL_law_850 ?_
  refine gn_sld C S (show i + 1 < L by omega) (by omega) dL_law_851 ?_
  refine gn_aload_n C dL_law_852 rfl ?_
  refine gn_iload_n C dL_law_853 rfl ?_
  refine gn_iconst C (nI 2) dL_law_854 rfl ?_
  refine gn_iaddN C dL_law_855 ?_
  refine gn_sld C S (show i + 2 < L by omega) (by omega) dL_law_856 ?_
  refine gn_aload_n C dL_law_857 rfl ?_
  refine gn_iload_n C dL_law_858 rfl ?_
  refine gn_iconst C (nI 3) dL_law_859 rfl ?_
  refine gn_iaddN C dL_law_860 ?_
  refine gn_sld C S (show i + 3 < L by omega) (by omega) dL_law_861 ?_
  refine gn_aload_n C dL_law_862 rfl ?_
  refine gn_iload_n C dL_law_863 rfl ?_
  refine gn_iconst C (nI 4) dL_law_864 rfl ?_
  refine gn_iaddN C dL_law_865 ?_
  refine gn_sld C S (show i + 4 < L by omega) (by omega) dL_law_866 ?_
  refine gn_cI C (w1 := WS objC NC ac (nxC X) σ1) (w2 := []) rfl ok_X7_wayEnd lk_L_94 dL_law_867 (by decide) rfl rfl rfl (k_X7_wayEnd hRM (xs (i + 1)) (xs (i + 2)) (xs (i + 3)) (xs (i + 4))) rfl ⟨(Nat.le_of_ble_eq_true rfl), (Nat.le_of_ble_eq_true rfl)⟩ hk hn (Nat.le_of_ble_eq_true rfl) rfl (fun r2 τ1 h2 => ?_)
  exact gn_icmp_eq C 1430 dL_law_870 (by decide) (fun _ => kk _ σ1 τ1 h1.2 h2.2) (fun hne => absurd (h1.1.trans h2.1.symm) hne)
set_option maxHeartbeats 4000000 in
theorem law_c19 (C : OkN cL_law 4 "LightPropagatorLaw" room_1 X) (S : NxS b L xs X) (hi : i + 7 ≤ L) (hL : L ≤ 3584) (hRC : RepC σ S0) (hRM : RepM τ S0) (hk : k ≤ room_1.cells) (hn : n ≤ room_1.slots) (kk : ∀ (S1 : St) (σ1 τ1 : Mem), RepC σ1 S1 → RepM τ1 S1 → Gn X 1430 [some (.ref b), some (.ref (ac 0)), some (.ref (am 0)), some (.int (nI i))] [] (LWd (nxC X) ac am σ1 τ1) k n) : Gn X 875 [some (.ref b), some (.ref (ac 0)), some (.ref (am 0)), some (.int (nI i))] [] (LWd (nxC X) ac am σ τ) k n := by
  refine gn_aload_n C dL_law_875 rfl ?_
  refine gn_cI C (w1 := []) (w2 := WS objM NM am (nxC X) τ ++ []) rfl ok_X6_batchSize lk_L_95 dL_law_876 (by decide) rfl rfl rfl (k_X6_batchSize hRC) rfl ⟨(Nat.le_of_ble_eq_true rfl), (Nat.le_of_ble_eq_true rfl)⟩ hk hn (Nat.le_of_ble_eq_true rfl) rfl (fun r1 σ1 h1 => ?_)
  refine gn_aload_n C dL_law_879 rfl ?_
  refine gn_cI C (w1 := WS objC NC ac (nxC X) σ1) (w2 := []) rfl ok_X7_batchSize lk_L_98 dL_law_880 (by decide) rfl rfl rfl (k_X7_batchSize hRM) rfl ⟨(Nat.le_of_ble_eq_true rfl), (Nat.le_of_ble_eq_true rfl)⟩ hk hn (Nat.le_of_ble_eq_true rfl) rfl (fun r2 τ1 h2 => ?_)
  exact gn_icmp_eq C 1430 dL_law_883 (by decide) (fun _ => kk _ σ1 τ1 h1.2 h2.2) (fun hne => absurd (h1.1.trans h2.1.symm) hne)
set_option maxHeartbeats 4000000 in
theorem law_c20 (C : OkN cL_law 4 "LightPropagatorLaw" room_1 X) (S : NxS b L xs X) (hi : i + 7 ≤ L) (hL : L ≤ 3584) (hRC : RepC σ S0) (hRM : RepM τ S0) (hk : k ≤ room_1.cells) (hn : n ≤ room_1.slots) (kk : ∀ (S1 : St) (σ1 τ1 : Mem), RepC σ1 S1 → RepM τ1 S1 → Gn X 1430 [some (.ref b), some (.ref (ac 0)), some (.ref (am 0)), some (.int (nI i))] [] (LWd (nxC X) ac am σ1 τ1) k n) : Gn X 888 [some (.ref b), some (.ref (ac 0)), some (.ref (am 0)), some (.int (nI i))] [] (LWd (nxC X) ac am σ τ) k n := by
  refine gn_aload_n C dL_law_888 rfl ?_
  refine gn_aload_n C dL_law_889 rfl ?_
  refine gn_iload_n C dL_law_890 rfl ?_
  refine gn_iconst C (nI 1) dL_law_891 rfl ?_
  refine gn_iaddN C dL_law_892 ?_
  refine gn_sld C S (show i + 1 < L by omega) (by omega) dL_law_893 ?_
  refine gn_cI C (w1 := []) (w2 := WS objM NM am (nxC X) τ ++ []) rfl ok_X6_effect lk_L_99 dL_law_894 (by decide) rfl rfl rfl (k_X6_effect hRC (xs (i + 1))) rfl ⟨(Nat.le_of_ble_eq_true rfl), (Nat.le_of_ble_eq_true rfl)⟩ hk hn (Nat.le_of_ble_eq_true rfl) rfl (fun r1 σ1 h1 => ?_)
  refine gn_aload_n C dL_law_897 rfl ?_
  refine gn_aload_n C dL_law_898 rfl ?_
  refine gn_iload_n C dL_law_899 rfl ?_
  refine gn_iconst C (nI 1) dL_law_900 rfl ?_
  refine gn_iaddN C dL_law_901 ?_
  refine gn_sld C S (show i + 1 < L by omega) (by omega) dL_law_902 ?_
  refine gn_cI C (w1 := WS objC NC ac (nxC X) σ1) (w2 := []) rfl ok_X7_effect lk_L_102 dL_law_903 (by decide) rfl rfl rfl (k_X7_effect hRM (xs (i + 1))) rfl ⟨(Nat.le_of_ble_eq_true rfl), (Nat.le_of_ble_eq_true rfl)⟩ hk hn (Nat.le_of_ble_eq_true rfl) rfl (fun r2 τ1 h2 => ?_)
  exact gn_icmp_eq C 1430 dL_law_906 (by decide) (fun _ => kk _ σ1 τ1 h1.2 h2.2) (fun hne => absurd (h1.1.trans h2.1.symm) hne)
set_option maxHeartbeats 4000000 in
theorem law_c21 (C : OkN cL_law 4 "LightPropagatorLaw" room_1 X) (S : NxS b L xs X) (hi : i + 7 ≤ L) (hL : L ≤ 3584) (hRC : RepC σ S0) (hRM : RepM τ S0) (hk : k ≤ room_1.cells) (hn : n ≤ room_1.slots) (kk : ∀ (S1 : St) (σ1 τ1 : Mem), RepC σ1 S1 → RepM τ1 S1 → Gn X 1430 [some (.ref b), some (.ref (ac 0)), some (.ref (am 0)), some (.int (nI i))] [] (LWd (nxC X) ac am σ1 τ1) k n) : Gn X 911 [some (.ref b), some (.ref (ac 0)), some (.ref (am 0)), some (.int (nI i))] [] (LWd (nxC X) ac am σ τ) k n := by
  refine gn_aload_n C dL_law_911 rfl ?_
  refine gn_cI C (w1 := []) (w2 := WS objM NM am (nxC X) τ ++ []) rfl ok_X6_effectChunks lk_L_103 dL_law_912 (by decide) rfl rfl rfl (k_X6_effectChunks hRC) rfl ⟨(Nat.le_of_ble_eq_true rfl), (Nat.le_of_ble_eq_true rfl)⟩ hk hn (Nat.le_of_ble_eq_true rfl) rfl (fun r1 σ1 h1 => ?_)
  refine gn_aload_n C dL_law_915 rfl ?_
  refine gn_cI C (w1 := WS objC NC ac (nxC X) σ1) (w2 := []) rfl ok_X7_effectChunks lk_L_106 dL_law_916 (by decide) rfl rfl rfl (k_X7_effectChunks hRM) rfl ⟨(Nat.le_of_ble_eq_true rfl), (Nat.le_of_ble_eq_true rfl)⟩ hk hn (Nat.le_of_ble_eq_true rfl) rfl (fun r2 τ1 h2 => ?_)
  exact gn_icmp_eq C 1430 dL_law_919 (by decide) (fun _ => kk _ σ1 τ1 h1.2 h2.2) (fun hne => absurd (h1.1.trans h2.1.symm) hne)
set_option maxHeartbeats 4000000 in
theorem law_c22 (C : OkN cL_law 4 "LightPropagatorLaw" room_1 X) (S : NxS b L xs X) (hi : i + 7 ≤ L) (hL : L ≤ 3584) (hRC : RepC σ S0) (hRM : RepM τ S0) (hk : k ≤ room_1.cells) (hn : n ≤ room_1.slots) (kk : ∀ (S1 : St) (σ1 τ1 : Mem), RepC σ1 S1 → RepM τ1 S1 → Gn X 1430 [some (.ref b), some (.ref (ac 0)), some (.ref (am 0)), some (.int (nI i))] [] (LWd (nxC X) ac am σ1 τ1) k n) : Gn X 924 [some (.ref b), some (.ref (ac 0)), some (.ref (am 0)), some (.int (nI i))] [] (LWd (nxC X) ac am σ τ) k n := by
  refine gn_aload_n C dL_law_924 rfl ?_
  refine gn_aload_n C dL_law_925 rfl ?_
  refine gn_iload_n C dL_law_926 rfl ?_
  refine gn_iconst C (nI 1) dL_law_927 rfl ?_
  refine gn_iaddN C dL_law_928 ?_
  refine gn_sld C S (show i + 1 < L by omega) (by omega) dL_law_929 ?_
  refine gn_aload_n C dL_law_930 rfl ?_
  refine gn_iload_n C dL_law_931 rfl ?_
  refine gn_iconst C (nI 2) dL_law_932 rfl ?_
  refine gn_iaddN C dL_law_933 ?_
  refine gn_sld C S (show i + 2 < L by omega) (by omega) dL_law_934 ?_
  refine gn_aload_n C dL_law_935 rfl ?_
  refine gn_iload_n C dL_law_936 rfl ?_
  refine gn_iconst C (nI 3) dL_law_937 rfl ?_
  refine gn_iaddN C dL_law_938 ?_
  refine gn_sld C S (show i + 3 < L by omega) (by omega) dL_law_939 ?_
  refine gn_aload_n C dL_law_940 rfl ?_
  refine gn_iload_n C dL_law_941 rfl ?_
  refine gn_iconst C (nI 4) dL_law_942 rfl ?_
  refine gn_iaddN C dL_law_943 ?_
  refine gn_sld C S (show i + 4 < L by omega) (by omega) dL_law_944 ?_
  refine gn_aload_n C dL_law_945 rfl ?_
  refine gn_iload_n C dL_law_946 rfl ?_
  refine gn_iconst C (nI 5) dL_law_947 rfl ?_
  refine gn_iaddN C dL_law_948 ?_
  refine gn_sld C S (show i + 5 < L by omega) (by omega) dL_law_949 ?_
  refine gn_cI C (w1 := []) (w2 := WS objM NM am (nxC X) τ ++ []) rfl ok_X6_lightIf lk_L_107 dL_law_950 (by decide) rfl rfl rfl (k_X6_lightIf hRC (xs (i + 1)) (xs (i + 2)) (xs (i + 3)) (xs (i + 4)) (xs (i + 5))) rfl ⟨(Nat.le_of_ble_eq_true rfl), (Nat.le_of_ble_eq_true rfl)⟩ hk hn (Nat.le_of_ble_eq_true rfl) rfl (fun r1 σ1 h1 => ?_)
  refine gn_aload_n C dL_law_953 rfl ?_
  refine gn_aload_n C dL_law_954 rfl ?_
  refine gn_iload_n C dL_law_955 rfl ?_
  refine gn_iconst C (nI 1) dL_law_956 rfl ?_
  refine gn_iaddN C dL_law_957 ?_
  refine gn_sld C S (show i + 1 < L by omega) (by omega) dL_law_958 ?_
  refine gn_aload_n C dL_law_959 rfl ?_
  refine gn_iload_n C dL_law_960 rfl ?_
  refine gn_iconst C (nI 2) dL_law_961 rfl ?_
  refine gn_iaddN C dL_law_962 ?_
  refine gn_sld C S (show i + 2 < L by omega) (by omega) dL_law_963 ?_
  refine gn_aload_n C dL_law_964 rfl ?_
  refine gn_iload_n C dL_law_965 rfl ?_
  refine gn_iconst C (nI 3) dL_law_966 rfl ?_
  refine gn_iaddN C dL_law_967 ?_
  refine gn_sld C S (show i + 3 < L by omega) (by omega) dL_law_968 ?_
  refine gn_aload_n C dL_law_969 rfl ?_
  refine gn_iload_n C dL_law_970 rfl ?_
  refine gn_iconst C (nI 4) dL_law_971 rfl ?_
  refine gn_iaddN C dL_law_972 ?_
  refine gn_sld C S (show i + 4 < L by omega) (by omega) dL_law_973 ?_
  refine gn_aload_n C dL_law_974 rfl ?_
  refine gn_iload_n C dL_law_975 rfl ?_
  refine gn_iconst C (nI 5) dL_law_976 rfl ?_
  refine gn_iaddN C dL_law_977 ?_
  refine gn_sld C S (show i + 5 < L by omega) (by omega) dL_law_978 ?_
  refine gn_cI C (w1 := WS objC NC ac (nxC X) σ1) (w2 := []) rfl ok_X7_lightIf lk_L_111 dL_law_979 (by decide) rfl rfl rfl (k_X7_lightIf hRM (xs (i + 1)) (xs (i + 2)) (xs (i + 3)) (xs (i + 4)) (xs (i + 5))) rfl ⟨(Nat.le_of_ble_eq_true rfl), (Nat.le_of_ble_eq_true rfl)⟩ hk hn (Nat.le_of_ble_eq_true rfl) rfl (fun r2 τ1 h2 => ?_)
  exact gn_icmp_eq C 1430 dL_law_982 (by decide) (fun _ => kk _ σ1 τ1 h1.2 h2.2) (fun hne => absurd (h1.1.trans h2.1.symm) hne)
set_option maxHeartbeats 4000000 in
theorem law_c23 (C : OkN cL_law 4 "LightPropagatorLaw" room_1 X) (S : NxS b L xs X) (hi : i + 7 ≤ L) (hL : L ≤ 3584) (hRC : RepC σ S0) (hRM : RepM τ S0) (hk : k ≤ room_1.cells) (hn : n ≤ room_1.slots) (kk : ∀ (S1 : St) (σ1 τ1 : Mem), RepC σ1 S1 → RepM τ1 S1 → Gn X 1430 [some (.ref b), some (.ref (ac 0)), some (.ref (am 0)), some (.int (nI i))] [] (LWd (nxC X) ac am σ1 τ1) k n) : Gn X 987 [some (.ref b), some (.ref (ac 0)), some (.ref (am 0)), some (.int (nI i))] [] (LWd (nxC X) ac am σ τ) k n := by
  refine gn_aload_n C dL_law_987 rfl ?_
  refine gn_aload_n C dL_law_988 rfl ?_
  refine gn_iload_n C dL_law_989 rfl ?_
  refine gn_iconst C (nI 1) dL_law_990 rfl ?_
  refine gn_iaddN C dL_law_991 ?_
  refine gn_sld C S (show i + 1 < L by omega) (by omega) dL_law_992 ?_
  refine gn_aload_n C dL_law_993 rfl ?_
  refine gn_iload_n C dL_law_994 rfl ?_
  refine gn_iconst C (nI 2) dL_law_995 rfl ?_
  refine gn_iaddN C dL_law_996 ?_
  refine gn_sld C S (show i + 2 < L by omega) (by omega) dL_law_997 ?_
  refine gn_aload_n C dL_law_998 rfl ?_
  refine gn_iload_n C dL_law_999 rfl ?_
  refine gn_iconst C (nI 3) dL_law_1000 rfl ?_
  refine gn_iaddN C dL_law_1001 ?_
  refine gn_sld C S (show i + 3 < L by omega) (by omega) dL_law_1002 ?_
  refine gn_aload_n C dL_law_1003 rfl ?_
  refine gn_iload_n C dL_law_1004 rfl ?_
  refine gn_iconst C (nI 4) dL_law_1005 rfl ?_
  refine gn_iaddN C dL_law_1006 ?_
  refine gn_sld C S (show i + 4 < L by omega) (by omega) dL_law_1007 ?_
  refine gn_cI C (w1 := []) (w2 := WS objM NM am (nxC X) τ ++ []) rfl ok_X6_spread lk_L_112 dL_law_1008 (by decide) rfl rfl rfl (k_X6_spread hRC (xs (i + 1)) (xs (i + 2)) (xs (i + 3)) (xs (i + 4))) rfl ⟨(Nat.le_of_ble_eq_true rfl), (Nat.le_of_ble_eq_true rfl)⟩ hk hn (Nat.le_of_ble_eq_true rfl) rfl (fun r1 σ1 h1 => ?_)
  refine gn_aload_n C dL_law_1011 rfl ?_
  refine gn_aload_n C dL_law_1012 rfl ?_
  refine gn_iload_n C dL_law_1013 rfl ?_
  refine gn_iconst C (nI 1) dL_law_1014 rfl ?_
  refine gn_iaddN C dL_law_1015 ?_
  refine gn_sld C S (show i + 1 < L by omega) (by omega) dL_law_1016 ?_
  refine gn_aload_n C dL_law_1017 rfl ?_
  refine gn_iload_n C dL_law_1018 rfl ?_
  refine gn_iconst C (nI 2) dL_law_1019 rfl ?_
  refine gn_iaddN C dL_law_1020 ?_
  refine gn_sld C S (show i + 2 < L by omega) (by omega) dL_law_1021 ?_
  refine gn_aload_n C dL_law_1022 rfl ?_
  refine gn_iload_n C dL_law_1023 rfl ?_
  refine gn_iconst C (nI 3) dL_law_1024 rfl ?_
  refine gn_iaddN C dL_law_1025 ?_
  refine gn_sld C S (show i + 3 < L by omega) (by omega) dL_law_1026 ?_
  refine gn_aload_n C dL_law_1027 rfl ?_
  refine gn_iload_n C dL_law_1028 rfl ?_
  refine gn_iconst C (nI 4) dL_law_1029 rfl ?_
  refine gn_iaddN C dL_law_1030 ?_
  refine gn_sld C S (show i + 4 < L by omega) (by omega) dL_law_1031 ?_
  refine gn_cI C (w1 := WS objC NC ac (nxC X) σ1) (w2 := []) rfl ok_X7_spread lk_L_115 dL_law_1032 (by decide) rfl rfl rfl (k_X7_spread hRM (xs (i + 1)) (xs (i + 2)) (xs (i + 3)) (xs (i + 4))) rfl ⟨(Nat.le_of_ble_eq_true rfl), (Nat.le_of_ble_eq_true rfl)⟩ hk hn (Nat.le_of_ble_eq_true rfl) rfl (fun r2 τ1 h2 => ?_)
  exact gn_icmp_eq C 1430 dL_law_1035 (by decide) (fun _ => kk _ σ1 τ1 h1.2 h2.2) (fun hne => absurd (h1.1.trans h2.1.symm) hne)
set_option maxHeartbeats 4000000 in
theorem law_c24 (C : OkN cL_law 4 "LightPropagatorLaw" room_1 X) (S : NxS b L xs X) (hi : i + 7 ≤ L) (hL : L ≤ 3584) (hRC : RepC σ S0) (hRM : RepM τ S0) (hk : k ≤ room_1.cells) (hn : n ≤ room_1.slots) (kk : ∀ (S1 : St) (σ1 τ1 : Mem), RepC σ1 S1 → RepM τ1 S1 → Gn X 1430 [some (.ref b), some (.ref (ac 0)), some (.ref (am 0)), some (.int (nI i))] [] (LWd (nxC X) ac am σ1 τ1) k n) : Gn X 1040 [some (.ref b), some (.ref (ac 0)), some (.ref (am 0)), some (.int (nI i))] [] (LWd (nxC X) ac am σ τ) k n := by
  refine gn_aload_n C dL_law_1040 rfl ?_
  refine gn_aload_n C dL_law_1041 rfl ?_
  refine gn_iload_n C dL_law_1042 rfl ?_
  refine gn_iconst C (nI 1) dL_law_1043 rfl ?_
  refine gn_iaddN C dL_law_1044 ?_
  refine gn_sld C S (show i + 1 < L by omega) (by omega) dL_law_1045 ?_
  refine gn_aload_n C dL_law_1046 rfl ?_
  refine gn_iload_n C dL_law_1047 rfl ?_
  refine gn_iconst C (nI 2) dL_law_1048 rfl ?_
  refine gn_iaddN C dL_law_1049 ?_
  refine gn_sld C S (show i + 2 < L by omega) (by omega) dL_law_1050 ?_
  refine gn_aload_n C dL_law_1051 rfl ?_
  refine gn_iload_n C dL_law_1052 rfl ?_
  refine gn_iconst C (nI 3) dL_law_1053 rfl ?_
  refine gn_iaddN C dL_law_1054 ?_
  refine gn_sld C S (show i + 3 < L by omega) (by omega) dL_law_1055 ?_
  refine gn_aload_n C dL_law_1056 rfl ?_
  refine gn_iload_n C dL_law_1057 rfl ?_
  refine gn_iconst C (nI 4) dL_law_1058 rfl ?_
  refine gn_iaddN C dL_law_1059 ?_
  refine gn_sld C S (show i + 4 < L by omega) (by omega) dL_law_1060 ?_
  refine gn_aload_n C dL_law_1061 rfl ?_
  refine gn_iload_n C dL_law_1062 rfl ?_
  refine gn_iconst C (nI 5) dL_law_1063 rfl ?_
  refine gn_iaddN C dL_law_1064 ?_
  refine gn_sld C S (show i + 5 < L by omega) (by omega) dL_law_1065 ?_
  refine gn_cI C (w1 := []) (w2 := WS objM NM am (nxC X) τ ++ []) rfl ok_X6_needed lk_L_116 dL_law_1066 (by decide) rfl rfl rfl (k_X6_needed hRC (xs (i + 1)) (xs (i + 2)) (xs (i + 3)) (xs (i + 4)) (xs (i + 5))) rfl ⟨(Nat.le_of_ble_eq_true rfl), (Nat.le_of_ble_eq_true rfl)⟩ hk hn (Nat.le_of_ble_eq_true rfl) rfl (fun r1 σ1 h1 => ?_)
  refine gn_aload_n C dL_law_1069 rfl ?_
  refine gn_aload_n C dL_law_1070 rfl ?_
  refine gn_iload_n C dL_law_1071 rfl ?_
  refine gn_iconst C (nI 1) dL_law_1072 rfl ?_
  refine gn_iaddN C dL_law_1073 ?_
  refine gn_sld C S (show i + 1 < L by omega) (by omega) dL_law_1074 ?_
  refine gn_aload_n C dL_law_1075 rfl ?_
  refine gn_iload_n C dL_law_1076 rfl ?_
  refine gn_iconst C (nI 2) dL_law_1077 rfl ?_
  refine gn_iaddN C dL_law_1078 ?_
  refine gn_sld C S (show i + 2 < L by omega) (by omega) dL_law_1079 ?_
  refine gn_aload_n C dL_law_1080 rfl ?_
  refine gn_iload_n C dL_law_1081 rfl ?_
  refine gn_iconst C (nI 3) dL_law_1082 rfl ?_
  refine gn_iaddN C dL_law_1083 ?_
  refine gn_sld C S (show i + 3 < L by omega) (by omega) dL_law_1084 ?_
  refine gn_aload_n C dL_law_1085 rfl ?_
  refine gn_iload_n C dL_law_1086 rfl ?_
  refine gn_iconst C (nI 4) dL_law_1087 rfl ?_
  refine gn_iaddN C dL_law_1088 ?_
  refine gn_sld C S (show i + 4 < L by omega) (by omega) dL_law_1089 ?_
  refine gn_aload_n C dL_law_1090 rfl ?_
  refine gn_iload_n C dL_law_1091 rfl ?_
  refine gn_iconst C (nI 5) dL_law_1092 rfl ?_
  refine gn_iaddN C dL_law_1093 ?_
  refine gn_sld C S (show i + 5 < L by omega) (by omega) dL_law_1094 ?_
  refine gn_cI C (w1 := WS objC NC ac (nxC X) σ1) (w2 := []) rfl ok_X7_needed lk_L_119 dL_law_1095 (by decide) rfl rfl rfl (k_X7_needed hRM (xs (i + 1)) (xs (i + 2)) (xs (i + 3)) (xs (i + 4)) (xs (i + 5))) rfl ⟨(Nat.le_of_ble_eq_true rfl), (Nat.le_of_ble_eq_true rfl)⟩ hk hn (Nat.le_of_ble_eq_true rfl) rfl (fun r2 τ1 h2 => ?_)
  exact gn_icmp_eq C 1430 dL_law_1098 (by decide) (fun _ => kk _ σ1 τ1 h1.2 h2.2) (fun hne => absurd (h1.1.trans h2.1.symm) hne)
set_option maxHeartbeats 4000000 in
theorem law_c25 (C : OkN cL_law 4 "LightPropagatorLaw" room_1 X) (S : NxS b L xs X) (hi : i + 7 ≤ L) (hL : L ≤ 3584) (hRC : RepC σ S0) (hRM : RepM τ S0) (hk : k ≤ room_1.cells) (hn : n ≤ room_1.slots) (kk : ∀ (S1 : St) (σ1 τ1 : Mem), RepC σ1 S1 → RepM τ1 S1 → Gn X 1430 [some (.ref b), some (.ref (ac 0)), some (.ref (am 0)), some (.int (nI i))] [] (LWd (nxC X) ac am σ1 τ1) k n) : Gn X 1103 [some (.ref b), some (.ref (ac 0)), some (.ref (am 0)), some (.int (nI i))] [] (LWd (nxC X) ac am σ τ) k n := by
  refine gn_aload_n C dL_law_1103 rfl ?_
  refine gn_aload_n C dL_law_1104 rfl ?_
  refine gn_iload_n C dL_law_1105 rfl ?_
  refine gn_iconst C (nI 1) dL_law_1106 rfl ?_
  refine gn_iaddN C dL_law_1107 ?_
  refine gn_sld C S (show i + 1 < L by omega) (by omega) dL_law_1108 ?_
  refine gn_aload_n C dL_law_1109 rfl ?_
  refine gn_iload_n C dL_law_1110 rfl ?_
  refine gn_iconst C (nI 2) dL_law_1111 rfl ?_
  refine gn_iaddN C dL_law_1112 ?_
  refine gn_sld C S (show i + 2 < L by omega) (by omega) dL_law_1113 ?_
  refine gn_cI C (w1 := []) (w2 := WS objM NM am (nxC X) τ ++ []) rfl ok_X6_chunkSum lk_L_120 dL_law_1114 (by decide) rfl rfl rfl (k_X6_chunkSum hRC (xs (i + 1)) (xs (i + 2))) rfl ⟨(Nat.le_of_ble_eq_true rfl), (Nat.le_of_ble_eq_true rfl)⟩ hk hn (Nat.le_of_ble_eq_true rfl) rfl (fun r1 σ1 h1 => ?_)
  refine gn_aload_n C dL_law_1117 rfl ?_
  refine gn_aload_n C dL_law_1118 rfl ?_
  refine gn_iload_n C dL_law_1119 rfl ?_
  refine gn_iconst C (nI 1) dL_law_1120 rfl ?_
  refine gn_iaddN C dL_law_1121 ?_
  refine gn_sld C S (show i + 1 < L by omega) (by omega) dL_law_1122 ?_
  refine gn_aload_n C dL_law_1123 rfl ?_
  refine gn_iload_n C dL_law_1124 rfl ?_
  refine gn_iconst C (nI 2) dL_law_1125 rfl ?_
  refine gn_iaddN C dL_law_1126 ?_
  refine gn_sld C S (show i + 2 < L by omega) (by omega) dL_law_1127 ?_
  refine gn_cI C (w1 := WS objC NC ac (nxC X) σ1) (w2 := []) rfl ok_X7_chunkSum lk_L_123 dL_law_1128 (by decide) rfl rfl rfl (k_X7_chunkSum hRM (xs (i + 1)) (xs (i + 2))) rfl ⟨(Nat.le_of_ble_eq_true rfl), (Nat.le_of_ble_eq_true rfl)⟩ hk hn (Nat.le_of_ble_eq_true rfl) rfl (fun r2 τ1 h2 => ?_)
  exact gn_icmp_eq C 1430 dL_law_1131 (by decide) (fun _ => kk _ σ1 τ1 h1.2 h2.2) (fun hne => absurd (h1.1.trans h2.1.symm) hne)
set_option maxHeartbeats 4000000 in
theorem law_c26 (C : OkN cL_law 4 "LightPropagatorLaw" room_1 X) (S : NxS b L xs X) (hi : i + 7 ≤ L) (hL : L ≤ 3584) (hRC : RepC σ S0) (hRM : RepM τ S0) (hk : k ≤ room_1.cells) (hn : n ≤ room_1.slots) (kk : ∀ (S1 : St) (σ1 τ1 : Mem), RepC σ1 S1 → RepM τ1 S1 → Gn X 1430 [some (.ref b), some (.ref (ac 0)), some (.ref (am 0)), some (.int (nI i))] [] (LWd (nxC X) ac am σ1 τ1) k n) : Gn X 1136 [some (.ref b), some (.ref (ac 0)), some (.ref (am 0)), some (.int (nI i))] [] (LWd (nxC X) ac am σ τ) k n := by
  refine gn_aload_n C dL_law_1136 rfl ?_
  refine gn_aload_n C dL_law_1137 rfl ?_
  refine gn_iload_n C dL_law_1138 rfl ?_
  refine gn_iconst C (nI 1) dL_law_1139 rfl ?_
  refine gn_iaddN C dL_law_1140 ?_
  refine gn_sld C S (show i + 1 < L by omega) (by omega) dL_law_1141 ?_
  refine gn_aload_n C dL_law_1142 rfl ?_
  refine gn_iload_n C dL_law_1143 rfl ?_
  refine gn_iconst C (nI 2) dL_law_1144 rfl ?_
  refine gn_iaddN C dL_law_1145 ?_
  refine gn_sld C S (show i + 2 < L by omega) (by omega) dL_law_1146 ?_
  refine gn_aload_n C dL_law_1147 rfl ?_
  refine gn_iload_n C dL_law_1148 rfl ?_
  refine gn_iconst C (nI 3) dL_law_1149 rfl ?_
  refine gn_iaddN C dL_law_1150 ?_
  refine gn_sld C S (show i + 3 < L by omega) (by omega) dL_law_1151 ?_
  refine gn_cI C (w1 := []) (w2 := WS objM NM am (nxC X) τ ++ []) rfl ok_X6_crossings lk_L_124 dL_law_1152 (by decide) rfl rfl rfl (k_X6_crossings hRC (xs (i + 1)) (xs (i + 2)) (xs (i + 3))) rfl ⟨(Nat.le_of_ble_eq_true rfl), (Nat.le_of_ble_eq_true rfl)⟩ hk hn (Nat.le_of_ble_eq_true rfl) rfl (fun r1 σ1 h1 => ?_)
  refine gn_aload_n C dL_law_1155 rfl ?_
  refine gn_aload_n C dL_law_1156 rfl ?_
  refine gn_iload_n C dL_law_1157 rfl ?_
  refine gn_iconst C (nI 1) dL_law_1158 rfl ?_
  refine gn_iaddN C dL_law_1159 ?_
  refine gn_sld C S (show i + 1 < L by omega) (by omega) dL_law_1160 ?_
  refine gn_aload_n C dL_law_1161 rfl ?_
  refine gn_iload_n C dL_law_1162 rfl ?_
  refine gn_iconst C (nI 2) dL_law_1163 rfl ?_
  refine gn_iaddN C dL_law_1164 ?_
  refine gn_sld C S (show i + 2 < L by omega) (by omega) dL_law_1165 ?_
  refine gn_aload_n C dL_law_1166 rfl ?_
  refine gn_iload_n C dL_law_1167 rfl ?_
  refine gn_iconst C (nI 3) dL_law_1168 rfl ?_
  refine gn_iaddN C dL_law_1169 ?_
  refine gn_sld C S (show i + 3 < L by omega) (by omega) dL_law_1170 ?_
  refine gn_cI C (w1 := WS objC NC ac (nxC X) σ1) (w2 := []) rfl ok_X7_crossings lk_L_127 dL_law_1171 (by decide) rfl rfl rfl (k_X7_crossings hRM (xs (i + 1)) (xs (i + 2)) (xs (i + 3))) rfl ⟨(Nat.le_of_ble_eq_true rfl), (Nat.le_of_ble_eq_true rfl)⟩ hk hn (Nat.le_of_ble_eq_true rfl) rfl (fun r2 τ1 h2 => ?_)
  exact gn_icmp_eq C 1430 dL_law_1174 (by decide) (fun _ => kk _ σ1 τ1 h1.2 h2.2) (fun hne => absurd (h1.1.trans h2.1.symm) hne)
set_option maxHeartbeats 4000000 in
theorem law_c27 (C : OkN cL_law 4 "LightPropagatorLaw" room_1 X) (S : NxS b L xs X) (hi : i + 7 ≤ L) (hL : L ≤ 3584) (hRC : RepC σ S0) (hRM : RepM τ S0) (hk : k ≤ room_1.cells) (hn : n ≤ room_1.slots) (kk : ∀ (S1 : St) (σ1 τ1 : Mem), RepC σ1 S1 → RepM τ1 S1 → Gn X 1430 [some (.ref b), some (.ref (ac 0)), some (.ref (am 0)), some (.int (nI i))] [] (LWd (nxC X) ac am σ1 τ1) k n) : Gn X 1179 [some (.ref b), some (.ref (ac 0)), some (.ref (am 0)), some (.int (nI i))] [] (LWd (nxC X) ac am σ τ) k n := by
  refine gn_aload_n C dL_law_1179 rfl ?_
  refine gn_aload_n C dL_law_1180 rfl ?_
  refine gn_iload_n C dL_law_1181 rfl ?_
  refine gn_iconst C (nI 1) dL_law_1182 rfl ?_
  refine gn_iaddN C dL_law_1183 ?_
  refine gn_sld C S (show i + 1 < L by omega) (by omega) dL_law_1184 ?_
  refine gn_cI C (w1 := []) (w2 := WS objM NM am (nxC X) τ ++ []) rfl ok_X6_dark lk_L_128 dL_law_1185 (by decide) rfl rfl rfl (k_X6_dark hRC (xs (i + 1))) rfl ⟨(Nat.le_of_ble_eq_true rfl), (Nat.le_of_ble_eq_true rfl)⟩ hk hn (Nat.le_of_ble_eq_true rfl) rfl (fun r1 σ1 h1 => ?_)
  refine gn_aload_n C dL_law_1188 rfl ?_
  refine gn_aload_n C dL_law_1189 rfl ?_
  refine gn_iload_n C dL_law_1190 rfl ?_
  refine gn_iconst C (nI 1) dL_law_1191 rfl ?_
  refine gn_iaddN C dL_law_1192 ?_
  refine gn_sld C S (show i + 1 < L by omega) (by omega) dL_law_1193 ?_
  refine gn_cI C (w1 := WS objC NC ac (nxC X) σ1) (w2 := []) rfl ok_X7_dark lk_L_131 dL_law_1194 (by decide) rfl rfl rfl (k_X7_dark hRM (xs (i + 1))) rfl ⟨(Nat.le_of_ble_eq_true rfl), (Nat.le_of_ble_eq_true rfl)⟩ hk hn (Nat.le_of_ble_eq_true rfl) rfl (fun r2 τ1 h2 => ?_)
  exact gn_icmp_eq C 1430 dL_law_1197 (by decide) (fun _ => kk _ σ1 τ1 h1.2 h2.2) (fun hne => absurd (h1.1.trans h2.1.symm) hne)
set_option maxHeartbeats 4000000 in
theorem law_c28 (C : OkN cL_law 4 "LightPropagatorLaw" room_1 X) (S : NxS b L xs X) (hi : i + 7 ≤ L) (hL : L ≤ 3584) (hRC : RepC σ S0) (hRM : RepM τ S0) (hk : k ≤ room_1.cells) (hn : n ≤ room_1.slots) (kk : ∀ (S1 : St) (σ1 τ1 : Mem), RepC σ1 S1 → RepM τ1 S1 → Gn X 1430 [some (.ref b), some (.ref (ac 0)), some (.ref (am 0)), some (.int (nI i))] [] (LWd (nxC X) ac am σ1 τ1) k n) : Gn X 1202 [some (.ref b), some (.ref (ac 0)), some (.ref (am 0)), some (.int (nI i))] [] (LWd (nxC X) ac am σ τ) k n := by
  refine gn_aload_n C dL_law_1202 rfl ?_
  refine gn_aload_n C dL_law_1203 rfl ?_
  refine gn_iload_n C dL_law_1204 rfl ?_
  refine gn_iconst C (nI 1) dL_law_1205 rfl ?_
  refine gn_iaddN C dL_law_1206 ?_
  refine gn_sld C S (show i + 1 < L by omega) (by omega) dL_law_1207 ?_
  refine gn_aload_n C dL_law_1208 rfl ?_
  refine gn_iload_n C dL_law_1209 rfl ?_
  refine gn_iconst C (nI 2) dL_law_1210 rfl ?_
  refine gn_iaddN C dL_law_1211 ?_
  refine gn_sld C S (show i + 2 < L by omega) (by omega) dL_law_1212 ?_
  refine gn_cI C (w1 := []) (w2 := WS objM NM am (nxC X) τ ++ []) rfl ok_X6_skyHeight lk_L_132 dL_law_1213 (by decide) rfl rfl rfl (k_X6_skyHeight hRC (xs (i + 1)) (xs (i + 2))) rfl ⟨(Nat.le_of_ble_eq_true rfl), (Nat.le_of_ble_eq_true rfl)⟩ hk hn (Nat.le_of_ble_eq_true rfl) rfl (fun r1 σ1 h1 => ?_)
  refine gn_aload_n C dL_law_1216 rfl ?_
  refine gn_aload_n C dL_law_1217 rfl ?_
  refine gn_iload_n C dL_law_1218 rfl ?_
  refine gn_iconst C (nI 1) dL_law_1219 rfl ?_
  refine gn_iaddN C dL_law_1220 ?_
  refine gn_sld C S (show i + 1 < L by omega) (by omega) dL_law_1221 ?_
  refine gn_aload_n C dL_law_1222 rfl ?_
  refine gn_iload_n C dL_law_1223 rfl ?_
  refine gn_iconst C (nI 2) dL_law_1224 rfl ?_
  refine gn_iaddN C dL_law_1225 ?_
  refine gn_sld C S (show i + 2 < L by omega) (by omega) dL_law_1226 ?_
  refine gn_cI C (w1 := WS objC NC ac (nxC X) σ1) (w2 := []) rfl ok_X7_skyHeight lk_L_135 dL_law_1227 (by decide) rfl rfl rfl (k_X7_skyHeight hRM (xs (i + 1)) (xs (i + 2))) rfl ⟨(Nat.le_of_ble_eq_true rfl), (Nat.le_of_ble_eq_true rfl)⟩ hk hn (Nat.le_of_ble_eq_true rfl) rfl (fun r2 τ1 h2 => ?_)
  exact gn_icmp_eq C 1430 dL_law_1230 (by decide) (fun _ => kk _ σ1 τ1 h1.2 h2.2) (fun hne => absurd (h1.1.trans h2.1.symm) hne)
set_option maxHeartbeats 4000000 in
theorem law_c29 (C : OkN cL_law 4 "LightPropagatorLaw" room_1 X) (S : NxS b L xs X) (hi : i + 7 ≤ L) (hL : L ≤ 3584) (hRC : RepC σ S0) (hRM : RepM τ S0) (hk : k ≤ room_1.cells) (hn : n ≤ room_1.slots) (kk : ∀ (S1 : St) (σ1 τ1 : Mem), RepC σ1 S1 → RepM τ1 S1 → Gn X 1430 [some (.ref b), some (.ref (ac 0)), some (.ref (am 0)), some (.int (nI i))] [] (LWd (nxC X) ac am σ1 τ1) k n) : Gn X 1235 [some (.ref b), some (.ref (ac 0)), some (.ref (am 0)), some (.int (nI i))] [] (LWd (nxC X) ac am σ τ) k n := by
  refine gn_aload_n C dL_law_1235 rfl ?_
  refine gn_aload_n C dL_law_1236 rfl ?_
  refine gn_iload_n C dL_law_1237 rfl ?_
  refine gn_iconst C (nI 1) dL_law_1238 rfl ?_
  refine gn_iaddN C dL_law_1239 ?_
  refine gn_sld C S (show i + 1 < L by omega) (by omega) dL_law_1240 ?_
  refine gn_aload_n C dL_law_1241 rfl ?_
  refine gn_iload_n C dL_law_1242 rfl ?_
  refine gn_iconst C (nI 2) dL_law_1243 rfl ?_
  refine gn_iaddN C dL_law_1244 ?_
  refine gn_sld C S (show i + 2 < L by omega) (by omega) dL_law_1245 ?_
  refine gn_aload_n C dL_law_1246 rfl ?_
  refine gn_iload_n C dL_law_1247 rfl ?_
  refine gn_iconst C (nI 3) dL_law_1248 rfl ?_
  refine gn_iaddN C dL_law_1249 ?_
  refine gn_sld C S (show i + 3 < L by omega) (by omega) dL_law_1250 ?_
  refine gn_aload_n C dL_law_1251 rfl ?_
  refine gn_iload_n C dL_law_1252 rfl ?_
  refine gn_iconst C (nI 4) dL_law_1253 rfl ?_
  refine gn_iaddN C dL_law_1254 ?_
  refine gn_sld C S (show i + 4 < L by omega) (by omega) dL_law_1255 ?_
  refine gn_aload_n C dL_law_1256 rfl ?_
  refine gn_iload_n C dL_law_1257 rfl ?_
  refine gn_iconst C (nI 5) dL_law_1258 rfl ?_
  refine gn_iaddN C dL_law_1259 ?_
  refine gn_sld C S (show i + 5 < L by omega) (by omega) dL_law_1260 ?_
  refine gn_cI C (w1 := []) (w2 := WS objM NM am (nxC X) τ ++ []) rfl ok_X6_ray lk_L_136 dL_law_1261 (by decide) rfl rfl rfl (k_X6_ray hRC (xs (i + 1)) (xs (i + 2)) (xs (i + 3)) (xs (i + 4)) (xs (i + 5))) rfl ⟨(Nat.le_of_ble_eq_true rfl), (Nat.le_of_ble_eq_true rfl)⟩ hk hn (Nat.le_of_ble_eq_true rfl) rfl (fun r1 σ1 h1 => ?_)
  refine gn_aload_n C dL_law_1264 rfl ?_
  refine gn_aload_n C dL_law_1265 rfl ?_
  refine gn_iload_n C dL_law_1266 rfl ?_
  refine gn_iconst C (nI 1) dL_law_1267 rfl ?_
  refine gn_iaddN C dL_law_1268 ?_
  refine gn_sld C S (show i + 1 < L by omega) (by omega) dL_law_1269 ?_
  refine gn_aload_n C dL_law_1270 rfl ?_
  refine gn_iload_n C dL_law_1271 rfl ?_
  refine gn_iconst C (nI 2) dL_law_1272 rfl ?_
  refine gn_iaddN C dL_law_1273 ?_
  refine gn_sld C S (show i + 2 < L by omega) (by omega) dL_law_1274 ?_
  refine gn_aload_n C dL_law_1275 rfl ?_
  refine gn_iload_n C dL_law_1276 rfl ?_
  refine gn_iconst C (nI 3) dL_law_1277 rfl ?_
  refine gn_iaddN C dL_law_1278 ?_
  refine gn_sld C S (show i + 3 < L by omega) (by omega) dL_law_1279 ?_
  refine gn_aload_n C dL_law_1280 rfl ?_
  refine gn_iload_n C dL_law_1281 rfl ?_
  refine gn_iconst C (nI 4) dL_law_1282 rfl ?_
  refine gn_iaddN C dL_law_1283 ?_
  refine gn_sld C S (show i + 4 < L by omega) (by omega) dL_law_1284 ?_
  refine gn_aload_n C dL_law_1285 rfl ?_
  refine gn_iload_n C dL_law_1286 rfl ?_
  refine gn_iconst C (nI 5) dL_law_1287 rfl ?_
  refine gn_iaddN C dL_law_1288 ?_
  refine gn_sld C S (show i + 5 < L by omega) (by omega) dL_law_1289 ?_
  refine gn_cI C (w1 := WS objC NC ac (nxC X) σ1) (w2 := []) rfl ok_X7_ray lk_L_139 dL_law_1290 (by decide) rfl rfl rfl (k_X7_ray hRM (xs (i + 1)) (xs (i + 2)) (xs (i + 3)) (xs (i + 4)) (xs (i + 5))) rfl ⟨(Nat.le_of_ble_eq_true rfl), (Nat.le_of_ble_eq_true rfl)⟩ hk hn (Nat.le_of_ble_eq_true rfl) rfl (fun r2 τ1 h2 => ?_)
  exact gn_icmp_eq C 1430 dL_law_1293 (by decide) (fun _ => kk _ σ1 τ1 h1.2 h2.2) (fun hne => absurd (h1.1.trans h2.1.symm) hne)
set_option maxHeartbeats 4000000 in
theorem law_c30 (C : OkN cL_law 4 "LightPropagatorLaw" room_1 X) (S : NxS b L xs X) (hi : i + 7 ≤ L) (hL : L ≤ 3584) (hRC : RepC σ S0) (hRM : RepM τ S0) (hk : k ≤ room_1.cells) (hn : n ≤ room_1.slots) (kk : ∀ (S1 : St) (σ1 τ1 : Mem), RepC σ1 S1 → RepM τ1 S1 → Gn X 1430 [some (.ref b), some (.ref (ac 0)), some (.ref (am 0)), some (.int (nI i))] [] (LWd (nxC X) ac am σ1 τ1) k n) : Gn X 1298 [some (.ref b), some (.ref (ac 0)), some (.ref (am 0)), some (.int (nI i))] [] (LWd (nxC X) ac am σ τ) k n := by
  refine gn_aload_n C dL_law_1298 rfl ?_
  refine gn_aload_n C dL_law_1299 rfl ?_
  refine gn_iload_n C dL_law_1300 rfl ?_
  refine gn_iconst C (nI 1) dL_law_1301 rfl ?_
  refine gn_iaddN C dL_law_1302 ?_
  refine gn_sld C S (show i + 1 < L by omega) (by omega) dL_law_1303 ?_
  refine gn_cI C (w1 := []) (w2 := WS objM NM am (nxC X) τ ++ []) rfl ok_X6_brightest lk_L_140 dL_law_1304 (by decide) rfl rfl rfl (k_X6_brightest hRC (xs (i + 1))) rfl ⟨(Nat.le_of_ble_eq_true rfl), (Nat.le_of_ble_eq_true rfl)⟩ hk hn (Nat.le_of_ble_eq_true rfl) rfl (fun r1 σ1 h1 => ?_)
  refine gn_aload_n C dL_law_1307 rfl ?_
  refine gn_aload_n C dL_law_1308 rfl ?_
  refine gn_iload_n C dL_law_1309 rfl ?_
  refine gn_iconst C (nI 1) dL_law_1310 rfl ?_
  refine gn_iaddN C dL_law_1311 ?_
  refine gn_sld C S (show i + 1 < L by omega) (by omega) dL_law_1312 ?_
  refine gn_cI C (w1 := WS objC NC ac (nxC X) σ1) (w2 := []) rfl ok_X7_brightest lk_L_143 dL_law_1313 (by decide) rfl rfl rfl (k_X7_brightest hRM (xs (i + 1))) rfl ⟨(Nat.le_of_ble_eq_true rfl), (Nat.le_of_ble_eq_true rfl)⟩ hk hn (Nat.le_of_ble_eq_true rfl) rfl (fun r2 τ1 h2 => ?_)
  exact gn_icmp_eq C 1430 dL_law_1316 (by decide) (fun _ => kk _ σ1 τ1 h1.2 h2.2) (fun hne => absurd (h1.1.trans h2.1.symm) hne)
set_option maxHeartbeats 4000000 in
theorem law_c31 (C : OkN cL_law 4 "LightPropagatorLaw" room_1 X) (S : NxS b L xs X) (hi : i + 7 ≤ L) (hL : L ≤ 3584) (hRC : RepC σ S0) (hRM : RepM τ S0) (hk : k ≤ room_1.cells) (hn : n ≤ room_1.slots) (kk : ∀ (S1 : St) (σ1 τ1 : Mem), RepC σ1 S1 → RepM τ1 S1 → Gn X 1430 [some (.ref b), some (.ref (ac 0)), some (.ref (am 0)), some (.int (nI i))] [] (LWd (nxC X) ac am σ1 τ1) k n) : Gn X 1321 [some (.ref b), some (.ref (ac 0)), some (.ref (am 0)), some (.int (nI i))] [] (LWd (nxC X) ac am σ τ) k n := by
  refine gn_aload_n C dL_law_1321 rfl ?_
  refine gn_aload_n C dL_law_1322 rfl ?_
  refine gn_iload_n C dL_law_1323 rfl ?_
  refine gn_iconst C (nI 1) dL_law_1324 rfl ?_
  refine gn_iaddN C dL_law_1325 ?_
  refine gn_sld C S (show i + 1 < L by omega) (by omega) dL_law_1326 ?_
  refine gn_cI C (w1 := []) (w2 := WS objM NM am (nxC X) τ ++ []) rfl ok_X6_regions lk_L_144 dL_law_1327 (by decide) rfl rfl rfl (k_X6_regions hRC (xs (i + 1))) rfl ⟨(Nat.le_of_ble_eq_true rfl), (Nat.le_of_ble_eq_true rfl)⟩ hk hn (Nat.le_of_ble_eq_true rfl) rfl (fun r1 σ1 h1 => ?_)
  refine gn_aload_n C dL_law_1330 rfl ?_
  refine gn_aload_n C dL_law_1331 rfl ?_
  refine gn_iload_n C dL_law_1332 rfl ?_
  refine gn_iconst C (nI 1) dL_law_1333 rfl ?_
  refine gn_iaddN C dL_law_1334 ?_
  refine gn_sld C S (show i + 1 < L by omega) (by omega) dL_law_1335 ?_
  refine gn_cI C (w1 := WS objC NC ac (nxC X) σ1) (w2 := []) rfl ok_X7_regions lk_L_147 dL_law_1336 (by decide) rfl rfl rfl (k_X7_regions hRM (xs (i + 1))) rfl ⟨(Nat.le_of_ble_eq_true rfl), (Nat.le_of_ble_eq_true rfl)⟩ hk hn (Nat.le_of_ble_eq_true rfl) rfl (fun r2 τ1 h2 => ?_)
  exact gn_icmp_eq C 1430 dL_law_1339 (by decide) (fun _ => kk _ σ1 τ1 h1.2 h2.2) (fun hne => absurd (h1.1.trans h2.1.symm) hne)
set_option maxHeartbeats 4000000 in
theorem law_c32 (C : OkN cL_law 4 "LightPropagatorLaw" room_1 X) (S : NxS b L xs X) (hi : i + 7 ≤ L) (hL : L ≤ 3584) (hRC : RepC σ S0) (hRM : RepM τ S0) (hk : k ≤ room_1.cells) (hn : n ≤ room_1.slots) (kk : ∀ (S1 : St) (σ1 τ1 : Mem), RepC σ1 S1 → RepM τ1 S1 → Gn X 1430 [some (.ref b), some (.ref (ac 0)), some (.ref (am 0)), some (.int (nI i))] [] (LWd (nxC X) ac am σ1 τ1) k n) : Gn X 1344 [some (.ref b), some (.ref (ac 0)), some (.ref (am 0)), some (.int (nI i))] [] (LWd (nxC X) ac am σ τ) k n := by
  refine gn_aload_n C dL_law_1344 rfl ?_
  refine gn_cI C (w1 := []) (w2 := WS objM NM am (nxC X) τ ++ []) rfl ok_X6_isConsistent lk_L_148 dL_law_1345 (by decide) rfl rfl rfl (k_X6_isConsistent hRC) rfl ⟨(Nat.le_of_ble_eq_true rfl), (Nat.le_of_ble_eq_true rfl)⟩ hk hn (Nat.le_of_ble_eq_true rfl) rfl (fun r1 σ1 h1 => ?_)
  refine gn_aload_n C dL_law_1348 rfl ?_
  refine gn_cI C (w1 := WS objC NC ac (nxC X) σ1) (w2 := []) rfl ok_X7_isConsistent lk_L_151 dL_law_1349 (by decide) rfl rfl rfl (k_X7_isConsistent hRM) rfl ⟨(Nat.le_of_ble_eq_true rfl), (Nat.le_of_ble_eq_true rfl)⟩ hk hn (Nat.le_of_ble_eq_true rfl) rfl (fun r2 τ1 h2 => ?_)
  exact gn_icmp_eq C 1430 dL_law_1352 (by decide) (fun _ => kk _ σ1 τ1 h1.2 h2.2) (fun hne => absurd (h1.1.trans h2.1.symm) hne)
set_option maxHeartbeats 4000000 in
theorem law_c33 (C : OkN cL_law 4 "LightPropagatorLaw" room_1 X) (S : NxS b L xs X) (hi : i + 7 ≤ L) (hL : L ≤ 3584) (hRC : RepC σ S0) (hRM : RepM τ S0) (hk : k ≤ room_1.cells) (hn : n ≤ room_1.slots) (kk : ∀ (S1 : St) (σ1 τ1 : Mem), RepC σ1 S1 → RepM τ1 S1 → Gn X 1430 [some (.ref b), some (.ref (ac 0)), some (.ref (am 0)), some (.int (nI i))] [] (LWd (nxC X) ac am σ1 τ1) k n) : Gn X 1357 [some (.ref b), some (.ref (ac 0)), some (.ref (am 0)), some (.int (nI i))] [] (LWd (nxC X) ac am σ τ) k n := by
  refine gn_aload_n C dL_law_1357 rfl ?_
  refine gn_aload_n C dL_law_1358 rfl ?_
  refine gn_iload_n C dL_law_1359 rfl ?_
  refine gn_iconst C (nI 1) dL_law_1360 rfl ?_
  refine gn_iaddN C dL_law_1361 ?_
  refine gn_sld C S (show i + 1 < L by omega) (by omega) dL_law_1362 ?_
  refine gn_aload_n C dL_law_1363 rfl ?_
  refine gn_iload_n C dL_law_1364 rfl ?_
  refine gn_iconst C (nI 2) dL_law_1365 rfl ?_
  refine gn_iaddN C dL_law_1366 ?_
  refine gn_sld C S (show i + 2 < L by omega) (by omega) dL_law_1367 ?_
  refine gn_cI C (w1 := []) (w2 := WS objM NM am (nxC X) τ ++ []) rfl ok_X6_histogram lk_L_152 dL_law_1368 (by decide) rfl rfl rfl (k_X6_histogram hRC (xs (i + 1)) (xs (i + 2))) rfl ⟨(Nat.le_of_ble_eq_true rfl), (Nat.le_of_ble_eq_true rfl)⟩ hk hn (Nat.le_of_ble_eq_true rfl) rfl (fun r1 σ1 h1 => ?_)
  refine gn_aload_n C dL_law_1371 rfl ?_
  refine gn_aload_n C dL_law_1372 rfl ?_
  refine gn_iload_n C dL_law_1373 rfl ?_
  refine gn_iconst C (nI 1) dL_law_1374 rfl ?_
  refine gn_iaddN C dL_law_1375 ?_
  refine gn_sld C S (show i + 1 < L by omega) (by omega) dL_law_1376 ?_
  refine gn_aload_n C dL_law_1377 rfl ?_
  refine gn_iload_n C dL_law_1378 rfl ?_
  refine gn_iconst C (nI 2) dL_law_1379 rfl ?_
  refine gn_iaddN C dL_law_1380 ?_
  refine gn_sld C S (show i + 2 < L by omega) (by omega) dL_law_1381 ?_
  refine gn_cI C (w1 := WS objC NC ac (nxC X) σ1) (w2 := []) rfl ok_X7_histogram lk_L_155 dL_law_1382 (by decide) rfl rfl rfl (k_X7_histogram hRM (xs (i + 1)) (xs (i + 2))) rfl ⟨(Nat.le_of_ble_eq_true rfl), (Nat.le_of_ble_eq_true rfl)⟩ hk hn (Nat.le_of_ble_eq_true rfl) rfl (fun r2 τ1 h2 => ?_)
  exact gn_icmp_eq C 1430 dL_law_1385 (by decide) (fun _ => kk _ σ1 τ1 h1.2 h2.2) (fun hne => absurd (h1.1.trans h2.1.symm) hne)
set_option maxHeartbeats 4000000 in
theorem law_c34 (C : OkN cL_law 4 "LightPropagatorLaw" room_1 X) (S : NxS b L xs X) (hi : i + 7 ≤ L) (hL : L ≤ 3584) (hRC : RepC σ S0) (hRM : RepM τ S0) (hk : k ≤ room_1.cells) (hn : n ≤ room_1.slots) (kk : ∀ (S1 : St) (σ1 τ1 : Mem), RepC σ1 S1 → RepM τ1 S1 → Gn X 1430 [some (.ref b), some (.ref (ac 0)), some (.ref (am 0)), some (.int (nI i))] [] (LWd (nxC X) ac am σ1 τ1) k n) : Gn X 1390 [some (.ref b), some (.ref (ac 0)), some (.ref (am 0)), some (.int (nI i))] [] (LWd (nxC X) ac am σ τ) k n := by
  refine gn_aload_n C dL_law_1390 rfl ?_
  refine gn_cL C (w1 := []) (w2 := WS objM NM am (nxC X) τ ++ []) rfl ok_X6_checksum lk_L_156 dL_law_1391 (by decide) rfl rfl rfl (k_X6_checksum hRC) rfl ⟨(Nat.le_of_ble_eq_true rfl), (Nat.le_of_ble_eq_true rfl)⟩ hk hn (Nat.le_of_ble_eq_true rfl) rfl (fun r1 σ1 h1 => ?_)
  refine gn_aload_n C dL_law_1394 rfl ?_
  refine gn_cL C (w1 := WS objC NC ac (nxC X) σ1) (w2 := []) rfl ok_X7_checksum lk_L_160 dL_law_1395 (by decide) rfl rfl rfl (k_X7_checksum hRM) rfl ⟨(Nat.le_of_ble_eq_true rfl), (Nat.le_of_ble_eq_true rfl)⟩ hk hn (Nat.le_of_ble_eq_true rfl) rfl (fun r2 τ1 h2 => ?_)
  refine gn_lcmp C dL_law_1398 ?_
  exact gn_if_eq C 1430 dL_law_1399 (by decide) (fun _ => kk _ σ1 τ1 h1.2 h2.2) (fun hne => absurd (cmp_0 (h1.1.trans h2.1.symm)) hne)
set_option maxHeartbeats 4000000 in
theorem law_c35 (C : OkN cL_law 4 "LightPropagatorLaw" room_1 X) (S : NxS b L xs X) (hi : i + 7 ≤ L) (hL : L ≤ 3584) (hRC : RepC σ S0) (hRM : RepM τ S0) (hk : k ≤ room_1.cells) (hn : n ≤ room_1.slots) (kk : ∀ (S1 : St) (σ1 τ1 : Mem), RepC σ1 S1 → RepM τ1 S1 → Gn X 1430 [some (.ref b), some (.ref (ac 0)), some (.ref (am 0)), some (.int (nI i))] [] (LWd (nxC X) ac am σ1 τ1) k n) : Gn X 1404 [some (.ref b), some (.ref (ac 0)), some (.ref (am 0)), some (.int (nI i))] [] (LWd (nxC X) ac am σ τ) k n := by
  refine gn_aload_n C dL_law_1404 rfl ?_
  refine gn_cI C (w1 := []) (w2 := WS objM NM am (nxC X) τ ++ []) rfl ok_X6_save lk_L_161 dL_law_1405 (by decide) rfl rfl rfl (k_X6_save hRC) rfl ⟨(Nat.le_of_ble_eq_true rfl), (Nat.le_of_ble_eq_true rfl)⟩ hk hn (Nat.le_of_ble_eq_true rfl) rfl (fun r1 σ1 h1 => ?_)
  refine gn_aload_n C dL_law_1408 rfl ?_
  refine gn_cI C (w1 := WS objC NC ac (nxC X) σ1) (w2 := []) rfl ok_X7_save lk_L_164 dL_law_1409 (by decide) rfl rfl rfl (k_X7_save hRM) rfl ⟨(Nat.le_of_ble_eq_true rfl), (Nat.le_of_ble_eq_true rfl)⟩ hk hn (Nat.le_of_ble_eq_true rfl) rfl (fun r2 τ1 h2 => ?_)
  exact gn_icmp_eq C 1430 dL_law_1412 (by decide) (fun _ => kk _ σ1 τ1 h1.2 h2.2) (fun hne => absurd (h1.1.trans h2.1.symm) hne)
set_option maxHeartbeats 4000000 in
theorem law_c36 (C : OkN cL_law 4 "LightPropagatorLaw" room_1 X) (S : NxS b L xs X) (hi : i + 7 ≤ L) (hL : L ≤ 3584) (hRC : RepC σ S0) (hRM : RepM τ S0) (hk : k ≤ room_1.cells) (hn : n ≤ room_1.slots) (kk : ∀ (S1 : St) (σ1 τ1 : Mem), RepC σ1 S1 → RepM τ1 S1 → Gn X 1430 [some (.ref b), some (.ref (ac 0)), some (.ref (am 0)), some (.int (nI i))] [] (LWd (nxC X) ac am σ1 τ1) k n) : Gn X 1417 [some (.ref b), some (.ref (ac 0)), some (.ref (am 0)), some (.int (nI i))] [] (LWd (nxC X) ac am σ τ) k n := by
  refine gn_aload_n C dL_law_1417 rfl ?_
  refine gn_cI C (w1 := []) (w2 := WS objM NM am (nxC X) τ ++ []) rfl ok_X6_restore lk_L_165 dL_law_1418 (by decide) rfl rfl rfl (k_X6_restore hRC) rfl ⟨(Nat.le_of_ble_eq_true rfl), (Nat.le_of_ble_eq_true rfl)⟩ hk hn (Nat.le_of_ble_eq_true rfl) rfl (fun r1 σ1 h1 => ?_)
  refine gn_aload_n C dL_law_1421 rfl ?_
  refine gn_cI C (w1 := WS objC NC ac (nxC X) σ1) (w2 := []) rfl ok_X7_restore lk_L_168 dL_law_1422 (by decide) rfl rfl rfl (k_X7_restore hRM) rfl ⟨(Nat.le_of_ble_eq_true rfl), (Nat.le_of_ble_eq_true rfl)⟩ hk hn (Nat.le_of_ble_eq_true rfl) rfl (fun r2 τ1 h2 => ?_)
  exact gn_icmp_eq C 1430 dL_law_1425 (by decide) (fun _ => kk _ σ1 τ1 h1.2 h2.2) (fun hne => absurd (h1.1.trans h2.1.symm) hne)
theorem law_sw (C : OkN cL_law 4 "LightPropagatorLaw" room_1 X) (S : NxS b L xs X) (hi : i + 7 ≤ L) (hL : L ≤ 3584) (hRC : RepC σ S0) (hRM : RepM τ S0) (hk : k ≤ room_1.cells) (hn : n ≤ room_1.slots) {a : Nat} (ha : a < 64) (kk : ∀ (S1 : St) (σ1 τ1 : Mem), RepC σ1 S1 → RepM τ1 S1 → Gn X 1430 [some (.ref b), some (.ref (ac 0)), some (.ref (am 0)), some (.int (nI i))] [] (LWd (nxC X) ac am σ1 τ1) k n) : Gn X 33 [some (.ref b), some (.ref (ac 0)), some (.ref (am 0)), some (.int (nI i))] [.int (nI a)] (LWd (nxC X) ac am σ τ) k n := by
  by_cases e0 : a = 0
  · subst e0
    exact gn_tableIn C 196 163 dL_law_33 (by decide) (by decide) rfl (by decide) (law_c0 C S hi hL hRC hRM hk hn kk)
  by_cases e1 : a = 1
  · subst e1
    exact gn_tableIn C 249 216 dL_law_33 (by decide) (by decide) rfl (by decide) (law_c1 C S hi hL hRC hRM hk hn kk)
  by_cases e2 : a = 2
  · subst e2
    exact gn_tableIn C 262 229 dL_law_33 (by decide) (by decide) rfl (by decide) (law_c2 C S hi hL hRC hRM hk hn kk)
  by_cases e3 : a = 3
  · subst e3
    exact gn_tableIn C 275 242 dL_law_33 (by decide) (by decide) rfl (by decide) (law_c3 C S hi hL hRC hRM hk hn kk)
  by_cases e4 : a = 4
  · subst e4
    exact gn_tableIn C 288 255 dL_law_33 (by decide) (by decide) rfl (by decide) (law_c4 C S hi hL hRC hRM hk hn kk)
  by_cases e5 : a = 5
  · subst e5
    exact gn_tableIn C 363 330 dL_law_33 (by decide) (by decide) rfl (by decide) (law_c5 C S hi hL hRC hRM hk hn kk)
  by_cases e6 : a = 6
  · subst e6
    exact gn_tableIn C 406 373 dL_law_33 (by decide) (by decide) rfl (by decide) (law_c6 C S hi hL hRC hRM hk hn kk)
  by_cases e7 : a = 7
  · subst e7
    exact gn_tableIn C 449 416 dL_law_33 (by decide) (by decide) rfl (by decide) (law_c7 C S hi hL hRC hRM hk hn kk)
  by_cases e8 : a = 8
  · subst e8
    exact gn_tableIn C 472 439 dL_law_33 (by decide) (by decide) rfl (by decide) (law_c8 C S hi hL hRC hRM hk hn kk)
  by_cases e9 : a = 9
  · subst e9
    exact gn_tableIn C 485 452 dL_law_33 (by decide) (by decide) rfl (by decide) (law_c9 C S hi hL hRC hRM hk hn kk)
  by_cases e10 : a = 10
  · subst e10
    exact gn_tableIn C 498 465 dL_law_33 (by decide) (by decide) rfl (by decide) (law_c10 C S hi hL hRC hRM hk hn kk)
  by_cases e11 : a = 11
  · subst e11
    exact gn_tableIn C 511 478 dL_law_33 (by decide) (by decide) rfl (by decide) (law_c11 C S hi hL hRC hRM hk hn kk)
  by_cases e12 : a = 12
  · subst e12
    exact gn_tableIn C 554 521 dL_law_33 (by decide) (by decide) rfl (by decide) (law_c12 C S hi hL hRC hRM hk hn kk)
  by_cases e13 : a = 13
  · subst e13
    exact gn_tableIn C 587 554 dL_law_33 (by decide) (by decide) rfl (by decide) (law_c13 C S hi hL hRC hRM hk hn kk)
  by_cases e14 : a = 14
  · subst e14
    exact gn_tableIn C 620 587 dL_law_33 (by decide) (by decide) rfl (by decide) (law_c14 C S hi hL hRC hRM hk hn kk)
  by_cases e15 : a = 15
  · subst e15
    exact gn_tableIn C 673 640 dL_law_33 (by decide) (by decide) rfl (by decide) (law_c15 C S hi hL hRC hRM hk hn kk)
  by_cases e16 : a = 16
  · subst e16
    exact gn_tableIn C 716 683 dL_law_33 (by decide) (by decide) rfl (by decide) (law_c16 C S hi hL hRC hRM hk hn kk)
  by_cases e17 : a = 17
  · subst e17
    exact gn_tableIn C 769 736 dL_law_33 (by decide) (by decide) rfl (by decide) (law_c17 C S hi hL hRC hRM hk hn kk)
  by_cases e18 : a = 18
  · subst e18
    exact gn_tableIn C 822 789 dL_law_33 (by decide) (by decide) rfl (by decide) (law_c18 C S hi hL hRC hRM hk hn kk)
  by_cases e19 : a = 19
  · subst e19
    exact gn_tableIn C 875 842 dL_law_33 (by decide) (by decide) rfl (by decide) (law_c19 C S hi hL hRC hRM hk hn kk)
  by_cases e20 : a = 20
  · subst e20
    exact gn_tableIn C 888 855 dL_law_33 (by decide) (by decide) rfl (by decide) (law_c20 C S hi hL hRC hRM hk hn kk)
  by_cases e21 : a = 21
  · subst e21
    exact gn_tableIn C 911 878 dL_law_33 (by decide) (by decide) rfl (by decide) (law_c21 C S hi hL hRC hRM hk hn kk)
  by_cases e22 : a = 22
  · subst e22
    exact gn_tableIn C 924 891 dL_law_33 (by decide) (by decide) rfl (by decide) (law_c22 C S hi hL hRC hRM hk hn kk)
  by_cases e23 : a = 23
  · subst e23
    exact gn_tableIn C 987 954 dL_law_33 (by decide) (by decide) rfl (by decide) (law_c23 C S hi hL hRC hRM hk hn kk)
  by_cases e24 : a = 24
  · subst e24
    exact gn_tableIn C 1040 1007 dL_law_33 (by decide) (by decide) rfl (by decide) (law_c24 C S hi hL hRC hRM hk hn kk)
  by_cases e25 : a = 25
  · subst e25
    exact gn_tableIn C 1103 1070 dL_law_33 (by decide) (by decide) rfl (by decide) (law_c25 C S hi hL hRC hRM hk hn kk)
  by_cases e26 : a = 26
  · subst e26
    exact gn_tableIn C 1136 1103 dL_law_33 (by decide) (by decide) rfl (by decide) (law_c26 C S hi hL hRC hRM hk hn kk)
  by_cases e27 : a = 27
  · subst e27
    exact gn_tableIn C 1179 1146 dL_law_33 (by decide) (by decide) rfl (by decide) (law_c27 C S hi hL hRC hRM hk hn kk)
  by_cases e28 : a = 28
  · subst e28
    exact gn_tableIn C 1202 1169 dL_law_33 (by decide) (by decide) rfl (by decide) (law_c28 C S hi hL hRC hRM hk hn kk)
  by_cases e29 : a = 29
  · subst e29
    exact gn_tableIn C 1235 1202 dL_law_33 (by decide) (by decide) rfl (by decide) (law_c29 C S hi hL hRC hRM hk hn kk)
  by_cases e30 : a = 30
  · subst e30
    exact gn_tableIn C 1298 1265 dL_law_33 (by decide) (by decide) rfl (by decide) (law_c30 C S hi hL hRC hRM hk hn kk)
  by_cases e31 : a = 31
  · subst e31
    exact gn_tableIn C 1321 1288 dL_law_33 (by decide) (by decide) rfl (by decide) (law_c31 C S hi hL hRC hRM hk hn kk)
  by_cases e32 : a = 32
  · subst e32
    exact gn_tableIn C 1344 1311 dL_law_33 (by decide) (by decide) rfl (by decide) (law_c32 C S hi hL hRC hRM hk hn kk)
  by_cases e33 : a = 33
  · subst e33
    exact gn_tableIn C 1357 1324 dL_law_33 (by decide) (by decide) rfl (by decide) (law_c33 C S hi hL hRC hRM hk hn kk)
  by_cases e34 : a = 34
  · subst e34
    exact gn_tableIn C 1390 1357 dL_law_33 (by decide) (by decide) rfl (by decide) (law_c34 C S hi hL hRC hRM hk hn kk)
  by_cases e35 : a = 35
  · subst e35
    exact gn_tableIn C 1404 1371 dL_law_33 (by decide) (by decide) rfl (by decide) (law_c35 C S hi hL hRC hRM hk hn kk)
  by_cases e36 : a = 36
  · subst e36
    exact gn_tableIn C 1417 1384 dL_law_33 (by decide) (by decide) rfl (by decide) (law_c36 C S hi hL hRC hRM hk hn kk)
  refine gn_tableOut C 1430 dL_law_33 (Or.inr ?_) (by decide) (kk S0 σ τ hRC hRM)
  rw [nI_toInt (by omega)]
  omega
/-- the law's loop -/
theorem law_loop (C : OkN cL_law 4 "LightPropagatorLaw" room_1 X) (S : NxS b L xs X) (hL : L ≤ 3584) (hk : k ≤ room_1.cells) (hn : n ≤ room_1.slots) (hE : ∀ (lv : List (Option Value)) (ws : va_W), Gn X 1437 lv [.int (nI 1)] ws k n) : ∀ (f i : Nat) (S0 : St) (σ τ : Mem), L < i + f → i ≤ L → RepC σ S0 → RepM τ S0 → Gn X 18 [some (.ref b), some (.ref (ac 0)), some (.ref (am 0)), some (.int (nI i))] [] (LWd (nxC X) ac am σ τ) k n := by
  intro f
  induction f using Nat.strongRecOn with
  | _ f ih =>
    intro i S0 σ τ hf hiL hRC hRM
    refine gn_iload_n C dL_law_18 rfl ?_
    refine gn_aload_n C dL_law_19 rfl ?_
    refine gn_slen C S dL_law_20 ?_
    refine gn_bipush C (nI 7) dL_law_21 rfl ?_
    refine gn_isub C dL_law_23 ?_
    refine gn_icmp_gt C 1436 dL_law_24 (by decide) (fun _ => ?_) (fun h => ?_)
    · refine gn_iconst C (nI 1) dL_law_1436 rfl ?_
      exact hE _ _
    · have hi := sub7 hL (by omega) h
      refine gn_aload_n C dL_law_27 rfl ?_
      refine gn_iload_n C dL_law_28 rfl ?_
      refine gn_sld C S (show i < L by omega) (by omega) dL_law_29 ?_
      refine gn_bipush C (nI 63) dL_law_30 rfl ?_
      refine gn_iand C dL_law_32 ?_
      obtain ⟨a, ha, ea⟩ := and63 (xs i)
      rw [ea]
      refine law_sw C S hi hL hRC hRM hk hn ha (fun S1 σ1 τ1 h1 h2 => ?_)
      refine gn_iinc C (nI (i + 7)) dL_law_1430 rfl (by rw [← nI_add]; rfl) (by decide) rfl rfl ?_
      refine gn_goto C 18 dL_law_1433 (by decide) ?_
      exact ih (f - 7) (by omega) (i + 7) S1 σ1 τ1 (by omega) (by omega) h1 h2
end LAW1
/-- the launch's tables, as the layer wants them -/
theorem kx_start {s : State} {args : Array Value} (hts : ∀ w ∈ lw_tbl, w.before args s = true) : ∃ (D : va_G) (cy : Nat → ClassId), Kx D cy s := by
  have hg : ∀ w ∈ gw, w.before args s = true := fun w h => hts w (gw_in h)
  obtain ⟨c0, i0, h0⟩ := u_known (C := RX0) (T := TX0) (N := 4) (n := 4) hg inX0 (hg _ (mgw 106 (by decide +kernel) (by decide +kernel)))
  obtain ⟨c1, i1, h1⟩ := u_known (C := RX1) (T := TX1) (N := 7) (n := 7) hg inX1 (hg _ (mgw 148 (by decide +kernel) (by decide +kernel)))
  obtain ⟨c2, i2, h2⟩ := u_known (C := RX3) (T := TX3) (N := 3) (n := 3) hg inX3 (hg _ (mgw 128 (by decide +kernel) (by decide +kernel)))
  obtain ⟨c3, i3, h3⟩ := u_known (C := RX4) (T := TX4) (N := 4) (n := 4) hg inX4 (hg _ (mgw 87 (by decide +kernel) (by decide +kernel)))
  obtain ⟨c4, i4, h4⟩ := u_known (C := RX5) (T := TX5) (N := 3) (n := 3) hg inX5 (hg _ (mgw 61 (by decide +kernel) (by decide +kernel)))
  obtain ⟨c5, i5, h5⟩ := u_known (C := RX6) (T := TX6) (N := 13) (n := 13) hg inX6 (hg _ (mgw 53 (by decide +kernel) (by decide +kernel)))
  obtain ⟨c6, i6, h6⟩ := u_known (C := RX7) (T := TX7) (N := 26) (n := 26) hg inX7 (hg _ (mgw 569 (by decide +kernel) (by decide +kernel)))
  obtain ⟨aI, kI, xI, I1, I2, I3⟩ := Cond.arrayClass_spec (hg _ acI)
  obtain ⟨aZ, kZ, xZ, Z1, Z2, Z3⟩ := Cond.arrayClass_spec (hg _ acZ)
  obtain ⟨aC, kC, xC, C1, C2, C3⟩ := Cond.arrayClass_spec (hg _ acC)
  have hO := hts (.arrayOver (.object RX5)) (List.mem_of_getElem? (i := 134) (by decide +kernel))
  have hM := mr_A.of (hts (.arrayOver (.array .int)) (List.mem_of_getElem? (i := 85) (by decide +kernel)))
  obtain ⟨xW, aW, kW, W1, -, W2, W3, W4⟩ := Cond.arrayOver_spec hO
  obtain ⟨xM, aM, kM, M1, M2, M3, M4⟩ := id hM
  refine ⟨(fun j => [c0, c1, c2, c3, c4, c5, c6].getD j 0, fun j => match j with | 0 => i0 | 1 => i1 | 2 => i2 | 3 => i3 | 4 => i4 | 5 => i5 | _ => i6), fun j => [aI, aZ, aC, aM, aW].getD j 0, ⟨fun j q hq => ?_, fun j q hq => ?_⟩, Nst.of hts, va_AO.of hO, hM⟩
  · match j, hq with
    | 0, hq => cases hq; exact h0
    | 1, hq => cases hq; exact h1
    | 2, hq => cases hq; exact h2
    | 3, hq => cases hq; exact h3
    | 4, hq => cases hq; exact h4
    | 5, hq => cases hq; exact h5
    | 6, hq => cases hq; exact h6
    | j + 7, hq => cases hq
  · match j, hq with
    | 0, hq => cases hq; exact ⟨fun _ _ => ⟨fun k h => (by cases h), kI, I2, xI, I3⟩, I1⟩
    | 1, hq => cases hq; exact ⟨fun _ _ => ⟨fun k h => (by cases h), kZ, Z2, xZ, Z3⟩, Z1⟩
    | 2, hq => cases hq; exact ⟨fun _ _ => ⟨fun k h => (by cases h), kC, C2, xC, C3⟩, C1⟩
    | 3, hq => cases hq; exact ⟨fun _ _ => ⟨fun k h => (by cases h), kM, M2, xM, M3⟩, M4⟩
    | 4, hq => cases hq; exact ⟨fun _ _ => ⟨fun k h => (by cases h), kW, W2, xW, W3⟩, kW, xW, W2, W3, W1, W4⟩
    | j + 5, hq => cases hq
