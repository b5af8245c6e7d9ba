set_option maxHeartbeats 4000000 in
set_option maxRecDepth 100000 in
/-- behind a case: the credits are no less than before it, and the law goes round -/
theorem law_next (p : Program) (l : Launch) (e : Env) (s : State) (m : MethodId) (below : List Frame) (meth : Method) (c : Code) (Q : State → Prop) (D : va_G) (ty : Nat → ClassId) (b L : Nat) (xs : Nat → Int32) (hC : lwC p l s m meth c D ty b L xs) (ad : Nat → Nat) (hij : zIj ad) (hlo : ∀ k, k < 39 → s.heap.size ≤ ad k) (n i cr cells slots : Nat) (hi : i < 46) (hc1 : cells ≤ 149) (hs1 : slots ≤ 3616) (ih : ∀ (g : Nat → Nat → Int32) (n4 n5 : Nat) (H : Heap) (locs : List Loc) (ls : Array Slot), pI g n n4 n5 → va_P D vwCl (zC ty g ad) H → va_S (fun q => s.heap.size ≤ q) s.heap H locs → lv_has ls 25 [(3, .int (nI (i + 1))), (2, .int (nI n)), (1, .ref (ad 0)), (0, .ref b)] → W p l e room_1 s m #[Value.ref b] below meth c H locs cells slots Q (F0 m 184 ls [])) : lwK p l e s m below meth c Q D ty b ad i n cr cells slots := by
  intro g n4 n5 H locs ls hp hcr hP hS hl
  obtain ⟨⟨hx, hb, hr, hml, hlocks, hlt⟩, ⟨hown, hts, hX, hbl, hL⟩, hK, hN, hT, hQ⟩ := hC
  have hcc : cells ≤ room_1.cells := by show cells ≤ 149; omega
  have hss : slots ≤ room_1.slots := by show slots ≤ 3616; omega
  have hn2 := hp.n2
  have hn5 := hp.n5b
  have h4b := hp.b4
  have h5b := hp.b5
  have hcb := hp.CRb
  refine lv_aload_n hx hb dL_law_825 rfl (lv_at hl 3 rfl) ?_
  refine lv_bipush (v := nI 6) hx hb dL_law_826 (by decide) ?_
  refine zcVi (As := [.int (nI 6)]) (rest := []) ⟨hx, hb, hml, hown, hts⟩ (c_X5_many l D ty g ad n (n - 1) (n - 1) n4 n5 hp.d 6 (by decide)) (cwV 1 hts gL_law_X5_many rfl rfl rfl (by decide +kernel) ⟨Nat.le_of_ble_eq_true rfl, Nat.le_of_ble_eq_true rfl⟩) zI_blind (zI_pre hP hK hN) (va_recv hK hP (ci := 5) (q0 := 0) rfl rfl) rfl hl.1 rfl (Nat.le_of_ble_eq_true rfl) dL_law_828 ⟨hcc, hss⟩ (fun r_1 hr_1 => ?_)
  subst hr_1
  refine zeq (show manyN g n n5 6 = nI (CR g (hmN g n) n5) from hp.m6) ?_
  refine lv_iload hx hb dL_law_831 (lv_at hl 0 rfl) ?_
  refine lv_icmp_ge (tgt := 838) hx hb dL_law_833 (by decide) (fun c_2 => ?_) (fun c_2 => ?_)
  · have c_2 := zn_geT (a := (CR g (hmN g n) n5)) (b := cr) (by omega) (by omega) c_2
    refine lv_iinc (v := nI (i + 1)) (lv' := [(3, .int (nI (i + 1))), (9, .int (nI cr)), (2, .int (nI n)), (1, .ref (ad 0)), (0, .ref b)]) hx hb dL_law_838 hl (k := 1) rfl (nI_add i 1) (by decide) rfl (fun ls hl => ?_)
    refine lv_goto (tgt := 184) hx hb dL_law_841 (by decide) ?_
    exact ih g n4 n5 H locs _ hp hP hS (lv_sub hl [0, 2, 3, 4] rfl)
  · have c_2 := zn_geF (a := (CR g (hmN g n) n5)) (b := cr) (by omega) (by omega) c_2
    omega
set_option maxHeartbeats 4000000 in
set_option maxRecDepth 100000 in
/-- one turn of the loop, or its end -/
theorem law_turn (p : Program) (l : Launch) (e : Env) (s : State) (m : MethodId) (below : List Frame) (meth : Method) (c : Code) (Q : State → Prop) (D : va_G) (ty : Nat → ClassId) (b L : Nat) (xs : Nat → Int32) (hC : lwC p l s m meth c D ty b L xs) (ad : Nat → Nat) (hij : zIj ad) (hlo : ∀ k, k < 39 → s.heap.size ≤ ad k) (E : ∀ (H : Heap) (ls : Array Slot), W p l e room_1 s m #[Value.ref b] below meth c H [] 149 3616 Q (F0 m 849 ls [.int 1])) (g : Nat → Nat → Int32) (n n4 n5 : Nat) (hp : pI g n n4 n5) (H : Heap) (locs : List Loc) (cells slots : Nat) (hP : va_P D vwCl (zC ty g ad) H) (hS : va_S (fun q => s.heap.size ≤ q) s.heap H locs) (hc1 : cells + 1 ≤ 149) (hs1 : slots + 6 ≤ 3616) (ls : Array Slot) (i : Nat) (hi : i ≤ 46) (hl : lv_has ls 25 [(3, .int (nI i)), (2, .int (nI n)), (1, .ref (ad 0)), (0, .ref b)]) (K : i < 46 → ∀ cr : Nat, lwK p l e s m below meth c Q D ty b ad i n cr (cells + 1) (slots + 6)) : W p l e room_1 s m #[Value.ref b] below meth c H locs cells slots Q (F0 m 184 ls []) := by
  have hC0 := hC
  obtain ⟨⟨hx, hb, hr, hml, hlocks, hlt⟩, ⟨hown, hts, hX, hbl, hL⟩, hK, hN, hT, hQ⟩ := hC
  have hcc : cells ≤ room_1.cells := by show cells ≤ 149; omega
  have hss : slots ≤ room_1.slots := by show slots ≤ 3616; omega
  have hn2 := hp.n2
  have hn5 := hp.n5b
  have h4b := hp.b4
  have h5b := hp.b5
  have hcb := hp.CRb
  refine lv_iload_n hx hb dL_law_184 rfl (lv_at hl 0 rfl) ?_
  refine lv_bipush (v := nI 46) hx hb dL_law_185 (by decide) ?_
  refine lv_icmp_ge (tgt := 844) hx hb dL_law_187 (by decide) (fun c_1 => ?_) (fun c_1 => ?_)
  · have c_1 := zn_geT (a := i) (b := 46) (by omega) (by omega) c_1
    refine lv_aload_n hx hb dL_law_844 rfl (lv_at hl 2 rfl) ?_
    refine lv_iload_n hx hb dL_law_845 rfl (lv_at hl 1 rfl) ?_
    refine zcSi (As := [.ref (ad 0), .int (nI n)]) (rest := []) ⟨hx, hb, hml, hown, hts⟩ (c_L_isFair l D ty g ad n n4 n5 hp) (cwS 2 hts gL_law_L_isFair rfl rfl rfl (by decide +kernel) ⟨Nat.le_of_ble_eq_true rfl, Nat.le_of_ble_eq_true rfl⟩) zI_blind (zI_pre hP hK hN) rfl hl.1 rfl (Nat.le_of_ble_eq_true rfl) dL_law_846 ⟨hcc, hss⟩ (fun r_2 hr_2 => ?_)
    subst hr_2
    refine zeq (show nI 1 = 1 from rfl) ?_
    refine va_forget (fun q hq => hS.2.2 q hq) ?_
    exact W.widen (k := 149) (n := 3616) (by omega) (by omega) (E H _)
  · have c_1 := zn_geF (a := i) (b := 46) (by omega) (by omega) c_1
    refine lv_aload_n hx hb dL_law_190 rfl (lv_at hl 3 rfl) ?_
    refine lv_iload_n hx hb dL_law_191 rfl (lv_at hl 0 rfl) ?_
    refine lv_bipush (v := nI 16) hx hb dL_law_192 (by decide) ?_
    refine lv_irem hx hb dL_law_194 (by decide) ?_
    refine zeq (pk_rem (a := i) (d := 16) (by omega) (by omega) (by omega)) ?_
    refine zcSi (As := [.ref b, .int (nI (i % 16))]) (rest := []) ⟨hx, hb, hml, hown, hts⟩ (c_L_cell l b L xs (by omega) (i % 16) (by omega)) (cwS 2 hts gL_law_L_cell rfl rfl rfl (by decide +kernel) ⟨Nat.le_of_ble_eq_true rfl, Nat.le_of_ble_eq_true rfl⟩) zScr_blind (zScr_pre hX hbl hS) rfl hl.1 rfl (Nat.le_of_ble_eq_true rfl) dL_law_195 ⟨hcc, hss⟩ (fun z_1 _ => ?_)
    refine lv_iload_n hx hb dL_law_198 rfl (lv_at hl 0 rfl) ?_
    refine lv_bipush (v := nI 16) hx hb dL_law_199 (by decide) ?_
    refine lv_idiv hx hb dL_law_201 (by decide) ?_
    refine zeq (pk_div (a := i) (d := 16) (by omega) (by omega) (by omega)) ?_
    refine lv_iconst (v := nI 2) hx hb dL_law_202 (by decide) ?_
    refine lv_imul hx hb dL_law_203 ?_
    refine zeq (pk_mul (i / 16) 2) ?_
    refine lv_ishr hx hb dL_law_204 ?_
    refine lv_bipush (v := nI 7) hx hb dL_law_205 (by decide) ?_
    refine lv_iload_n hx hb dL_law_207 rfl (lv_at hl 0 rfl) ?_
    refine lv_imul hx hb dL_law_208 ?_
    refine zeq (pk_mul 7 i) ?_
    refine lv_iadd hx hb dL_law_209 ?_
    obtain ⟨x, ex⟩ : ∃ x : Int32, x = (z_1 >>> ((nI ((i / 16) * 2)) &&& 31)) + (nI (7 * i)) := ⟨_, rfl⟩
    refine zeq ex.symm ?_
    refine lv_istore (lv' := [(4, .int x), (3, .int (nI i)), (2, .int (nI n)), (1, .ref (ad 0)), (0, .ref b)]) hx hb dL_law_210 hl (by decide) rfl (fun ls hl => ?_)
    refine lv_iload hx hb dL_law_212 (lv_at hl 0 rfl) ?_
    refine lv_iconst (v := nI 3) hx hb dL_law_214 (by decide) ?_
    refine lv_ishr hx hb dL_law_215 ?_
    refine lv_iload_n hx hb dL_law_216 rfl (lv_at hl 2 rfl) ?_
    refine zcSi (As := [.int (x >>> ((nI 3) &&& 31)), .int (nI n)]) (rest := []) ⟨hx, hb, hml, hown, hts⟩ (c_L_below l _ (x >>> ((nI 3) &&& 31)) n (by omega) (by omega)) (cwS 2 hts gL_law_L_below rfl rfl rfl (by decide +kernel) ⟨Nat.le_of_ble_eq_true rfl, Nat.le_of_ble_eq_true rfl⟩) (B := fun _ => True) (fun _ _ _ _ _ => trivial) (fun _ _ _ => trivial) rfl hl.1 rfl (Nat.le_of_ble_eq_true rfl) dL_law_217 ⟨hcc, hss⟩ (fun r hr => ?_)
    obtain ⟨I, hI, rfl⟩ := hr
    refine lv_istore (lv' := [(5, .int (nI I)), (4, .int x), (3, .int (nI i)), (2, .int (nI n)), (1, .ref (ad 0)), (0, .ref b)]) hx hb dL_law_220 hl (by decide) rfl (fun ls hl => ?_)
    refine lv_iconst (v := nI 1) hx hb dL_law_222 (by decide) ?_
    refine lv_aload_n hx hb dL_law_223 rfl (lv_at hl 4 rfl) ?_
    refine lv_iload hx hb dL_law_224 (lv_at hl 0 rfl) ?_
    refine lv_iconst (v := nI 0) hx hb dL_law_226 (by decide) ?_
    refine zcVi (As := [.int (nI I), .int (nI 0)]) (rest := [.int (nI 1)]) ⟨hx, hb, hml, hown, hts⟩ (c_X5_ofSet l D ty g ad n (n - 1) (n - 1) n4 n5 hp.d I 0 (by omega) (by decide)) (cwV 2 hts gL_law_X5_ofSet rfl rfl rfl (by decide +kernel) ⟨Nat.le_of_ble_eq_true rfl, Nat.le_of_ble_eq_true rfl⟩) zI_blind (zI_pre hP hK hN) (va_recv hK hP (ci := 5) (q0 := 0) rfl rfl) rfl hl.1 rfl (Nat.le_of_ble_eq_true rfl) dL_law_227 ⟨hcc, hss⟩ (fun r_3 hr_3 => ?_)
    subst hr_3
    refine zeq (show ofSetN g n5 I 0 = nI (nF g I) from (hp.f hI).1) ?_
    refine lv_ishl hx hb dL_law_230 ?_
    refine lv_iconst (v := nI 1) hx hb dL_law_231 (by decide) ?_
    refine lv_isub hx hb dL_law_232 ?_
    have hf1 := (hp.f hI).2.1
    have hf2 := (hp.f hI).2.2
    obtain ⟨A, hA⟩ : ∃ A, A = 2 ^ nF g I - 1 := ⟨_, rfl⟩
    refine zeq (show ((nI 1) <<< ((nI (nF g I)) &&& 31)) - (nI 1) = nI A from by rw [hA]; exact allF_nat hf2) ?_
    refine lv_istore (lv' := [(6, .int (nI A)), (5, .int (nI I)), (4, .int x), (3, .int (nI i)), (2, .int (nI n)), (1, .ref (ad 0)), (0, .ref b)]) hx hb dL_law_233 hl (by decide) rfl (fun ls hl => ?_)
    refine lv_iload hx hb dL_law_235 (lv_at hl 2 rfl) ?_
    refine lv_iconst (v := nI 5) hx hb dL_law_237 (by decide) ?_
    refine lv_ishr hx hb dL_law_238 ?_
    refine lv_iconst (v := nI 3) hx hb dL_law_239 (by decide) ?_
    refine zcSi (As := [.int (x >>> ((nI 5) &&& 31)), .int (nI 3)]) (rest := []) ⟨hx, hb, hml, hown, hts⟩ (c_L_below l _ (x >>> ((nI 5) &&& 31)) 3 (by omega) (by omega)) (cwS 2 hts gL_law_L_below rfl rfl rfl (by decide +kernel) ⟨Nat.le_of_ble_eq_true rfl, Nat.le_of_ble_eq_true rfl⟩) (B := fun _ => True) (fun _ _ _ _ _ => trivial) (fun _ _ _ => trivial) rfl hl.1 rfl (Nat.le_of_ble_eq_true rfl) dL_law_240 ⟨hcc, hss⟩ (fun r hr => ?_)
    obtain ⟨R, hR, rfl⟩ := hr
    refine lv_istore (lv' := [(7, .int (nI R)), (6, .int (nI A)), (5, .int (nI I)), (4, .int x), (3, .int (nI i)), (2, .int (nI n)), (1, .ref (ad 0)), (0, .ref b)]) hx hb dL_law_243 hl (by decide) rfl (fun ls hl => ?_)
    refine lv_aload_n hx hb dL_law_245 rfl (lv_at hl 6 rfl) ?_
    refine lv_bipush (v := nI 8) hx hb dL_law_246 (by decide) ?_
    refine zcVi (As := [.int (nI 8)]) (rest := []) ⟨hx, hb, hml, hown, hts⟩ (c_X5_many l D ty g ad n (n - 1) (n - 1) n4 n5 hp.d 8 (by decide)) (cwV 1 hts gL_law_X5_many rfl rfl rfl (by decide +kernel) ⟨Nat.le_of_ble_eq_true rfl, Nat.le_of_ble_eq_true rfl⟩) zI_blind (zI_pre hP hK hN) (va_recv hK hP (ci := 5) (q0 := 0) rfl rfl) rfl hl.1 rfl (Nat.le_of_ble_eq_true rfl) dL_law_248 ⟨hcc, hss⟩ (fun r_4 hr_4 => ?_)
    subst hr_4
    obtain ⟨dy, hdy⟩ : ∃ dy, cn (g 0 0) = dy := ⟨_, rfl⟩
    refine zeq (show manyN g n n5 8 = nI dy from by rw [← hdy]; exact hp.day.1) ?_
    refine lv_istore (lv' := [(8, .int (nI dy)), (7, .int (nI R)), (6, .int (nI A)), (5, .int (nI I)), (4, .int x), (3, .int (nI i)), (2, .int (nI n)), (1, .ref (ad 0)), (0, .ref b)]) hx hb dL_law_251 hl (by decide) rfl (fun ls hl => ?_)
    refine lv_aload_n hx hb dL_law_253 rfl (lv_at hl 7 rfl) ?_
    refine lv_bipush (v := nI 6) hx hb dL_law_254 (by decide) ?_
    refine zcVi (As := [.int (nI 6)]) (rest := []) ⟨hx, hb, hml, hown, hts⟩ (c_X5_many l D ty g ad n (n - 1) (n - 1) n4 n5 hp.d 6 (by decide)) (cwV 1 hts gL_law_X5_many rfl rfl rfl (by decide +kernel) ⟨Nat.le_of_ble_eq_true rfl, Nat.le_of_ble_eq_true rfl⟩) zI_blind (zI_pre hP hK hN) (va_recv hK hP (ci := 5) (q0 := 0) rfl rfl) rfl hl.1 rfl (Nat.le_of_ble_eq_true rfl) dL_law_256 ⟨hcc, hss⟩ (fun r_5 hr_5 => ?_)
    subst hr_5
    obtain ⟨cr, hcr⟩ : ∃ cr, cr = CR g (hmN g n) n5 := ⟨_, rfl⟩
    refine zeq (show manyN g n n5 6 = nI cr from by rw [hcr]; exact hp.m6) ?_
    refine lv_istore (lv' := [(9, .int (nI cr)), (8, .int (nI dy)), (7, .int (nI R)), (6, .int (nI A)), (5, .int (nI I)), (4, .int x), (3, .int (nI i)), (2, .int (nI n)), (1, .ref (ad 0)), (0, .ref b)]) hx hb dL_law_259 hl (by decide) rfl (fun ls hl => ?_)
    refine lv_iload hx hb dL_law_261 (lv_at hl 5 rfl) ?_
    refine lv_bipush (v := nI 8) hx hb dL_law_263 (by decide) ?_
    refine zcSi (As := [.int x, .int (nI 8)]) (rest := []) ⟨hx, hb, hml, hown, hts⟩ (c_L_below l _ x 8 (by omega) (by omega)) (cwS 2 hts gL_law_L_below rfl rfl rfl (by decide +kernel) ⟨Nat.le_of_ble_eq_true rfl, Nat.le_of_ble_eq_true rfl⟩) (B := fun _ => True) (fun _ _ _ _ _ => trivial) (fun _ _ _ => trivial) rfl hl.1 rfl (Nat.le_of_ble_eq_true rfl) dL_law_265 ⟨hcc, hss⟩ (fun r hr => ?_)
    obtain ⟨j_2, hj_2, rfl⟩ := hr
    have hl : lv_has ls 25 [(9, .int (nI cr)), (8, .int (nI dy)), (7, .int (nI R)), (6, .int (nI A)), (5, .int (nI I)), (4, .int x), (3, .int (nI i)), (2, .int (nI n)), (1, .ref (ad 0)), (0, .ref b)] := lv_sub hl [0, 1, 2, 3, 4, 5, 6, 7, 8, 9] rfl
    have hK := K (by omega) cr
    obtain rfl | rfl | rfl | rfl | rfl | rfl | rfl | rfl : j_2 = 0 ∨ j_2 = 1 ∨ j_2 = 2 ∨ j_2 = 3 ∨ j_2 = 4 ∨ j_2 = 5 ∨ j_2 = 6 ∨ j_2 = 7 := by omega
    · refine lv_tableIn (off := 44) (tgt := 312) hx hb dL_law_268 (by decide) (by decide) rfl (by decide) ?_
      exact law_c0 p l e s m below meth c Q D ty b L xs hC0 ad hij hlo g n n4 n5 hp H locs cells slots hP hS hc1 hs1 ls i I R cr dy A x hI hR hA hdy hcr hl hK
    · refine lv_tableIn (off := 117) (tgt := 385) hx hb dL_law_268 (by decide) (by decide) rfl (by decide) ?_
      exact law_c1 p l e s m below meth c Q D ty b L xs hC0 ad hij hlo g n n4 n5 hp H locs cells slots hP hS hc1 hs1 ls i I R cr dy A x hI hR hA hdy hcr hl hK
    · refine lv_tableIn (off := 117) (tgt := 385) hx hb dL_law_268 (by decide) (by decide) rfl (by decide) ?_
      exact law_c1 p l e s m below meth c Q D ty b L xs hC0 ad hij hlo g n n4 n5 hp H locs cells slots hP hS hc1 hs1 ls i I R cr dy A x hI hR hA hdy hcr hl hK
    · refine lv_tableIn (off := 117) (tgt := 385) hx hb dL_law_268 (by decide) (by decide) rfl (by decide) ?_
      exact law_c1 p l e s m below meth c Q D ty b L xs hC0 ad hij hlo g n n4 n5 hp H locs cells slots hP hS hc1 hs1 ls i I R cr dy A x hI hR hA hdy hcr hl hK
    · refine lv_tableIn (off := 230) (tgt := 498) hx hb dL_law_268 (by decide) (by decide) rfl (by decide) ?_
      exact law_c4 p l e s m below meth c Q D ty b L xs hC0 ad hij hlo g n n4 n5 hp H locs cells slots hP hS hc1 hs1 ls i I R cr dy A x hI hR hA hdy hcr hl hK
    · refine lv_tableIn (off := 371) (tgt := 639) hx hb dL_law_268 (by decide) (by decide) rfl (by decide) ?_
      exact law_c5 p l e s m below meth c Q D ty b L xs hC0 ad hij hlo g n n4 n5 hp H locs cells slots hP hS hc1 hs1 ls i I R cr dy A x hI hR hA hdy hcr hl hK
    · refine lv_tableIn (off := 427) (tgt := 695) hx hb dL_law_268 (by decide) (by decide) rfl (by decide) ?_
      exact law_c6 p l e s m below meth c Q D ty b L xs hC0 ad hij hlo g n n4 n5 hp H locs cells slots hP hS hc1 hs1 ls i I R cr dy A x hI hR hA hdy hcr hl hK
    · refine lv_tableOut (tgt := 735) hx hb dL_law_268 (Or.inr (by decide)) (by decide) ?_
      exact law_c7 p l e s m below meth c Q D ty b L xs hC0 ad hij hlo g n n4 n5 hp H locs cells slots hP hS hc1 hs1 ls i I R cr dy A x hI hR hA hdy hcr hl hK
theorem law_loop (p : Program) (l : Launch) (e : Env) (s : State) (m : MethodId) (below : List Frame) (meth : Method) (c : Code) (Q : State → Prop) (D : va_G) (ty : Nat → ClassId) (b L : Nat) (xs : Nat → Int32) (hC : lwC p l s m meth c D ty b L xs) (ad : Nat → Nat) (hij : zIj ad) (hlo : ∀ k, k < 39 → s.heap.size ≤ ad k) (E : ∀ (H : Heap) (ls : Array Slot), W p l e room_1 s m #[Value.ref b] below meth c H [] 149 3616 Q (F0 m 849 ls [.int 1])) (n : Nat) : ∀ (r i : Nat) (g : Nat → Nat → Int32) (n4 n5 : Nat) (H : Heap) (locs : List Loc) (ls : Array Slot), i + r = 46 → pI g n n4 n5 → va_P D vwCl (zC ty g ad) H → va_S (fun q => s.heap.size ≤ q) s.heap H locs → lv_has ls 25 [(3, .int (nI i)), (2, .int (nI n)), (1, .ref (ad 0)), (0, .ref b)] → W p l e room_1 s m #[Value.ref b] below meth c H locs (39 + i) (2808 + 6 * i) Q (F0 m 184 ls []) := by
  intro r
  induction r with
  | zero =>
    intro i g n4 n5 H locs ls hi hp hP hS hl
    exact law_turn p l e s m below meth c Q D ty b L xs hC ad hij hlo E g n n4 n5 hp H locs (39 + i) (2808 + 6 * i) hP hS (by omega) (by omega) ls i (by omega) hl (fun h => by omega)
  | succ r ih =>
    intro i g n4 n5 H locs ls hi hp hP hS hl
    refine law_turn p l e s m below meth c Q D ty b L xs hC ad hij hlo E g n n4 n5 hp H locs (39 + i) (2808 + 6 * i) hP hS (by omega) (by omega) ls i (by omega) hl (fun h cr => ?_)
    exact law_next p l e s m below meth c Q D ty b L xs hC ad hij hlo n i cr (39 + i + 1) (2808 + 6 * i + 6) h (by omega) (by omega) (fun g n4 n5 H locs ls h1 h2 h3 h4 => ih (i + 1) g n4 n5 H locs ls (by omega) h1 h2 h3 h4)
