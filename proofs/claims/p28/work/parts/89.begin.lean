set_option maxHeartbeats 2000000 in
set_option maxRecDepth 100000 in
/-- the desk is made -/
theorem law_init (p : Program) (l : Launch) (e : Env) (s : State) (m : MethodId) (below : List Frame) (meth : Method) (c : Code) (Q : State → Prop) (D : va_G) (ty : Nat → ClassId) (b L : Nat) (xs : Nat → Int32) (hC : lwC p l s m meth c D ty b L xs) (ls : Array Slot) (hl : lv_has ls 25 [(0, .ref b)])
    (K : ∀ (ad : Nat → Nat) (H : Heap) (locs : List Loc) (ls : Array Slot), zIj ad → (∀ k, k < 39 → s.heap.size ≤ ad k) → va_P D vwCl (zC ty (fun _ _ => 0) ad) H → va_S (fun q => s.heap.size ≤ q) s.heap H locs → lv_has ls 25 [(1, .ref (ad 0)), (0, .ref b)] → W p l e room_1 s m #[Value.ref b] below meth c H locs 39 2808 Q (F0 m 8 ls [])) : W p l e room_1 s m #[Value.ref b] below meth c s.heap [] 0 0 Q (F0 m 0 ls []) := by
  obtain ⟨⟨hx, hb, hr, hml, hlocks, hlt⟩, ⟨hown, hts, hX, hbl, hL⟩, hK, hN, hT, hQ⟩ := hC
  have hA : ∀ q : Nat, s.heap.size ≤ q → (fun q : Nat => s.heap.size ≤ q) q := fun _ h => h
  have hS : va_S (fun q : Nat => s.heap.size ≤ q) s.heap s.heap [] := va_S.rf
  have hP : va_P D vwCl [] s.heap := fun k q h => by cases h
  have hD : va_D (fun q : Nat => s.heap.size ≤ q) [] := ⟨fun i j p q h => (by cases h), fun k q h => (by cases h)⟩
  refine va_new (ci := 5) (fs := [.null, .null, .null, .null, .null, .null, .int 0]) (C := RX5) (T := TX5) (N := 7) hx hb hts inlX5 tyX5 tyX5_ok hown (hts (.classLink RL 9 RX5) (List.mem_of_getElem? (i := 0) (by decide +kernel))) (hts (.instantiable RX5 7) (List.mem_of_getElem? (i := 1) (by decide +kernel))) (hts (.initialized RX5) (List.mem_of_getElem? (i := 2) (by decide +kernel))) hK hP hD hS hA rfl (fun j hj => by rcases (show j = 0 ∨ j = 1 ∨ j = 2 ∨ j = 3 ∨ j = 4 ∨ j = 5 ∨ j = 6 by omega) with rfl | rfl | rfl | rfl | rfl | rfl | rfl <;> rfl) (Nat.le_of_ble_eq_true rfl) (Nat.le_of_ble_eq_true rfl) dL_law_0 (fun q H hP hD hS => ?_)
  have hP : va_P D vwCl [(q, .inr (5, [.null, .null, .null, .null, .null, .null, .int 0]))] H := hP
  have hq : s.heap.size ≤ q := hD.2 0 _ rfl
  refine lv_dup hx hb dL_law_3 rfl ?_
  have hqA : ∀ x, va_A [(q, .inr (5, [.null, .null, .null, .null, .null, .null, .int 0]))] H.size x → s.heap.size ≤ x := fun x h => by
    have := hS.1
    rcases vA1 h with h | h <;> omega
  refine va_callv (va_runI (As := []) (rest := [.ref q]) ⟨hx, hb, hml, hown, hts⟩ (c_X5_init l D ty q H.size) (cwI 0 hts gL_law_X5_init rfl rfl rfl (hts (.initialized RX5) (List.mem_of_getElem? (i := 2) (by decide +kernel))) (hts (.methodLink RL 11 yX5_init) (List.mem_of_getElem? (i := 10) (by decide +kernel))) (hts (.instanceMethod yX5_init) (List.mem_of_getElem? (i := 11) (by decide +kernel))) rfl (by decide +kernel) ⟨Nat.le_of_ble_eq_true rfl, Nat.le_of_ble_eq_true rfl⟩) ⟨zBl wI_blind, fun U h1 h2 => ⟨rfl, by rw [h1]; exact hP, hD.weaken (fun _ _ _ _ => trivial), va_K.moved h2.alike hK, hN.warm h2, by rw [h1]⟩⟩ rfl rfl hl.1 rfl (lv_room (Nat.le_of_ble_eq_true rfl)) dL_law_4 ⟨Nat.le_of_ble_eq_true rfl, Nat.le_of_ble_eq_true rfl⟩) hS (fun x _ h => hqA x h) (fun x h => hqA x h) (fun ad t H1 locs ht hvm hw hB hz1 hk1 hS => ?_)
  obtain ⟨h0, hPz, hij, had⟩ := hB
  have hPz : va_P D vwCl (zC ty (fun _ _ => 0) ad) H1 := by rw [← ht]; exact hPz
  have hlo : ∀ k, k < 39 → s.heap.size ≤ ad k := fun k hk => by
    have h3 : q < H.size := (hP 0 _ rfl).lt
    rcases had k hk with h | h <;> omega
  refine lv_astore_n (lv' := [(1, .ref q), (0, .ref b)]) hx hb dL_law_7 rfl hl (by decide) rfl (fun ls hl => ?_)
  rw [← h0] at hl
  exact K ad H1 locs ls hij hlo hPz hS hl
set_option maxHeartbeats 4000000 in
set_option maxRecDepth 100000 in
/-- sets, sources, versions -/
theorem law_begin (p : Program) (l : Launch) (e : Env) (s : State) (m : MethodId) (below : List Frame) (meth : Method) (c : Code) (Q : State → Prop) (D : va_G) (ty : Nat → ClassId) (b L : Nat) (xs : Nat → Int32) (hC : lwC p l s m meth c D ty b L xs) (ad : Nat → Nat) (hij : zIj ad) (hlo : ∀ k, k < 39 → s.heap.size ≤ ad k) (E : ∀ (H : Heap) (ls : Array Slot), W p l e room_1 s m #[Value.ref b] below meth c H [] 149 3616 Q (F0 m 849 ls [.int 1])) (H : Heap) (locs : List Loc) (ls : Array Slot) (hP : va_P D vwCl (zC ty (fun _ _ => 0) ad) H) (hS : va_S (fun q => s.heap.size ≤ q) s.heap H locs) (hl : lv_has ls 25 [(1, .ref (ad 0)), (0, .ref b)]) : W p l e room_1 s m #[Value.ref b] below meth c H locs 39 2808 Q (F0 m 8 ls []) := by
  have hC0 := hC
  obtain ⟨⟨hx, hb, hr, hml, hlocks, hlt⟩, ⟨hown, hts, hX, hbl, hL⟩, hK, hN, hT, hQ⟩ := hC
  have hcc : 39 ≤ room_1.cells := by show 39 ≤ 149; omega
  have hss : 2808 ≤ room_1.slots := by show 2808 ≤ 3616; omega
  refine lv_iconst (v := nI 2) hx hb dL_law_8 (by decide) ?_
  refine lv_aload_n hx hb dL_law_9 rfl (lv_at hl 1 rfl) ?_
  refine lv_iconst (v := nI 0) hx hb dL_law_10 (by decide) ?_
  refine zcSi (As := [.ref b, .int (nI 0)]) (rest := [.int (nI 2)]) ⟨hx, hb, hml, hown, hts⟩ (c_L_cell l b L xs (by omega) 0 (by omega)) (cwS 2 hts gL_law_L_cell rfl rfl rfl (by decide +kernel) ⟨Nat.le_of_ble_eq_true rfl, Nat.le_of_ble_eq_true rfl⟩) zScr_blind (zScr_pre hX hbl hS) rfl hl.1 rfl (Nat.le_of_ble_eq_true rfl) dL_law_11 ⟨hcc, hss⟩ (fun z_1 _ => ?_)
  refine lv_iconst (v := nI 4) hx hb dL_law_14 (by decide) ?_
  refine zcSi (As := [.int z_1, .int (nI 4)]) (rest := [.int (nI 2)]) ⟨hx, hb, hml, hown, hts⟩ (c_L_below l _ z_1 4 (by omega) (by omega)) (cwS 2 hts gL_law_L_below rfl rfl rfl (by decide +kernel) ⟨Nat.le_of_ble_eq_true rfl, Nat.le_of_ble_eq_true rfl⟩) (B := fun _ => True) (fun _ _ _ _ _ => trivial) (fun _ _ _ => trivial) rfl hl.1 rfl (Nat.le_of_ble_eq_true rfl) dL_law_15 ⟨hcc, hss⟩ (fun r hr => ?_)
  obtain ⟨j_2, hj_2, rfl⟩ := hr
  refine lv_iadd hx hb dL_law_18 ?_
  refine zeq (nI_add 2 j_2) ?_
  obtain ⟨n, hn⟩ : ∃ n, n = 2 + j_2 := ⟨_, rfl⟩
  have hn2 : 2 ≤ n := by omega
  have hn5 : n ≤ 5 := by omega
  refine zeq (show nI (2 + j_2) = nI n from by rw [hn]) ?_
  refine lv_istore_n (lv' := [(2, .int (nI n)), (1, .ref (ad 0)), (0, .ref b)]) hx hb dL_law_19 rfl hl (by decide) rfl (fun ls hl => ?_)
  refine lv_iconst (v := nI 0) hx hb dL_law_20 (by decide) ?_
  refine lv_istore_n (lv' := [(3, .int (nI 0)), (2, .int (nI n)), (1, .ref (ad 0)), (0, .ref b)]) hx hb dL_law_21 rfl hl (by decide) rfl (fun ls hl => ?_)
  refine zloop (τ := Nat → Nat → Int32) (fun k g ls H locs cells slots => cells = 39 ∧ slots = 2808 ∧ (sA g k) ∧ lv_has ls 25 [(3, .int (nI k)), (2, .int (nI n)), (1, .ref (ad 0)), (0, .ref b)] ∧ va_P D vwCl (zC ty g ad) H ∧ va_S (fun q => s.heap.size ≤ q) s.heap H locs) (n) ?_ 0 (fun _ _ => 0) ls H locs 39 2808 (Nat.zero_le _) ⟨rfl, rfl, sA_0, lv_sub hl [0, 1, 2, 3] rfl, hP, hS⟩
  intro k g ls H locs cells slots hi_k hinv ih_k
  obtain ⟨rfl, rfl, hsA, hl, hP, hS⟩ := hinv
  have hl : lv_has ls 25 [(3, .int (nI k)), (2, .int (nI n)), (1, .ref (ad 0)), (0, .ref b)] := hl
  have hcc : 39 ≤ room_1.cells := by show 39 ≤ 149; omega
  have hss : 2808 ≤ room_1.slots := by show 2808 ≤ 3616; omega
  refine lv_iload_n hx hb dL_law_22 rfl (lv_at hl 0 rfl) ?_
  refine lv_iload_n hx hb dL_law_23 rfl (lv_at hl 1 rfl) ?_
  refine lv_icmp_ge (tgt := 93) hx hb dL_law_24 (by decide) (fun c_1 => ?_) (fun c_1 => ?_)
  · have c_1 := zn_geT (a := k) (b := n) (by omega) (by omega) c_1
    have hsA : sA g n := by rw [show n = k by omega]; exact hsA
    refine lv_iconst (v := nI 1) hx hb dL_law_93 (by decide) ?_
    refine lv_istore_n (lv' := [(3, .int (nI 1)), (2, .int (nI n)), (1, .ref (ad 0)), (0, .ref b)]) hx hb dL_law_94 rfl hl (by decide) rfl (fun ls hl => ?_)
    refine zloop (τ := Nat → Nat → Int32) (fun m0 g ls H locs cells slots => cells = 39 ∧ slots = 2808 ∧ (sB g n m0) ∧ lv_has ls 25 [(3, .int (nI (m0 + 1))), (2, .int (nI n)), (1, .ref (ad 0)), (0, .ref b)] ∧ va_P D vwCl (zC ty g ad) H ∧ va_S (fun q => s.heap.size ≤ q) s.heap H locs) (n - 1) ?_ 0 g ls H locs 39 2808 (Nat.zero_le _) ⟨rfl, rfl, sB_0 hsA, lv_sub hl [0, 1, 2, 3] rfl, hP, hS⟩
    intro m0 g ls H locs cells slots hi_m0 hinv ih_m0
    obtain ⟨rfl, rfl, hsB, hl, hP, hS⟩ := hinv
    have hl : lv_has ls 25 [(3, .int (nI (m0 + 1))), (2, .int (nI n)), (1, .ref (ad 0)), (0, .ref b)] := hl
    have hcc : 39 ≤ room_1.cells := by show 39 ≤ 149; omega
    have hss : 2808 ≤ room_1.slots := by show 2808 ≤ 3616; omega
    refine lv_iload_n hx hb dL_law_95 rfl (lv_at hl 0 rfl) ?_
    refine lv_iload_n hx hb dL_law_96 rfl (lv_at hl 1 rfl) ?_
    refine lv_icmp_ge (tgt := 143) hx hb dL_law_97 (by decide) (fun c_2 => ?_) (fun c_2 => ?_)
    · have c_2 := zn_geT (a := (m0 + 1)) (b := n) (by omega) (by omega) c_2
      have hsB : sB g n (n - 1) := by rw [show n - 1 = m0 by omega]; exact hsB
      refine lv_iconst (v := nI 0) hx hb dL_law_143 (by decide) ?_
      refine lv_istore_n (lv' := [(3, .int (nI 0)), (2, .int (nI n)), (1, .ref (ad 0)), (0, .ref b)]) hx hb dL_law_144 rfl hl (by decide) rfl (fun ls hl => ?_)
      refine zloop (τ := Nat → Nat → Int32) (fun k g ls H locs cells slots => cells = 39 ∧ slots = 2808 ∧ (sC g n k) ∧ lv_has ls 25 [(3, .int (nI k)), (2, .int (nI n)), (1, .ref (ad 0)), (0, .ref b)] ∧ va_P D vwCl (zC ty g ad) H ∧ va_S (fun q => s.heap.size ≤ q) s.heap H locs) (n) ?_ 0 g ls H locs 39 2808 (Nat.zero_le _) ⟨rfl, rfl, sC_0 hsB, lv_sub hl [0, 1, 2, 3] rfl, hP, hS⟩
      intro k g ls H locs cells slots hi_k hinv ih_k
      obtain ⟨rfl, rfl, hsC, hl, hP, hS⟩ := hinv
      have hl : lv_has ls 25 [(3, .int (nI k)), (2, .int (nI n)), (1, .ref (ad 0)), (0, .ref b)] := hl
      have hcc : 39 ≤ room_1.cells := by show 39 ≤ 149; omega
      have hss : 2808 ≤ room_1.slots := by show 2808 ≤ 3616; omega
      refine lv_iload_n hx hb dL_law_145 rfl (lv_at hl 0 rfl) ?_
      refine lv_iload_n hx hb dL_law_146 rfl (lv_at hl 1 rfl) ?_
      refine lv_icmp_ge (tgt := 182) hx hb dL_law_147 (by decide) (fun c_3 => ?_) (fun c_3 => ?_)
      · have c_3 := zn_geT (a := k) (b := n) (by omega) (by omega) c_3
        have hsC : sC g n n := by rw [show sC g n n = sC g n k from by rw [show n = k by omega]]; exact hsC
        refine lv_iconst (v := nI 0) hx hb dL_law_182 (by decide) ?_
        refine lv_istore_n (lv' := [(3, .int (nI 0)), (2, .int (nI n)), (1, .ref (ad 0)), (0, .ref b)]) hx hb dL_law_183 rfl hl (by decide) rfl (fun ls hl => ?_)
        exact law_loop p l e s m below meth c Q D ty b L xs hC0 ad hij hlo E n 46 0 g 0 0 H locs _ rfl (sC_pI hsC hn2 hn5) hP hS (lv_sub hl [0, 1, 2, 3] rfl)
      · have c_3 := zn_geF (a := k) (b := n) (by omega) (by omega) c_3
        have hv0 : nV g k = 0 := by rw [(hsC.v (show k < n by omega)).2, if_neg (Nat.lt_irrefl _)]
        refine lv_aload_n hx hb dL_law_150 rfl (lv_at hl 2 rfl) ?_
        refine lv_iload_n hx hb dL_law_151 rfl (lv_at hl 0 rfl) ?_
        refine lv_bipush (v := nI 50) hx hb dL_law_152 (by decide) ?_
        refine lv_aload_n hx hb dL_law_154 rfl (lv_at hl 3 rfl) ?_
        refine lv_iload_n hx hb dL_law_155 rfl (lv_at hl 0 rfl) ?_
        refine lv_iconst (v := nI 4) hx hb dL_law_156 (by decide) ?_
        refine lv_iadd hx hb dL_law_157 ?_
        refine zeq (nI_add k 4) ?_
        refine zcSi (As := [.ref b, .int (nI (k + 4))]) (rest := [.int (nI 50), .int (nI k), .ref (ad 0)]) ⟨hx, hb, hml, hown, hts⟩ (c_L_cell l b L xs (by omega) (k + 4) (by omega)) (cwS 2 hts gL_law_L_cell rfl rfl rfl (by decide +kernel) ⟨Nat.le_of_ble_eq_true rfl, Nat.le_of_ble_eq_true rfl⟩) zScr_blind (zScr_pre hX hbl hS) rfl hl.1 rfl (Nat.le_of_ble_eq_true rfl) dL_law_158 ⟨hcc, hss⟩ (fun z_3 _ => ?_)
        refine lv_sipush (v := nI 5000) hx hb dL_law_161 (by decide) ?_
        refine zcSi (As := [.int z_3, .int (nI 5000)]) (rest := [.int (nI 50), .int (nI k), .ref (ad 0)]) ⟨hx, hb, hml, hown, hts⟩ (c_L_below l _ z_3 5000 (by omega) (by omega)) (cwS 2 hts gL_law_L_below rfl rfl rfl (by decide +kernel) ⟨Nat.le_of_ble_eq_true rfl, Nat.le_of_ble_eq_true rfl⟩) (B := fun _ => True) (fun _ _ _ _ _ => trivial) (fun _ _ _ => trivial) rfl hl.1 rfl (Nat.le_of_ble_eq_true rfl) dL_law_164 ⟨hcc, hss⟩ (fun r hr => ?_)
        obtain ⟨j_4, hj_4, rfl⟩ := hr
        refine lv_iadd hx hb dL_law_167 ?_
        refine zeq (nI_add 50 j_4) ?_
        have hFc := AC_hs hlo hS.1
        refine va_calli (va_runV (As := [.int (nI k), .int (nI (50 + j_4))]) (rest := []) ⟨hx, hb, hml, hown, hts⟩ (c_X5_version l D ty g ad H.size hij n (n - 1) (k - 1) 0 0 (hsC.d hn2 hn5 (by omega)) k (by omega) (by rw [hv0]; omega) (nI (50 + j_4)) (nI_nlt (by omega) (by omega)) (nI_nlt (by omega) (by omega))) (cwV 2 hts gL_law_X5_version rfl rfl rfl (by decide +kernel) ⟨Nat.le_of_ble_eq_true rfl, Nat.le_of_ble_eq_true rfl⟩) ⟨zBl zW_blind, va_recv hK hP (ci := 5) (q0 := 0) rfl rfl, fun U h1 h2 => ⟨rfl, zI_pre hP hK hN U h1 h2, by rw [h1]⟩⟩ rfl rfl hl.1 rfl (lv_room (Nat.le_of_ble_eq_true rfl)) dL_law_168 ⟨hcc, hss⟩) hS (fun q _ h => hFc q h) (fun q h => hFc q h) (fun r_5 g_4 t H locs ht hvm hw hB _ _ hS => ?_)
        obtain ⟨hr_5, eg_4⟩ := hw
        subst hr_5
        have hP : va_P D vwCl (zC ty g_4 ad) H := by rw [← ht]; exact hB.1
        clear hFc ht hvm hB
        clear t
        refine zeq (show nI (nV g k) = nI 0 from by rw [hv0]) ?_
        have hsC1 : sC g_4 n (k + 1) := by rw [eg_4]; exact sC_ver hsC hn2 hn5 (by omega) (r := 50 + j_4) (by omega) (by omega)
        refine lv_if_eq (tgt := 176) hx hb dL_law_171 (by decide) (fun c_6 => ?_) (fun c_6 => ?_)
        · have c_6 := zq_eqT (x := 0) (by omega) c_6
          refine lv_iinc (v := nI (k + 1)) (lv' := [(3, .int (nI (k + 1))), (2, .int (nI n)), (1, .ref (ad 0)), (0, .ref b)]) hx hb dL_law_176 hl (k := 0) rfl (nI_add k 1) (by decide) rfl (fun ls hl => ?_)
          refine lv_goto (tgt := 145) hx hb dL_law_179 (by decide) ?_
          exact ih_k g_4 _ _ _ _ _ (by omega) ⟨rfl, rfl, hsC1, lv_sub hl [0, 1, 2, 3] rfl, hP, hS⟩
        · have c_6 := zq_eqF (x := 0) (by omega) c_6
          omega
    · have c_2 := zn_geF (a := (m0 + 1)) (b := n) (by omega) (by omega) c_2
      have hfm := hsB.1.f (show m0 + 1 < n by omega)
      have hfm0 := hsB.1.f (show m0 < n by omega)
      have hfm1 := hfm.2.1
      have hfm2 := hfm.2.2
      refine lv_aload_n hx hb dL_law_100 rfl (lv_at hl 2 rfl) ?_
      refine lv_iload_n hx hb dL_law_101 rfl (lv_at hl 0 rfl) ?_
      refine lv_aload_n hx hb dL_law_102 rfl (lv_at hl 2 rfl) ?_
      refine lv_iload_n hx hb dL_law_103 rfl (lv_at hl 0 rfl) ?_
      refine lv_iconst (v := nI 0) hx hb dL_law_104 (by decide) ?_
      refine zcVi (As := [.int (nI (m0 + 1)), .int (nI 0)]) (rest := [.int (nI (m0 + 1)), .ref (ad 0)]) ⟨hx, hb, hml, hown, hts⟩ (c_X5_ofSet l D ty g ad n m0 0 0 0 (hsB.d hn5 (by omega)) (m0 + 1) 0 (by omega) (by decide)) (cwV 2 hts gL_law_X5_ofSet rfl rfl rfl (by decide +kernel) ⟨Nat.le_of_ble_eq_true rfl, Nat.le_of_ble_eq_true rfl⟩) zI_blind (zI_pre hP hK hN) (va_recv hK hP (ci := 5) (q0 := 0) rfl rfl) rfl hl.1 rfl (Nat.le_of_ble_eq_true rfl) dL_law_105 ⟨hcc, hss⟩ (fun r_7 hr_7 => ?_)
      subst hr_7
      refine zeq (show ofSetN g 0 (m0 + 1) 0 = nI (nF g (m0 + 1)) from hfm.1) ?_
      refine lv_iconst (v := nI 1) hx hb dL_law_108 (by decide) ?_
      refine lv_isub hx hb dL_law_109 ?_
      refine zeq (pk_sub (a := (nF g (m0 + 1))) (b := 1) (by omega)) ?_
      refine lv_iload_n hx hb dL_law_110 rfl (lv_at hl 0 rfl) ?_
      refine lv_iconst (v := nI 1) hx hb dL_law_111 (by decide) ?_
      refine lv_isub hx hb dL_law_112 ?_
      refine zeq (pk_sub (a := (m0 + 1)) (b := 1) (by omega)) ?_
      refine zeq (show nI ((m0 + 1) - 1) = nI m0 from rfl) ?_
      refine lv_iconst (v := nI 0) hx hb dL_law_113 (by decide) ?_
      refine lv_iconst (v := nI 1) hx hb dL_law_114 (by decide) ?_
      refine lv_aload_n hx hb dL_law_115 rfl (lv_at hl 3 rfl) ?_
      refine lv_iload_n hx hb dL_law_116 rfl (lv_at hl 0 rfl) ?_
      refine zcSi (As := [.ref b, .int (nI (m0 + 1))]) (rest := [.int (nI 1), .int (nI 0), .int (nI m0), .int (nI ((nF g (m0 + 1)) - 1)), .int (nI (m0 + 1)), .ref (ad 0)]) ⟨hx, hb, hml, hown, hts⟩ (c_L_cell l b L xs (by omega) (m0 + 1) (by omega)) (cwS 2 hts gL_law_L_cell rfl rfl rfl (by decide +kernel) ⟨Nat.le_of_ble_eq_true rfl, Nat.le_of_ble_eq_true rfl⟩) zScr_blind (zScr_pre hX hbl hS) rfl hl.1 rfl (Nat.le_of_ble_eq_true rfl) dL_law_117 ⟨hcc, hss⟩ (fun z_5 _ => ?_)
      refine lv_iconst (v := nI 4) hx hb dL_law_120 (by decide) ?_
      refine lv_ishr hx hb dL_law_121 ?_
      refine lv_bipush (v := nI 100) hx hb dL_law_122 (by decide) ?_
      refine zcSi (As := [.int (z_5 >>> ((nI 4) &&& 31)), .int (nI 100)]) (rest := [.int (nI 1), .int (nI 0), .int (nI m0), .int (nI ((nF g (m0 + 1)) - 1)), .int (nI (m0 + 1)), .ref (ad 0)]) ⟨hx, hb, hml, hown, hts⟩ (c_L_below l _ (z_5 >>> ((nI 4) &&& 31)) 100 (by omega) (by omega)) (cwS 2 hts gL_law_L_below rfl rfl rfl (by decide +kernel) ⟨Nat.le_of_ble_eq_true rfl, Nat.le_of_ble_eq_true rfl⟩) (B := fun _ => True) (fun _ _ _ _ _ => trivial) (fun _ _ _ => trivial) rfl hl.1 rfl (Nat.le_of_ble_eq_true rfl) dL_law_124 ⟨hcc, hss⟩ (fun r hr => ?_)
      obtain ⟨j_6, hj_6, rfl⟩ := hr
      refine lv_iadd hx hb dL_law_127 ?_
      refine zeq (nI_add 1 j_6) ?_
      have hFc := AC_hs hlo hS.1
      refine va_calli (va_runV (As := [.int (nI (m0 + 1)), .int (nI ((nF g (m0 + 1)) - 1)), .int (nI m0), .int (nI 0), .int (nI (1 + j_6))]) (rest := []) ⟨hx, hb, hml, hown, hts⟩ (c_X5_source_n l D ty g ad H.size hij n m0 0 0 0 (hsB.d hn5 (by omega)) (m0 + 1) (nF g (m0 + 1) - 1) m0 0 (by omega) (by omega) (by omega) hfm0.2.1 (nI (1 + j_6)) (nI_nlt (by omega) (by omega)) (nI_nlt (by omega) (by omega)) (by omega) (sB_no hsB hn5 (by omega) (m0 * 6 + 0))) (cwV 5 hts gL_law_X5_source rfl rfl rfl (by decide +kernel) ⟨Nat.le_of_ble_eq_true rfl, Nat.le_of_ble_eq_true rfl⟩) ⟨zBl zW_blind, va_recv hK hP (ci := 5) (q0 := 0) rfl rfl, fun U h1 h2 => ⟨rfl, zI_pre hP hK hN U h1 h2, by rw [h1]⟩⟩ rfl rfl hl.1 rfl (lv_room (Nat.le_of_ble_eq_true rfl)) dL_law_128 ⟨hcc, hss⟩) hS (fun q _ h => hFc q h) (fun q h => hFc q h) (fun r_9 g_8 t H locs ht hvm hw hB _ _ hS => ?_)
      obtain ⟨hr_9, eg_8⟩ := hw
      subst hr_9
      have hP : va_P D vwCl (zC ty g_8 ad) H := by rw [← ht]; exact hB.1
      clear hFc ht hvm hB
      clear t
      have hs9 := sB_src hsB hn5 (by omega) (sh := 1 + j_6) (by omega)
      refine zeq hs9.2 ?_
      have hsB1 := hs9.1
      rw [← eg_8] at hsB1
      refine lv_iconst (v := nI 1) hx hb dL_law_131 (by decide) ?_
      refine lv_icmp_eq (tgt := 137) hx hb dL_law_132 (by decide) (fun c_10 => ?_) (fun c_10 => ?_)
      · have c_10 := zn_eqT (a := 1) (b := 1) (by omega) (by omega) c_10
        refine lv_iinc (v := nI ((m0 + 1) + 1)) (lv' := [(3, .int (nI ((m0 + 1) + 1))), (2, .int (nI n)), (1, .ref (ad 0)), (0, .ref b)]) hx hb dL_law_137 hl (k := 0) rfl (nI_add (m0 + 1) 1) (by decide) rfl (fun ls hl => ?_)
        refine lv_goto (tgt := 95) hx hb dL_law_140 (by decide) ?_
        exact ih_m0 g_8 _ _ _ _ _ (by omega) ⟨rfl, rfl, hsB1, lv_sub hl [0, 1, 2, 3] rfl, hP, hS⟩
      · have c_10 := zn_eqF (a := 1) (b := 1) (by omega) (by omega) c_10
        omega
  · have c_1 := zn_geF (a := k) (b := n) (by omega) (by omega) c_1
    refine lv_aload_n hx hb dL_law_27 rfl (lv_at hl 2 rfl) ?_
    refine lv_iconst (v := nI 1) hx hb dL_law_28 (by decide) ?_
    refine lv_aload_n hx hb dL_law_29 rfl (lv_at hl 3 rfl) ?_
    refine lv_iload_n hx hb dL_law_30 rfl (lv_at hl 0 rfl) ?_
    refine zcSi (As := [.ref b, .int (nI k)]) (rest := [.int (nI 1), .ref (ad 0)]) ⟨hx, hb, hml, hown, hts⟩ (c_L_cell l b L xs (by omega) k (by omega)) (cwS 2 hts gL_law_L_cell rfl rfl rfl (by decide +kernel) ⟨Nat.le_of_ble_eq_true rfl, Nat.le_of_ble_eq_true rfl⟩) zScr_blind (zScr_pre hX hbl hS) rfl hl.1 rfl (Nat.le_of_ble_eq_true rfl) dL_law_31 ⟨hcc, hss⟩ (fun z_7 _ => ?_)
    refine lv_bipush (v := nI 6) hx hb dL_law_34 (by decide) ?_
    refine zcSi (As := [.int z_7, .int (nI 6)]) (rest := [.int (nI 1), .ref (ad 0)]) ⟨hx, hb, hml, hown, hts⟩ (c_L_below l _ z_7 6 (by omega) (by omega)) (cwS 2 hts gL_law_L_below rfl rfl rfl (by decide +kernel) ⟨Nat.le_of_ble_eq_true rfl, Nat.le_of_ble_eq_true rfl⟩) (B := fun _ => True) (fun _ _ _ _ _ => trivial) (fun _ _ _ => trivial) rfl hl.1 rfl (Nat.le_of_ble_eq_true rfl) dL_law_36 ⟨hcc, hss⟩ (fun r hr => ?_)
    obtain ⟨j_8, hj_8, rfl⟩ := hr
    refine lv_iadd hx hb dL_law_39 ?_
    refine zeq (nI_add 1 j_8) ?_
    have hFc := AC_hs hlo hS.1
    refine va_calli (va_runV (As := [.int (nI (1 + j_8))]) (rest := []) ⟨hx, hb, hml, hown, hts⟩ (c_X5_set l D ty g ad H.size hij k 0 0 0 0 hsA.d (1 + j_8) (by omega) (by omega) (by omega)) (cwV 1 hts gL_law_X5_set rfl rfl rfl (by decide +kernel) ⟨Nat.le_of_ble_eq_true rfl, Nat.le_of_ble_eq_true rfl⟩) ⟨zBl zW_blind, va_recv hK hP (ci := 5) (q0 := 0) rfl rfl, fun U h1 h2 => ⟨rfl, zI_pre hP hK hN U h1 h2, by rw [h1]⟩⟩ rfl rfl hl.1 rfl (lv_room (Nat.le_of_ble_eq_true rfl)) dL_law_40 ⟨hcc, hss⟩) hS (fun q _ h => hFc q h) (fun q h => hFc q h) (fun r_12 g_11 t H locs ht hvm hw hB _ _ hS => ?_)
    obtain ⟨hr_12, eg_11⟩ := hw
    subst hr_12
    have hP : va_P D vwCl (zC ty g_11 ad) H := by rw [← ht]; exact hB.1
    clear hFc ht hvm hB
    clear t
    have hs9 := sA_set hsA (by omega) (a := 1 + j_8) (by omega) (by omega)
    rw [← eg_11] at hs9
    obtain ⟨hsA1, h10, hf0⟩ := hs9
    refine lv_iload_n hx hb dL_law_43 rfl (lv_at hl 0 rfl) ?_
    refine lv_icmp_ne (tgt := 85) hx hb dL_law_44 (by decide) (fun c_13 => ?_) (fun c_13 => ?_)
    · have c_13 := zn_neT (a := k) (b := k) (by omega) (by omega) c_13
      omega
    · have c_13 := zn_neF (a := k) (b := k) (by omega) (by omega) c_13
      refine lv_aload_n hx hb dL_law_47 rfl (lv_at hl 2 rfl) ?_
      refine lv_iload_n hx hb dL_law_48 rfl (lv_at hl 0 rfl) ?_
      refine lv_iconst (v := nI 0) hx hb dL_law_49 (by decide) ?_
      refine lv_iconst (v := nI 1) hx hb dL_law_50 (by decide) ?_
      refine lv_aload_n hx hb dL_law_51 rfl (lv_at hl 3 rfl) ?_
      refine lv_iload_n hx hb dL_law_52 rfl (lv_at hl 0 rfl) ?_
      refine zcSi (As := [.ref b, .int (nI k)]) (rest := [.int (nI 1), .int (nI 0), .int (nI k), .ref (ad 0)]) ⟨hx, hb, hml, hown, hts⟩ (c_L_cell l b L xs (by omega) k (by omega)) (cwS 2 hts gL_law_L_cell rfl rfl rfl (by decide +kernel) ⟨Nat.le_of_ble_eq_true rfl, Nat.le_of_ble_eq_true rfl⟩) zScr_blind (zScr_pre hX hbl hS) rfl hl.1 rfl (Nat.le_of_ble_eq_true rfl) dL_law_53 ⟨hcc, hss⟩ (fun z_9 _ => ?_)
      refine lv_iconst (v := nI 3) hx hb dL_law_56 (by decide) ?_
      refine lv_ishr hx hb dL_law_57 ?_
      refine lv_bipush (v := nI 99) hx hb dL_law_58 (by decide) ?_
      refine zcSi (As := [.int (z_9 >>> ((nI 3) &&& 31)), .int (nI 99)]) (rest := [.int (nI 1), .int (nI 0), .int (nI k), .ref (ad 0)]) ⟨hx, hb, hml, hown, hts⟩ (c_L_below l _ (z_9 >>> ((nI 3) &&& 31)) 99 (by omega) (by omega)) (cwS 2 hts gL_law_L_below rfl rfl rfl (by decide +kernel) ⟨Nat.le_of_ble_eq_true rfl, Nat.le_of_ble_eq_true rfl⟩) (B := fun _ => True) (fun _ _ _ _ _ => trivial) (fun _ _ _ => trivial) rfl hl.1 rfl (Nat.le_of_ble_eq_true rfl) dL_law_60 ⟨hcc, hss⟩ (fun r hr => ?_)
      obtain ⟨j_10, hj_10, rfl⟩ := hr
      refine lv_iadd hx hb dL_law_63 ?_
      refine zeq (nI_add 1 j_10) ?_
      refine lv_aload_n hx hb dL_law_64 rfl (lv_at hl 3 rfl) ?_
      refine lv_iload_n hx hb dL_law_65 rfl (lv_at hl 0 rfl) ?_
      refine zcSi (As := [.ref b, .int (nI k)]) (rest := [.int (nI (1 + j_10)), .int (nI 0), .int (nI k), .ref (ad 0)]) ⟨hx, hb, hml, hown, hts⟩ (c_L_cell l b L xs (by omega) k (by omega)) (cwS 2 hts gL_law_L_cell rfl rfl rfl (by decide +kernel) ⟨Nat.le_of_ble_eq_true rfl, Nat.le_of_ble_eq_true rfl⟩) zScr_blind (zScr_pre hX hbl hS) rfl hl.1 rfl (Nat.le_of_ble_eq_true rfl) dL_law_66 ⟨hcc, hss⟩ (fun z_11 _ => ?_)
      refine lv_iconst (v := nI 2) hx hb dL_law_69 (by decide) ?_
      refine lv_ishr hx hb dL_law_70 ?_
      refine lv_sipush (v := nI 1001) hx hb dL_law_71 (by decide) ?_
      refine zcSi (As := [.int (z_11 >>> ((nI 2) &&& 31)), .int (nI 1001)]) (rest := [.int (nI (1 + j_10)), .int (nI 0), .int (nI k), .ref (ad 0)]) ⟨hx, hb, hml, hown, hts⟩ (c_L_below l _ (z_11 >>> ((nI 2) &&& 31)) 1001 (by omega) (by omega)) (cwS 2 hts gL_law_L_below rfl rfl rfl (by decide +kernel) ⟨Nat.le_of_ble_eq_true rfl, Nat.le_of_ble_eq_true rfl⟩) (B := fun _ => True) (fun _ _ _ _ _ => trivial) (fun _ _ _ => trivial) rfl hl.1 rfl (Nat.le_of_ble_eq_true rfl) dL_law_74 ⟨hcc, hss⟩ (fun r hr => ?_)
      obtain ⟨j_12, hj_12, rfl⟩ := hr
      have hFc := AC_hs hlo hS.1
      refine va_calli (va_runV (As := [.int (nI k), .int (nI 0), .int (nI (1 + j_10)), .int (nI j_12)]) (rest := []) ⟨hx, hb, hml, hown, hts⟩ (c_X5_terms l D ty g_11 ad H.size hij (k + 1) 0 0 0 0 hsA1.d k 0 (by omega) hf0 (nI (1 + j_10)) (nI j_12) (nI_nlt (by omega) (by omega)) (nI_nlt (by omega) (by omega)) (nI_pos (by omega)) (nI_nlt (by omega) (by omega))) (cwV 4 hts gL_law_X5_terms rfl rfl rfl (by decide +kernel) ⟨Nat.le_of_ble_eq_true rfl, Nat.le_of_ble_eq_true rfl⟩) ⟨zBl zW_blind, va_recv hK hP (ci := 5) (q0 := 0) rfl rfl, fun U h1 h2 => ⟨rfl, zI_pre hP hK hN U h1 h2, by rw [h1]⟩⟩ rfl rfl hl.1 rfl (lv_room (Nat.le_of_ble_eq_true rfl)) dL_law_77 ⟨hcc, hss⟩) hS (fun q _ h => hFc q h) (fun q h => hFc q h) (fun r_15 g_14 t H locs ht hvm hw hB _ _ hS => ?_)
      obtain ⟨hr_15, eg_14⟩ := hw
      subst hr_15
      have hP : va_P D vwCl (zC ty g_14 ad) H := by rw [← ht]; exact hB.1
      clear hFc ht hvm hB
      clear t
      have hsA2 : sA g_14 (k + 1) := by rw [eg_14]; exact sA_terms hsA1 (p := 1 + j_10) (by omega) _ _
      refine zeq h10 ?_
      refine lv_bipush (v := nI 10) hx hb dL_law_80 (by decide) ?_
      refine lv_icmp_eq (tgt := 87) hx hb dL_law_82 (by decide) (fun c_16 => ?_) (fun c_16 => ?_)
      · have c_16 := zn_eqT (a := 10) (b := 10) (by omega) (by omega) c_16
        refine lv_iinc (v := nI (k + 1)) (lv' := [(3, .int (nI (k + 1))), (2, .int (nI n)), (1, .ref (ad 0)), (0, .ref b)]) hx hb dL_law_87 hl (k := 0) rfl (nI_add k 1) (by decide) rfl (fun ls hl => ?_)
        refine lv_goto (tgt := 22) hx hb dL_law_90 (by decide) ?_
        exact ih_k g_14 _ _ _ _ _ (by omega) ⟨rfl, rfl, hsA2, lv_sub hl [0, 1, 2, 3] rfl, hP, hS⟩
      · have c_16 := zn_eqF (a := 10) (b := 10) (by omega) (by omega) c_16
        omega
