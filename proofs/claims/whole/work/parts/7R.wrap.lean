set_option maxHeartbeats 1000000 in
set_option maxRecDepth 100000 in
theorem l_set_ok (l : Launch) (D : va_G) (ty : Nat → ClassId) (tl : ClassId) (g g2 : Nat → Nat → Int32) (ad : Nat → Nat) (ob : Nat) (f : Nat → Int64) (sz : Nat) (hob : ∀ k, k < 39 → ad k ≠ ob) (rm : Room) (hrc : rm.cells = 0) (hrs : rm.slots = 0) (hrf : rm.frames ≤ 9) (hrl : rm.locals ≤ 180) (x0 : Int32) (a : Int32) (hM : Met l yX5_set wsX5_set rm (va_Pc [.ref (ad 0), .int x0] (fun U => zI D ty g ad U ∧ U.heap.size = sz)) (va_Qi (fun (v9 : Int32) (gz : Nat → Nat → Int32) => v9 = a ∧ gz = g2) (fun gz t => zI D ty gz ad t) (AC ad sz)) 0 0 (AC ad sz)) : Met l yL_set wsL_set ({ frames := 10, cells := 1, slots := 6, locals := 230 }) (va_Pc [.ref (ad 0), .int x0, .ref ob] (wX D ty tl g ad ob f sz)) (wQ D ty tl ad ob sz 0 a.toInt64 g2) 1 6 (WC ad ob sz) := by
  refine zMetH (cc := cL_set) (maxL := 4) (ret := (some .int)) (hh := [(0, 9, 12, 13), (0, 9, 15, 15)]) (by decide) rfl (Nat.le_of_ble_eq_true rfl) ?_
  intro p e s m below meth c hx hb hr hts hown hlocks hml htab hB ls hl
  obtain ⟨⟨⟨hP, hK, hN⟩, hQ, hT⟩, hNc, hKl, hO, hsz⟩ := hB
  have hS : va_S (WC ad ob sz) s.heap s.heap [] := va_S.rf
  have hl : lv_has ls 4 [(0, .ref (ad 0)), (1, .int x0), (2, .ref ob)] := hl
  refine lv_aload_n hx hb dL_set_0 rfl (lv_at hl 2 rfl) ?_
  refine lv_iconst (v := nI 0) hx hb dL_set_1 (by decide) ?_
  refine lv_aload_n hx hb dL_set_2 rfl (lv_at hl 0 rfl) ?_
  refine lv_iload_n hx hb dL_set_3 rfl (lv_at hl 1 rfl) ?_
  refine va_calli (va_runV (As := [.int x0]) (rest := [.int (nI 0), .ref ob]) ⟨hx, hb, hml, hown, hts⟩ hM (cwV 1 hts gL_set_X5_set rfl hrc hrs (by decide +kernel) ⟨by show _ ≤ 10; omega, by show _ ≤ 230; omega⟩) ⟨zBl zW_blind, va_recv hK hP (ci := 6) (q0 := 0) rfl rfl, fun U h1 h2 => ⟨rfl, zI_pre hP hK hN U h1 h2, by rw [h1]; exact hsz⟩⟩ rfl rfl hl.1 rfl (lv_room (Nat.le_of_ble_eq_true rfl)) dL_set_4 ⟨Nat.le_of_ble_eq_true rfl, Nat.le_of_ble_eq_true rfl⟩) hS (fun _ _ h => Or.inl h) (fun _ h => Or.inl h) (fun r gz t H locs ht hvm hw hB hz1 hk1 hS => ?_)
  obtain ⟨rfl, rfl⟩ := hw
  have hP : va_P D vwCl (zC ty gz ad) H := by rw [← ht]; exact hB.1
  have hO : va_at D vwCl (ob, eL tl f) H := hO.kept (hk1 ob hO.lt (fun z => by rcases z with ⟨k, hk, z⟩ | z; (exact hob k hk z.symm); (have := hO.lt; have h9 : ob < s.heap.size := this; omega)))
  refine lv_i2l hx hb dL_set_7 rfl ?_
  refine zlast hx hb hKl hO hS (Or.inr rfl) dL_set_8 (fun H1 locs hO hS ho => ?_)
  have hP : va_P D vwCl (zC ty gz ad) H1 := zC_kept hP (fun k hk _ => ho _ (hob k hk))
  refine lv_goto (tgt := 18) hx hb dL_set_9 (by decide) ?_
  refine lv_iconst (v := nI 0) hx hb dL_set_18 (by decide) ?_
  refine W.widen (k := 1) (n := 6) (by omega) (by omega) ?_
  exact W.iret (v := nI 0) hx hb hr (fun t ht hW => ⟨⟨_, (gz, vp_updL f 0 (r.toInt64)), rfl, ⟨rfl, rfl, fun _ => (show vp_updL f 0 (r.toInt64) 0 = _ by unfold vp_updL; rw [if_pos rfl])⟩, by rw [ht]; exact hP, by rw [ht]; exact hO⟩, hS.F ht⟩) hS.2.2 dL_set_19
set_option maxHeartbeats 1000000 in
set_option maxRecDepth 100000 in
theorem l_set_x1 (l : Launch) (D : va_G) (ty : Nat → ClassId) (tl : ClassId) (g : Nat → Nat → Int32) (ad : Nat → Nat) (ob : Nat) (f : Nat → Int64) (sz : Nat) (hob : ∀ k, k < 39 → ad k ≠ ob) (rm : Room) (hrc : rm.cells = 1) (hrs : rm.slots = 6) (hrf : rm.frames ≤ 9) (hrl : rm.locals ≤ 180) (x0 : Int32) (a : Int64) (hM : vx_Met l yX5_set wsX5_set rm (va_Pc [.ref (ad 0), .int x0] (zX D ty g ad)) zno (zXC "java/lang/IllegalArgumentException") 1 6 (fun _ => False)) : Met l yL_set wsL_set ({ frames := 10, cells := 1, slots := 6, locals := 230 }) (va_Pc [.ref (ad 0), .int x0, .ref ob] (wX D ty tl g ad ob f sz)) (wQ D ty tl ad ob sz 1 a g) 1 6 (WC ad ob sz) := by
  refine zMetH (cc := cL_set) (maxL := 4) (ret := (some .int)) (hh := [(0, 9, 12, 13), (0, 9, 15, 15)]) (by decide) rfl (Nat.le_of_ble_eq_true rfl) ?_
  intro p e s m below meth c hx hb hr hts hown hlocks hml htab hB ls hl
  obtain ⟨⟨⟨hP, hK, hN⟩, hQ, hT⟩, hNc, hKl, hO, hsz⟩ := hB
  have hS : va_S (WC ad ob sz) s.heap s.heap [] := va_S.rf
  have hl : lv_has ls 4 [(0, .ref (ad 0)), (1, .int x0), (2, .ref ob)] := hl
  refine lv_aload_n hx hb dL_set_0 rfl (lv_at hl 2 rfl) ?_
  refine lv_iconst (v := nI 0) hx hb dL_set_1 (by decide) ?_
  refine lv_aload_n hx hb dL_set_2 rfl (lv_at hl 0 rfl) ?_
  refine lv_iload_n hx hb dL_set_3 rfl (lv_at hl 1 rfl) ?_
  refine zxcall (vx_runV (As := [.int x0]) (rest := [.int (nI 0), .ref ob]) ⟨hx, hb, hml, hown, hts⟩ hM (cwV 1 hts gL_set_X5_set rfl hrc hrs (by decide +kernel) ⟨by show _ ≤ 10; omega, by show _ ≤ 230; omega⟩) ⟨zBl zX_blind, va_recv hK hP (ci := 6) (q0 := 0) rfl rfl, fun U h1 h2 => ⟨rfl, zX_pre hP hK hN hQ hT U h1 h2⟩⟩ rfl rfl hl.1 rfl (lv_room (Nat.le_of_ble_eq_true rfl)) dL_set_4 ⟨Nat.le_of_ble_eq_true rfl, Nat.le_of_ble_eq_true rfl⟩) hS (fun ce q9 H locs hz ho hS hc1 hc2 hc3 => ?_)
  refine vx_catch (name := "java/lang/IllegalArgumentException") hown [] ⟨0, 9, 12, 13⟩ [⟨0, 9, 15, 15⟩] (htab.trans rfl) (fun z h => nomatch h) (by decide) (by decide) (hts (.classLink RL 13 "java/lang/IllegalArgumentException") (by decide +kernel)) (zN.use hN (List.mem_of_getElem? (i := 29) rfl)) hc1 hc2 hc3 ?_
  refine lv_astore_n (lv' := [(3, .ref q9), (0, .ref (ad 0)), (1, .int x0), (2, .ref ob)]) hx hb dL_set_12 rfl hl (by decide) rfl (fun ls hl => ?_)
  refine lv_iconst (v := nI 1) hx hb dL_set_13 (by decide) ?_
  have hP : va_P D vwCl (zC ty g ad) H := zC_kept hP (fun k hk h => ho _ h)
  have hO : va_at D vwCl (ob, eL tl f) H := hO.kept (ho ob hO.lt)
  exact W.iret (v := nI 1) hx hb hr (fun t ht hW => ⟨⟨_, (g, f), rfl, ⟨rfl, rfl, fun z => nomatch z⟩, by rw [ht]; exact hP, by rw [ht]; exact hO⟩, hS.F ht⟩) hS.2.2 dL_set_14
set_option maxHeartbeats 1000000 in
set_option maxRecDepth 100000 in
theorem l_set_x2 (l : Launch) (D : va_G) (ty : Nat → ClassId) (tl : ClassId) (g : Nat → Nat → Int32) (ad : Nat → Nat) (ob : Nat) (f : Nat → Int64) (sz : Nat) (hob : ∀ k, k < 39 → ad k ≠ ob) (rm : Room) (hrc : rm.cells = 1) (hrs : rm.slots = 6) (hrf : rm.frames ≤ 9) (hrl : rm.locals ≤ 180) (x0 : Int32) (a : Int64) (hM : vx_Met l yX5_set wsX5_set rm (va_Pc [.ref (ad 0), .int x0] (zX D ty g ad)) zno (zXC "java/lang/IllegalStateException") 1 6 (fun _ => False)) : Met l yL_set wsL_set ({ frames := 10, cells := 1, slots := 6, locals := 230 }) (va_Pc [.ref (ad 0), .int x0, .ref ob] (wX D ty tl g ad ob f sz)) (wQ D ty tl ad ob sz 2 a g) 1 6 (WC ad ob sz) := by
  refine zMetH (cc := cL_set) (maxL := 4) (ret := (some .int)) (hh := [(0, 9, 12, 13), (0, 9, 15, 15)]) (by decide) rfl (Nat.le_of_ble_eq_true rfl) ?_
  intro p e s m below meth c hx hb hr hts hown hlocks hml htab hB ls hl
  obtain ⟨⟨⟨hP, hK, hN⟩, hQ, hT⟩, hNc, hKl, hO, hsz⟩ := hB
  have hS : va_S (WC ad ob sz) s.heap s.heap [] := va_S.rf
  have hl : lv_has ls 4 [(0, .ref (ad 0)), (1, .int x0), (2, .ref ob)] := hl
  refine lv_aload_n hx hb dL_set_0 rfl (lv_at hl 2 rfl) ?_
  refine lv_iconst (v := nI 0) hx hb dL_set_1 (by decide) ?_
  refine lv_aload_n hx hb dL_set_2 rfl (lv_at hl 0 rfl) ?_
  refine lv_iload_n hx hb dL_set_3 rfl (lv_at hl 1 rfl) ?_
  refine zxcall (vx_runV (As := [.int x0]) (rest := [.int (nI 0), .ref ob]) ⟨hx, hb, hml, hown, hts⟩ hM (cwV 1 hts gL_set_X5_set rfl hrc hrs (by decide +kernel) ⟨by show _ ≤ 10; omega, by show _ ≤ 230; omega⟩) ⟨zBl zX_blind, va_recv hK hP (ci := 6) (q0 := 0) rfl rfl, fun U h1 h2 => ⟨rfl, zX_pre hP hK hN hQ hT U h1 h2⟩⟩ rfl rfl hl.1 rfl (lv_room (Nat.le_of_ble_eq_true rfl)) dL_set_4 ⟨Nat.le_of_ble_eq_true rfl, Nat.le_of_ble_eq_true rfl⟩) hS (fun ce q9 H locs hz ho hS hc1 hc2 hc3 => ?_)
  refine vx_catch (name := "java/lang/IllegalStateException") hown [⟨0, 9, 12, 13⟩] ⟨0, 9, 15, 15⟩ [] (htab.trans rfl) (List.forall_mem_cons.mpr ⟨Or.inr ⟨by decide, "java/lang/IllegalArgumentException", (hts (.classLink RL 13 "java/lang/IllegalArgumentException") (by decide +kernel)), hNc.2.2⟩, fun z h => nomatch h⟩) (by decide) (by decide) (hts (.classLink RL 15 "java/lang/IllegalStateException") (by decide +kernel)) (zN.use hN (List.mem_of_getElem? (i := 38) rfl)) hc1 hc2 hc3 ?_
  refine lv_astore_n (lv' := [(3, .ref q9), (0, .ref (ad 0)), (1, .int x0), (2, .ref ob)]) hx hb dL_set_15 rfl hl (by decide) rfl (fun ls hl => ?_)
  refine lv_iconst (v := nI 2) hx hb dL_set_16 (by decide) ?_
  have hP : va_P D vwCl (zC ty g ad) H := zC_kept hP (fun k hk h => ho _ h)
  have hO : va_at D vwCl (ob, eL tl f) H := hO.kept (ho ob hO.lt)
  exact W.iret (v := nI 2) hx hb hr (fun t ht hW => ⟨⟨_, (g, f), rfl, ⟨rfl, rfl, fun z => nomatch z⟩, by rw [ht]; exact hP, by rw [ht]; exact hO⟩, hS.F ht⟩) hS.2.2 dL_set_17
set_option maxHeartbeats 1000000 in
set_option maxRecDepth 100000 in
theorem l_terms_ok (l : Launch) (D : va_G) (ty : Nat → ClassId) (tl : ClassId) (g g2 : Nat → Nat → Int32) (ad : Nat → Nat) (ob : Nat) (f : Nat → Int64) (sz : Nat) (hob : ∀ k, k < 39 → ad k ≠ ob) (rm : Room) (hrc : rm.cells = 0) (hrs : rm.slots = 0) (hrf : rm.frames ≤ 9) (hrl : rm.locals ≤ 180) (x0 x1 x2 x3 : Int32) (a : Int32) (hM : Met l yX5_terms wsX5_terms rm (va_Pc [.ref (ad 0), .int x0, .int x1, .int x2, .int x3] (fun U => zI D ty g ad U ∧ U.heap.size = sz)) (va_Qi (fun (v9 : Int32) (gz : Nat → Nat → Int32) => v9 = a ∧ gz = g2) (fun gz t => zI D ty gz ad t) (AC ad sz)) 0 0 (AC ad sz)) : Met l yL_terms wsL_terms ({ frames := 10, cells := 1, slots := 6, locals := 230 }) (va_Pc [.ref (ad 0), .int x0, .int x1, .int x2, .int x3, .ref ob] (wX D ty tl g ad ob f sz)) (wQ D ty tl ad ob sz 0 a.toInt64 g2) 1 6 (WC ad ob sz) := by
  refine zMetH (cc := cL_terms) (maxL := 7) (ret := (some .int)) (hh := [(0, 14, 17, 21), (0, 14, 21, 13)]) (by decide) rfl (Nat.le_of_ble_eq_true rfl) ?_
  intro p e s m below meth c hx hb hr hts hown hlocks hml htab hB ls hl
  obtain ⟨⟨⟨hP, hK, hN⟩, hQ, hT⟩, hNc, hKl, hO, hsz⟩ := hB
  have hS : va_S (WC ad ob sz) s.heap s.heap [] := va_S.rf
  have hl : lv_has ls 7 [(0, .ref (ad 0)), (1, .int x0), (2, .int x1), (3, .int x2), (4, .int x3), (5, .ref ob)] := hl
  refine lv_aload hx hb dL_terms_0 (lv_at hl 5 rfl) ?_
  refine lv_iconst (v := nI 0) hx hb dL_terms_2 (by decide) ?_
  refine lv_aload_n hx hb dL_terms_3 rfl (lv_at hl 0 rfl) ?_
  refine lv_iload_n hx hb dL_terms_4 rfl (lv_at hl 1 rfl) ?_
  refine lv_iload_n hx hb dL_terms_5 rfl (lv_at hl 2 rfl) ?_
  refine lv_iload_n hx hb dL_terms_6 rfl (lv_at hl 3 rfl) ?_
  refine lv_iload hx hb dL_terms_7 (lv_at hl 4 rfl) ?_
  refine va_calli (va_runV (As := [.int x0, .int x1, .int x2, .int x3]) (rest := [.int (nI 0), .ref ob]) ⟨hx, hb, hml, hown, hts⟩ hM (cwV 4 hts gL_terms_X5_terms rfl hrc hrs (by decide +kernel) ⟨by show _ ≤ 10; omega, by show _ ≤ 230; omega⟩) ⟨zBl zW_blind, va_recv hK hP (ci := 6) (q0 := 0) rfl rfl, fun U h1 h2 => ⟨rfl, zI_pre hP hK hN U h1 h2, by rw [h1]; exact hsz⟩⟩ rfl rfl hl.1 rfl (lv_room (Nat.le_of_ble_eq_true rfl)) dL_terms_9 ⟨Nat.le_of_ble_eq_true rfl, Nat.le_of_ble_eq_true rfl⟩) hS (fun _ _ h => Or.inl h) (fun _ h => Or.inl h) (fun r gz t H locs ht hvm hw hB hz1 hk1 hS => ?_)
  obtain ⟨rfl, rfl⟩ := hw
  have hP : va_P D vwCl (zC ty gz ad) H := by rw [← ht]; exact hB.1
  have hO : va_at D vwCl (ob, eL tl f) H := hO.kept (hk1 ob hO.lt (fun z => by rcases z with ⟨k, hk, z⟩ | z; (exact hob k hk z.symm); (have := hO.lt; have h9 : ob < s.heap.size := this; omega)))
  refine lv_i2l hx hb dL_terms_12 rfl ?_
  refine zlast hx hb hKl hO hS (Or.inr rfl) dL_terms_13 (fun H1 locs hO hS ho => ?_)
  have hP : va_P D vwCl (zC ty gz ad) H1 := zC_kept hP (fun k hk _ => ho _ (hob k hk))
  refine lv_goto (tgt := 25) hx hb dL_terms_14 (by decide) ?_
  refine lv_iconst (v := nI 0) hx hb dL_terms_25 (by decide) ?_
  refine W.widen (k := 1) (n := 6) (by omega) (by omega) ?_
  exact W.iret (v := nI 0) hx hb hr (fun t ht hW => ⟨⟨_, (gz, vp_updL f 0 (r.toInt64)), rfl, ⟨rfl, rfl, fun _ => (show vp_updL f 0 (r.toInt64) 0 = _ by unfold vp_updL; rw [if_pos rfl])⟩, by rw [ht]; exact hP, by rw [ht]; exact hO⟩, hS.F ht⟩) hS.2.2 dL_terms_26
set_option maxHeartbeats 1000000 in
set_option maxRecDepth 100000 in
theorem l_terms_x1 (l : Launch) (D : va_G) (ty : Nat → ClassId) (tl : ClassId) (g : Nat → Nat → Int32) (ad : Nat → Nat) (ob : Nat) (f : Nat → Int64) (sz : Nat) (hob : ∀ k, k < 39 → ad k ≠ ob) (rm : Room) (hrc : rm.cells = 1) (hrs : rm.slots = 6) (hrf : rm.frames ≤ 9) (hrl : rm.locals ≤ 180) (x0 x1 x2 x3 : Int32) (a : Int64) (hM : vx_Met l yX5_terms wsX5_terms rm (va_Pc [.ref (ad 0), .int x0, .int x1, .int x2, .int x3] (zX D ty g ad)) zno (zXC "java/lang/IndexOutOfBoundsException") 1 6 (fun _ => False)) : Met l yL_terms wsL_terms ({ frames := 10, cells := 1, slots := 6, locals := 230 }) (va_Pc [.ref (ad 0), .int x0, .int x1, .int x2, .int x3, .ref ob] (wX D ty tl g ad ob f sz)) (wQ D ty tl ad ob sz 1 a g) 1 6 (WC ad ob sz) := by
  refine zMetH (cc := cL_terms) (maxL := 7) (ret := (some .int)) (hh := [(0, 14, 17, 21), (0, 14, 21, 13)]) (by decide) rfl (Nat.le_of_ble_eq_true rfl) ?_
  intro p e s m below meth c hx hb hr hts hown hlocks hml htab hB ls hl
  obtain ⟨⟨⟨hP, hK, hN⟩, hQ, hT⟩, hNc, hKl, hO, hsz⟩ := hB
  have hS : va_S (WC ad ob sz) s.heap s.heap [] := va_S.rf
  have hl : lv_has ls 7 [(0, .ref (ad 0)), (1, .int x0), (2, .int x1), (3, .int x2), (4, .int x3), (5, .ref ob)] := hl
  refine lv_aload hx hb dL_terms_0 (lv_at hl 5 rfl) ?_
  refine lv_iconst (v := nI 0) hx hb dL_terms_2 (by decide) ?_
  refine lv_aload_n hx hb dL_terms_3 rfl (lv_at hl 0 rfl) ?_
  refine lv_iload_n hx hb dL_terms_4 rfl (lv_at hl 1 rfl) ?_
  refine lv_iload_n hx hb dL_terms_5 rfl (lv_at hl 2 rfl) ?_
  refine lv_iload_n hx hb dL_terms_6 rfl (lv_at hl 3 rfl) ?_
  refine lv_iload hx hb dL_terms_7 (lv_at hl 4 rfl) ?_
  refine zxcall (vx_runV (As := [.int x0, .int x1, .int x2, .int x3]) (rest := [.int (nI 0), .ref ob]) ⟨hx, hb, hml, hown, hts⟩ hM (cwV 4 hts gL_terms_X5_terms rfl hrc hrs (by decide +kernel) ⟨by show _ ≤ 10; omega, by show _ ≤ 230; omega⟩) ⟨zBl zX_blind, va_recv hK hP (ci := 6) (q0 := 0) rfl rfl, fun U h1 h2 => ⟨rfl, zX_pre hP hK hN hQ hT U h1 h2⟩⟩ rfl rfl hl.1 rfl (lv_room (Nat.le_of_ble_eq_true rfl)) dL_terms_9 ⟨Nat.le_of_ble_eq_true rfl, Nat.le_of_ble_eq_true rfl⟩) hS (fun ce q9 H locs hz ho hS hc1 hc2 hc3 => ?_)
  refine vx_catch (name := "java/lang/IndexOutOfBoundsException") hown [] ⟨0, 14, 17, 21⟩ [⟨0, 14, 21, 13⟩] (htab.trans rfl) (fun z h => nomatch h) (by decide) (by decide) (hts (.classLink RL 21 "java/lang/IndexOutOfBoundsException") (by decide +kernel)) (zN.use hN (List.mem_of_getElem? (i := 36) rfl)) hc1 hc2 hc3 ?_
  refine lv_astore (lv' := [(6, .ref q9), (0, .ref (ad 0)), (1, .int x0), (2, .int x1), (3, .int x2), (4, .int x3), (5, .ref ob)]) hx hb dL_terms_17 hl (by decide) rfl (fun ls hl => ?_)
  refine lv_iconst (v := nI 1) hx hb dL_terms_19 (by decide) ?_
  have hP : va_P D vwCl (zC ty g ad) H := zC_kept hP (fun k hk h => ho _ h)
  have hO : va_at D vwCl (ob, eL tl f) H := hO.kept (ho ob hO.lt)
  exact W.iret (v := nI 1) hx hb hr (fun t ht hW => ⟨⟨_, (g, f), rfl, ⟨rfl, rfl, fun z => nomatch z⟩, by rw [ht]; exact hP, by rw [ht]; exact hO⟩, hS.F ht⟩) hS.2.2 dL_terms_20
set_option maxHeartbeats 1000000 in
set_option maxRecDepth 100000 in
theorem l_terms_x2 (l : Launch) (D : va_G) (ty : Nat → ClassId) (tl : ClassId) (g : Nat → Nat → Int32) (ad : Nat → Nat) (ob : Nat) (f : Nat → Int64) (sz : Nat) (hob : ∀ k, k < 39 → ad k ≠ ob) (rm : Room) (hrc : rm.cells = 1) (hrs : rm.slots = 6) (hrf : rm.frames ≤ 9) (hrl : rm.locals ≤ 180) (x0 x1 x2 x3 : Int32) (a : Int64) (hM : vx_Met l yX5_terms wsX5_terms rm (va_Pc [.ref (ad 0), .int x0, .int x1, .int x2, .int x3] (zX D ty g ad)) zno (zXC "java/lang/IllegalArgumentException") 1 6 (fun _ => False)) : Met l yL_terms wsL_terms ({ frames := 10, cells := 1, slots := 6, locals := 230 }) (va_Pc [.ref (ad 0), .int x0, .int x1, .int x2, .int x3, .ref ob] (wX D ty tl g ad ob f sz)) (wQ D ty tl ad ob sz 2 a g) 1 6 (WC ad ob sz) := by
  refine zMetH (cc := cL_terms) (maxL := 7) (ret := (some .int)) (hh := [(0, 14, 17, 21), (0, 14, 21, 13)]) (by decide) rfl (Nat.le_of_ble_eq_true rfl) ?_
  intro p e s m below meth c hx hb hr hts hown hlocks hml htab hB ls hl
  obtain ⟨⟨⟨hP, hK, hN⟩, hQ, hT⟩, hNc, hKl, hO, hsz⟩ := hB
  have hS : va_S (WC ad ob sz) s.heap s.heap [] := va_S.rf
  have hl : lv_has ls 7 [(0, .ref (ad 0)), (1, .int x0), (2, .int x1), (3, .int x2), (4, .int x3), (5, .ref ob)] := hl
  refine lv_aload hx hb dL_terms_0 (lv_at hl 5 rfl) ?_
  refine lv_iconst (v := nI 0) hx hb dL_terms_2 (by decide) ?_
  refine lv_aload_n hx hb dL_terms_3 rfl (lv_at hl 0 rfl) ?_
  refine lv_iload_n hx hb dL_terms_4 rfl (lv_at hl 1 rfl) ?_
  refine lv_iload_n hx hb dL_terms_5 rfl (lv_at hl 2 rfl) ?_
  refine lv_iload_n hx hb dL_terms_6 rfl (lv_at hl 3 rfl) ?_
  refine lv_iload hx hb dL_terms_7 (lv_at hl 4 rfl) ?_
  refine zxcall (vx_runV (As := [.int x0, .int x1, .int x2, .int x3]) (rest := [.int (nI 0), .ref ob]) ⟨hx, hb, hml, hown, hts⟩ hM (cwV 4 hts gL_terms_X5_terms rfl hrc hrs (by decide +kernel) ⟨by show _ ≤ 10; omega, by show _ ≤ 230; omega⟩) ⟨zBl zX_blind, va_recv hK hP (ci := 6) (q0 := 0) rfl rfl, fun U h1 h2 => ⟨rfl, zX_pre hP hK hN hQ hT U h1 h2⟩⟩ rfl rfl hl.1 rfl (lv_room (Nat.le_of_ble_eq_true rfl)) dL_terms_9 ⟨Nat.le_of_ble_eq_true rfl, Nat.le_of_ble_eq_true rfl⟩) hS (fun ce q9 H locs hz ho hS hc1 hc2 hc3 => ?_)
  refine vx_catch (name := "java/lang/IllegalArgumentException") hown [⟨0, 14, 17, 21⟩] ⟨0, 14, 21, 13⟩ [] (htab.trans rfl) (List.forall_mem_cons.mpr ⟨Or.inr ⟨by decide, "java/lang/IndexOutOfBoundsException", (hts (.classLink RL 21 "java/lang/IndexOutOfBoundsException") (by decide +kernel)), hNc.1⟩, fun z h => nomatch h⟩) (by decide) (by decide) (hts (.classLink RL 13 "java/lang/IllegalArgumentException") (by decide +kernel)) (zN.use hN (List.mem_of_getElem? (i := 29) rfl)) hc1 hc2 hc3 ?_
  refine lv_astore (lv' := [(6, .ref q9), (0, .ref (ad 0)), (1, .int x0), (2, .int x1), (3, .int x2), (4, .int x3), (5, .ref ob)]) hx hb dL_terms_21 hl (by decide) rfl (fun ls hl => ?_)
  refine lv_iconst (v := nI 2) hx hb dL_terms_23 (by decide) ?_
  have hP : va_P D vwCl (zC ty g ad) H := zC_kept hP (fun k hk h => ho _ h)
  have hO : va_at D vwCl (ob, eL tl f) H := hO.kept (ho ob hO.lt)
  exact W.iret (v := nI 2) hx hb hr (fun t ht hW => ⟨⟨_, (g, f), rfl, ⟨rfl, rfl, fun z => nomatch z⟩, by rw [ht]; exact hP, by rw [ht]; exact hO⟩, hS.F ht⟩) hS.2.2 dL_terms_24
set_option maxHeartbeats 1000000 in
set_option maxRecDepth 100000 in
theorem l_source_ok (l : Launch) (D : va_G) (ty : Nat → ClassId) (tl : ClassId) (g g2 : Nat → Nat → Int32) (ad : Nat → Nat) (ob : Nat) (f : Nat → Int64) (sz : Nat) (hob : ∀ k, k < 39 → ad k ≠ ob) (rm : Room) (hrc : rm.cells = 0) (hrs : rm.slots = 0) (hrf : rm.frames ≤ 9) (hrl : rm.locals ≤ 180) (x0 x1 x2 x3 x4 : Int32) (a : Int32) (hM : Met l yX5_source wsX5_source rm (va_Pc [.ref (ad 0), .int x0, .int x1, .int x2, .int x3, .int x4] (fun U => zI D ty g ad U ∧ U.heap.size = sz)) (va_Qi (fun (v9 : Int32) (gz : Nat → Nat → Int32) => v9 = a ∧ gz = g2) (fun gz t => zI D ty gz ad t) (AC ad sz)) 0 0 (AC ad sz)) : Met l yL_source wsL_source ({ frames := 10, cells := 1, slots := 6, locals := 230 }) (va_Pc [.ref (ad 0), .int x0, .int x1, .int x2, .int x3, .int x4, .ref ob] (wX D ty tl g ad ob f sz)) (wQ D ty tl ad ob sz 0 a.toInt64 g2) 1 6 (WC ad ob sz) := by
  refine zMetH (cc := cL_source) (maxL := 8) (ret := (some .int)) (hh := [(0, 16, 19, 21), (0, 16, 23, 13), (0, 16, 27, 15)]) (by decide) rfl (Nat.le_of_ble_eq_true rfl) ?_
  intro p e s m below meth c hx hb hr hts hown hlocks hml htab hB ls hl
  obtain ⟨⟨⟨hP, hK, hN⟩, hQ, hT⟩, hNc, hKl, hO, hsz⟩ := hB
  have hS : va_S (WC ad ob sz) s.heap s.heap [] := va_S.rf
  have hl : lv_has ls 8 [(0, .ref (ad 0)), (1, .int x0), (2, .int x1), (3, .int x2), (4, .int x3), (5, .int x4), (6, .ref ob)] := hl
  refine lv_aload hx hb dL_source_0 (lv_at hl 6 rfl) ?_
  refine lv_iconst (v := nI 0) hx hb dL_source_2 (by decide) ?_
  refine lv_aload_n hx hb dL_source_3 rfl (lv_at hl 0 rfl) ?_
  refine lv_iload_n hx hb dL_source_4 rfl (lv_at hl 1 rfl) ?_
  refine lv_iload_n hx hb dL_source_5 rfl (lv_at hl 2 rfl) ?_
  refine lv_iload_n hx hb dL_source_6 rfl (lv_at hl 3 rfl) ?_
  refine lv_iload hx hb dL_source_7 (lv_at hl 4 rfl) ?_
  refine lv_iload hx hb dL_source_9 (lv_at hl 5 rfl) ?_
  refine va_calli (va_runV (As := [.int x0, .int x1, .int x2, .int x3, .int x4]) (rest := [.int (nI 0), .ref ob]) ⟨hx, hb, hml, hown, hts⟩ hM (cwV 5 hts gL_source_X5_source rfl hrc hrs (by decide +kernel) ⟨by show _ ≤ 10; omega, by show _ ≤ 230; omega⟩) ⟨zBl zW_blind, va_recv hK hP (ci := 6) (q0 := 0) rfl rfl, fun U h1 h2 => ⟨rfl, zI_pre hP hK hN U h1 h2, by rw [h1]; exact hsz⟩⟩ rfl rfl hl.1 rfl (lv_room (Nat.le_of_ble_eq_true rfl)) dL_source_11 ⟨Nat.le_of_ble_eq_true rfl, Nat.le_of_ble_eq_true rfl⟩) hS (fun _ _ h => Or.inl h) (fun _ h => Or.inl h) (fun r gz t H locs ht hvm hw hB hz1 hk1 hS => ?_)
  obtain ⟨rfl, rfl⟩ := hw
  have hP : va_P D vwCl (zC ty gz ad) H := by rw [← ht]; exact hB.1
  have hO : va_at D vwCl (ob, eL tl f) H := hO.kept (hk1 ob hO.lt (fun z => by rcases z with ⟨k, hk, z⟩ | z; (exact hob k hk z.symm); (have := hO.lt; have h9 : ob < s.heap.size := this; omega)))
  refine lv_i2l hx hb dL_source_14 rfl ?_
  refine zlast hx hb hKl hO hS (Or.inr rfl) dL_source_15 (fun H1 locs hO hS ho => ?_)
  have hP : va_P D vwCl (zC ty gz ad) H1 := zC_kept hP (fun k hk _ => ho _ (hob k hk))
  refine lv_goto (tgt := 31) hx hb dL_source_16 (by decide) ?_
  refine lv_iconst (v := nI 0) hx hb dL_source_31 (by decide) ?_
  refine W.widen (k := 1) (n := 6) (by omega) (by omega) ?_
  exact W.iret (v := nI 0) hx hb hr (fun t ht hW => ⟨⟨_, (gz, vp_updL f 0 (r.toInt64)), rfl, ⟨rfl, rfl, fun _ => (show vp_updL f 0 (r.toInt64) 0 = _ by unfold vp_updL; rw [if_pos rfl])⟩, by rw [ht]; exact hP, by rw [ht]; exact hO⟩, hS.F ht⟩) hS.2.2 dL_source_32
set_option maxHeartbeats 1000000 in
set_option maxRecDepth 100000 in
theorem l_source_x1 (l : Launch) (D : va_G) (ty : Nat → ClassId) (tl : ClassId) (g : Nat → Nat → Int32) (ad : Nat → Nat) (ob : Nat) (f : Nat → Int64) (sz : Nat) (hob : ∀ k, k < 39 → ad k ≠ ob) (rm : Room) (hrc : rm.cells = 1) (hrs : rm.slots = 6) (hrf : rm.frames ≤ 9) (hrl : rm.locals ≤ 180) (x0 x1 x2 x3 x4 : Int32) (a : Int64) (hM : vx_Met l yX5_source wsX5_source rm (va_Pc [.ref (ad 0), .int x0, .int x1, .int x2, .int x3, .int x4] (zX D ty g ad)) zno (zXC "java/lang/IndexOutOfBoundsException") 1 6 (fun _ => False)) : Met l yL_source wsL_source ({ frames := 10, cells := 1, slots := 6, locals := 230 }) (va_Pc [.ref (ad 0), .int x0, .int x1, .int x2, .int x3, .int x4, .ref ob] (wX D ty tl g ad ob f sz)) (wQ D ty tl ad ob sz 1 a g) 1 6 (WC ad ob sz) := by
  refine zMetH (cc := cL_source) (maxL := 8) (ret := (some .int)) (hh := [(0, 16, 19, 21), (0, 16, 23, 13), (0, 16, 27, 15)]) (by decide) rfl (Nat.le_of_ble_eq_true rfl) ?_
  intro p e s m below meth c hx hb hr hts hown hlocks hml htab hB ls hl
  obtain ⟨⟨⟨hP, hK, hN⟩, hQ, hT⟩, hNc, hKl, hO, hsz⟩ := hB
  have hS : va_S (WC ad ob sz) s.heap s.heap [] := va_S.rf
  have hl : lv_has ls 8 [(0, .ref (ad 0)), (1, .int x0), (2, .int x1), (3, .int x2), (4, .int x3), (5, .int x4), (6, .ref ob)] := hl
  refine lv_aload hx hb dL_source_0 (lv_at hl 6 rfl) ?_
  refine lv_iconst (v := nI 0) hx hb dL_source_2 (by decide) ?_
  refine lv_aload_n hx hb dL_source_3 rfl (lv_at hl 0 rfl) ?_
  refine lv_iload_n hx hb dL_source_4 rfl (lv_at hl 1 rfl) ?_
  refine lv_iload_n hx hb dL_source_5 rfl (lv_at hl 2 rfl) ?_
  refine lv_iload_n hx hb dL_source_6 rfl (lv_at hl 3 rfl) ?_
  refine lv_iload hx hb dL_source_7 (lv_at hl 4 rfl) ?_
  refine lv_iload hx hb dL_source_9 (lv_at hl 5 rfl) ?_
  refine zxcall (vx_runV (As := [.int x0, .int x1, .int x2, .int x3, .int x4]) (rest := [.int (nI 0), .ref ob]) ⟨hx, hb, hml, hown, hts⟩ hM (cwV 5 hts gL_source_X5_source rfl hrc hrs (by decide +kernel) ⟨by show _ ≤ 10; omega, by show _ ≤ 230; omega⟩) ⟨zBl zX_blind, va_recv hK hP (ci := 6) (q0 := 0) rfl rfl, fun U h1 h2 => ⟨rfl, zX_pre hP hK hN hQ hT U h1 h2⟩⟩ rfl rfl hl.1 rfl (lv_room (Nat.le_of_ble_eq_true rfl)) dL_source_11 ⟨Nat.le_of_ble_eq_true rfl, Nat.le_of_ble_eq_true rfl⟩) hS (fun ce q9 H locs hz ho hS hc1 hc2 hc3 => ?_)
  refine vx_catch (name := "java/lang/IndexOutOfBoundsException") hown [] ⟨0, 16, 19, 21⟩ [⟨0, 16, 23, 13⟩, ⟨0, 16, 27, 15⟩] (htab.trans rfl) (fun z h => nomatch h) (by decide) (by decide) (hts (.classLink RL 21 "java/lang/IndexOutOfBoundsException") (by decide +kernel)) (zN.use hN (List.mem_of_getElem? (i := 36) rfl)) hc1 hc2 hc3 ?_
  refine lv_astore (lv' := [(7, .ref q9), (0, .ref (ad 0)), (1, .int x0), (2, .int x1), (3, .int x2), (4, .int x3), (5, .int x4), (6, .ref ob)]) hx hb dL_source_19 hl (by decide) rfl (fun ls hl => ?_)
  refine lv_iconst (v := nI 1) hx hb dL_source_21 (by decide) ?_
  have hP : va_P D vwCl (zC ty g ad) H := zC_kept hP (fun k hk h => ho _ h)
  have hO : va_at D vwCl (ob, eL tl f) H := hO.kept (ho ob hO.lt)
  exact W.iret (v := nI 1) hx hb hr (fun t ht hW => ⟨⟨_, (g, f), rfl, ⟨rfl, rfl, fun z => nomatch z⟩, by rw [ht]; exact hP, by rw [ht]; exact hO⟩, hS.F ht⟩) hS.2.2 dL_source_22
set_option maxHeartbeats 1000000 in
set_option maxRecDepth 100000 in
theorem l_source_x2 (l : Launch) (D : va_G) (ty : Nat → ClassId) (tl : ClassId) (g : Nat → Nat → Int32) (ad : Nat → Nat) (ob : Nat) (f : Nat → Int64) (sz : Nat) (hob : ∀ k, k < 39 → ad k ≠ ob) (rm : Room) (hrc : rm.cells = 1) (hrs : rm.slots = 6) (hrf : rm.frames ≤ 9) (hrl : rm.locals ≤ 180) (x0 x1 x2 x3 x4 : Int32) (a : Int64) (hM : vx_Met l yX5_source wsX5_source rm (va_Pc [.ref (ad 0), .int x0, .int x1, .int x2, .int x3, .int x4] (zX D ty g ad)) zno (zXC "java/lang/IllegalArgumentException") 1 6 (fun _ => False)) : Met l yL_source wsL_source ({ frames := 10, cells := 1, slots := 6, locals := 230 }) (va_Pc [.ref (ad 0), .int x0, .int x1, .int x2, .int x3, .int x4, .ref ob] (wX D ty tl g ad ob f sz)) (wQ D ty tl ad ob sz 2 a g) 1 6 (WC ad ob sz) := by
  refine zMetH (cc := cL_source) (maxL := 8) (ret := (some .int)) (hh := [(0, 16, 19, 21), (0, 16, 23, 13), (0, 16, 27, 15)]) (by decide) rfl (Nat.le_of_ble_eq_true rfl) ?_
  intro p e s m below meth c hx hb hr hts hown hlocks hml htab hB ls hl
  obtain ⟨⟨⟨hP, hK, hN⟩, hQ, hT⟩, hNc, hKl, hO, hsz⟩ := hB
  have hS : va_S (WC ad ob sz) s.heap s.heap [] := va_S.rf
  have hl : lv_has ls 8 [(0, .ref (ad 0)), (1, .int x0), (2, .int x1), (3, .int x2), (4, .int x3), (5, .int x4), (6, .ref ob)] := hl
  refine lv_aload hx hb dL_source_0 (lv_at hl 6 rfl) ?_
  refine lv_iconst (v := nI 0) hx hb dL_source_2 (by decide) ?_
  refine lv_aload_n hx hb dL_source_3 rfl (lv_at hl 0 rfl) ?_
  refine lv_iload_n hx hb dL_source_4 rfl (lv_at hl 1 rfl) ?_
  refine lv_iload_n hx hb dL_source_5 rfl (lv_at hl 2 rfl) ?_
  refine lv_iload_n hx hb dL_source_6 rfl (lv_at hl 3 rfl) ?_
  refine lv_iload hx hb dL_source_7 (lv_at hl 4 rfl) ?_
  refine lv_iload hx hb dL_source_9 (lv_at hl 5 rfl) ?_
  refine zxcall (vx_runV (As := [.int x0, .int x1, .int x2, .int x3, .int x4]) (rest := [.int (nI 0), .ref ob]) ⟨hx, hb, hml, hown, hts⟩ hM (cwV 5 hts gL_source_X5_source rfl hrc hrs (by decide +kernel) ⟨by show _ ≤ 10; omega, by show _ ≤ 230; omega⟩) ⟨zBl zX_blind, va_recv hK hP (ci := 6) (q0 := 0) rfl rfl, fun U h1 h2 => ⟨rfl, zX_pre hP hK hN hQ hT U h1 h2⟩⟩ rfl rfl hl.1 rfl (lv_room (Nat.le_of_ble_eq_true rfl)) dL_source_11 ⟨Nat.le_of_ble_eq_true rfl, Nat.le_of_ble_eq_true rfl⟩) hS (fun ce q9 H locs hz ho hS hc1 hc2 hc3 => ?_)
  refine vx_catch (name := "java/lang/IllegalArgumentException") hown [⟨0, 16, 19, 21⟩] ⟨0, 16, 23, 13⟩ [⟨0, 16, 27, 15⟩] (htab.trans rfl) (List.forall_mem_cons.mpr ⟨Or.inr ⟨by decide, "java/lang/IndexOutOfBoundsException", (hts (.classLink RL 21 "java/lang/IndexOutOfBoundsException") (by decide +kernel)), hNc.1⟩, fun z h => nomatch h⟩) (by decide) (by decide) (hts (.classLink RL 13 "java/lang/IllegalArgumentException") (by decide +kernel)) (zN.use hN (List.mem_of_getElem? (i := 29) rfl)) hc1 hc2 hc3 ?_
  refine lv_astore (lv' := [(7, .ref q9), (0, .ref (ad 0)), (1, .int x0), (2, .int x1), (3, .int x2), (4, .int x3), (5, .int x4), (6, .ref ob)]) hx hb dL_source_23 hl (by decide) rfl (fun ls hl => ?_)
  refine lv_iconst (v := nI 2) hx hb dL_source_25 (by decide) ?_
  have hP : va_P D vwCl (zC ty g ad) H := zC_kept hP (fun k hk h => ho _ h)
  have hO : va_at D vwCl (ob, eL tl f) H := hO.kept (ho ob hO.lt)
  exact W.iret (v := nI 2) hx hb hr (fun t ht hW => ⟨⟨_, (g, f), rfl, ⟨rfl, rfl, fun z => nomatch z⟩, by rw [ht]; exact hP, by rw [ht]; exact hO⟩, hS.F ht⟩) hS.2.2 dL_source_26
set_option maxHeartbeats 1000000 in
set_option maxRecDepth 100000 in
theorem l_source_x3 (l : Launch) (D : va_G) (ty : Nat → ClassId) (tl : ClassId) (g : Nat → Nat → Int32) (ad : Nat → Nat) (ob : Nat) (f : Nat → Int64) (sz : Nat) (hob : ∀ k, k < 39 → ad k ≠ ob) (rm : Room) (hrc : rm.cells = 1) (hrs : rm.slots = 6) (hrf : rm.frames ≤ 9) (hrl : rm.locals ≤ 180) (x0 x1 x2 x3 x4 : Int32) (a : Int64) (hM : vx_Met l yX5_source wsX5_source rm (va_Pc [.ref (ad 0), .int x0, .int x1, .int x2, .int x3, .int x4] (zX D ty g ad)) zno (zXC "java/lang/IllegalStateException") 1 6 (fun _ => False)) : Met l yL_source wsL_source ({ frames := 10, cells := 1, slots := 6, locals := 230 }) (va_Pc [.ref (ad 0), .int x0, .int x1, .int x2, .int x3, .int x4, .ref ob] (wX D ty tl g ad ob f sz)) (wQ D ty tl ad ob sz 3 a g) 1 6 (WC ad ob sz) := by
  refine zMetH (cc := cL_source) (maxL := 8) (ret := (some .int)) (hh := [(0, 16, 19, 21), (0, 16, 23, 13), (0, 16, 27, 15)]) (by decide) rfl (Nat.le_of_ble_eq_true rfl) ?_
  intro p e s m below meth c hx hb hr hts hown hlocks hml htab hB ls hl
  obtain ⟨⟨⟨hP, hK, hN⟩, hQ, hT⟩, hNc, hKl, hO, hsz⟩ := hB
  have hS : va_S (WC ad ob sz) s.heap s.heap [] := va_S.rf
  have hl : lv_has ls 8 [(0, .ref (ad 0)), (1, .int x0), (2, .int x1), (3, .int x2), (4, .int x3), (5, .int x4), (6, .ref ob)] := hl
  refine lv_aload hx hb dL_source_0 (lv_at hl 6 rfl) ?_
  refine lv_iconst (v := nI 0) hx hb dL_source_2 (by decide) ?_
  refine lv_aload_n hx hb dL_source_3 rfl (lv_at hl 0 rfl) ?_
  refine lv_iload_n hx hb dL_source_4 rfl (lv_at hl 1 rfl) ?_
  refine lv_iload_n hx hb dL_source_5 rfl (lv_at hl 2 rfl) ?_
  refine lv_iload_n hx hb dL_source_6 rfl (lv_at hl 3 rfl) ?_
  refine lv_iload hx hb dL_source_7 (lv_at hl 4 rfl) ?_
  refine lv_iload hx hb dL_source_9 (lv_at hl 5 rfl) ?_
  refine zxcall (vx_runV (As := [.int x0, .int x1, .int x2, .int x3, .int x4]) (rest := [.int (nI 0), .ref ob]) ⟨hx, hb, hml, hown, hts⟩ hM (cwV 5 hts gL_source_X5_source rfl hrc hrs (by decide +kernel) ⟨by show _ ≤ 10; omega, by show _ ≤ 230; omega⟩) ⟨zBl zX_blind, va_recv hK hP (ci := 6) (q0 := 0) rfl rfl, fun U h1 h2 => ⟨rfl, zX_pre hP hK hN hQ hT U h1 h2⟩⟩ rfl rfl hl.1 rfl (lv_room (Nat.le_of_ble_eq_true rfl)) dL_source_11 ⟨Nat.le_of_ble_eq_true rfl, Nat.le_of_ble_eq_true rfl⟩) hS (fun ce q9 H locs hz ho hS hc1 hc2 hc3 => ?_)
  refine vx_catch (name := "java/lang/IllegalStateException") hown [⟨0, 16, 19, 21⟩, ⟨0, 16, 23, 13⟩] ⟨0, 16, 27, 15⟩ [] (htab.trans rfl) (List.forall_mem_cons.mpr ⟨Or.inr ⟨by decide, "java/lang/IndexOutOfBoundsException", (hts (.classLink RL 21 "java/lang/IndexOutOfBoundsException") (by decide +kernel)), hNc.2.1⟩, List.forall_mem_cons.mpr ⟨Or.inr ⟨by decide, "java/lang/IllegalArgumentException", (hts (.classLink RL 13 "java/lang/IllegalArgumentException") (by decide +kernel)), hNc.2.2⟩, fun z h => nomatch h⟩⟩) (by decide) (by decide) (hts (.classLink RL 15 "java/lang/IllegalStateException") (by decide +kernel)) (zN.use hN (List.mem_of_getElem? (i := 38) rfl)) hc1 hc2 hc3 ?_
  refine lv_astore (lv' := [(7, .ref q9), (0, .ref (ad 0)), (1, .int x0), (2, .int x1), (3, .int x2), (4, .int x3), (5, .int x4), (6, .ref ob)]) hx hb dL_source_27 hl (by decide) rfl (fun ls hl => ?_)
  refine lv_iconst (v := nI 3) hx hb dL_source_29 (by decide) ?_
  have hP : va_P D vwCl (zC ty g ad) H := zC_kept hP (fun k hk h => ho _ h)
  have hO : va_at D vwCl (ob, eL tl f) H := hO.kept (ho ob hO.lt)
  exact W.iret (v := nI 3) hx hb hr (fun t ht hW => ⟨⟨_, (g, f), rfl, ⟨rfl, rfl, fun z => nomatch z⟩, by rw [ht]; exact hP, by rw [ht]; exact hO⟩, hS.F ht⟩) hS.2.2 dL_source_30
set_option maxHeartbeats 1000000 in
set_option maxRecDepth 100000 in
theorem l_version_ok (l : Launch) (D : va_G) (ty : Nat → ClassId) (tl : ClassId) (g g2 : Nat → Nat → Int32) (ad : Nat → Nat) (ob : Nat) (f : Nat → Int64) (sz : Nat) (hob : ∀ k, k < 39 → ad k ≠ ob) (rm : Room) (hrc : rm.cells = 0) (hrs : rm.slots = 0) (hrf : rm.frames ≤ 9) (hrl : rm.locals ≤ 180) (x0 x1 : Int32) (a : Int32) (hM : Met l yX5_version wsX5_version rm (va_Pc [.ref (ad 0), .int x0, .int x1] (fun U => zI D ty g ad U ∧ U.heap.size = sz)) (va_Qi (fun (v9 : Int32) (gz : Nat → Nat → Int32) => v9 = a ∧ gz = g2) (fun gz t => zI D ty gz ad t) (AC ad sz)) 0 0 (AC ad sz)) : Met l yL_version wsL_version ({ frames := 10, cells := 1, slots := 6, locals := 230 }) (va_Pc [.ref (ad 0), .int x0, .int x1, .ref ob] (wX D ty tl g ad ob f sz)) (wQ D ty tl ad ob sz 0 a.toInt64 g2) 1 6 (WC ad ob sz) := by
  refine zMetH (cc := cL_version) (maxL := 5) (ret := (some .int)) (hh := [(0, 10, 13, 21), (0, 10, 17, 13), (0, 10, 21, 15)]) (by decide) rfl (Nat.le_of_ble_eq_true rfl) ?_
  intro p e s m below meth c hx hb hr hts hown hlocks hml htab hB ls hl
  obtain ⟨⟨⟨hP, hK, hN⟩, hQ, hT⟩, hNc, hKl, hO, hsz⟩ := hB
  have hS : va_S (WC ad ob sz) s.heap s.heap [] := va_S.rf
  have hl : lv_has ls 5 [(0, .ref (ad 0)), (1, .int x0), (2, .int x1), (3, .ref ob)] := hl
  refine lv_aload_n hx hb dL_version_0 rfl (lv_at hl 3 rfl) ?_
  refine lv_iconst (v := nI 0) hx hb dL_version_1 (by decide) ?_
  refine lv_aload_n hx hb dL_version_2 rfl (lv_at hl 0 rfl) ?_
  refine lv_iload_n hx hb dL_version_3 rfl (lv_at hl 1 rfl) ?_
  refine lv_iload_n hx hb dL_version_4 rfl (lv_at hl 2 rfl) ?_
  refine va_calli (va_runV (As := [.int x0, .int x1]) (rest := [.int (nI 0), .ref ob]) ⟨hx, hb, hml, hown, hts⟩ hM (cwV 2 hts gL_version_X5_version rfl hrc hrs (by decide +kernel) ⟨by show _ ≤ 10; omega, by show _ ≤ 230; omega⟩) ⟨zBl zW_blind, va_recv hK hP (ci := 6) (q0 := 0) rfl rfl, fun U h1 h2 => ⟨rfl, zI_pre hP hK hN U h1 h2, by rw [h1]; exact hsz⟩⟩ rfl rfl hl.1 rfl (lv_room (Nat.le_of_ble_eq_true rfl)) dL_version_5 ⟨Nat.le_of_ble_eq_true rfl, Nat.le_of_ble_eq_true rfl⟩) hS (fun _ _ h => Or.inl h) (fun _ h => Or.inl h) (fun r gz t H locs ht hvm hw hB hz1 hk1 hS => ?_)
  obtain ⟨rfl, rfl⟩ := hw
  have hP : va_P D vwCl (zC ty gz ad) H := by rw [← ht]; exact hB.1
  have hO : va_at D vwCl (ob, eL tl f) H := hO.kept (hk1 ob hO.lt (fun z => by rcases z with ⟨k, hk, z⟩ | z; (exact hob k hk z.symm); (have := hO.lt; have h9 : ob < s.heap.size := this; omega)))
  refine lv_i2l hx hb dL_version_8 rfl ?_
  refine zlast hx hb hKl hO hS (Or.inr rfl) dL_version_9 (fun H1 locs hO hS ho => ?_)
  have hP : va_P D vwCl (zC ty gz ad) H1 := zC_kept hP (fun k hk _ => ho _ (hob k hk))
  refine lv_goto (tgt := 25) hx hb dL_version_10 (by decide) ?_
  refine lv_iconst (v := nI 0) hx hb dL_version_25 (by decide) ?_
  refine W.widen (k := 1) (n := 6) (by omega) (by omega) ?_
  exact W.iret (v := nI 0) hx hb hr (fun t ht hW => ⟨⟨_, (gz, vp_updL f 0 (r.toInt64)), rfl, ⟨rfl, rfl, fun _ => (show vp_updL f 0 (r.toInt64) 0 = _ by unfold vp_updL; rw [if_pos rfl])⟩, by rw [ht]; exact hP, by rw [ht]; exact hO⟩, hS.F ht⟩) hS.2.2 dL_version_26
set_option maxHeartbeats 1000000 in
set_option maxRecDepth 100000 in
theorem l_version_x1 (l : Launch) (D : va_G) (ty : Nat → ClassId) (tl : ClassId) (g : Nat → Nat → Int32) (ad : Nat → Nat) (ob : Nat) (f : Nat → Int64) (sz : Nat) (hob : ∀ k, k < 39 → ad k ≠ ob) (rm : Room) (hrc : rm.cells = 1) (hrs : rm.slots = 6) (hrf : rm.frames ≤ 9) (hrl : rm.locals ≤ 180) (x0 x1 : Int32) (a : Int64) (hM : vx_Met l yX5_version wsX5_version rm (va_Pc [.ref (ad 0), .int x0, .int x1] (zX D ty g ad)) zno (zXC "java/lang/IndexOutOfBoundsException") 1 6 (fun _ => False)) : Met l yL_version wsL_version ({ frames := 10, cells := 1, slots := 6, locals := 230 }) (va_Pc [.ref (ad 0), .int x0, .int x1, .ref ob] (wX D ty tl g ad ob f sz)) (wQ D ty tl ad ob sz 1 a g) 1 6 (WC ad ob sz) := by
  refine zMetH (cc := cL_version) (maxL := 5) (ret := (some .int)) (hh := [(0, 10, 13, 21), (0, 10, 17, 13), (0, 10, 21, 15)]) (by decide) rfl (Nat.le_of_ble_eq_true rfl) ?_
  intro p e s m below meth c hx hb hr hts hown hlocks hml htab hB ls hl
  obtain ⟨⟨⟨hP, hK, hN⟩, hQ, hT⟩, hNc, hKl, hO, hsz⟩ := hB
  have hS : va_S (WC ad ob sz) s.heap s.heap [] := va_S.rf
  have hl : lv_has ls 5 [(0, .ref (ad 0)), (1, .int x0), (2, .int x1), (3, .ref ob)] := hl
  refine lv_aload_n hx hb dL_version_0 rfl (lv_at hl 3 rfl) ?_
  refine lv_iconst (v := nI 0) hx hb dL_version_1 (by decide) ?_
  refine lv_aload_n hx hb dL_version_2 rfl (lv_at hl 0 rfl) ?_
  refine lv_iload_n hx hb dL_version_3 rfl (lv_at hl 1 rfl) ?_
  refine lv_iload_n hx hb dL_version_4 rfl (lv_at hl 2 rfl) ?_
  refine zxcall (vx_runV (As := [.int x0, .int x1]) (rest := [.int (nI 0), .ref ob]) ⟨hx, hb, hml, hown, hts⟩ hM (cwV 2 hts gL_version_X5_version rfl hrc hrs (by decide +kernel) ⟨by show _ ≤ 10; omega, by show _ ≤ 230; omega⟩) ⟨zBl zX_blind, va_recv hK hP (ci := 6) (q0 := 0) rfl rfl, fun U h1 h2 => ⟨rfl, zX_pre hP hK hN hQ hT U h1 h2⟩⟩ rfl rfl hl.1 rfl (lv_room (Nat.le_of_ble_eq_true rfl)) dL_version_5 ⟨Nat.le_of_ble_eq_true rfl, Nat.le_of_ble_eq_true rfl⟩) hS (fun ce q9 H locs hz ho hS hc1 hc2 hc3 => ?_)
  refine vx_catch (name := "java/lang/IndexOutOfBoundsException") hown [] ⟨0, 10, 13, 21⟩ [⟨0, 10, 17, 13⟩, ⟨0, 10, 21, 15⟩] (htab.trans rfl) (fun z h => nomatch h) (by decide) (by decide) (hts (.classLink RL 21 "java/lang/IndexOutOfBoundsException") (by decide +kernel)) (zN.use hN (List.mem_of_getElem? (i := 36) rfl)) hc1 hc2 hc3 ?_
  refine lv_astore (lv' := [(4, .ref q9), (0, .ref (ad 0)), (1, .int x0), (2, .int x1), (3, .ref ob)]) hx hb dL_version_13 hl (by decide) rfl (fun ls hl => ?_)
  refine lv_iconst (v := nI 1) hx hb dL_version_15 (by decide) ?_
  have hP : va_P D vwCl (zC ty g ad) H := zC_kept hP (fun k hk h => ho _ h)
  have hO : va_at D vwCl (ob, eL tl f) H := hO.kept (ho ob hO.lt)
  exact W.iret (v := nI 1) hx hb hr (fun t ht hW => ⟨⟨_, (g, f), rfl, ⟨rfl, rfl, fun z => nomatch z⟩, by rw [ht]; exact hP, by rw [ht]; exact hO⟩, hS.F ht⟩) hS.2.2 dL_version_16
set_option maxHeartbeats 1000000 in
set_option maxRecDepth 100000 in
theorem l_version_x2 (l : Launch) (D : va_G) (ty : Nat → ClassId) (tl : ClassId) (g : Nat → Nat → Int32) (ad : Nat → Nat) (ob : Nat) (f : Nat → Int64) (sz : Nat) (hob : ∀ k, k < 39 → ad k ≠ ob) (rm : Room) (hrc : rm.cells = 1) (hrs : rm.slots = 6) (hrf : rm.frames ≤ 9) (hrl : rm.locals ≤ 180) (x0 x1 : Int32) (a : Int64) (hM : vx_Met l yX5_version wsX5_version rm (va_Pc [.ref (ad 0), .int x0, .int x1] (zX D ty g ad)) zno (zXC "java/lang/IllegalArgumentException") 1 6 (fun _ => False)) : Met l yL_version wsL_version ({ frames := 10, cells := 1, slots := 6, locals := 230 }) (va_Pc [.ref (ad 0), .int x0, .int x1, .ref ob] (wX D ty tl g ad ob f sz)) (wQ D ty tl ad ob sz 2 a g) 1 6 (WC ad ob sz) := by
  refine zMetH (cc := cL_version) (maxL := 5) (ret := (some .int)) (hh := [(0, 10, 13, 21), (0, 10, 17, 13), (0, 10, 21, 15)]) (by decide) rfl (Nat.le_of_ble_eq_true rfl) ?_
  intro p e s m below meth c hx hb hr hts hown hlocks hml htab hB ls hl
  obtain ⟨⟨⟨hP, hK, hN⟩, hQ, hT⟩, hNc, hKl, hO, hsz⟩ := hB
  have hS : va_S (WC ad ob sz) s.heap s.heap [] := va_S.rf
  have hl : lv_has ls 5 [(0, .ref (ad 0)), (1, .int x0), (2, .int x1), (3, .ref ob)] := hl
  refine lv_aload_n hx hb dL_version_0 rfl (lv_at hl 3 rfl) ?_
  refine lv_iconst (v := nI 0) hx hb dL_version_1 (by decide) ?_
  refine lv_aload_n hx hb dL_version_2 rfl (lv_at hl 0 rfl) ?_
  refine lv_iload_n hx hb dL_version_3 rfl (lv_at hl 1 rfl) ?_
  refine lv_iload_n hx hb dL_version_4 rfl (lv_at hl 2 rfl) ?_
  refine zxcall (vx_runV (As := [.int x0, .int x1]) (rest := [.int (nI 0), .ref ob]) ⟨hx, hb, hml, hown, hts⟩ hM (cwV 2 hts gL_version_X5_version rfl hrc hrs (by decide +kernel) ⟨by show _ ≤ 10; omega, by show _ ≤ 230; omega⟩) ⟨zBl zX_blind, va_recv hK hP (ci := 6) (q0 := 0) rfl rfl, fun U h1 h2 => ⟨rfl, zX_pre hP hK hN hQ hT U h1 h2⟩⟩ rfl rfl hl.1 rfl (lv_room (Nat.le_of_ble_eq_true rfl)) dL_version_5 ⟨Nat.le_of_ble_eq_true rfl, Nat.le_of_ble_eq_true rfl⟩) hS (fun ce q9 H locs hz ho hS hc1 hc2 hc3 => ?_)
  refine vx_catch (name := "java/lang/IllegalArgumentException") hown [⟨0, 10, 13, 21⟩] ⟨0, 10, 17, 13⟩ [⟨0, 10, 21, 15⟩] (htab.trans rfl) (List.forall_mem_cons.mpr ⟨Or.inr ⟨by decide, "java/lang/IndexOutOfBoundsException", (hts (.classLink RL 21 "java/lang/IndexOutOfBoundsException") (by decide +kernel)), hNc.1⟩, fun z h => nomatch h⟩) (by decide) (by decide) (hts (.classLink RL 13 "java/lang/IllegalArgumentException") (by decide +kernel)) (zN.use hN (List.mem_of_getElem? (i := 29) rfl)) hc1 hc2 hc3 ?_
  refine lv_astore (lv' := [(4, .ref q9), (0, .ref (ad 0)), (1, .int x0), (2, .int x1), (3, .ref ob)]) hx hb dL_version_17 hl (by decide) rfl (fun ls hl => ?_)
  refine lv_iconst (v := nI 2) hx hb dL_version_19 (by decide) ?_
  have hP : va_P D vwCl (zC ty g ad) H := zC_kept hP (fun k hk h => ho _ h)
  have hO : va_at D vwCl (ob, eL tl f) H := hO.kept (ho ob hO.lt)
  exact W.iret (v := nI 2) hx hb hr (fun t ht hW => ⟨⟨_, (g, f), rfl, ⟨rfl, rfl, fun z => nomatch z⟩, by rw [ht]; exact hP, by rw [ht]; exact hO⟩, hS.F ht⟩) hS.2.2 dL_version_20
set_option maxHeartbeats 1000000 in
set_option maxRecDepth 100000 in
theorem l_version_x3 (l : Launch) (D : va_G) (ty : Nat → ClassId) (tl : ClassId) (g : Nat → Nat → Int32) (ad : Nat → Nat) (ob : Nat) (f : Nat → Int64) (sz : Nat) (hob : ∀ k, k < 39 → ad k ≠ ob) (rm : Room) (hrc : rm.cells = 1) (hrs : rm.slots = 6) (hrf : rm.frames ≤ 9) (hrl : rm.locals ≤ 180) (x0 x1 : Int32) (a : Int64) (hM : vx_Met l yX5_version wsX5_version rm (va_Pc [.ref (ad 0), .int x0, .int x1] (zX D ty g ad)) zno (zXC "java/lang/IllegalStateException") 1 6 (fun _ => False)) : Met l yL_version wsL_version ({ frames := 10, cells := 1, slots := 6, locals := 230 }) (va_Pc [.ref (ad 0), .int x0, .int x1, .ref ob] (wX D ty tl g ad ob f sz)) (wQ D ty tl ad ob sz 3 a g) 1 6 (WC ad ob sz) := by
  refine zMetH (cc := cL_version) (maxL := 5) (ret := (some .int)) (hh := [(0, 10, 13, 21), (0, 10, 17, 13), (0, 10, 21, 15)]) (by decide) rfl (Nat.le_of_ble_eq_true rfl) ?_
  intro p e s m below meth c hx hb hr hts hown hlocks hml htab hB ls hl
  obtain ⟨⟨⟨hP, hK, hN⟩, hQ, hT⟩, hNc, hKl, hO, hsz⟩ := hB
  have hS : va_S (WC ad ob sz) s.heap s.heap [] := va_S.rf
  have hl : lv_has ls 5 [(0, .ref (ad 0)), (1, .int x0), (2, .int x1), (3, .ref ob)] := hl
  refine lv_aload_n hx hb dL_version_0 rfl (lv_at hl 3 rfl) ?_
  refine lv_iconst (v := nI 0) hx hb dL_version_1 (by decide) ?_
  refine lv_aload_n hx hb dL_version_2 rfl (lv_at hl 0 rfl) ?_
  refine lv_iload_n hx hb dL_version_3 rfl (lv_at hl 1 rfl) ?_
  refine lv_iload_n hx hb dL_version_4 rfl (lv_at hl 2 rfl) ?_
  refine zxcall (vx_runV (As := [.int x0, .int x1]) (rest := [.int (nI 0), .ref ob]) ⟨hx, hb, hml, hown, hts⟩ hM (cwV 2 hts gL_version_X5_version rfl hrc hrs (by decide +kernel) ⟨by show _ ≤ 10; omega, by show _ ≤ 230; omega⟩) ⟨zBl zX_blind, va_recv hK hP (ci := 6) (q0 := 0) rfl rfl, fun U h1 h2 => ⟨rfl, zX_pre hP hK hN hQ hT U h1 h2⟩⟩ rfl rfl hl.1 rfl (lv_room (Nat.le_of_ble_eq_true rfl)) dL_version_5 ⟨Nat.le_of_ble_eq_true rfl, Nat.le_of_ble_eq_true rfl⟩) hS (fun ce q9 H locs hz ho hS hc1 hc2 hc3 => ?_)
  refine vx_catch (name := "java/lang/IllegalStateException") hown [⟨0, 10, 13, 21⟩, ⟨0, 10, 17, 13⟩] ⟨0, 10, 21, 15⟩ [] (htab.trans rfl) (List.forall_mem_cons.mpr ⟨Or.inr ⟨by decide, "java/lang/IndexOutOfBoundsException", (hts (.classLink RL 21 "java/lang/IndexOutOfBoundsException") (by decide +kernel)), hNc.2.1⟩, List.forall_mem_cons.mpr ⟨Or.inr ⟨by decide, "java/lang/IllegalArgumentException", (hts (.classLink RL 13 "java/lang/IllegalArgumentException") (by decide +kernel)), hNc.2.2⟩, fun z h => nomatch h⟩⟩) (by decide) (by decide) (hts (.classLink RL 15 "java/lang/IllegalStateException") (by decide +kernel)) (zN.use hN (List.mem_of_getElem? (i := 38) rfl)) hc1 hc2 hc3 ?_
  refine lv_astore (lv' := [(4, .ref q9), (0, .ref (ad 0)), (1, .int x0), (2, .int x1), (3, .ref ob)]) hx hb dL_version_21 hl (by decide) rfl (fun ls hl => ?_)
  refine lv_iconst (v := nI 3) hx hb dL_version_23 (by decide) ?_
  have hP : va_P D vwCl (zC ty g ad) H := zC_kept hP (fun k hk h => ho _ h)
  have hO : va_at D vwCl (ob, eL tl f) H := hO.kept (ho ob hO.lt)
  exact W.iret (v := nI 3) hx hb hr (fun t ht hW => ⟨⟨_, (g, f), rfl, ⟨rfl, rfl, fun z => nomatch z⟩, by rw [ht]; exact hP, by rw [ht]; exact hO⟩, hS.F ht⟩) hS.2.2 dL_version_24
set_option maxHeartbeats 1000000 in
set_option maxRecDepth 100000 in
theorem l_missing_ok (l : Launch) (D : va_G) (ty : Nat → ClassId) (tl : ClassId) (g g2 : Nat → Nat → Int32) (ad : Nat → Nat) (ob : Nat) (f : Nat → Int64) (sz : Nat) (hob : ∀ k, k < 39 → ad k ≠ ob) (rm : Room) (hrc : rm.cells = 0) (hrs : rm.slots = 0) (hrf : rm.frames ≤ 9) (hrl : rm.locals ≤ 180) (x0 x1 x2 : Int32) (a : Int32) (hM : Met l yX5_missing wsX5_missing rm (va_Pc [.ref (ad 0), .int x0, .int x1, .int x2] (fun U => zI D ty g ad U ∧ U.heap.size = sz)) (va_Qi (fun (v9 : Int32) (gz : Nat → Nat → Int32) => v9 = a ∧ gz = g2) (fun gz t => zI D ty gz ad t) (AC ad sz)) 0 0 (AC ad sz)) : Met l yL_missing wsL_missing ({ frames := 10, cells := 1, slots := 6, locals := 230 }) (va_Pc [.ref (ad 0), .int x0, .int x1, .int x2, .ref ob] (wX D ty tl g ad ob f sz)) (wQ D ty tl ad ob sz 0 a.toInt64 g2) 1 6 (WC ad ob sz) := by
  refine zMetH (cc := cL_missing) (maxL := 6) (ret := (some .int)) (hh := [(0, 12, 15, 21), (0, 12, 19, 13), (0, 12, 23, 15)]) (by decide) rfl (Nat.le_of_ble_eq_true rfl) ?_
  intro p e s m below meth c hx hb hr hts hown hlocks hml htab hB ls hl
  obtain ⟨⟨⟨hP, hK, hN⟩, hQ, hT⟩, hNc, hKl, hO, hsz⟩ := hB
  have hS : va_S (WC ad ob sz) s.heap s.heap [] := va_S.rf
  have hl : lv_has ls 6 [(0, .ref (ad 0)), (1, .int x0), (2, .int x1), (3, .int x2), (4, .ref ob)] := hl
  refine lv_aload hx hb dL_missing_0 (lv_at hl 4 rfl) ?_
  refine lv_iconst (v := nI 0) hx hb dL_missing_2 (by decide) ?_
  refine lv_aload_n hx hb dL_missing_3 rfl (lv_at hl 0 rfl) ?_
  refine lv_iload_n hx hb dL_missing_4 rfl (lv_at hl 1 rfl) ?_
  refine lv_iload_n hx hb dL_missing_5 rfl (lv_at hl 2 rfl) ?_
  refine lv_iload_n hx hb dL_missing_6 rfl (lv_at hl 3 rfl) ?_
  refine va_calli (va_runV (As := [.int x0, .int x1, .int x2]) (rest := [.int (nI 0), .ref ob]) ⟨hx, hb, hml, hown, hts⟩ hM (cwV 3 hts gL_missing_X5_missing rfl hrc hrs (by decide +kernel) ⟨by show _ ≤ 10; omega, by show _ ≤ 230; omega⟩) ⟨zBl zW_blind, va_recv hK hP (ci := 6) (q0 := 0) rfl rfl, fun U h1 h2 => ⟨rfl, zI_pre hP hK hN U h1 h2, by rw [h1]; exact hsz⟩⟩ rfl rfl hl.1 rfl (lv_room (Nat.le_of_ble_eq_true rfl)) dL_missing_7 ⟨Nat.le_of_ble_eq_true rfl, Nat.le_of_ble_eq_true rfl⟩) hS (fun _ _ h => Or.inl h) (fun _ h => Or.inl h) (fun r gz t H locs ht hvm hw hB hz1 hk1 hS => ?_)
  obtain ⟨rfl, rfl⟩ := hw
  have hP : va_P D vwCl (zC ty gz ad) H := by rw [← ht]; exact hB.1
  have hO : va_at D vwCl (ob, eL tl f) H := hO.kept (hk1 ob hO.lt (fun z => by rcases z with ⟨k, hk, z⟩ | z; (exact hob k hk z.symm); (have := hO.lt; have h9 : ob < s.heap.size := this; omega)))
  refine lv_i2l hx hb dL_missing_10 rfl ?_
  refine zlast hx hb hKl hO hS (Or.inr rfl) dL_missing_11 (fun H1 locs hO hS ho => ?_)
  have hP : va_P D vwCl (zC ty gz ad) H1 := zC_kept hP (fun k hk _ => ho _ (hob k hk))
  refine lv_goto (tgt := 27) hx hb dL_missing_12 (by decide) ?_
  refine lv_iconst (v := nI 0) hx hb dL_missing_27 (by decide) ?_
  refine W.widen (k := 1) (n := 6) (by omega) (by omega) ?_
  exact W.iret (v := nI 0) hx hb hr (fun t ht hW => ⟨⟨_, (gz, vp_updL f 0 (r.toInt64)), rfl, ⟨rfl, rfl, fun _ => (show vp_updL f 0 (r.toInt64) 0 = _ by unfold vp_updL; rw [if_pos rfl])⟩, by rw [ht]; exact hP, by rw [ht]; exact hO⟩, hS.F ht⟩) hS.2.2 dL_missing_28
set_option maxHeartbeats 1000000 in
set_option maxRecDepth 100000 in
theorem l_missing_x1 (l : Launch) (D : va_G) (ty : Nat → ClassId) (tl : ClassId) (g : Nat → Nat → Int32) (ad : Nat → Nat) (ob : Nat) (f : Nat → Int64) (sz : Nat) (hob : ∀ k, k < 39 → ad k ≠ ob) (rm : Room) (hrc : rm.cells = 1) (hrs : rm.slots = 6) (hrf : rm.frames ≤ 9) (hrl : rm.locals ≤ 180) (x0 x1 x2 : Int32) (a : Int64) (hM : vx_Met l yX5_missing wsX5_missing rm (va_Pc [.ref (ad 0), .int x0, .int x1, .int x2] (zX D ty g ad)) zno (zXC "java/lang/IndexOutOfBoundsException") 1 6 (fun _ => False)) : Met l yL_missing wsL_missing ({ frames := 10, cells := 1, slots := 6, locals := 230 }) (va_Pc [.ref (ad 0), .int x0, .int x1, .int x2, .ref ob] (wX D ty tl g ad ob f sz)) (wQ D ty tl ad ob sz 1 a g) 1 6 (WC ad ob sz) := by
  refine zMetH (cc := cL_missing) (maxL := 6) (ret := (some .int)) (hh := [(0, 12, 15, 21), (0, 12, 19, 13), (0, 12, 23, 15)]) (by decide) rfl (Nat.le_of_ble_eq_true rfl) ?_
  intro p e s m below meth c hx hb hr hts hown hlocks hml htab hB ls hl
  obtain ⟨⟨⟨hP, hK, hN⟩, hQ, hT⟩, hNc, hKl, hO, hsz⟩ := hB
  have hS : va_S (WC ad ob sz) s.heap s.heap [] := va_S.rf
  have hl : lv_has ls 6 [(0, .ref (ad 0)), (1, .int x0), (2, .int x1), (3, .int x2), (4, .ref ob)] := hl
  refine lv_aload hx hb dL_missing_0 (lv_at hl 4 rfl) ?_
  refine lv_iconst (v := nI 0) hx hb dL_missing_2 (by decide) ?_
  refine lv_aload_n hx hb dL_missing_3 rfl (lv_at hl 0 rfl) ?_
  refine lv_iload_n hx hb dL_missing_4 rfl (lv_at hl 1 rfl) ?_
  refine lv_iload_n hx hb dL_missing_5 rfl (lv_at hl 2 rfl) ?_
  refine lv_iload_n hx hb dL_missing_6 rfl (lv_at hl 3 rfl) ?_
  refine zxcall (vx_runV (As := [.int x0, .int x1, .int x2]) (rest := [.int (nI 0), .ref ob]) ⟨hx, hb, hml, hown, hts⟩ hM (cwV 3 hts gL_missing_X5_missing rfl hrc hrs (by decide +kernel) ⟨by show _ ≤ 10; omega, by show _ ≤ 230; omega⟩) ⟨zBl zX_blind, va_recv hK hP (ci := 6) (q0 := 0) rfl rfl, fun U h1 h2 => ⟨rfl, zX_pre hP hK hN hQ hT U h1 h2⟩⟩ rfl rfl hl.1 rfl (lv_room (Nat.le_of_ble_eq_true rfl)) dL_missing_7 ⟨Nat.le_of_ble_eq_true rfl, Nat.le_of_ble_eq_true rfl⟩) hS (fun ce q9 H locs hz ho hS hc1 hc2 hc3 => ?_)
  refine vx_catch (name := "java/lang/IndexOutOfBoundsException") hown [] ⟨0, 12, 15, 21⟩ [⟨0, 12, 19, 13⟩, ⟨0, 12, 23, 15⟩] (htab.trans rfl) (fun z h => nomatch h) (by decide) (by decide) (hts (.classLink RL 21 "java/lang/IndexOutOfBoundsException") (by decide +kernel)) (zN.use hN (List.mem_of_getElem? (i := 36) rfl)) hc1 hc2 hc3 ?_
  refine lv_astore (lv' := [(5, .ref q9), (0, .ref (ad 0)), (1, .int x0), (2, .int x1), (3, .int x2), (4, .ref ob)]) hx hb dL_missing_15 hl (by decide) rfl (fun ls hl => ?_)
  refine lv_iconst (v := nI 1) hx hb dL_missing_17 (by decide) ?_
  have hP : va_P D vwCl (zC ty g ad) H := zC_kept hP (fun k hk h => ho _ h)
  have hO : va_at D vwCl (ob, eL tl f) H := hO.kept (ho ob hO.lt)
  exact W.iret (v := nI 1) hx hb hr (fun t ht hW => ⟨⟨_, (g, f), rfl, ⟨rfl, rfl, fun z => nomatch z⟩, by rw [ht]; exact hP, by rw [ht]; exact hO⟩, hS.F ht⟩) hS.2.2 dL_missing_18
set_option maxHeartbeats 1000000 in
set_option maxRecDepth 100000 in
theorem l_missing_x2 (l : Launch) (D : va_G) (ty : Nat → ClassId) (tl : ClassId) (g : Nat → Nat → Int32) (ad : Nat → Nat) (ob : Nat) (f : Nat → Int64) (sz : Nat) (hob : ∀ k, k < 39 → ad k ≠ ob) (rm : Room) (hrc : rm.cells = 1) (hrs : rm.slots = 6) (hrf : rm.frames ≤ 9) (hrl : rm.locals ≤ 180) (x0 x1 x2 : Int32) (a : Int64) (hM : vx_Met l yX5_missing wsX5_missing rm (va_Pc [.ref (ad 0), .int x0, .int x1, .int x2] (zX D ty g ad)) zno (zXC "java/lang/IllegalArgumentException") 1 6 (fun _ => False)) : Met l yL_missing wsL_missing ({ frames := 10, cells := 1, slots := 6, locals := 230 }) (va_Pc [.ref (ad 0), .int x0, .int x1, .int x2, .ref ob] (wX D ty tl g ad ob f sz)) (wQ D ty tl ad ob sz 2 a g) 1 6 (WC ad ob sz) := by
  refine zMetH (cc := cL_missing) (maxL := 6) (ret := (some .int)) (hh := [(0, 12, 15, 21), (0, 12, 19, 13), (0, 12, 23, 15)]) (by decide) rfl (Nat.le_of_ble_eq_true rfl) ?_
  intro p e s m below meth c hx hb hr hts hown hlocks hml htab hB ls hl
  obtain ⟨⟨⟨hP, hK, hN⟩, hQ, hT⟩, hNc, hKl, hO, hsz⟩ := hB
  have hS : va_S (WC ad ob sz) s.heap s.heap [] := va_S.rf
  have hl : lv_has ls 6 [(0, .ref (ad 0)), (1, .int x0), (2, .int x1), (3, .int x2), (4, .ref ob)] := hl
  refine lv_aload hx hb dL_missing_0 (lv_at hl 4 rfl) ?_
  refine lv_iconst (v := nI 0) hx hb dL_missing_2 (by decide) ?_
  refine lv_aload_n hx hb dL_missing_3 rfl (lv_at hl 0 rfl) ?_
  refine lv_iload_n hx hb dL_missing_4 rfl (lv_at hl 1 rfl) ?_
  refine lv_iload_n hx hb dL_missing_5 rfl (lv_at hl 2 rfl) ?_
  refine lv_iload_n hx hb dL_missing_6 rfl (lv_at hl 3 rfl) ?_
  refine zxcall (vx_runV (As := [.int x0, .int x1, .int x2]) (rest := [.int (nI 0), .ref ob]) ⟨hx, hb, hml, hown, hts⟩ hM (cwV 3 hts gL_missing_X5_missing rfl hrc hrs (by decide +kernel) ⟨by show _ ≤ 10; omega, by show _ ≤ 230; omega⟩) ⟨zBl zX_blind, va_recv hK hP (ci := 6) (q0 := 0) rfl rfl, fun U h1 h2 => ⟨rfl, zX_pre hP hK hN hQ hT U h1 h2⟩⟩ rfl rfl hl.1 rfl (lv_room (Nat.le_of_ble_eq_true rfl)) dL_missing_7 ⟨Nat.le_of_ble_eq_true rfl, Nat.le_of_ble_eq_true rfl⟩) hS (fun ce q9 H locs hz ho hS hc1 hc2 hc3 => ?_)
  refine vx_catch (name := "java/lang/IllegalArgumentException") hown [⟨0, 12, 15, 21⟩] ⟨0, 12, 19, 13⟩ [⟨0, 12, 23, 15⟩] (htab.trans rfl) (List.forall_mem_cons.mpr ⟨Or.inr ⟨by decide, "java/lang/IndexOutOfBoundsException", (hts (.classLink RL 21 "java/lang/IndexOutOfBoundsException") (by decide +kernel)), hNc.1⟩, fun z h => nomatch h⟩) (by decide) (by decide) (hts (.classLink RL 13 "java/lang/IllegalArgumentException") (by decide +kernel)) (zN.use hN (List.mem_of_getElem? (i := 29) rfl)) hc1 hc2 hc3 ?_
  refine lv_astore (lv' := [(5, .ref q9), (0, .ref (ad 0)), (1, .int x0), (2, .int x1), (3, .int x2), (4, .ref ob)]) hx hb dL_missing_19 hl (by decide) rfl (fun ls hl => ?_)
  refine lv_iconst (v := nI 2) hx hb dL_missing_21 (by decide) ?_
  have hP : va_P D vwCl (zC ty g ad) H := zC_kept hP (fun k hk h => ho _ h)
  have hO : va_at D vwCl (ob, eL tl f) H := hO.kept (ho ob hO.lt)
  exact W.iret (v := nI 2) hx hb hr (fun t ht hW => ⟨⟨_, (g, f), rfl, ⟨rfl, rfl, fun z => nomatch z⟩, by rw [ht]; exact hP, by rw [ht]; exact hO⟩, hS.F ht⟩) hS.2.2 dL_missing_22
set_option maxHeartbeats 1000000 in
set_option maxRecDepth 100000 in
theorem l_missing_x3 (l : Launch) (D : va_G) (ty : Nat → ClassId) (tl : ClassId) (g : Nat → Nat → Int32) (ad : Nat → Nat) (ob : Nat) (f : Nat → Int64) (sz : Nat) (hob : ∀ k, k < 39 → ad k ≠ ob) (rm : Room) (hrc : rm.cells = 1) (hrs : rm.slots = 6) (hrf : rm.frames ≤ 9) (hrl : rm.locals ≤ 180) (x0 x1 x2 : Int32) (a : Int64) (hM : vx_Met l yX5_missing wsX5_missing rm (va_Pc [.ref (ad 0), .int x0, .int x1, .int x2] (zX D ty g ad)) zno (zXC "java/lang/IllegalStateException") 1 6 (fun _ => False)) : Met l yL_missing wsL_missing ({ frames := 10, cells := 1, slots := 6, locals := 230 }) (va_Pc [.ref (ad 0), .int x0, .int x1, .int x2, .ref ob] (wX D ty tl g ad ob f sz)) (wQ D ty tl ad ob sz 3 a g) 1 6 (WC ad ob sz) := by
  refine zMetH (cc := cL_missing) (maxL := 6) (ret := (some .int)) (hh := [(0, 12, 15, 21), (0, 12, 19, 13), (0, 12, 23, 15)]) (by decide) rfl (Nat.le_of_ble_eq_true rfl) ?_
  intro p e s m below meth c hx hb hr hts hown hlocks hml htab hB ls hl
  obtain ⟨⟨⟨hP, hK, hN⟩, hQ, hT⟩, hNc, hKl, hO, hsz⟩ := hB
  have hS : va_S (WC ad ob sz) s.heap s.heap [] := va_S.rf
  have hl : lv_has ls 6 [(0, .ref (ad 0)), (1, .int x0), (2, .int x1), (3, .int x2), (4, .ref ob)] := hl
  refine lv_aload hx hb dL_missing_0 (lv_at hl 4 rfl) ?_
  refine lv_iconst (v := nI 0) hx hb dL_missing_2 (by decide) ?_
  refine lv_aload_n hx hb dL_missing_3 rfl (lv_at hl 0 rfl) ?_
  refine lv_iload_n hx hb dL_missing_4 rfl (lv_at hl 1 rfl) ?_
  refine lv_iload_n hx hb dL_missing_5 rfl (lv_at hl 2 rfl) ?_
  refine lv_iload_n hx hb dL_missing_6 rfl (lv_at hl 3 rfl) ?_
  refine zxcall (vx_runV (As := [.int x0, .int x1, .int x2]) (rest := [.int (nI 0), .ref ob]) ⟨hx, hb, hml, hown, hts⟩ hM (cwV 3 hts gL_missing_X5_missing rfl hrc hrs (by decide +kernel) ⟨by show _ ≤ 10; omega, by show _ ≤ 230; omega⟩) ⟨zBl zX_blind, va_recv hK hP (ci := 6) (q0 := 0) rfl rfl, fun U h1 h2 => ⟨rfl, zX_pre hP hK hN hQ hT U h1 h2⟩⟩ rfl rfl hl.1 rfl (lv_room (Nat.le_of_ble_eq_true rfl)) dL_missing_7 ⟨Nat.le_of_ble_eq_true rfl, Nat.le_of_ble_eq_true rfl⟩) hS (fun ce q9 H locs hz ho hS hc1 hc2 hc3 => ?_)
  refine vx_catch (name := "java/lang/IllegalStateException") hown [⟨0, 12, 15, 21⟩, ⟨0, 12, 19, 13⟩] ⟨0, 12, 23, 15⟩ [] (htab.trans rfl) (List.forall_mem_cons.mpr ⟨Or.inr ⟨by decide, "java/lang/IndexOutOfBoundsException", (hts (.classLink RL 21 "java/lang/IndexOutOfBoundsException") (by decide +kernel)), hNc.2.1⟩, List.forall_mem_cons.mpr ⟨Or.inr ⟨by decide, "java/lang/IllegalArgumentException", (hts (.classLink RL 13 "java/lang/IllegalArgumentException") (by decide +kernel)), hNc.2.2⟩, fun z h => nomatch h⟩⟩) (by decide) (by decide) (hts (.classLink RL 15 "java/lang/IllegalStateException") (by decide +kernel)) (zN.use hN (List.mem_of_getElem? (i := 38) rfl)) hc1 hc2 hc3 ?_
  refine lv_astore (lv' := [(5, .ref q9), (0, .ref (ad 0)), (1, .int x0), (2, .int x1), (3, .int x2), (4, .ref ob)]) hx hb dL_missing_23 hl (by decide) rfl (fun ls hl => ?_)
  refine lv_iconst (v := nI 3) hx hb dL_missing_25 (by decide) ?_
  have hP : va_P D vwCl (zC ty g ad) H := zC_kept hP (fun k hk h => ho _ h)
  have hO : va_at D vwCl (ob, eL tl f) H := hO.kept (ho ob hO.lt)
  exact W.iret (v := nI 3) hx hb hr (fun t ht hW => ⟨⟨_, (g, f), rfl, ⟨rfl, rfl, fun z => nomatch z⟩, by rw [ht]; exact hP, by rw [ht]; exact hO⟩, hS.F ht⟩) hS.2.2 dL_missing_26
set_option maxHeartbeats 1000000 in
set_option maxRecDepth 100000 in
theorem l_report_ok (l : Launch) (D : va_G) (ty : Nat → ClassId) (tl : ClassId) (g g2 : Nat → Nat → Int32) (ad : Nat → Nat) (ob : Nat) (f : Nat → Int64) (sz : Nat) (hob : ∀ k, k < 39 → ad k ≠ ob) (rm : Room) (hrc : rm.cells = 0) (hrs : rm.slots = 0) (hrf : rm.frames ≤ 9) (hrl : rm.locals ≤ 180) (x0 x1 x2 x3 : Int32) (a : Int32) (hM : Met l yX5_report wsX5_report rm (va_Pc [.ref (ad 0), .int x0, .int x1, .int x2, .int x3] (fun U => zI D ty g ad U ∧ U.heap.size = sz)) (va_Qi (fun (v9 : Int32) (gz : Nat → Nat → Int32) => v9 = a ∧ gz = g2) (fun gz t => zI D ty gz ad t) (AC ad sz)) 0 0 (AC ad sz)) : Met l yL_report wsL_report ({ frames := 10, cells := 1, slots := 6, locals := 230 }) (va_Pc [.ref (ad 0), .int x0, .int x1, .int x2, .int x3, .ref ob] (wX D ty tl g ad ob f sz)) (wQ D ty tl ad ob sz 0 a.toInt64 g2) 1 6 (WC ad ob sz) := by
  refine zMetH (cc := cL_report) (maxL := 7) (ret := (some .int)) (hh := [(0, 14, 17, 21), (0, 14, 21, 13)]) (by decide) rfl (Nat.le_of_ble_eq_true rfl) ?_
  intro p e s m below meth c hx hb hr hts hown hlocks hml htab hB ls hl
  obtain ⟨⟨⟨hP, hK, hN⟩, hQ, hT⟩, hNc, hKl, hO, hsz⟩ := hB
  have hS : va_S (WC ad ob sz) s.heap s.heap [] := va_S.rf
  have hl : lv_has ls 7 [(0, .ref (ad 0)), (1, .int x0), (2, .int x1), (3, .int x2), (4, .int x3), (5, .ref ob)] := hl
  refine lv_aload hx hb dL_report_0 (lv_at hl 5 rfl) ?_
  refine lv_iconst (v := nI 0) hx hb dL_report_2 (by decide) ?_
  refine lv_aload_n hx hb dL_report_3 rfl (lv_at hl 0 rfl) ?_
  refine lv_iload_n hx hb dL_report_4 rfl (lv_at hl 1 rfl) ?_
  refine lv_iload_n hx hb dL_report_5 rfl (lv_at hl 2 rfl) ?_
  refine lv_iload_n hx hb dL_report_6 rfl (lv_at hl 3 rfl) ?_
  refine lv_iload hx hb dL_report_7 (lv_at hl 4 rfl) ?_
  refine va_calli (va_runV (As := [.int x0, .int x1, .int x2, .int x3]) (rest := [.int (nI 0), .ref ob]) ⟨hx, hb, hml, hown, hts⟩ hM (cwV 4 hts gL_report_X5_report rfl hrc hrs (by decide +kernel) ⟨by show _ ≤ 10; omega, by show _ ≤ 230; omega⟩) ⟨zBl zW_blind, va_recv hK hP (ci := 6) (q0 := 0) rfl rfl, fun U h1 h2 => ⟨rfl, zI_pre hP hK hN U h1 h2, by rw [h1]; exact hsz⟩⟩ rfl rfl hl.1 rfl (lv_room (Nat.le_of_ble_eq_true rfl)) dL_report_9 ⟨Nat.le_of_ble_eq_true rfl, Nat.le_of_ble_eq_true rfl⟩) hS (fun _ _ h => Or.inl h) (fun _ h => Or.inl h) (fun r gz t H locs ht hvm hw hB hz1 hk1 hS => ?_)
  obtain ⟨rfl, rfl⟩ := hw
  have hP : va_P D vwCl (zC ty gz ad) H := by rw [← ht]; exact hB.1
  have hO : va_at D vwCl (ob, eL tl f) H := hO.kept (hk1 ob hO.lt (fun z => by rcases z with ⟨k, hk, z⟩ | z; (exact hob k hk z.symm); (have := hO.lt; have h9 : ob < s.heap.size := this; omega)))
  refine lv_i2l hx hb dL_report_12 rfl ?_
  refine zlast hx hb hKl hO hS (Or.inr rfl) dL_report_13 (fun H1 locs hO hS ho => ?_)
  have hP : va_P D vwCl (zC ty gz ad) H1 := zC_kept hP (fun k hk _ => ho _ (hob k hk))
  refine lv_goto (tgt := 25) hx hb dL_report_14 (by decide) ?_
  refine lv_iconst (v := nI 0) hx hb dL_report_25 (by decide) ?_
  refine W.widen (k := 1) (n := 6) (by omega) (by omega) ?_
  exact W.iret (v := nI 0) hx hb hr (fun t ht hW => ⟨⟨_, (gz, vp_updL f 0 (r.toInt64)), rfl, ⟨rfl, rfl, fun _ => (show vp_updL f 0 (r.toInt64) 0 = _ by unfold vp_updL; rw [if_pos rfl])⟩, by rw [ht]; exact hP, by rw [ht]; exact hO⟩, hS.F ht⟩) hS.2.2 dL_report_26
set_option maxHeartbeats 1000000 in
set_option maxRecDepth 100000 in
theorem l_report_x1 (l : Launch) (D : va_G) (ty : Nat → ClassId) (tl : ClassId) (g : Nat → Nat → Int32) (ad : Nat → Nat) (ob : Nat) (f : Nat → Int64) (sz : Nat) (hob : ∀ k, k < 39 → ad k ≠ ob) (rm : Room) (hrc : rm.cells = 1) (hrs : rm.slots = 6) (hrf : rm.frames ≤ 9) (hrl : rm.locals ≤ 180) (x0 x1 x2 x3 : Int32) (a : Int64) (hM : vx_Met l yX5_report wsX5_report rm (va_Pc [.ref (ad 0), .int x0, .int x1, .int x2, .int x3] (zX D ty g ad)) zno (zXC "java/lang/IndexOutOfBoundsException") 1 6 (fun _ => False)) : Met l yL_report wsL_report ({ frames := 10, cells := 1, slots := 6, locals := 230 }) (va_Pc [.ref (ad 0), .int x0, .int x1, .int x2, .int x3, .ref ob] (wX D ty tl g ad ob f sz)) (wQ D ty tl ad ob sz 1 a g) 1 6 (WC ad ob sz) := by
  refine zMetH (cc := cL_report) (maxL := 7) (ret := (some .int)) (hh := [(0, 14, 17, 21), (0, 14, 21, 13)]) (by decide) rfl (Nat.le_of_ble_eq_true rfl) ?_
  intro p e s m below meth c hx hb hr hts hown hlocks hml htab hB ls hl
  obtain ⟨⟨⟨hP, hK, hN⟩, hQ, hT⟩, hNc, hKl, hO, hsz⟩ := hB
  have hS : va_S (WC ad ob sz) s.heap s.heap [] := va_S.rf
  have hl : lv_has ls 7 [(0, .ref (ad 0)), (1, .int x0), (2, .int x1), (3, .int x2), (4, .int x3), (5, .ref ob)] := hl
  refine lv_aload hx hb dL_report_0 (lv_at hl 5 rfl) ?_
  refine lv_iconst (v := nI 0) hx hb dL_report_2 (by decide) ?_
  refine lv_aload_n hx hb dL_report_3 rfl (lv_at hl 0 rfl) ?_
  refine lv_iload_n hx hb dL_report_4 rfl (lv_at hl 1 rfl) ?_
  refine lv_iload_n hx hb dL_report_5 rfl (lv_at hl 2 rfl) ?_
  refine lv_iload_n hx hb dL_report_6 rfl (lv_at hl 3 rfl) ?_
  refine lv_iload hx hb dL_report_7 (lv_at hl 4 rfl) ?_
  refine zxcall (vx_runV (As := [.int x0, .int x1, .int x2, .int x3]) (rest := [.int (nI 0), .ref ob]) ⟨hx, hb, hml, hown, hts⟩ hM (cwV 4 hts gL_report_X5_report rfl hrc hrs (by decide +kernel) ⟨by show _ ≤ 10; omega, by show _ ≤ 230; omega⟩) ⟨zBl zX_blind, va_recv hK hP (ci := 6) (q0 := 0) rfl rfl, fun U h1 h2 => ⟨rfl, zX_pre hP hK hN hQ hT U h1 h2⟩⟩ rfl rfl hl.1 rfl (lv_room (Nat.le_of_ble_eq_true rfl)) dL_report_9 ⟨Nat.le_of_ble_eq_true rfl, Nat.le_of_ble_eq_true rfl⟩) hS (fun ce q9 H locs hz ho hS hc1 hc2 hc3 => ?_)
  refine vx_catch (name := "java/lang/IndexOutOfBoundsException") hown [] ⟨0, 14, 17, 21⟩ [⟨0, 14, 21, 13⟩] (htab.trans rfl) (fun z h => nomatch h) (by decide) (by decide) (hts (.classLink RL 21 "java/lang/IndexOutOfBoundsException") (by decide +kernel)) (zN.use hN (List.mem_of_getElem? (i := 36) rfl)) hc1 hc2 hc3 ?_
  refine lv_astore (lv' := [(6, .ref q9), (0, .ref (ad 0)), (1, .int x0), (2, .int x1), (3, .int x2), (4, .int x3), (5, .ref ob)]) hx hb dL_report_17 hl (by decide) rfl (fun ls hl => ?_)
  refine lv_iconst (v := nI 1) hx hb dL_report_19 (by decide) ?_
  have hP : va_P D vwCl (zC ty g ad) H := zC_kept hP (fun k hk h => ho _ h)
  have hO : va_at D vwCl (ob, eL tl f) H := hO.kept (ho ob hO.lt)
  exact W.iret (v := nI 1) hx hb hr (fun t ht hW => ⟨⟨_, (g, f), rfl, ⟨rfl, rfl, fun z => nomatch z⟩, by rw [ht]; exact hP, by rw [ht]; exact hO⟩, hS.F ht⟩) hS.2.2 dL_report_20
set_option maxHeartbeats 1000000 in
set_option maxRecDepth 100000 in
theorem l_report_x2 (l : Launch) (D : va_G) (ty : Nat → ClassId) (tl : ClassId) (g : Nat → Nat → Int32) (ad : Nat → Nat) (ob : Nat) (f : Nat → Int64) (sz : Nat) (hob : ∀ k, k < 39 → ad k ≠ ob) (rm : Room) (hrc : rm.cells = 1) (hrs : rm.slots = 6) (hrf : rm.frames ≤ 9) (hrl : rm.locals ≤ 180) (x0 x1 x2 x3 : Int32) (a : Int64) (hM : vx_Met l yX5_report wsX5_report rm (va_Pc [.ref (ad 0), .int x0, .int x1, .int x2, .int x3] (zX D ty g ad)) zno (zXC "java/lang/IllegalArgumentException") 1 6 (fun _ => False)) : Met l yL_report wsL_report ({ frames := 10, cells := 1, slots := 6, locals := 230 }) (va_Pc [.ref (ad 0), .int x0, .int x1, .int x2, .int x3, .ref ob] (wX D ty tl g ad ob f sz)) (wQ D ty tl ad ob sz 2 a g) 1 6 (WC ad ob sz) := by
  refine zMetH (cc := cL_report) (maxL := 7) (ret := (some .int)) (hh := [(0, 14, 17, 21), (0, 14, 21, 13)]) (by decide) rfl (Nat.le_of_ble_eq_true rfl) ?_
  intro p e s m below meth c hx hb hr hts hown hlocks hml htab hB ls hl
  obtain ⟨⟨⟨hP, hK, hN⟩, hQ, hT⟩, hNc, hKl, hO, hsz⟩ := hB
  have hS : va_S (WC ad ob sz) s.heap s.heap [] := va_S.rf
  have hl : lv_has ls 7 [(0, .ref (ad 0)), (1, .int x0), (2, .int x1), (3, .int x2), (4, .int x3), (5, .ref ob)] := hl
  refine lv_aload hx hb dL_report_0 (lv_at hl 5 rfl) ?_
  refine lv_iconst (v := nI 0) hx hb dL_report_2 (by decide) ?_
  refine lv_aload_n hx hb dL_report_3 rfl (lv_at hl 0 rfl) ?_
  refine lv_iload_n hx hb dL_report_4 rfl (lv_at hl 1 rfl) ?_
  refine lv_iload_n hx hb dL_report_5 rfl (lv_at hl 2 rfl) ?_
  refine lv_iload_n hx hb dL_report_6 rfl (lv_at hl 3 rfl) ?_
  refine lv_iload hx hb dL_report_7 (lv_at hl 4 rfl) ?_
  refine zxcall (vx_runV (As := [.int x0, .int x1, .int x2, .int x3]) (rest := [.int (nI 0), .ref ob]) ⟨hx, hb, hml, hown, hts⟩ hM (cwV 4 hts gL_report_X5_report rfl hrc hrs (by decide +kernel) ⟨by show _ ≤ 10; omega, by show _ ≤ 230; omega⟩) ⟨zBl zX_blind, va_recv hK hP (ci := 6) (q0 := 0) rfl rfl, fun U h1 h2 => ⟨rfl, zX_pre hP hK hN hQ hT U h1 h2⟩⟩ rfl rfl hl.1 rfl (lv_room (Nat.le_of_ble_eq_true rfl)) dL_report_9 ⟨Nat.le_of_ble_eq_true rfl, Nat.le_of_ble_eq_true rfl⟩) hS (fun ce q9 H locs hz ho hS hc1 hc2 hc3 => ?_)
  refine vx_catch (name := "java/lang/IllegalArgumentException") hown [⟨0, 14, 17, 21⟩] ⟨0, 14, 21, 13⟩ [] (htab.trans rfl) (List.forall_mem_cons.mpr ⟨Or.inr ⟨by decide, "java/lang/IndexOutOfBoundsException", (hts (.classLink RL 21 "java/lang/IndexOutOfBoundsException") (by decide +kernel)), hNc.1⟩, fun z h => nomatch h⟩) (by decide) (by decide) (hts (.classLink RL 13 "java/lang/IllegalArgumentException") (by decide +kernel)) (zN.use hN (List.mem_of_getElem? (i := 29) rfl)) hc1 hc2 hc3 ?_
  refine lv_astore (lv' := [(6, .ref q9), (0, .ref (ad 0)), (1, .int x0), (2, .int x1), (3, .int x2), (4, .int x3), (5, .ref ob)]) hx hb dL_report_21 hl (by decide) rfl (fun ls hl => ?_)
  refine lv_iconst (v := nI 2) hx hb dL_report_23 (by decide) ?_
  have hP : va_P D vwCl (zC ty g ad) H := zC_kept hP (fun k hk h => ho _ h)
  have hO : va_at D vwCl (ob, eL tl f) H := hO.kept (ho ob hO.lt)
  exact W.iret (v := nI 2) hx hb hr (fun t ht hW => ⟨⟨_, (g, f), rfl, ⟨rfl, rfl, fun z => nomatch z⟩, by rw [ht]; exact hP, by rw [ht]; exact hO⟩, hS.F ht⟩) hS.2.2 dL_report_24
set_option maxHeartbeats 1000000 in
set_option maxRecDepth 100000 in
theorem l_harm_ok (l : Launch) (D : va_G) (ty : Nat → ClassId) (tl : ClassId) (g g2 : Nat → Nat → Int32) (ad : Nat → Nat) (ob : Nat) (f : Nat → Int64) (sz : Nat) (hob : ∀ k, k < 39 → ad k ≠ ob) (rm : Room) (hrc : rm.cells = 0) (hrs : rm.slots = 0) (hrf : rm.frames ≤ 9) (hrl : rm.locals ≤ 180) (x0 x1 x2 : Int32) (a : Int32) (hM : Met l yX5_harm wsX5_harm rm (va_Pc [.ref (ad 0), .int x0, .int x1, .int x2] (fun U => zI D ty g ad U ∧ U.heap.size = sz)) (va_Qi (fun (v9 : Int32) (gz : Nat → Nat → Int32) => v9 = a ∧ gz = g2) (fun gz t => zI D ty gz ad t) (AC ad sz)) 0 0 (AC ad sz)) : Met l yL_harm wsL_harm ({ frames := 10, cells := 1, slots := 6, locals := 230 }) (va_Pc [.ref (ad 0), .int x0, .int x1, .int x2, .ref ob] (wX D ty tl g ad ob f sz)) (wQ D ty tl ad ob sz 0 a.toInt64 g2) 1 6 (WC ad ob sz) := by
  refine zMetH (cc := cL_harm) (maxL := 6) (ret := (some .int)) (hh := [(0, 12, 15, 21)]) (by decide) rfl (Nat.le_of_ble_eq_true rfl) ?_
  intro p e s m below meth c hx hb hr hts hown hlocks hml htab hB ls hl
  obtain ⟨⟨⟨hP, hK, hN⟩, hQ, hT⟩, hNc, hKl, hO, hsz⟩ := hB
  have hS : va_S (WC ad ob sz) s.heap s.heap [] := va_S.rf
  have hl : lv_has ls 6 [(0, .ref (ad 0)), (1, .int x0), (2, .int x1), (3, .int x2), (4, .ref ob)] := hl
  refine lv_aload hx hb dL_harm_0 (lv_at hl 4 rfl) ?_
  refine lv_iconst (v := nI 0) hx hb dL_harm_2 (by decide) ?_
  refine lv_aload_n hx hb dL_harm_3 rfl (lv_at hl 0 rfl) ?_
  refine lv_iload_n hx hb dL_harm_4 rfl (lv_at hl 1 rfl) ?_
  refine lv_iload_n hx hb dL_harm_5 rfl (lv_at hl 2 rfl) ?_
  refine lv_iload_n hx hb dL_harm_6 rfl (lv_at hl 3 rfl) ?_
  refine va_calli (va_runV (As := [.int x0, .int x1, .int x2]) (rest := [.int (nI 0), .ref ob]) ⟨hx, hb, hml, hown, hts⟩ hM (cwV 3 hts gL_harm_X5_harm rfl hrc hrs (by decide +kernel) ⟨by show _ ≤ 10; omega, by show _ ≤ 230; omega⟩) ⟨zBl zW_blind, va_recv hK hP (ci := 6) (q0 := 0) rfl rfl, fun U h1 h2 => ⟨rfl, zI_pre hP hK hN U h1 h2, by rw [h1]; exact hsz⟩⟩ rfl rfl hl.1 rfl (lv_room (Nat.le_of_ble_eq_true rfl)) dL_harm_7 ⟨Nat.le_of_ble_eq_true rfl, Nat.le_of_ble_eq_true rfl⟩) hS (fun _ _ h => Or.inl h) (fun _ h => Or.inl h) (fun r gz t H locs ht hvm hw hB hz1 hk1 hS => ?_)
  obtain ⟨rfl, rfl⟩ := hw
  have hP : va_P D vwCl (zC ty gz ad) H := by rw [← ht]; exact hB.1
  have hO : va_at D vwCl (ob, eL tl f) H := hO.kept (hk1 ob hO.lt (fun z => by rcases z with ⟨k, hk, z⟩ | z; (exact hob k hk z.symm); (have := hO.lt; have h9 : ob < s.heap.size := this; omega)))
  refine lv_i2l hx hb dL_harm_10 rfl ?_
  refine zlast hx hb hKl hO hS (Or.inr rfl) dL_harm_11 (fun H1 locs hO hS ho => ?_)
  have hP : va_P D vwCl (zC ty gz ad) H1 := zC_kept hP (fun k hk _ => ho _ (hob k hk))
  refine lv_goto (tgt := 19) hx hb dL_harm_12 (by decide) ?_
  refine lv_iconst (v := nI 0) hx hb dL_harm_19 (by decide) ?_
  refine W.widen (k := 1) (n := 6) (by omega) (by omega) ?_
  exact W.iret (v := nI 0) hx hb hr (fun t ht hW => ⟨⟨_, (gz, vp_updL f 0 (r.toInt64)), rfl, ⟨rfl, rfl, fun _ => (show vp_updL f 0 (r.toInt64) 0 = _ by unfold vp_updL; rw [if_pos rfl])⟩, by rw [ht]; exact hP, by rw [ht]; exact hO⟩, hS.F ht⟩) hS.2.2 dL_harm_20
set_option maxHeartbeats 1000000 in
set_option maxRecDepth 100000 in
theorem l_harm_x1 (l : Launch) (D : va_G) (ty : Nat → ClassId) (tl : ClassId) (g : Nat → Nat → Int32) (ad : Nat → Nat) (ob : Nat) (f : Nat → Int64) (sz : Nat) (hob : ∀ k, k < 39 → ad k ≠ ob) (rm : Room) (hrc : rm.cells = 1) (hrs : rm.slots = 6) (hrf : rm.frames ≤ 9) (hrl : rm.locals ≤ 180) (x0 x1 x2 : Int32) (a : Int64) (hM : vx_Met l yX5_harm wsX5_harm rm (va_Pc [.ref (ad 0), .int x0, .int x1, .int x2] (zX D ty g ad)) zno (zXC "java/lang/IndexOutOfBoundsException") 1 6 (fun _ => False)) : Met l yL_harm wsL_harm ({ frames := 10, cells := 1, slots := 6, locals := 230 }) (va_Pc [.ref (ad 0), .int x0, .int x1, .int x2, .ref ob] (wX D ty tl g ad ob f sz)) (wQ D ty tl ad ob sz 1 a g) 1 6 (WC ad ob sz) := by
  refine zMetH (cc := cL_harm) (maxL := 6) (ret := (some .int)) (hh := [(0, 12, 15, 21)]) (by decide) rfl (Nat.le_of_ble_eq_true rfl) ?_
  intro p e s m below meth c hx hb hr hts hown hlocks hml htab hB ls hl
  obtain ⟨⟨⟨hP, hK, hN⟩, hQ, hT⟩, hNc, hKl, hO, hsz⟩ := hB
  have hS : va_S (WC ad ob sz) s.heap s.heap [] := va_S.rf
  have hl : lv_has ls 6 [(0, .ref (ad 0)), (1, .int x0), (2, .int x1), (3, .int x2), (4, .ref ob)] := hl
  refine lv_aload hx hb dL_harm_0 (lv_at hl 4 rfl) ?_
  refine lv_iconst (v := nI 0) hx hb dL_harm_2 (by decide) ?_
  refine lv_aload_n hx hb dL_harm_3 rfl (lv_at hl 0 rfl) ?_
  refine lv_iload_n hx hb dL_harm_4 rfl (lv_at hl 1 rfl) ?_
  refine lv_iload_n hx hb dL_harm_5 rfl (lv_at hl 2 rfl) ?_
  refine lv_iload_n hx hb dL_harm_6 rfl (lv_at hl 3 rfl) ?_
  refine zxcall (vx_runV (As := [.int x0, .int x1, .int x2]) (rest := [.int (nI 0), .ref ob]) ⟨hx, hb, hml, hown, hts⟩ hM (cwV 3 hts gL_harm_X5_harm rfl hrc hrs (by decide +kernel) ⟨by show _ ≤ 10; omega, by show _ ≤ 230; omega⟩) ⟨zBl zX_blind, va_recv hK hP (ci := 6) (q0 := 0) rfl rfl, fun U h1 h2 => ⟨rfl, zX_pre hP hK hN hQ hT U h1 h2⟩⟩ rfl rfl hl.1 rfl (lv_room (Nat.le_of_ble_eq_true rfl)) dL_harm_7 ⟨Nat.le_of_ble_eq_true rfl, Nat.le_of_ble_eq_true rfl⟩) hS (fun ce q9 H locs hz ho hS hc1 hc2 hc3 => ?_)
  refine vx_catch (name := "java/lang/IndexOutOfBoundsException") hown [] ⟨0, 12, 15, 21⟩ [] (htab.trans rfl) (fun z h => nomatch h) (by decide) (by decide) (hts (.classLink RL 21 "java/lang/IndexOutOfBoundsException") (by decide +kernel)) (zN.use hN (List.mem_of_getElem? (i := 36) rfl)) hc1 hc2 hc3 ?_
  refine lv_astore (lv' := [(5, .ref q9), (0, .ref (ad 0)), (1, .int x0), (2, .int x1), (3, .int x2), (4, .ref ob)]) hx hb dL_harm_15 hl (by decide) rfl (fun ls hl => ?_)
  refine lv_iconst (v := nI 1) hx hb dL_harm_17 (by decide) ?_
  have hP : va_P D vwCl (zC ty g ad) H := zC_kept hP (fun k hk h => ho _ h)
  have hO : va_at D vwCl (ob, eL tl f) H := hO.kept (ho ob hO.lt)
  exact W.iret (v := nI 1) hx hb hr (fun t ht hW => ⟨⟨_, (g, f), rfl, ⟨rfl, rfl, fun z => nomatch z⟩, by rw [ht]; exact hP, by rw [ht]; exact hO⟩, hS.F ht⟩) hS.2.2 dL_harm_18
set_option maxHeartbeats 1000000 in
set_option maxRecDepth 100000 in
theorem l_ofSet_ok (l : Launch) (D : va_G) (ty : Nat → ClassId) (tl : ClassId) (g g2 : Nat → Nat → Int32) (ad : Nat → Nat) (ob : Nat) (f : Nat → Int64) (sz : Nat) (hob : ∀ k, k < 39 → ad k ≠ ob) (rm : Room) (hrc : rm.cells = 0) (hrs : rm.slots = 0) (hrf : rm.frames ≤ 9) (hrl : rm.locals ≤ 180) (x0 x1 : Int32) (a : Int32) (hM : Met l yX5_ofSet wsX5_ofSet rm (va_Pc [.ref (ad 0), .int x0, .int x1] (fun U => zI D ty g ad U ∧ U.heap.size = sz)) (va_Qi (fun (v9 : Int32) (gz : Nat → Nat → Int32) => v9 = a ∧ gz = g2) (fun gz t => zI D ty gz ad t) (AC ad sz)) 0 0 (AC ad sz)) : Met l yL_ofSet wsL_ofSet ({ frames := 10, cells := 1, slots := 6, locals := 230 }) (va_Pc [.ref (ad 0), .int x0, .int x1, .ref ob] (wX D ty tl g ad ob f sz)) (wQ D ty tl ad ob sz 0 a.toInt64 g2) 1 6 (WC ad ob sz) := by
  refine zMetH (cc := cL_ofSet) (maxL := 5) (ret := (some .int)) (hh := [(0, 10, 13, 21), (0, 10, 17, 13)]) (by decide) rfl (Nat.le_of_ble_eq_true rfl) ?_
  intro p e s m below meth c hx hb hr hts hown hlocks hml htab hB ls hl
  obtain ⟨⟨⟨hP, hK, hN⟩, hQ, hT⟩, hNc, hKl, hO, hsz⟩ := hB
  have hS : va_S (WC ad ob sz) s.heap s.heap [] := va_S.rf
  have hl : lv_has ls 5 [(0, .ref (ad 0)), (1, .int x0), (2, .int x1), (3, .ref ob)] := hl
  refine lv_aload_n hx hb dL_ofSet_0 rfl (lv_at hl 3 rfl) ?_
  refine lv_iconst (v := nI 0) hx hb dL_ofSet_1 (by decide) ?_
  refine lv_aload_n hx hb dL_ofSet_2 rfl (lv_at hl 0 rfl) ?_
  refine lv_iload_n hx hb dL_ofSet_3 rfl (lv_at hl 1 rfl) ?_
  refine lv_iload_n hx hb dL_ofSet_4 rfl (lv_at hl 2 rfl) ?_
  refine va_calli (va_runV (As := [.int x0, .int x1]) (rest := [.int (nI 0), .ref ob]) ⟨hx, hb, hml, hown, hts⟩ hM (cwV 2 hts gL_ofSet_X5_ofSet rfl hrc hrs (by decide +kernel) ⟨by show _ ≤ 10; omega, by show _ ≤ 230; omega⟩) ⟨zBl zW_blind, va_recv hK hP (ci := 6) (q0 := 0) rfl rfl, fun U h1 h2 => ⟨rfl, zI_pre hP hK hN U h1 h2, by rw [h1]; exact hsz⟩⟩ rfl rfl hl.1 rfl (lv_room (Nat.le_of_ble_eq_true rfl)) dL_ofSet_5 ⟨Nat.le_of_ble_eq_true rfl, Nat.le_of_ble_eq_true rfl⟩) hS (fun _ _ h => Or.inl h) (fun _ h => Or.inl h) (fun r gz t H locs ht hvm hw hB hz1 hk1 hS => ?_)
  obtain ⟨rfl, rfl⟩ := hw
  have hP : va_P D vwCl (zC ty gz ad) H := by rw [← ht]; exact hB.1
  have hO : va_at D vwCl (ob, eL tl f) H := hO.kept (hk1 ob hO.lt (fun z => by rcases z with ⟨k, hk, z⟩ | z; (exact hob k hk z.symm); (have := hO.lt; have h9 : ob < s.heap.size := this; omega)))
  refine lv_i2l hx hb dL_ofSet_8 rfl ?_
  refine zlast hx hb hKl hO hS (Or.inr rfl) dL_ofSet_9 (fun H1 locs hO hS ho => ?_)
  have hP : va_P D vwCl (zC ty gz ad) H1 := zC_kept hP (fun k hk _ => ho _ (hob k hk))
  refine lv_goto (tgt := 21) hx hb dL_ofSet_10 (by decide) ?_
  refine lv_iconst (v := nI 0) hx hb dL_ofSet_21 (by decide) ?_
  refine W.widen (k := 1) (n := 6) (by omega) (by omega) ?_
  exact W.iret (v := nI 0) hx hb hr (fun t ht hW => ⟨⟨_, (gz, vp_updL f 0 (r.toInt64)), rfl, ⟨rfl, rfl, fun _ => (show vp_updL f 0 (r.toInt64) 0 = _ by unfold vp_updL; rw [if_pos rfl])⟩, by rw [ht]; exact hP, by rw [ht]; exact hO⟩, hS.F ht⟩) hS.2.2 dL_ofSet_22
set_option maxHeartbeats 1000000 in
set_option maxRecDepth 100000 in
theorem l_ofSet_x1 (l : Launch) (D : va_G) (ty : Nat → ClassId) (tl : ClassId) (g : Nat → Nat → Int32) (ad : Nat → Nat) (ob : Nat) (f : Nat → Int64) (sz : Nat) (hob : ∀ k, k < 39 → ad k ≠ ob) (rm : Room) (hrc : rm.cells = 1) (hrs : rm.slots = 6) (hrf : rm.frames ≤ 9) (hrl : rm.locals ≤ 180) (x0 x1 : Int32) (a : Int64) (hM : vx_Met l yX5_ofSet wsX5_ofSet rm (va_Pc [.ref (ad 0), .int x0, .int x1] (zX D ty g ad)) zno (zXC "java/lang/IndexOutOfBoundsException") 1 6 (fun _ => False)) : Met l yL_ofSet wsL_ofSet ({ frames := 10, cells := 1, slots := 6, locals := 230 }) (va_Pc [.ref (ad 0), .int x0, .int x1, .ref ob] (wX D ty tl g ad ob f sz)) (wQ D ty tl ad ob sz 1 a g) 1 6 (WC ad ob sz) := by
  refine zMetH (cc := cL_ofSet) (maxL := 5) (ret := (some .int)) (hh := [(0, 10, 13, 21), (0, 10, 17, 13)]) (by decide) rfl (Nat.le_of_ble_eq_true rfl) ?_
  intro p e s m below meth c hx hb hr hts hown hlocks hml htab hB ls hl
  obtain ⟨⟨⟨hP, hK, hN⟩, hQ, hT⟩, hNc, hKl, hO, hsz⟩ := hB
  have hS : va_S (WC ad ob sz) s.heap s.heap [] := va_S.rf
  have hl : lv_has ls 5 [(0, .ref (ad 0)), (1, .int x0), (2, .int x1), (3, .ref ob)] := hl
  refine lv_aload_n hx hb dL_ofSet_0 rfl (lv_at hl 3 rfl) ?_
  refine lv_iconst (v := nI 0) hx hb dL_ofSet_1 (by decide) ?_
  refine lv_aload_n hx hb dL_ofSet_2 rfl (lv_at hl 0 rfl) ?_
  refine lv_iload_n hx hb dL_ofSet_3 rfl (lv_at hl 1 rfl) ?_
  refine lv_iload_n hx hb dL_ofSet_4 rfl (lv_at hl 2 rfl) ?_
  refine zxcall (vx_runV (As := [.int x0, .int x1]) (rest := [.int (nI 0), .ref ob]) ⟨hx, hb, hml, hown, hts⟩ hM (cwV 2 hts gL_ofSet_X5_ofSet rfl hrc hrs (by decide +kernel) ⟨by show _ ≤ 10; omega, by show _ ≤ 230; omega⟩) ⟨zBl zX_blind, va_recv hK hP (ci := 6) (q0 := 0) rfl rfl, fun U h1 h2 => ⟨rfl, zX_pre hP hK hN hQ hT U h1 h2⟩⟩ rfl rfl hl.1 rfl (lv_room (Nat.le_of_ble_eq_true rfl)) dL_ofSet_5 ⟨Nat.le_of_ble_eq_true rfl, Nat.le_of_ble_eq_true rfl⟩) hS (fun ce q9 H locs hz ho hS hc1 hc2 hc3 => ?_)
  refine vx_catch (name := "java/lang/IndexOutOfBoundsException") hown [] ⟨0, 10, 13, 21⟩ [⟨0, 10, 17, 13⟩] (htab.trans rfl) (fun z h => nomatch h) (by decide) (by decide) (hts (.classLink RL 21 "java/lang/IndexOutOfBoundsException") (by decide +kernel)) (zN.use hN (List.mem_of_getElem? (i := 36) rfl)) hc1 hc2 hc3 ?_
  refine lv_astore (lv' := [(4, .ref q9), (0, .ref (ad 0)), (1, .int x0), (2, .int x1), (3, .ref ob)]) hx hb dL_ofSet_13 hl (by decide) rfl (fun ls hl => ?_)
  refine lv_iconst (v := nI 1) hx hb dL_ofSet_15 (by decide) ?_
  have hP : va_P D vwCl (zC ty g ad) H := zC_kept hP (fun k hk h => ho _ h)
  have hO : va_at D vwCl (ob, eL tl f) H := hO.kept (ho ob hO.lt)
  exact W.iret (v := nI 1) hx hb hr (fun t ht hW => ⟨⟨_, (g, f), rfl, ⟨rfl, rfl, fun z => nomatch z⟩, by rw [ht]; exact hP, by rw [ht]; exact hO⟩, hS.F ht⟩) hS.2.2 dL_ofSet_16
set_option maxHeartbeats 1000000 in
set_option maxRecDepth 100000 in
theorem l_ofSet_x2 (l : Launch) (D : va_G) (ty : Nat → ClassId) (tl : ClassId) (g : Nat → Nat → Int32) (ad : Nat → Nat) (ob : Nat) (f : Nat → Int64) (sz : Nat) (hob : ∀ k, k < 39 → ad k ≠ ob) (rm : Room) (hrc : rm.cells = 1) (hrs : rm.slots = 6) (hrf : rm.frames ≤ 9) (hrl : rm.locals ≤ 180) (x0 x1 : Int32) (a : Int64) (hM : vx_Met l yX5_ofSet wsX5_ofSet rm (va_Pc [.ref (ad 0), .int x0, .int x1] (zX D ty g ad)) zno (zXC "java/lang/IllegalArgumentException") 1 6 (fun _ => False)) : Met l yL_ofSet wsL_ofSet ({ frames := 10, cells := 1, slots := 6, locals := 230 }) (va_Pc [.ref (ad 0), .int x0, .int x1, .ref ob] (wX D ty tl g ad ob f sz)) (wQ D ty tl ad ob sz 2 a g) 1 6 (WC ad ob sz) := by
  refine zMetH (cc := cL_ofSet) (maxL := 5) (ret := (some .int)) (hh := [(0, 10, 13, 21), (0, 10, 17, 13)]) (by decide) rfl (Nat.le_of_ble_eq_true rfl) ?_
  intro p e s m below meth c hx hb hr hts hown hlocks hml htab hB ls hl
  obtain ⟨⟨⟨hP, hK, hN⟩, hQ, hT⟩, hNc, hKl, hO, hsz⟩ := hB
  have hS : va_S (WC ad ob sz) s.heap s.heap [] := va_S.rf
  have hl : lv_has ls 5 [(0, .ref (ad 0)), (1, .int x0), (2, .int x1), (3, .ref ob)] := hl
  refine lv_aload_n hx hb dL_ofSet_0 rfl (lv_at hl 3 rfl) ?_
  refine lv_iconst (v := nI 0) hx hb dL_ofSet_1 (by decide) ?_
  refine lv_aload_n hx hb dL_ofSet_2 rfl (lv_at hl 0 rfl) ?_
  refine lv_iload_n hx hb dL_ofSet_3 rfl (lv_at hl 1 rfl) ?_
  refine lv_iload_n hx hb dL_ofSet_4 rfl (lv_at hl 2 rfl) ?_
  refine zxcall (vx_runV (As := [.int x0, .int x1]) (rest := [.int (nI 0), .ref ob]) ⟨hx, hb, hml, hown, hts⟩ hM (cwV 2 hts gL_ofSet_X5_ofSet rfl hrc hrs (by decide +kernel) ⟨by show _ ≤ 10; omega, by show _ ≤ 230; omega⟩) ⟨zBl zX_blind, va_recv hK hP (ci := 6) (q0 := 0) rfl rfl, fun U h1 h2 => ⟨rfl, zX_pre hP hK hN hQ hT U h1 h2⟩⟩ rfl rfl hl.1 rfl (lv_room (Nat.le_of_ble_eq_true rfl)) dL_ofSet_5 ⟨Nat.le_of_ble_eq_true rfl, Nat.le_of_ble_eq_true rfl⟩) hS (fun ce q9 H locs hz ho hS hc1 hc2 hc3 => ?_)
  refine vx_catch (name := "java/lang/IllegalArgumentException") hown [⟨0, 10, 13, 21⟩] ⟨0, 10, 17, 13⟩ [] (htab.trans rfl) (List.forall_mem_cons.mpr ⟨Or.inr ⟨by decide, "java/lang/IndexOutOfBoundsException", (hts (.classLink RL 21 "java/lang/IndexOutOfBoundsException") (by decide +kernel)), hNc.1⟩, fun z h => nomatch h⟩) (by decide) (by decide) (hts (.classLink RL 13 "java/lang/IllegalArgumentException") (by decide +kernel)) (zN.use hN (List.mem_of_getElem? (i := 29) rfl)) hc1 hc2 hc3 ?_
  refine lv_astore (lv' := [(4, .ref q9), (0, .ref (ad 0)), (1, .int x0), (2, .int x1), (3, .ref ob)]) hx hb dL_ofSet_17 hl (by decide) rfl (fun ls hl => ?_)
  refine lv_iconst (v := nI 2) hx hb dL_ofSet_19 (by decide) ?_
  have hP : va_P D vwCl (zC ty g ad) H := zC_kept hP (fun k hk h => ho _ h)
  have hO : va_at D vwCl (ob, eL tl f) H := hO.kept (ho ob hO.lt)
  exact W.iret (v := nI 2) hx hb hr (fun t ht hW => ⟨⟨_, (g, f), rfl, ⟨rfl, rfl, fun z => nomatch z⟩, by rw [ht]; exact hP, by rw [ht]; exact hO⟩, hS.F ht⟩) hS.2.2 dL_ofSet_20
set_option maxHeartbeats 1000000 in
set_option maxRecDepth 100000 in
theorem l_isMadeOf_ok (l : Launch) (D : va_G) (ty : Nat → ClassId) (tl : ClassId) (g g2 : Nat → Nat → Int32) (ad : Nat → Nat) (ob : Nat) (f : Nat → Int64) (sz : Nat) (hob : ∀ k, k < 39 → ad k ≠ ob) (rm : Room) (hrc : rm.cells = 0) (hrs : rm.slots = 0) (hrf : rm.frames ≤ 9) (hrl : rm.locals ≤ 180) (x0 x1 x2 x3 x4 x5 : Int32) (bb : Bool) (a : Int32) (hbb : a = bI bb) (hM : Met l yX5_isMadeOf wsX5_isMadeOf rm (va_Pc [.ref (ad 0), .int x0, .int x1, .int x2, .int x3, .int x4, .int x5] (fun U => zI D ty g ad U ∧ U.heap.size = sz)) (va_Qi (fun (v9 : Int32) (gz : Nat → Nat → Int32) => v9 = a ∧ gz = g2) (fun gz t => zI D ty gz ad t) (AC ad sz)) 0 0 (AC ad sz)) : Met l yL_isMadeOf wsL_isMadeOf ({ frames := 10, cells := 1, slots := 6, locals := 230 }) (va_Pc [.ref (ad 0), .int x0, .int x1, .int x2, .int x3, .int x4, .int x5, .ref ob] (wX D ty tl g ad ob f sz)) (wQ D ty tl ad ob sz 0 a.toInt64 g2) 1 6 (WC ad ob sz) := by
  refine zMetH (cc := cL_isMadeOf) (maxL := 9) (ret := (some .int)) (hh := [(0, 25, 28, 21)]) (by decide) rfl (Nat.le_of_ble_eq_true rfl) ?_
  intro p e s m below meth c hx hb hr hts hown hlocks hml htab hB ls hl
  obtain ⟨⟨⟨hP, hK, hN⟩, hQ, hT⟩, hNc, hKl, hO, hsz⟩ := hB
  have hS : va_S (WC ad ob sz) s.heap s.heap [] := va_S.rf
  have hl : lv_has ls 9 [(0, .ref (ad 0)), (1, .int x0), (2, .int x1), (3, .int x2), (4, .int x3), (5, .int x4), (6, .int x5), (7, .ref ob)] := hl
  refine lv_aload hx hb dL_isMadeOf_0 (lv_at hl 7 rfl) ?_
  refine lv_iconst (v := nI 0) hx hb dL_isMadeOf_2 (by decide) ?_
  refine lv_aload_n hx hb dL_isMadeOf_3 rfl (lv_at hl 0 rfl) ?_
  refine lv_iload_n hx hb dL_isMadeOf_4 rfl (lv_at hl 1 rfl) ?_
  refine lv_iload_n hx hb dL_isMadeOf_5 rfl (lv_at hl 2 rfl) ?_
  refine lv_iload_n hx hb dL_isMadeOf_6 rfl (lv_at hl 3 rfl) ?_
  refine lv_iload hx hb dL_isMadeOf_7 (lv_at hl 4 rfl) ?_
  refine lv_iload hx hb dL_isMadeOf_9 (lv_at hl 5 rfl) ?_
  refine lv_iload hx hb dL_isMadeOf_11 (lv_at hl 6 rfl) ?_
  refine va_calli (va_runV (As := [.int x0, .int x1, .int x2, .int x3, .int x4, .int x5]) (rest := [.int (nI 0), .ref ob]) ⟨hx, hb, hml, hown, hts⟩ hM (cwV 6 hts gL_isMadeOf_X5_isMadeOf rfl hrc hrs (by decide +kernel) ⟨by show _ ≤ 10; omega, by show _ ≤ 230; omega⟩) ⟨zBl zW_blind, va_recv hK hP (ci := 6) (q0 := 0) rfl rfl, fun U h1 h2 => ⟨rfl, zI_pre hP hK hN U h1 h2, by rw [h1]; exact hsz⟩⟩ rfl rfl hl.1 rfl (lv_room (Nat.le_of_ble_eq_true rfl)) dL_isMadeOf_13 ⟨Nat.le_of_ble_eq_true rfl, Nat.le_of_ble_eq_true rfl⟩) hS (fun _ _ h => Or.inl h) (fun _ h => Or.inl h) (fun r gz t H locs ht hvm hw hB hz1 hk1 hS => ?_)
  obtain ⟨rfl, rfl⟩ := hw
  have hP : va_P D vwCl (zC ty gz ad) H := by rw [← ht]; exact hB.1
  have hO : va_at D vwCl (ob, eL tl f) H := hO.kept (hk1 ob hO.lt (fun z => by rcases z with ⟨k, hk, z⟩ | z; (exact hob k hk z.symm); (have := hO.lt; have h9 : ob < s.heap.size := this; omega)))
  subst hbb
  refine lv_if_eq (tgt := 23) hx hb dL_isMadeOf_16 (by decide) (fun c_1 => ?_) (fun c_1 => ?_)
  · obtain rfl := bI_f c_1
    refine lv_lconst (v := 0) hx hb dL_isMadeOf_23 (by decide) ?_
    refine zlast hx hb hKl hO hS (Or.inr rfl) dL_isMadeOf_24 (fun H1 locs hO hS ho => ?_)
    have hP : va_P D vwCl (zC ty gz ad) H1 := zC_kept hP (fun k hk _ => ho _ (hob k hk))
    refine lv_goto (tgt := 32) hx hb dL_isMadeOf_25 (by decide) ?_
    refine lv_iconst (v := nI 0) hx hb dL_isMadeOf_32 (by decide) ?_
    refine W.widen (k := 1) (n := 6) (by omega) (by omega) ?_
    exact W.iret (v := nI 0) hx hb hr (fun t ht hW => ⟨⟨_, (gz, vp_updL f 0 (0)), rfl, ⟨rfl, rfl, fun _ => (show vp_updL f 0 (0) 0 = _ by unfold vp_updL; rw [if_pos rfl]; exact (show (0 : Int64) = (bI false).toInt64 by decide))⟩, by rw [ht]; exact hP, by rw [ht]; exact hO⟩, hS.F ht⟩) hS.2.2 dL_isMadeOf_33
  · obtain rfl := bI_t c_1
    refine lv_lconst (v := 1) hx hb dL_isMadeOf_19 (by decide) ?_
    refine lv_goto (tgt := 24) hx hb dL_isMadeOf_20 (by decide) ?_
    refine zlast hx hb hKl hO hS (Or.inr rfl) dL_isMadeOf_24 (fun H1 locs hO hS ho => ?_)
    have hP : va_P D vwCl (zC ty gz ad) H1 := zC_kept hP (fun k hk _ => ho _ (hob k hk))
    refine lv_goto (tgt := 32) hx hb dL_isMadeOf_25 (by decide) ?_
    refine lv_iconst (v := nI 0) hx hb dL_isMadeOf_32 (by decide) ?_
    refine W.widen (k := 1) (n := 6) (by omega) (by omega) ?_
    exact W.iret (v := nI 0) hx hb hr (fun t ht hW => ⟨⟨_, (gz, vp_updL f 0 (1)), rfl, ⟨rfl, rfl, fun _ => (show vp_updL f 0 (1) 0 = _ by unfold vp_updL; rw [if_pos rfl]; exact (show (1 : Int64) = (bI true).toInt64 by decide))⟩, by rw [ht]; exact hP, by rw [ht]; exact hO⟩, hS.F ht⟩) hS.2.2 dL_isMadeOf_33
set_option maxHeartbeats 1000000 in
set_option maxRecDepth 100000 in
theorem l_isMadeOf_x1 (l : Launch) (D : va_G) (ty : Nat → ClassId) (tl : ClassId) (g : Nat → Nat → Int32) (ad : Nat → Nat) (ob : Nat) (f : Nat → Int64) (sz : Nat) (hob : ∀ k, k < 39 → ad k ≠ ob) (rm : Room) (hrc : rm.cells = 1) (hrs : rm.slots = 6) (hrf : rm.frames ≤ 9) (hrl : rm.locals ≤ 180) (x0 x1 x2 x3 x4 x5 : Int32) (a : Int64) (hM : vx_Met l yX5_isMadeOf wsX5_isMadeOf rm (va_Pc [.ref (ad 0), .int x0, .int x1, .int x2, .int x3, .int x4, .int x5] (zX D ty g ad)) zno (zXC "java/lang/IndexOutOfBoundsException") 1 6 (fun _ => False)) : Met l yL_isMadeOf wsL_isMadeOf ({ frames := 10, cells := 1, slots := 6, locals := 230 }) (va_Pc [.ref (ad 0), .int x0, .int x1, .int x2, .int x3, .int x4, .int x5, .ref ob] (wX D ty tl g ad ob f sz)) (wQ D ty tl ad ob sz 1 a g) 1 6 (WC ad ob sz) := by
  refine zMetH (cc := cL_isMadeOf) (maxL := 9) (ret := (some .int)) (hh := [(0, 25, 28, 21)]) (by decide) rfl (Nat.le_of_ble_eq_true rfl) ?_
  intro p e s m below meth c hx hb hr hts hown hlocks hml htab hB ls hl
  obtain ⟨⟨⟨hP, hK, hN⟩, hQ, hT⟩, hNc, hKl, hO, hsz⟩ := hB
  have hS : va_S (WC ad ob sz) s.heap s.heap [] := va_S.rf
  have hl : lv_has ls 9 [(0, .ref (ad 0)), (1, .int x0), (2, .int x1), (3, .int x2), (4, .int x3), (5, .int x4), (6, .int x5), (7, .ref ob)] := hl
  refine lv_aload hx hb dL_isMadeOf_0 (lv_at hl 7 rfl) ?_
  refine lv_iconst (v := nI 0) hx hb dL_isMadeOf_2 (by decide) ?_
  refine lv_aload_n hx hb dL_isMadeOf_3 rfl (lv_at hl 0 rfl) ?_
  refine lv_iload_n hx hb dL_isMadeOf_4 rfl (lv_at hl 1 rfl) ?_
  refine lv_iload_n hx hb dL_isMadeOf_5 rfl (lv_at hl 2 rfl) ?_
  refine lv_iload_n hx hb dL_isMadeOf_6 rfl (lv_at hl 3 rfl) ?_
  refine lv_iload hx hb dL_isMadeOf_7 (lv_at hl 4 rfl) ?_
  refine lv_iload hx hb dL_isMadeOf_9 (lv_at hl 5 rfl) ?_
  refine lv_iload hx hb dL_isMadeOf_11 (lv_at hl 6 rfl) ?_
  refine zxcall (vx_runV (As := [.int x0, .int x1, .int x2, .int x3, .int x4, .int x5]) (rest := [.int (nI 0), .ref ob]) ⟨hx, hb, hml, hown, hts⟩ hM (cwV 6 hts gL_isMadeOf_X5_isMadeOf rfl hrc hrs (by decide +kernel) ⟨by show _ ≤ 10; omega, by show _ ≤ 230; omega⟩) ⟨zBl zX_blind, va_recv hK hP (ci := 6) (q0 := 0) rfl rfl, fun U h1 h2 => ⟨rfl, zX_pre hP hK hN hQ hT U h1 h2⟩⟩ rfl rfl hl.1 rfl (lv_room (Nat.le_of_ble_eq_true rfl)) dL_isMadeOf_13 ⟨Nat.le_of_ble_eq_true rfl, Nat.le_of_ble_eq_true rfl⟩) hS (fun ce q9 H locs hz ho hS hc1 hc2 hc3 => ?_)
  refine vx_catch (name := "java/lang/IndexOutOfBoundsException") hown [] ⟨0, 25, 28, 21⟩ [] (htab.trans rfl) (fun z h => nomatch h) (by decide) (by decide) (hts (.classLink RL 21 "java/lang/IndexOutOfBoundsException") (by decide +kernel)) (zN.use hN (List.mem_of_getElem? (i := 36) rfl)) hc1 hc2 hc3 ?_
  refine lv_astore (lv' := [(8, .ref q9), (0, .ref (ad 0)), (1, .int x0), (2, .int x1), (3, .int x2), (4, .int x3), (5, .int x4), (6, .int x5), (7, .ref ob)]) hx hb dL_isMadeOf_28 hl (by decide) rfl (fun ls hl => ?_)
  refine lv_iconst (v := nI 1) hx hb dL_isMadeOf_30 (by decide) ?_
  have hP : va_P D vwCl (zC ty g ad) H := zC_kept hP (fun k hk h => ho _ h)
  have hO : va_at D vwCl (ob, eL tl f) H := hO.kept (ho ob hO.lt)
  exact W.iret (v := nI 1) hx hb hr (fun t ht hW => ⟨⟨_, (g, f), rfl, ⟨rfl, rfl, fun z => nomatch z⟩, by rw [ht]; exact hP, by rw [ht]; exact hO⟩, hS.F ht⟩) hS.2.2 dL_isMadeOf_31
set_option maxHeartbeats 1000000 in
set_option maxRecDepth 100000 in
theorem l_contract_ok (l : Launch) (D : va_G) (ty : Nat → ClassId) (tl : ClassId) (g g2 : Nat → Nat → Int32) (ad : Nat → Nat) (ob : Nat) (f : Nat → Int64) (sz : Nat) (hob : ∀ k, k < 39 → ad k ≠ ob) (rm : Room) (hrc : rm.cells = 0) (hrs : rm.slots = 0) (hrf : rm.frames ≤ 9) (hrl : rm.locals ≤ 180) (x0 x1 x2 x3 x4 x5 : Int32) (a : Int32) (hM : Met l yX5_contract wsX5_contract rm (va_Pc [.ref (ad 0), .int x0, .int x1, .int x2, .int x3, .int x4, .int x5] (fun U => zI D ty g ad U ∧ U.heap.size = sz)) (va_Qi (fun (v9 : Int32) (gz : Nat → Nat → Int32) => v9 = a ∧ gz = g2) (fun gz t => zI D ty gz ad t) (AC ad sz)) 0 0 (AC ad sz)) : Met l yL_contract wsL_contract ({ frames := 10, cells := 1, slots := 6, locals := 230 }) (va_Pc [.ref (ad 0), .int x0, .int x1, .int x2, .int x3, .int x4, .int x5, .ref ob] (wX D ty tl g ad ob f sz)) (wQ D ty tl ad ob sz 0 a.toInt64 g2) 1 6 (WC ad ob sz) := by
  refine zMetH (cc := cL_contract) (maxL := 9) (ret := (some .int)) (hh := [(0, 18, 21, 21), (0, 18, 25, 13), (0, 18, 29, 15)]) (by decide) rfl (Nat.le_of_ble_eq_true rfl) ?_
  intro p e s m below meth c hx hb hr hts hown hlocks hml htab hB ls hl
  obtain ⟨⟨⟨hP, hK, hN⟩, hQ, hT⟩, hNc, hKl, hO, hsz⟩ := hB
  have hS : va_S (WC ad ob sz) s.heap s.heap [] := va_S.rf
  have hl : lv_has ls 9 [(0, .ref (ad 0)), (1, .int x0), (2, .int x1), (3, .int x2), (4, .int x3), (5, .int x4), (6, .int x5), (7, .ref ob)] := hl
  refine lv_aload hx hb dL_contract_0 (lv_at hl 7 rfl) ?_
  refine lv_iconst (v := nI 0) hx hb dL_contract_2 (by decide) ?_
  refine lv_aload_n hx hb dL_contract_3 rfl (lv_at hl 0 rfl) ?_
  refine lv_iload_n hx hb dL_contract_4 rfl (lv_at hl 1 rfl) ?_
  refine lv_iload_n hx hb dL_contract_5 rfl (lv_at hl 2 rfl) ?_
  refine lv_iload_n hx hb dL_contract_6 rfl (lv_at hl 3 rfl) ?_
  refine lv_iload hx hb dL_contract_7 (lv_at hl 4 rfl) ?_
  refine lv_iload hx hb dL_contract_9 (lv_at hl 5 rfl) ?_
  refine lv_iload hx hb dL_contract_11 (lv_at hl 6 rfl) ?_
  refine va_calli (va_runV (As := [.int x0, .int x1, .int x2, .int x3, .int x4, .int x5]) (rest := [.int (nI 0), .ref ob]) ⟨hx, hb, hml, hown, hts⟩ hM (cwV 6 hts gL_contract_X5_contract rfl hrc hrs (by decide +kernel) ⟨by show _ ≤ 10; omega, by show _ ≤ 230; omega⟩) ⟨zBl zW_blind, va_recv hK hP (ci := 6) (q0 := 0) rfl rfl, fun U h1 h2 => ⟨rfl, zI_pre hP hK hN U h1 h2, by rw [h1]; exact hsz⟩⟩ rfl rfl hl.1 rfl (lv_room (Nat.le_of_ble_eq_true rfl)) dL_contract_13 ⟨Nat.le_of_ble_eq_true rfl, Nat.le_of_ble_eq_true rfl⟩) hS (fun _ _ h => Or.inl h) (fun _ h => Or.inl h) (fun r gz t H locs ht hvm hw hB hz1 hk1 hS => ?_)
  obtain ⟨rfl, rfl⟩ := hw
  have hP : va_P D vwCl (zC ty gz ad) H := by rw [← ht]; exact hB.1
  have hO : va_at D vwCl (ob, eL tl f) H := hO.kept (hk1 ob hO.lt (fun z => by rcases z with ⟨k, hk, z⟩ | z; (exact hob k hk z.symm); (have := hO.lt; have h9 : ob < s.heap.size := this; omega)))
  refine lv_i2l hx hb dL_contract_16 rfl ?_
  refine zlast hx hb hKl hO hS (Or.inr rfl) dL_contract_17 (fun H1 locs hO hS ho => ?_)
  have hP : va_P D vwCl (zC ty gz ad) H1 := zC_kept hP (fun k hk _ => ho _ (hob k hk))
  refine lv_goto (tgt := 33) hx hb dL_contract_18 (by decide) ?_
  refine lv_iconst (v := nI 0) hx hb dL_contract_33 (by decide) ?_
  refine W.widen (k := 1) (n := 6) (by omega) (by omega) ?_
  exact W.iret (v := nI 0) hx hb hr (fun t ht hW => ⟨⟨_, (gz, vp_updL f 0 (r.toInt64)), rfl, ⟨rfl, rfl, fun _ => (show vp_updL f 0 (r.toInt64) 0 = _ by unfold vp_updL; rw [if_pos rfl])⟩, by rw [ht]; exact hP, by rw [ht]; exact hO⟩, hS.F ht⟩) hS.2.2 dL_contract_34
set_option maxHeartbeats 1000000 in
set_option maxRecDepth 100000 in
theorem l_contract_x1 (l : Launch) (D : va_G) (ty : Nat → ClassId) (tl : ClassId) (g : Nat → Nat → Int32) (ad : Nat → Nat) (ob : Nat) (f : Nat → Int64) (sz : Nat) (hob : ∀ k, k < 39 → ad k ≠ ob) (rm : Room) (hrc : rm.cells = 1) (hrs : rm.slots = 6) (hrf : rm.frames ≤ 9) (hrl : rm.locals ≤ 180) (x0 x1 x2 x3 x4 x5 : Int32) (a : Int64) (hM : vx_Met l yX5_contract wsX5_contract rm (va_Pc [.ref (ad 0), .int x0, .int x1, .int x2, .int x3, .int x4, .int x5] (zX D ty g ad)) zno (zXC "java/lang/IndexOutOfBoundsException") 1 6 (fun _ => False)) : Met l yL_contract wsL_contract ({ frames := 10, cells := 1, slots := 6, locals := 230 }) (va_Pc [.ref (ad 0), .int x0, .int x1, .int x2, .int x3, .int x4, .int x5, .ref ob] (wX D ty tl g ad ob f sz)) (wQ D ty tl ad ob sz 1 a g) 1 6 (WC ad ob sz) := by
  refine zMetH (cc := cL_contract) (maxL := 9) (ret := (some .int)) (hh := [(0, 18, 21, 21), (0, 18, 25, 13), (0, 18, 29, 15)]) (by decide) rfl (Nat.le_of_ble_eq_true rfl) ?_
  intro p e s m below meth c hx hb hr hts hown hlocks hml htab hB ls hl
  obtain ⟨⟨⟨hP, hK, hN⟩, hQ, hT⟩, hNc, hKl, hO, hsz⟩ := hB
  have hS : va_S (WC ad ob sz) s.heap s.heap [] := va_S.rf
  have hl : lv_has ls 9 [(0, .ref (ad 0)), (1, .int x0), (2, .int x1), (3, .int x2), (4, .int x3), (5, .int x4), (6, .int x5), (7, .ref ob)] := hl
  refine lv_aload hx hb dL_contract_0 (lv_at hl 7 rfl) ?_
  refine lv_iconst (v := nI 0) hx hb dL_contract_2 (by decide) ?_
  refine lv_aload_n hx hb dL_contract_3 rfl (lv_at hl 0 rfl) ?_
  refine lv_iload_n hx hb dL_contract_4 rfl (lv_at hl 1 rfl) ?_
  refine lv_iload_n hx hb dL_contract_5 rfl (lv_at hl 2 rfl) ?_
  refine lv_iload_n hx hb dL_contract_6 rfl (lv_at hl 3 rfl) ?_
  refine lv_iload hx hb dL_contract_7 (lv_at hl 4 rfl) ?_
  refine lv_iload hx hb dL_contract_9 (lv_at hl 5 rfl) ?_
  refine lv_iload hx hb dL_contract_11 (lv_at hl 6 rfl) ?_
  refine zxcall (vx_runV (As := [.int x0, .int x1, .int x2, .int x3, .int x4, .int x5]) (rest := [.int (nI 0), .ref ob]) ⟨hx, hb, hml, hown, hts⟩ hM (cwV 6 hts gL_contract_X5_contract rfl hrc hrs (by decide +kernel) ⟨by show _ ≤ 10; omega, by show _ ≤ 230; omega⟩) ⟨zBl zX_blind, va_recv hK hP (ci := 6) (q0 := 0) rfl rfl, fun U h1 h2 => ⟨rfl, zX_pre hP hK hN hQ hT U h1 h2⟩⟩ rfl rfl hl.1 rfl (lv_room (Nat.le_of_ble_eq_true rfl)) dL_contract_13 ⟨Nat.le_of_ble_eq_true rfl, Nat.le_of_ble_eq_true rfl⟩) hS (fun ce q9 H locs hz ho hS hc1 hc2 hc3 => ?_)
  refine vx_catch (name := "java/lang/IndexOutOfBoundsException") hown [] ⟨0, 18, 21, 21⟩ [⟨0, 18, 25, 13⟩, ⟨0, 18, 29, 15⟩] (htab.trans rfl) (fun z h => nomatch h) (by decide) (by decide) (hts (.classLink RL 21 "java/lang/IndexOutOfBoundsException") (by decide +kernel)) (zN.use hN (List.mem_of_getElem? (i := 36) rfl)) hc1 hc2 hc3 ?_
  refine lv_astore (lv' := [(8, .ref q9), (0, .ref (ad 0)), (1, .int x0), (2, .int x1), (3, .int x2), (4, .int x3), (5, .int x4), (6, .int x5), (7, .ref ob)]) hx hb dL_contract_21 hl (by decide) rfl (fun ls hl => ?_)
  refine lv_iconst (v := nI 1) hx hb dL_contract_23 (by decide) ?_
  have hP : va_P D vwCl (zC ty g ad) H := zC_kept hP (fun k hk h => ho _ h)
  have hO : va_at D vwCl (ob, eL tl f) H := hO.kept (ho ob hO.lt)
  exact W.iret (v := nI 1) hx hb hr (fun t ht hW => ⟨⟨_, (g, f), rfl, ⟨rfl, rfl, fun z => nomatch z⟩, by rw [ht]; exact hP, by rw [ht]; exact hO⟩, hS.F ht⟩) hS.2.2 dL_contract_24
set_option maxHeartbeats 1000000 in
set_option maxRecDepth 100000 in
theorem l_contract_x2 (l : Launch) (D : va_G) (ty : Nat → ClassId) (tl : ClassId) (g : Nat → Nat → Int32) (ad : Nat → Nat) (ob : Nat) (f : Nat → Int64) (sz : Nat) (hob : ∀ k, k < 39 → ad k ≠ ob) (rm : Room) (hrc : rm.cells = 1) (hrs : rm.slots = 6) (hrf : rm.frames ≤ 9) (hrl : rm.locals ≤ 180) (x0 x1 x2 x3 x4 x5 : Int32) (a : Int64) (hM : vx_Met l yX5_contract wsX5_contract rm (va_Pc [.ref (ad 0), .int x0, .int x1, .int x2, .int x3, .int x4, .int x5] (zX D ty g ad)) zno (zXC "java/lang/IllegalArgumentException") 1 6 (fun _ => False)) : Met l yL_contract wsL_contract ({ frames := 10, cells := 1, slots := 6, locals := 230 }) (va_Pc [.ref (ad 0), .int x0, .int x1, .int x2, .int x3, .int x4, .int x5, .ref ob] (wX D ty tl g ad ob f sz)) (wQ D ty tl ad ob sz 2 a g) 1 6 (WC ad ob sz) := by
  refine zMetH (cc := cL_contract) (maxL := 9) (ret := (some .int)) (hh := [(0, 18, 21, 21), (0, 18, 25, 13), (0, 18, 29, 15)]) (by decide) rfl (Nat.le_of_ble_eq_true rfl) ?_
  intro p e s m below meth c hx hb hr hts hown hlocks hml htab hB ls hl
  obtain ⟨⟨⟨hP, hK, hN⟩, hQ, hT⟩, hNc, hKl, hO, hsz⟩ := hB
  have hS : va_S (WC ad ob sz) s.heap s.heap [] := va_S.rf
  have hl : lv_has ls 9 [(0, .ref (ad 0)), (1, .int x0), (2, .int x1), (3, .int x2), (4, .int x3), (5, .int x4), (6, .int x5), (7, .ref ob)] := hl
  refine lv_aload hx hb dL_contract_0 (lv_at hl 7 rfl) ?_
  refine lv_iconst (v := nI 0) hx hb dL_contract_2 (by decide) ?_
  refine lv_aload_n hx hb dL_contract_3 rfl (lv_at hl 0 rfl) ?_
  refine lv_iload_n hx hb dL_contract_4 rfl (lv_at hl 1 rfl) ?_
  refine lv_iload_n hx hb dL_contract_5 rfl (lv_at hl 2 rfl) ?_
  refine lv_iload_n hx hb dL_contract_6 rfl (lv_at hl 3 rfl) ?_
  refine lv_iload hx hb dL_contract_7 (lv_at hl 4 rfl) ?_
  refine lv_iload hx hb dL_contract_9 (lv_at hl 5 rfl) ?_
  refine lv_iload hx hb dL_contract_11 (lv_at hl 6 rfl) ?_
  refine zxcall (vx_runV (As := [.int x0, .int x1, .int x2, .int x3, .int x4, .int x5]) (rest := [.int (nI 0), .ref ob]) ⟨hx, hb, hml, hown, hts⟩ hM (cwV 6 hts gL_contract_X5_contract rfl hrc hrs (by decide +kernel) ⟨by show _ ≤ 10; omega, by show _ ≤ 230; omega⟩) ⟨zBl zX_blind, va_recv hK hP (ci := 6) (q0 := 0) rfl rfl, fun U h1 h2 => ⟨rfl, zX_pre hP hK hN hQ hT U h1 h2⟩⟩ rfl rfl hl.1 rfl (lv_room (Nat.le_of_ble_eq_true rfl)) dL_contract_13 ⟨Nat.le_of_ble_eq_true rfl, Nat.le_of_ble_eq_true rfl⟩) hS (fun ce q9 H locs hz ho hS hc1 hc2 hc3 => ?_)
  refine vx_catch (name := "java/lang/IllegalArgumentException") hown [⟨0, 18, 21, 21⟩] ⟨0, 18, 25, 13⟩ [⟨0, 18, 29, 15⟩] (htab.trans rfl) (List.forall_mem_cons.mpr ⟨Or.inr ⟨by decide, "java/lang/IndexOutOfBoundsException", (hts (.classLink RL 21 "java/lang/IndexOutOfBoundsException") (by decide +kernel)), hNc.1⟩, fun z h => nomatch h⟩) (by decide) (by decide) (hts (.classLink RL 13 "java/lang/IllegalArgumentException") (by decide +kernel)) (zN.use hN (List.mem_of_getElem? (i := 29) rfl)) hc1 hc2 hc3 ?_
  refine lv_astore (lv' := [(8, .ref q9), (0, .ref (ad 0)), (1, .int x0), (2, .int x1), (3, .int x2), (4, .int x3), (5, .int x4), (6, .int x5), (7, .ref ob)]) hx hb dL_contract_25 hl (by decide) rfl (fun ls hl => ?_)
  refine lv_iconst (v := nI 2) hx hb dL_contract_27 (by decide) ?_
  have hP : va_P D vwCl (zC ty g ad) H := zC_kept hP (fun k hk h => ho _ h)
  have hO : va_at D vwCl (ob, eL tl f) H := hO.kept (ho ob hO.lt)
  exact W.iret (v := nI 2) hx hb hr (fun t ht hW => ⟨⟨_, (g, f), rfl, ⟨rfl, rfl, fun z => nomatch z⟩, by rw [ht]; exact hP, by rw [ht]; exact hO⟩, hS.F ht⟩) hS.2.2 dL_contract_28
set_option maxHeartbeats 1000000 in
set_option maxRecDepth 100000 in
theorem l_contract_x3 (l : Launch) (D : va_G) (ty : Nat → ClassId) (tl : ClassId) (g : Nat → Nat → Int32) (ad : Nat → Nat) (ob : Nat) (f : Nat → Int64) (sz : Nat) (hob : ∀ k, k < 39 → ad k ≠ ob) (rm : Room) (hrc : rm.cells = 1) (hrs : rm.slots = 6) (hrf : rm.frames ≤ 9) (hrl : rm.locals ≤ 180) (x0 x1 x2 x3 x4 x5 : Int32) (a : Int64) (hM : vx_Met l yX5_contract wsX5_contract rm (va_Pc [.ref (ad 0), .int x0, .int x1, .int x2, .int x3, .int x4, .int x5] (zX D ty g ad)) zno (zXC "java/lang/IllegalStateException") 1 6 (fun _ => False)) : Met l yL_contract wsL_contract ({ frames := 10, cells := 1, slots := 6, locals := 230 }) (va_Pc [.ref (ad 0), .int x0, .int x1, .int x2, .int x3, .int x4, .int x5, .ref ob] (wX D ty tl g ad ob f sz)) (wQ D ty tl ad ob sz 3 a g) 1 6 (WC ad ob sz) := by
  refine zMetH (cc := cL_contract) (maxL := 9) (ret := (some .int)) (hh := [(0, 18, 21, 21), (0, 18, 25, 13), (0, 18, 29, 15)]) (by decide) rfl (Nat.le_of_ble_eq_true rfl) ?_
  intro p e s m below meth c hx hb hr hts hown hlocks hml htab hB ls hl
  obtain ⟨⟨⟨hP, hK, hN⟩, hQ, hT⟩, hNc, hKl, hO, hsz⟩ := hB
  have hS : va_S (WC ad ob sz) s.heap s.heap [] := va_S.rf
  have hl : lv_has ls 9 [(0, .ref (ad 0)), (1, .int x0), (2, .int x1), (3, .int x2), (4, .int x3), (5, .int x4), (6, .int x5), (7, .ref ob)] := hl
  refine lv_aload hx hb dL_contract_0 (lv_at hl 7 rfl) ?_
  refine lv_iconst (v := nI 0) hx hb dL_contract_2 (by decide) ?_
  refine lv_aload_n hx hb dL_contract_3 rfl (lv_at hl 0 rfl) ?_
  refine lv_iload_n hx hb dL_contract_4 rfl (lv_at hl 1 rfl) ?_
  refine lv_iload_n hx hb dL_contract_5 rfl (lv_at hl 2 rfl) ?_
  refine lv_iload_n hx hb dL_contract_6 rfl (lv_at hl 3 rfl) ?_
  refine lv_iload hx hb dL_contract_7 (lv_at hl 4 rfl) ?_
  refine lv_iload hx hb dL_contract_9 (lv_at hl 5 rfl) ?_
  refine lv_iload hx hb dL_contract_11 (lv_at hl 6 rfl) ?_
  refine zxcall (vx_runV (As := [.int x0, .int x1, .int x2, .int x3, .int x4, .int x5]) (rest := [.int (nI 0), .ref ob]) ⟨hx, hb, hml, hown, hts⟩ hM (cwV 6 hts gL_contract_X5_contract rfl hrc hrs (by decide +kernel) ⟨by show _ ≤ 10; omega, by show _ ≤ 230; omega⟩) ⟨zBl zX_blind, va_recv hK hP (ci := 6) (q0 := 0) rfl rfl, fun U h1 h2 => ⟨rfl, zX_pre hP hK hN hQ hT U h1 h2⟩⟩ rfl rfl hl.1 rfl (lv_room (Nat.le_of_ble_eq_true rfl)) dL_contract_13 ⟨Nat.le_of_ble_eq_true rfl, Nat.le_of_ble_eq_true rfl⟩) hS (fun ce q9 H locs hz ho hS hc1 hc2 hc3 => ?_)
  refine vx_catch (name := "java/lang/IllegalStateException") hown [⟨0, 18, 21, 21⟩, ⟨0, 18, 25, 13⟩] ⟨0, 18, 29, 15⟩ [] (htab.trans rfl) (List.forall_mem_cons.mpr ⟨Or.inr ⟨by decide, "java/lang/IndexOutOfBoundsException", (hts (.classLink RL 21 "java/lang/IndexOutOfBoundsException") (by decide +kernel)), hNc.2.1⟩, List.forall_mem_cons.mpr ⟨Or.inr ⟨by decide, "java/lang/IllegalArgumentException", (hts (.classLink RL 13 "java/lang/IllegalArgumentException") (by decide +kernel)), hNc.2.2⟩, fun z h => nomatch h⟩⟩) (by decide) (by decide) (hts (.classLink RL 15 "java/lang/IllegalStateException") (by decide +kernel)) (zN.use hN (List.mem_of_getElem? (i := 38) rfl)) hc1 hc2 hc3 ?_
  refine lv_astore (lv' := [(8, .ref q9), (0, .ref (ad 0)), (1, .int x0), (2, .int x1), (3, .int x2), (4, .int x3), (5, .int x4), (6, .int x5), (7, .ref ob)]) hx hb dL_contract_29 hl (by decide) rfl (fun ls hl => ?_)
  refine lv_iconst (v := nI 3) hx hb dL_contract_31 (by decide) ?_
  have hP : va_P D vwCl (zC ty g ad) H := zC_kept hP (fun k hk h => ho _ h)
  have hO : va_at D vwCl (ob, eL tl f) H := hO.kept (ho ob hO.lt)
  exact W.iret (v := nI 3) hx hb hr (fun t ht hW => ⟨⟨_, (g, f), rfl, ⟨rfl, rfl, fun z => nomatch z⟩, by rw [ht]; exact hP, by rw [ht]; exact hO⟩, hS.F ht⟩) hS.2.2 dL_contract_32
set_option maxHeartbeats 1000000 in
set_option maxRecDepth 100000 in
theorem l_end_ok (l : Launch) (D : va_G) (ty : Nat → ClassId) (tl : ClassId) (g g2 : Nat → Nat → Int32) (ad : Nat → Nat) (ob : Nat) (f : Nat → Int64) (sz : Nat) (hob : ∀ k, k < 39 → ad k ≠ ob) (rm : Room) (hrc : rm.cells = 0) (hrs : rm.slots = 0) (hrf : rm.frames ≤ 9) (hrl : rm.locals ≤ 180) (x0 : Int32) (a : Int32) (hM : Met l yX5_end wsX5_end rm (va_Pc [.ref (ad 0), .int x0] (fun U => zI D ty g ad U ∧ U.heap.size = sz)) (va_Qi (fun (v9 : Int32) (gz : Nat → Nat → Int32) => v9 = a ∧ gz = g2) (fun gz t => zI D ty gz ad t) (AC ad sz)) 0 0 (AC ad sz)) : Met l yL_end wsL_end ({ frames := 10, cells := 1, slots := 6, locals := 230 }) (va_Pc [.ref (ad 0), .int x0, .ref ob] (wX D ty tl g ad ob f sz)) (wQ D ty tl ad ob sz 0 a.toInt64 g2) 1 6 (WC ad ob sz) := by
  refine zMetH (cc := cL_end) (maxL := 4) (ret := (some .int)) (hh := [(0, 9, 12, 21)]) (by decide) rfl (Nat.le_of_ble_eq_true rfl) ?_
  intro p e s m below meth c hx hb hr hts hown hlocks hml htab hB ls hl
  obtain ⟨⟨⟨hP, hK, hN⟩, hQ, hT⟩, hNc, hKl, hO, hsz⟩ := hB
  have hS : va_S (WC ad ob sz) s.heap s.heap [] := va_S.rf
  have hl : lv_has ls 4 [(0, .ref (ad 0)), (1, .int x0), (2, .ref ob)] := hl
  refine lv_aload_n hx hb dL_end_0 rfl (lv_at hl 2 rfl) ?_
  refine lv_iconst (v := nI 0) hx hb dL_end_1 (by decide) ?_
  refine lv_aload_n hx hb dL_end_2 rfl (lv_at hl 0 rfl) ?_
  refine lv_iload_n hx hb dL_end_3 rfl (lv_at hl 1 rfl) ?_
  refine va_calli (va_runV (As := [.int x0]) (rest := [.int (nI 0), .ref ob]) ⟨hx, hb, hml, hown, hts⟩ hM (cwV 1 hts gL_end_X5_end rfl hrc hrs (by decide +kernel) ⟨by show _ ≤ 10; omega, by show _ ≤ 230; omega⟩) ⟨zBl zW_blind, va_recv hK hP (ci := 6) (q0 := 0) rfl rfl, fun U h1 h2 => ⟨rfl, zI_pre hP hK hN U h1 h2, by rw [h1]; exact hsz⟩⟩ rfl rfl hl.1 rfl (lv_room (Nat.le_of_ble_eq_true rfl)) dL_end_4 ⟨Nat.le_of_ble_eq_true rfl, Nat.le_of_ble_eq_true rfl⟩) hS (fun _ _ h => Or.inl h) (fun _ h => Or.inl h) (fun r gz t H locs ht hvm hw hB hz1 hk1 hS => ?_)
  obtain ⟨rfl, rfl⟩ := hw
  have hP : va_P D vwCl (zC ty gz ad) H := by rw [← ht]; exact hB.1
  have hO : va_at D vwCl (ob, eL tl f) H := hO.kept (hk1 ob hO.lt (fun z => by rcases z with ⟨k, hk, z⟩ | z; (exact hob k hk z.symm); (have := hO.lt; have h9 : ob < s.heap.size := this; omega)))
  refine lv_i2l hx hb dL_end_7 rfl ?_
  refine zlast hx hb hKl hO hS (Or.inr rfl) dL_end_8 (fun H1 locs hO hS ho => ?_)
  have hP : va_P D vwCl (zC ty gz ad) H1 := zC_kept hP (fun k hk _ => ho _ (hob k hk))
  refine lv_goto (tgt := 15) hx hb dL_end_9 (by decide) ?_
  refine lv_iconst (v := nI 0) hx hb dL_end_15 (by decide) ?_
  refine W.widen (k := 1) (n := 6) (by omega) (by omega) ?_
  exact W.iret (v := nI 0) hx hb hr (fun t ht hW => ⟨⟨_, (gz, vp_updL f 0 (r.toInt64)), rfl, ⟨rfl, rfl, fun _ => (show vp_updL f 0 (r.toInt64) 0 = _ by unfold vp_updL; rw [if_pos rfl])⟩, by rw [ht]; exact hP, by rw [ht]; exact hO⟩, hS.F ht⟩) hS.2.2 dL_end_16
set_option maxHeartbeats 1000000 in
set_option maxRecDepth 100000 in
theorem l_end_x1 (l : Launch) (D : va_G) (ty : Nat → ClassId) (tl : ClassId) (g : Nat → Nat → Int32) (ad : Nat → Nat) (ob : Nat) (f : Nat → Int64) (sz : Nat) (hob : ∀ k, k < 39 → ad k ≠ ob) (rm : Room) (hrc : rm.cells = 1) (hrs : rm.slots = 6) (hrf : rm.frames ≤ 9) (hrl : rm.locals ≤ 180) (x0 : Int32) (a : Int64) (hM : vx_Met l yX5_end wsX5_end rm (va_Pc [.ref (ad 0), .int x0] (zX D ty g ad)) zno (zXC "java/lang/IndexOutOfBoundsException") 1 6 (fun _ => False)) : Met l yL_end wsL_end ({ frames := 10, cells := 1, slots := 6, locals := 230 }) (va_Pc [.ref (ad 0), .int x0, .ref ob] (wX D ty tl g ad ob f sz)) (wQ D ty tl ad ob sz 1 a g) 1 6 (WC ad ob sz) := by
  refine zMetH (cc := cL_end) (maxL := 4) (ret := (some .int)) (hh := [(0, 9, 12, 21)]) (by decide) rfl (Nat.le_of_ble_eq_true rfl) ?_
  intro p e s m below meth c hx hb hr hts hown hlocks hml htab hB ls hl
  obtain ⟨⟨⟨hP, hK, hN⟩, hQ, hT⟩, hNc, hKl, hO, hsz⟩ := hB
  have hS : va_S (WC ad ob sz) s.heap s.heap [] := va_S.rf
  have hl : lv_has ls 4 [(0, .ref (ad 0)), (1, .int x0), (2, .ref ob)] := hl
  refine lv_aload_n hx hb dL_end_0 rfl (lv_at hl 2 rfl) ?_
  refine lv_iconst (v := nI 0) hx hb dL_end_1 (by decide) ?_
  refine lv_aload_n hx hb dL_end_2 rfl (lv_at hl 0 rfl) ?_
  refine lv_iload_n hx hb dL_end_3 rfl (lv_at hl 1 rfl) ?_
  refine zxcall (vx_runV (As := [.int x0]) (rest := [.int (nI 0), .ref ob]) ⟨hx, hb, hml, hown, hts⟩ hM (cwV 1 hts gL_end_X5_end rfl hrc hrs (by decide +kernel) ⟨by show _ ≤ 10; omega, by show _ ≤ 230; omega⟩) ⟨zBl zX_blind, va_recv hK hP (ci := 6) (q0 := 0) rfl rfl, fun U h1 h2 => ⟨rfl, zX_pre hP hK hN hQ hT U h1 h2⟩⟩ rfl rfl hl.1 rfl (lv_room (Nat.le_of_ble_eq_true rfl)) dL_end_4 ⟨Nat.le_of_ble_eq_true rfl, Nat.le_of_ble_eq_true rfl⟩) hS (fun ce q9 H locs hz ho hS hc1 hc2 hc3 => ?_)
  refine vx_catch (name := "java/lang/IndexOutOfBoundsException") hown [] ⟨0, 9, 12, 21⟩ [] (htab.trans rfl) (fun z h => nomatch h) (by decide) (by decide) (hts (.classLink RL 21 "java/lang/IndexOutOfBoundsException") (by decide +kernel)) (zN.use hN (List.mem_of_getElem? (i := 36) rfl)) hc1 hc2 hc3 ?_
  refine lv_astore_n (lv' := [(3, .ref q9), (0, .ref (ad 0)), (1, .int x0), (2, .ref ob)]) hx hb dL_end_12 rfl hl (by decide) rfl (fun ls hl => ?_)
  refine lv_iconst (v := nI 1) hx hb dL_end_13 (by decide) ?_
  have hP : va_P D vwCl (zC ty g ad) H := zC_kept hP (fun k hk h => ho _ h)
  have hO : va_at D vwCl (ob, eL tl f) H := hO.kept (ho ob hO.lt)
  exact W.iret (v := nI 1) hx hb hr (fun t ht hW => ⟨⟨_, (g, f), rfl, ⟨rfl, rfl, fun z => nomatch z⟩, by rw [ht]; exact hP, by rw [ht]; exact hO⟩, hS.F ht⟩) hS.2.2 dL_end_14
set_option maxHeartbeats 1000000 in
set_option maxRecDepth 100000 in
theorem l_covered_ok (l : Launch) (D : va_G) (ty : Nat → ClassId) (tl : ClassId) (g g2 : Nat → Nat → Int32) (ad : Nat → Nat) (ob : Nat) (f : Nat → Int64) (sz : Nat) (hob : ∀ k, k < 39 → ad k ≠ ob) (rm : Room) (hrc : rm.cells = 0) (hrs : rm.slots = 0) (hrf : rm.frames ≤ 9) (hrl : rm.locals ≤ 180) (x0 x1 x2 x3 : Int32) (a : Int32) (hM : Met l yX5_covered wsX5_covered rm (va_Pc [.ref (ad 0), .int x0, .int x1, .int x2, .int x3] (fun U => zI D ty g ad U ∧ U.heap.size = sz)) (va_Qi (fun (v9 : Int32) (gz : Nat → Nat → Int32) => v9 = a ∧ gz = g2) (fun gz t => zI D ty gz ad t) (AC ad sz)) 0 0 (AC ad sz)) : Met l yL_covered wsL_covered ({ frames := 10, cells := 1, slots := 6, locals := 230 }) (va_Pc [.ref (ad 0), .int x0, .int x1, .int x2, .int x3, .ref ob] (wX D ty tl g ad ob f sz)) (wQ D ty tl ad ob sz 0 a.toInt64 g2) 1 6 (WC ad ob sz) := by
  refine zMetH (cc := cL_covered) (maxL := 7) (ret := (some .int)) (hh := [(0, 14, 17, 21), (0, 14, 21, 13)]) (by decide) rfl (Nat.le_of_ble_eq_true rfl) ?_
  intro p e s m below meth c hx hb hr hts hown hlocks hml htab hB ls hl
  obtain ⟨⟨⟨hP, hK, hN⟩, hQ, hT⟩, hNc, hKl, hO, hsz⟩ := hB
  have hS : va_S (WC ad ob sz) s.heap s.heap [] := va_S.rf
  have hl : lv_has ls 7 [(0, .ref (ad 0)), (1, .int x0), (2, .int x1), (3, .int x2), (4, .int x3), (5, .ref ob)] := hl
  refine lv_aload hx hb dL_covered_0 (lv_at hl 5 rfl) ?_
  refine lv_iconst (v := nI 0) hx hb dL_covered_2 (by decide) ?_
  refine lv_aload_n hx hb dL_covered_3 rfl (lv_at hl 0 rfl) ?_
  refine lv_iload_n hx hb dL_covered_4 rfl (lv_at hl 1 rfl) ?_
  refine lv_iload_n hx hb dL_covered_5 rfl (lv_at hl 2 rfl) ?_
  refine lv_iload_n hx hb dL_covered_6 rfl (lv_at hl 3 rfl) ?_
  refine lv_iload hx hb dL_covered_7 (lv_at hl 4 rfl) ?_
  refine va_calli (va_runV (As := [.int x0, .int x1, .int x2, .int x3]) (rest := [.int (nI 0), .ref ob]) ⟨hx, hb, hml, hown, hts⟩ hM (cwV 4 hts gL_covered_X5_covered rfl hrc hrs (by decide +kernel) ⟨by show _ ≤ 10; omega, by show _ ≤ 230; omega⟩) ⟨zBl zW_blind, va_recv hK hP (ci := 6) (q0 := 0) rfl rfl, fun U h1 h2 => ⟨rfl, zI_pre hP hK hN U h1 h2, by rw [h1]; exact hsz⟩⟩ rfl rfl hl.1 rfl (lv_room (Nat.le_of_ble_eq_true rfl)) dL_covered_9 ⟨Nat.le_of_ble_eq_true rfl, Nat.le_of_ble_eq_true rfl⟩) hS (fun _ _ h => Or.inl h) (fun _ h => Or.inl h) (fun r gz t H locs ht hvm hw hB hz1 hk1 hS => ?_)
  obtain ⟨rfl, rfl⟩ := hw
  have hP : va_P D vwCl (zC ty gz ad) H := by rw [← ht]; exact hB.1
  have hO : va_at D vwCl (ob, eL tl f) H := hO.kept (hk1 ob hO.lt (fun z => by rcases z with ⟨k, hk, z⟩ | z; (exact hob k hk z.symm); (have := hO.lt; have h9 : ob < s.heap.size := this; omega)))
  refine lv_i2l hx hb dL_covered_12 rfl ?_
  refine zlast hx hb hKl hO hS (Or.inr rfl) dL_covered_13 (fun H1 locs hO hS ho => ?_)
  have hP : va_P D vwCl (zC ty gz ad) H1 := zC_kept hP (fun k hk _ => ho _ (hob k hk))
  refine lv_goto (tgt := 25) hx hb dL_covered_14 (by decide) ?_
  refine lv_iconst (v := nI 0) hx hb dL_covered_25 (by decide) ?_
  refine W.widen (k := 1) (n := 6) (by omega) (by omega) ?_
  exact W.iret (v := nI 0) hx hb hr (fun t ht hW => ⟨⟨_, (gz, vp_updL f 0 (r.toInt64)), rfl, ⟨rfl, rfl, fun _ => (show vp_updL f 0 (r.toInt64) 0 = _ by unfold vp_updL; rw [if_pos rfl])⟩, by rw [ht]; exact hP, by rw [ht]; exact hO⟩, hS.F ht⟩) hS.2.2 dL_covered_26
set_option maxHeartbeats 1000000 in
set_option maxRecDepth 100000 in
theorem l_covered_x1 (l : Launch) (D : va_G) (ty : Nat → ClassId) (tl : ClassId) (g : Nat → Nat → Int32) (ad : Nat → Nat) (ob : Nat) (f : Nat → Int64) (sz : Nat) (hob : ∀ k, k < 39 → ad k ≠ ob) (rm : Room) (hrc : rm.cells = 1) (hrs : rm.slots = 6) (hrf : rm.frames ≤ 9) (hrl : rm.locals ≤ 180) (x0 x1 x2 x3 : Int32) (a : Int64) (hM : vx_Met l yX5_covered wsX5_covered rm (va_Pc [.ref (ad 0), .int x0, .int x1, .int x2, .int x3] (zX D ty g ad)) zno (zXC "java/lang/IndexOutOfBoundsException") 1 6 (fun _ => False)) : Met l yL_covered wsL_covered ({ frames := 10, cells := 1, slots := 6, locals := 230 }) (va_Pc [.ref (ad 0), .int x0, .int x1, .int x2, .int x3, .ref ob] (wX D ty tl g ad ob f sz)) (wQ D ty tl ad ob sz 1 a g) 1 6 (WC ad ob sz) := by
  refine zMetH (cc := cL_covered) (maxL := 7) (ret := (some .int)) (hh := [(0, 14, 17, 21), (0, 14, 21, 13)]) (by decide) rfl (Nat.le_of_ble_eq_true rfl) ?_
  intro p e s m below meth c hx hb hr hts hown hlocks hml htab hB ls hl
  obtain ⟨⟨⟨hP, hK, hN⟩, hQ, hT⟩, hNc, hKl, hO, hsz⟩ := hB
  have hS : va_S (WC ad ob sz) s.heap s.heap [] := va_S.rf
  have hl : lv_has ls 7 [(0, .ref (ad 0)), (1, .int x0), (2, .int x1), (3, .int x2), (4, .int x3), (5, .ref ob)] := hl
  refine lv_aload hx hb dL_covered_0 (lv_at hl 5 rfl) ?_
  refine lv_iconst (v := nI 0) hx hb dL_covered_2 (by decide) ?_
  refine lv_aload_n hx hb dL_covered_3 rfl (lv_at hl 0 rfl) ?_
  refine lv_iload_n hx hb dL_covered_4 rfl (lv_at hl 1 rfl) ?_
  refine lv_iload_n hx hb dL_covered_5 rfl (lv_at hl 2 rfl) ?_
  refine lv_iload_n hx hb dL_covered_6 rfl (lv_at hl 3 rfl) ?_
  refine lv_iload hx hb dL_covered_7 (lv_at hl 4 rfl) ?_
  refine zxcall (vx_runV (As := [.int x0, .int x1, .int x2, .int x3]) (rest := [.int (nI 0), .ref ob]) ⟨hx, hb, hml, hown, hts⟩ hM (cwV 4 hts gL_covered_X5_covered rfl hrc hrs (by decide +kernel) ⟨by show _ ≤ 10; omega, by show _ ≤ 230; omega⟩) ⟨zBl zX_blind, va_recv hK hP (ci := 6) (q0 := 0) rfl rfl, fun U h1 h2 => ⟨rfl, zX_pre hP hK hN hQ hT U h1 h2⟩⟩ rfl rfl hl.1 rfl (lv_room (Nat.le_of_ble_eq_true rfl)) dL_covered_9 ⟨Nat.le_of_ble_eq_true rfl, Nat.le_of_ble_eq_true rfl⟩) hS (fun ce q9 H locs hz ho hS hc1 hc2 hc3 => ?_)
  refine vx_catch (name := "java/lang/IndexOutOfBoundsException") hown [] ⟨0, 14, 17, 21⟩ [⟨0, 14, 21, 13⟩] (htab.trans rfl) (fun z h => nomatch h) (by decide) (by decide) (hts (.classLink RL 21 "java/lang/IndexOutOfBoundsException") (by decide +kernel)) (zN.use hN (List.mem_of_getElem? (i := 36) rfl)) hc1 hc2 hc3 ?_
  refine lv_astore (lv' := [(6, .ref q9), (0, .ref (ad 0)), (1, .int x0), (2, .int x1), (3, .int x2), (4, .int x3), (5, .ref ob)]) hx hb dL_covered_17 hl (by decide) rfl (fun ls hl => ?_)
  refine lv_iconst (v := nI 1) hx hb dL_covered_19 (by decide) ?_
  have hP : va_P D vwCl (zC ty g ad) H := zC_kept hP (fun k hk h => ho _ h)
  have hO : va_at D vwCl (ob, eL tl f) H := hO.kept (ho ob hO.lt)
  exact W.iret (v := nI 1) hx hb hr (fun t ht hW => ⟨⟨_, (g, f), rfl, ⟨rfl, rfl, fun z => nomatch z⟩, by rw [ht]; exact hP, by rw [ht]; exact hO⟩, hS.F ht⟩) hS.2.2 dL_covered_20
set_option maxHeartbeats 1000000 in
set_option maxRecDepth 100000 in
theorem l_covered_x2 (l : Launch) (D : va_G) (ty : Nat → ClassId) (tl : ClassId) (g : Nat → Nat → Int32) (ad : Nat → Nat) (ob : Nat) (f : Nat → Int64) (sz : Nat) (hob : ∀ k, k < 39 → ad k ≠ ob) (rm : Room) (hrc : rm.cells = 1) (hrs : rm.slots = 6) (hrf : rm.frames ≤ 9) (hrl : rm.locals ≤ 180) (x0 x1 x2 x3 : Int32) (a : Int64) (hM : vx_Met l yX5_covered wsX5_covered rm (va_Pc [.ref (ad 0), .int x0, .int x1, .int x2, .int x3] (zX D ty g ad)) zno (zXC "java/lang/IllegalArgumentException") 1 6 (fun _ => False)) : Met l yL_covered wsL_covered ({ frames := 10, cells := 1, slots := 6, locals := 230 }) (va_Pc [.ref (ad 0), .int x0, .int x1, .int x2, .int x3, .ref ob] (wX D ty tl g ad ob f sz)) (wQ D ty tl ad ob sz 2 a g) 1 6 (WC ad ob sz) := by
  refine zMetH (cc := cL_covered) (maxL := 7) (ret := (some .int)) (hh := [(0, 14, 17, 21), (0, 14, 21, 13)]) (by decide) rfl (Nat.le_of_ble_eq_true rfl) ?_
  intro p e s m below meth c hx hb hr hts hown hlocks hml htab hB ls hl
  obtain ⟨⟨⟨hP, hK, hN⟩, hQ, hT⟩, hNc, hKl, hO, hsz⟩ := hB
  have hS : va_S (WC ad ob sz) s.heap s.heap [] := va_S.rf
  have hl : lv_has ls 7 [(0, .ref (ad 0)), (1, .int x0), (2, .int x1), (3, .int x2), (4, .int x3), (5, .ref ob)] := hl
  refine lv_aload hx hb dL_covered_0 (lv_at hl 5 rfl) ?_
  refine lv_iconst (v := nI 0) hx hb dL_covered_2 (by decide) ?_
  refine lv_aload_n hx hb dL_covered_3 rfl (lv_at hl 0 rfl) ?_
  refine lv_iload_n hx hb dL_covered_4 rfl (lv_at hl 1 rfl) ?_
  refine lv_iload_n hx hb dL_covered_5 rfl (lv_at hl 2 rfl) ?_
  refine lv_iload_n hx hb dL_covered_6 rfl (lv_at hl 3 rfl) ?_
  refine lv_iload hx hb dL_covered_7 (lv_at hl 4 rfl) ?_
  refine zxcall (vx_runV (As := [.int x0, .int x1, .int x2, .int x3]) (rest := [.int (nI 0), .ref ob]) ⟨hx, hb, hml, hown, hts⟩ hM (cwV 4 hts gL_covered_X5_covered rfl hrc hrs (by decide +kernel) ⟨by show _ ≤ 10; omega, by show _ ≤ 230; omega⟩) ⟨zBl zX_blind, va_recv hK hP (ci := 6) (q0 := 0) rfl rfl, fun U h1 h2 => ⟨rfl, zX_pre hP hK hN hQ hT U h1 h2⟩⟩ rfl rfl hl.1 rfl (lv_room (Nat.le_of_ble_eq_true rfl)) dL_covered_9 ⟨Nat.le_of_ble_eq_true rfl, Nat.le_of_ble_eq_true rfl⟩) hS (fun ce q9 H locs hz ho hS hc1 hc2 hc3 => ?_)
  refine vx_catch (name := "java/lang/IllegalArgumentException") hown [⟨0, 14, 17, 21⟩] ⟨0, 14, 21, 13⟩ [] (htab.trans rfl) (List.forall_mem_cons.mpr ⟨Or.inr ⟨by decide, "java/lang/IndexOutOfBoundsException", (hts (.classLink RL 21 "java/lang/IndexOutOfBoundsException") (by decide +kernel)), hNc.1⟩, fun z h => nomatch h⟩) (by decide) (by decide) (hts (.classLink RL 13 "java/lang/IllegalArgumentException") (by decide +kernel)) (zN.use hN (List.mem_of_getElem? (i := 29) rfl)) hc1 hc2 hc3 ?_
  refine lv_astore (lv' := [(6, .ref q9), (0, .ref (ad 0)), (1, .int x0), (2, .int x1), (3, .int x2), (4, .int x3), (5, .ref ob)]) hx hb dL_covered_21 hl (by decide) rfl (fun ls hl => ?_)
  refine lv_iconst (v := nI 2) hx hb dL_covered_23 (by decide) ?_
  have hP : va_P D vwCl (zC ty g ad) H := zC_kept hP (fun k hk h => ho _ h)
  have hO : va_at D vwCl (ob, eL tl f) H := hO.kept (ho ob hO.lt)
  exact W.iret (v := nI 2) hx hb hr (fun t ht hW => ⟨⟨_, (g, f), rfl, ⟨rfl, rfl, fun z => nomatch z⟩, by rw [ht]; exact hP, by rw [ht]; exact hO⟩, hS.F ht⟩) hS.2.2 dL_covered_24
set_option maxHeartbeats 1000000 in
set_option maxRecDepth 100000 in
theorem l_read_ok (l : Launch) (D : va_G) (ty : Nat → ClassId) (tl : ClassId) (g g2 : Nat → Nat → Int32) (ad : Nat → Nat) (ob : Nat) (f : Nat → Int64) (sz : Nat) (hob : ∀ k, k < 39 → ad k ≠ ob) (rm : Room) (hrc : rm.cells = 0) (hrs : rm.slots = 0) (hrf : rm.frames ≤ 9) (hrl : rm.locals ≤ 180) (x0 x1 x2 x3 x4 : Int32) (a : Int32) (hM : Met l yX5_read wsX5_read rm (va_Pc [.ref (ad 0), .int x0, .int x1, .int x2, .int x3, .int x4] (fun U => zI D ty g ad U ∧ U.heap.size = sz)) (va_Qi (fun (v9 : Int32) (gz : Nat → Nat → Int32) => v9 = a ∧ gz = g2) (fun gz t => zI D ty gz ad t) (AC ad sz)) 0 0 (AC ad sz)) : Met l yL_read wsL_read ({ frames := 10, cells := 1, slots := 6, locals := 230 }) (va_Pc [.ref (ad 0), .int x0, .int x1, .int x2, .int x3, .int x4, .ref ob] (wX D ty tl g ad ob f sz)) (wQ D ty tl ad ob sz 0 a.toInt64 g2) 1 6 (WC ad ob sz) := by
  refine zMetH (cc := cL_read) (maxL := 8) (ret := (some .int)) (hh := [(0, 16, 19, 21), (0, 16, 23, 13), (0, 16, 27, 15)]) (by decide) rfl (Nat.le_of_ble_eq_true rfl) ?_
  intro p e s m below meth c hx hb hr hts hown hlocks hml htab hB ls hl
  obtain ⟨⟨⟨hP, hK, hN⟩, hQ, hT⟩, hNc, hKl, hO, hsz⟩ := hB
  have hS : va_S (WC ad ob sz) s.heap s.heap [] := va_S.rf
  have hl : lv_has ls 8 [(0, .ref (ad 0)), (1, .int x0), (2, .int x1), (3, .int x2), (4, .int x3), (5, .int x4), (6, .ref ob)] := hl
  refine lv_aload hx hb dL_read_0 (lv_at hl 6 rfl) ?_
  refine lv_iconst (v := nI 0) hx hb dL_read_2 (by decide) ?_
  refine lv_aload_n hx hb dL_read_3 rfl (lv_at hl 0 rfl) ?_
  refine lv_iload_n hx hb dL_read_4 rfl (lv_at hl 1 rfl) ?_
  refine lv_iload_n hx hb dL_read_5 rfl (lv_at hl 2 rfl) ?_
  refine lv_iload_n hx hb dL_read_6 rfl (lv_at hl 3 rfl) ?_
  refine lv_iload hx hb dL_read_7 (lv_at hl 4 rfl) ?_
  refine lv_iload hx hb dL_read_9 (lv_at hl 5 rfl) ?_
  refine va_calli (va_runV (As := [.int x0, .int x1, .int x2, .int x3, .int x4]) (rest := [.int (nI 0), .ref ob]) ⟨hx, hb, hml, hown, hts⟩ hM (cwV 5 hts gL_read_X5_read rfl hrc hrs (by decide +kernel) ⟨by show _ ≤ 10; omega, by show _ ≤ 230; omega⟩) ⟨zBl zW_blind, va_recv hK hP (ci := 6) (q0 := 0) rfl rfl, fun U h1 h2 => ⟨rfl, zI_pre hP hK hN U h1 h2, by rw [h1]; exact hsz⟩⟩ rfl rfl hl.1 rfl (lv_room (Nat.le_of_ble_eq_true rfl)) dL_read_11 ⟨Nat.le_of_ble_eq_true rfl, Nat.le_of_ble_eq_true rfl⟩) hS (fun _ _ h => Or.inl h) (fun _ h => Or.inl h) (fun r gz t H locs ht hvm hw hB hz1 hk1 hS => ?_)
  obtain ⟨rfl, rfl⟩ := hw
  have hP : va_P D vwCl (zC ty gz ad) H := by rw [← ht]; exact hB.1
  have hO : va_at D vwCl (ob, eL tl f) H := hO.kept (hk1 ob hO.lt (fun z => by rcases z with ⟨k, hk, z⟩ | z; (exact hob k hk z.symm); (have := hO.lt; have h9 : ob < s.heap.size := this; omega)))
  refine lv_i2l hx hb dL_read_14 rfl ?_
  refine zlast hx hb hKl hO hS (Or.inr rfl) dL_read_15 (fun H1 locs hO hS ho => ?_)
  have hP : va_P D vwCl (zC ty gz ad) H1 := zC_kept hP (fun k hk _ => ho _ (hob k hk))
  refine lv_goto (tgt := 31) hx hb dL_read_16 (by decide) ?_
  refine lv_iconst (v := nI 0) hx hb dL_read_31 (by decide) ?_
  refine W.widen (k := 1) (n := 6) (by omega) (by omega) ?_
  exact W.iret (v := nI 0) hx hb hr (fun t ht hW => ⟨⟨_, (gz, vp_updL f 0 (r.toInt64)), rfl, ⟨rfl, rfl, fun _ => (show vp_updL f 0 (r.toInt64) 0 = _ by unfold vp_updL; rw [if_pos rfl])⟩, by rw [ht]; exact hP, by rw [ht]; exact hO⟩, hS.F ht⟩) hS.2.2 dL_read_32
set_option maxHeartbeats 1000000 in
set_option maxRecDepth 100000 in
theorem l_read_x1 (l : Launch) (D : va_G) (ty : Nat → ClassId) (tl : ClassId) (g : Nat → Nat → Int32) (ad : Nat → Nat) (ob : Nat) (f : Nat → Int64) (sz : Nat) (hob : ∀ k, k < 39 → ad k ≠ ob) (rm : Room) (hrc : rm.cells = 1) (hrs : rm.slots = 6) (hrf : rm.frames ≤ 9) (hrl : rm.locals ≤ 180) (x0 x1 x2 x3 x4 : Int32) (a : Int64) (hM : vx_Met l yX5_read wsX5_read rm (va_Pc [.ref (ad 0), .int x0, .int x1, .int x2, .int x3, .int x4] (zX D ty g ad)) zno (zXC "java/lang/IndexOutOfBoundsException") 1 6 (fun _ => False)) : Met l yL_read wsL_read ({ frames := 10, cells := 1, slots := 6, locals := 230 }) (va_Pc [.ref (ad 0), .int x0, .int x1, .int x2, .int x3, .int x4, .ref ob] (wX D ty tl g ad ob f sz)) (wQ D ty tl ad ob sz 1 a g) 1 6 (WC ad ob sz) := by
  refine zMetH (cc := cL_read) (maxL := 8) (ret := (some .int)) (hh := [(0, 16, 19, 21), (0, 16, 23, 13), (0, 16, 27, 15)]) (by decide) rfl (Nat.le_of_ble_eq_true rfl) ?_
  intro p e s m below meth c hx hb hr hts hown hlocks hml htab hB ls hl
  obtain ⟨⟨⟨hP, hK, hN⟩, hQ, hT⟩, hNc, hKl, hO, hsz⟩ := hB
  have hS : va_S (WC ad ob sz) s.heap s.heap [] := va_S.rf
  have hl : lv_has ls 8 [(0, .ref (ad 0)), (1, .int x0), (2, .int x1), (3, .int x2), (4, .int x3), (5, .int x4), (6, .ref ob)] := hl
  refine lv_aload hx hb dL_read_0 (lv_at hl 6 rfl) ?_
  refine lv_iconst (v := nI 0) hx hb dL_read_2 (by decide) ?_
  refine lv_aload_n hx hb dL_read_3 rfl (lv_at hl 0 rfl) ?_
  refine lv_iload_n hx hb dL_read_4 rfl (lv_at hl 1 rfl) ?_
  refine lv_iload_n hx hb dL_read_5 rfl (lv_at hl 2 rfl) ?_
  refine lv_iload_n hx hb dL_read_6 rfl (lv_at hl 3 rfl) ?_
  refine lv_iload hx hb dL_read_7 (lv_at hl 4 rfl) ?_
  refine lv_iload hx hb dL_read_9 (lv_at hl 5 rfl) ?_
  refine zxcall (vx_runV (As := [.int x0, .int x1, .int x2, .int x3, .int x4]) (rest := [.int (nI 0), .ref ob]) ⟨hx, hb, hml, hown, hts⟩ hM (cwV 5 hts gL_read_X5_read rfl hrc hrs (by decide +kernel) ⟨by show _ ≤ 10; omega, by show _ ≤ 230; omega⟩) ⟨zBl zX_blind, va_recv hK hP (ci := 6) (q0 := 0) rfl rfl, fun U h1 h2 => ⟨rfl, zX_pre hP hK hN hQ hT U h1 h2⟩⟩ rfl rfl hl.1 rfl (lv_room (Nat.le_of_ble_eq_true rfl)) dL_read_11 ⟨Nat.le_of_ble_eq_true rfl, Nat.le_of_ble_eq_true rfl⟩) hS (fun ce q9 H locs hz ho hS hc1 hc2 hc3 => ?_)
  refine vx_catch (name := "java/lang/IndexOutOfBoundsException") hown [] ⟨0, 16, 19, 21⟩ [⟨0, 16, 23, 13⟩, ⟨0, 16, 27, 15⟩] (htab.trans rfl) (fun z h => nomatch h) (by decide) (by decide) (hts (.classLink RL 21 "java/lang/IndexOutOfBoundsException") (by decide +kernel)) (zN.use hN (List.mem_of_getElem? (i := 36) rfl)) hc1 hc2 hc3 ?_
  refine lv_astore (lv' := [(7, .ref q9), (0, .ref (ad 0)), (1, .int x0), (2, .int x1), (3, .int x2), (4, .int x3), (5, .int x4), (6, .ref ob)]) hx hb dL_read_19 hl (by decide) rfl (fun ls hl => ?_)
  refine lv_iconst (v := nI 1) hx hb dL_read_21 (by decide) ?_
  have hP : va_P D vwCl (zC ty g ad) H := zC_kept hP (fun k hk h => ho _ h)
  have hO : va_at D vwCl (ob, eL tl f) H := hO.kept (ho ob hO.lt)
  exact W.iret (v := nI 1) hx hb hr (fun t ht hW => ⟨⟨_, (g, f), rfl, ⟨rfl, rfl, fun z => nomatch z⟩, by rw [ht]; exact hP, by rw [ht]; exact hO⟩, hS.F ht⟩) hS.2.2 dL_read_22
set_option maxHeartbeats 1000000 in
set_option maxRecDepth 100000 in
theorem l_read_x2 (l : Launch) (D : va_G) (ty : Nat → ClassId) (tl : ClassId) (g : Nat → Nat → Int32) (ad : Nat → Nat) (ob : Nat) (f : Nat → Int64) (sz : Nat) (hob : ∀ k, k < 39 → ad k ≠ ob) (rm : Room) (hrc : rm.cells = 1) (hrs : rm.slots = 6) (hrf : rm.frames ≤ 9) (hrl : rm.locals ≤ 180) (x0 x1 x2 x3 x4 : Int32) (a : Int64) (hM : vx_Met l yX5_read wsX5_read rm (va_Pc [.ref (ad 0), .int x0, .int x1, .int x2, .int x3, .int x4] (zX D ty g ad)) zno (zXC "java/lang/IllegalArgumentException") 1 6 (fun _ => False)) : Met l yL_read wsL_read ({ frames := 10, cells := 1, slots := 6, locals := 230 }) (va_Pc [.ref (ad 0), .int x0, .int x1, .int x2, .int x3, .int x4, .ref ob] (wX D ty tl g ad ob f sz)) (wQ D ty tl ad ob sz 2 a g) 1 6 (WC ad ob sz) := by
  refine zMetH (cc := cL_read) (maxL := 8) (ret := (some .int)) (hh := [(0, 16, 19, 21), (0, 16, 23, 13), (0, 16, 27, 15)]) (by decide) rfl (Nat.le_of_ble_eq_true rfl) ?_
  intro p e s m below meth c hx hb hr hts hown hlocks hml htab hB ls hl
  obtain ⟨⟨⟨hP, hK, hN⟩, hQ, hT⟩, hNc, hKl, hO, hsz⟩ := hB
  have hS : va_S (WC ad ob sz) s.heap s.heap [] := va_S.rf
  have hl : lv_has ls 8 [(0, .ref (ad 0)), (1, .int x0), (2, .int x1), (3, .int x2), (4, .int x3), (5, .int x4), (6, .ref ob)] := hl
  refine lv_aload hx hb dL_read_0 (lv_at hl 6 rfl) ?_
  refine lv_iconst (v := nI 0) hx hb dL_read_2 (by decide) ?_
  refine lv_aload_n hx hb dL_read_3 rfl (lv_at hl 0 rfl) ?_
  refine lv_iload_n hx hb dL_read_4 rfl (lv_at hl 1 rfl) ?_
  refine lv_iload_n hx hb dL_read_5 rfl (lv_at hl 2 rfl) ?_
  refine lv_iload_n hx hb dL_read_6 rfl (lv_at hl 3 rfl) ?_
  refine lv_iload hx hb dL_read_7 (lv_at hl 4 rfl) ?_
  refine lv_iload hx hb dL_read_9 (lv_at hl 5 rfl) ?_
  refine zxcall (vx_runV (As := [.int x0, .int x1, .int x2, .int x3, .int x4]) (rest := [.int (nI 0), .ref ob]) ⟨hx, hb, hml, hown, hts⟩ hM (cwV 5 hts gL_read_X5_read rfl hrc hrs (by decide +kernel) ⟨by show _ ≤ 10; omega, by show _ ≤ 230; omega⟩) ⟨zBl zX_blind, va_recv hK hP (ci := 6) (q0 := 0) rfl rfl, fun U h1 h2 => ⟨rfl, zX_pre hP hK hN hQ hT U h1 h2⟩⟩ rfl rfl hl.1 rfl (lv_room (Nat.le_of_ble_eq_true rfl)) dL_read_11 ⟨Nat.le_of_ble_eq_true rfl, Nat.le_of_ble_eq_true rfl⟩) hS (fun ce q9 H locs hz ho hS hc1 hc2 hc3 => ?_)
  refine vx_catch (name := "java/lang/IllegalArgumentException") hown [⟨0, 16, 19, 21⟩] ⟨0, 16, 23, 13⟩ [⟨0, 16, 27, 15⟩] (htab.trans rfl) (List.forall_mem_cons.mpr ⟨Or.inr ⟨by decide, "java/lang/IndexOutOfBoundsException", (hts (.classLink RL 21 "java/lang/IndexOutOfBoundsException") (by decide +kernel)), hNc.1⟩, fun z h => nomatch h⟩) (by decide) (by decide) (hts (.classLink RL 13 "java/lang/IllegalArgumentException") (by decide +kernel)) (zN.use hN (List.mem_of_getElem? (i := 29) rfl)) hc1 hc2 hc3 ?_
  refine lv_astore (lv' := [(7, .ref q9), (0, .ref (ad 0)), (1, .int x0), (2, .int x1), (3, .int x2), (4, .int x3), (5, .int x4), (6, .ref ob)]) hx hb dL_read_23 hl (by decide) rfl (fun ls hl => ?_)
  refine lv_iconst (v := nI 2) hx hb dL_read_25 (by decide) ?_
  have hP : va_P D vwCl (zC ty g ad) H := zC_kept hP (fun k hk h => ho _ h)
  have hO : va_at D vwCl (ob, eL tl f) H := hO.kept (ho ob hO.lt)
  exact W.iret (v := nI 2) hx hb hr (fun t ht hW => ⟨⟨_, (g, f), rfl, ⟨rfl, rfl, fun z => nomatch z⟩, by rw [ht]; exact hP, by rw [ht]; exact hO⟩, hS.F ht⟩) hS.2.2 dL_read_26
set_option maxHeartbeats 1000000 in
set_option maxRecDepth 100000 in
theorem l_read_x3 (l : Launch) (D : va_G) (ty : Nat → ClassId) (tl : ClassId) (g : Nat → Nat → Int32) (ad : Nat → Nat) (ob : Nat) (f : Nat → Int64) (sz : Nat) (hob : ∀ k, k < 39 → ad k ≠ ob) (rm : Room) (hrc : rm.cells = 1) (hrs : rm.slots = 6) (hrf : rm.frames ≤ 9) (hrl : rm.locals ≤ 180) (x0 x1 x2 x3 x4 : Int32) (a : Int64) (hM : vx_Met l yX5_read wsX5_read rm (va_Pc [.ref (ad 0), .int x0, .int x1, .int x2, .int x3, .int x4] (zX D ty g ad)) zno (zXC "java/lang/IllegalStateException") 1 6 (fun _ => False)) : Met l yL_read wsL_read ({ frames := 10, cells := 1, slots := 6, locals := 230 }) (va_Pc [.ref (ad 0), .int x0, .int x1, .int x2, .int x3, .int x4, .ref ob] (wX D ty tl g ad ob f sz)) (wQ D ty tl ad ob sz 3 a g) 1 6 (WC ad ob sz) := by
  refine zMetH (cc := cL_read) (maxL := 8) (ret := (some .int)) (hh := [(0, 16, 19, 21), (0, 16, 23, 13), (0, 16, 27, 15)]) (by decide) rfl (Nat.le_of_ble_eq_true rfl) ?_
  intro p e s m below meth c hx hb hr hts hown hlocks hml htab hB ls hl
  obtain ⟨⟨⟨hP, hK, hN⟩, hQ, hT⟩, hNc, hKl, hO, hsz⟩ := hB
  have hS : va_S (WC ad ob sz) s.heap s.heap [] := va_S.rf
  have hl : lv_has ls 8 [(0, .ref (ad 0)), (1, .int x0), (2, .int x1), (3, .int x2), (4, .int x3), (5, .int x4), (6, .ref ob)] := hl
  refine lv_aload hx hb dL_read_0 (lv_at hl 6 rfl) ?_
  refine lv_iconst (v := nI 0) hx hb dL_read_2 (by decide) ?_
  refine lv_aload_n hx hb dL_read_3 rfl (lv_at hl 0 rfl) ?_
  refine lv_iload_n hx hb dL_read_4 rfl (lv_at hl 1 rfl) ?_
  refine lv_iload_n hx hb dL_read_5 rfl (lv_at hl 2 rfl) ?_
  refine lv_iload_n hx hb dL_read_6 rfl (lv_at hl 3 rfl) ?_
  refine lv_iload hx hb dL_read_7 (lv_at hl 4 rfl) ?_
  refine lv_iload hx hb dL_read_9 (lv_at hl 5 rfl) ?_
  refine zxcall (vx_runV (As := [.int x0, .int x1, .int x2, .int x3, .int x4]) (rest := [.int (nI 0), .ref ob]) ⟨hx, hb, hml, hown, hts⟩ hM (cwV 5 hts gL_read_X5_read rfl hrc hrs (by decide +kernel) ⟨by show _ ≤ 10; omega, by show _ ≤ 230; omega⟩) ⟨zBl zX_blind, va_recv hK hP (ci := 6) (q0 := 0) rfl rfl, fun U h1 h2 => ⟨rfl, zX_pre hP hK hN hQ hT U h1 h2⟩⟩ rfl rfl hl.1 rfl (lv_room (Nat.le_of_ble_eq_true rfl)) dL_read_11 ⟨Nat.le_of_ble_eq_true rfl, Nat.le_of_ble_eq_true rfl⟩) hS (fun ce q9 H locs hz ho hS hc1 hc2 hc3 => ?_)
  refine vx_catch (name := "java/lang/IllegalStateException") hown [⟨0, 16, 19, 21⟩, ⟨0, 16, 23, 13⟩] ⟨0, 16, 27, 15⟩ [] (htab.trans rfl) (List.forall_mem_cons.mpr ⟨Or.inr ⟨by decide, "java/lang/IndexOutOfBoundsException", (hts (.classLink RL 21 "java/lang/IndexOutOfBoundsException") (by decide +kernel)), hNc.2.1⟩, List.forall_mem_cons.mpr ⟨Or.inr ⟨by decide, "java/lang/IllegalArgumentException", (hts (.classLink RL 13 "java/lang/IllegalArgumentException") (by decide +kernel)), hNc.2.2⟩, fun z h => nomatch h⟩⟩) (by decide) (by decide) (hts (.classLink RL 15 "java/lang/IllegalStateException") (by decide +kernel)) (zN.use hN (List.mem_of_getElem? (i := 38) rfl)) hc1 hc2 hc3 ?_
  refine lv_astore (lv' := [(7, .ref q9), (0, .ref (ad 0)), (1, .int x0), (2, .int x1), (3, .int x2), (4, .int x3), (5, .int x4), (6, .ref ob)]) hx hb dL_read_27 hl (by decide) rfl (fun ls hl => ?_)
  refine lv_iconst (v := nI 3) hx hb dL_read_29 (by decide) ?_
  have hP : va_P D vwCl (zC ty g ad) H := zC_kept hP (fun k hk h => ho _ h)
  have hO : va_at D vwCl (ob, eL tl f) H := hO.kept (ho ob hO.lt)
  exact W.iret (v := nI 3) hx hb hr (fun t ht hW => ⟨⟨_, (g, f), rfl, ⟨rfl, rfl, fun z => nomatch z⟩, by rw [ht]; exact hP, by rw [ht]; exact hO⟩, hS.F ht⟩) hS.2.2 dL_read_30
set_option maxHeartbeats 1000000 in
set_option maxRecDepth 100000 in
theorem l_preview_ok (l : Launch) (D : va_G) (ty : Nat → ClassId) (tl : ClassId) (g g2 : Nat → Nat → Int32) (ad : Nat → Nat) (ob : Nat) (f : Nat → Int64) (sz : Nat) (hob : ∀ k, k < 39 → ad k ≠ ob) (rm : Room) (hrc : rm.cells = 0) (hrs : rm.slots = 0) (hrf : rm.frames ≤ 9) (hrl : rm.locals ≤ 180) (x0 x1 x2 : Int32) (a : Int32) (hM : Met l yX5_preview wsX5_preview rm (va_Pc [.ref (ad 0), .int x0, .int x1, .int x2] (fun U => zI D ty g ad U ∧ U.heap.size = sz)) (va_Qi (fun (v9 : Int32) (gz : Nat → Nat → Int32) => v9 = a ∧ gz = g2) (fun gz t => zI D ty gz ad t) (AC ad sz)) 0 0 (AC ad sz)) : Met l yL_preview wsL_preview ({ frames := 10, cells := 1, slots := 6, locals := 230 }) (va_Pc [.ref (ad 0), .int x0, .int x1, .int x2, .ref ob] (wX D ty tl g ad ob f sz)) (wQ D ty tl ad ob sz 0 a.toInt64 g2) 1 6 (WC ad ob sz) := by
  refine zMetH (cc := cL_preview) (maxL := 6) (ret := (some .int)) (hh := [(0, 12, 15, 21), (0, 12, 19, 13), (0, 12, 23, 15)]) (by decide) rfl (Nat.le_of_ble_eq_true rfl) ?_
  intro p e s m below meth c hx hb hr hts hown hlocks hml htab hB ls hl
  obtain ⟨⟨⟨hP, hK, hN⟩, hQ, hT⟩, hNc, hKl, hO, hsz⟩ := hB
  have hS : va_S (WC ad ob sz) s.heap s.heap [] := va_S.rf
  have hl : lv_has ls 6 [(0, .ref (ad 0)), (1, .int x0), (2, .int x1), (3, .int x2), (4, .ref ob)] := hl
  refine lv_aload hx hb dL_preview_0 (lv_at hl 4 rfl) ?_
  refine lv_iconst (v := nI 0) hx hb dL_preview_2 (by decide) ?_
  refine lv_aload_n hx hb dL_preview_3 rfl (lv_at hl 0 rfl) ?_
  refine lv_iload_n hx hb dL_preview_4 rfl (lv_at hl 1 rfl) ?_
  refine lv_iload_n hx hb dL_preview_5 rfl (lv_at hl 2 rfl) ?_
  refine lv_iload_n hx hb dL_preview_6 rfl (lv_at hl 3 rfl) ?_
  refine va_calli (va_runV (As := [.int x0, .int x1, .int x2]) (rest := [.int (nI 0), .ref ob]) ⟨hx, hb, hml, hown, hts⟩ hM (cwV 3 hts gL_preview_X5_preview rfl hrc hrs (by decide +kernel) ⟨by show _ ≤ 10; omega, by show _ ≤ 230; omega⟩) ⟨zBl zW_blind, va_recv hK hP (ci := 6) (q0 := 0) rfl rfl, fun U h1 h2 => ⟨rfl, zI_pre hP hK hN U h1 h2, by rw [h1]; exact hsz⟩⟩ rfl rfl hl.1 rfl (lv_room (Nat.le_of_ble_eq_true rfl)) dL_preview_7 ⟨Nat.le_of_ble_eq_true rfl, Nat.le_of_ble_eq_true rfl⟩) hS (fun _ _ h => Or.inl h) (fun _ h => Or.inl h) (fun r gz t H locs ht hvm hw hB hz1 hk1 hS => ?_)
  obtain ⟨rfl, rfl⟩ := hw
  have hP : va_P D vwCl (zC ty gz ad) H := by rw [← ht]; exact hB.1
  have hO : va_at D vwCl (ob, eL tl f) H := hO.kept (hk1 ob hO.lt (fun z => by rcases z with ⟨k, hk, z⟩ | z; (exact hob k hk z.symm); (have := hO.lt; have h9 : ob < s.heap.size := this; omega)))
  refine lv_i2l hx hb dL_preview_10 rfl ?_
  refine zlast hx hb hKl hO hS (Or.inr rfl) dL_preview_11 (fun H1 locs hO hS ho => ?_)
  have hP : va_P D vwCl (zC ty gz ad) H1 := zC_kept hP (fun k hk _ => ho _ (hob k hk))
  refine lv_goto (tgt := 27) hx hb dL_preview_12 (by decide) ?_
  refine lv_iconst (v := nI 0) hx hb dL_preview_27 (by decide) ?_
  refine W.widen (k := 1) (n := 6) (by omega) (by omega) ?_
  exact W.iret (v := nI 0) hx hb hr (fun t ht hW => ⟨⟨_, (gz, vp_updL f 0 (r.toInt64)), rfl, ⟨rfl, rfl, fun _ => (show vp_updL f 0 (r.toInt64) 0 = _ by unfold vp_updL; rw [if_pos rfl])⟩, by rw [ht]; exact hP, by rw [ht]; exact hO⟩, hS.F ht⟩) hS.2.2 dL_preview_28
set_option maxHeartbeats 1000000 in
set_option maxRecDepth 100000 in
theorem l_preview_x1 (l : Launch) (D : va_G) (ty : Nat → ClassId) (tl : ClassId) (g : Nat → Nat → Int32) (ad : Nat → Nat) (ob : Nat) (f : Nat → Int64) (sz : Nat) (hob : ∀ k, k < 39 → ad k ≠ ob) (rm : Room) (hrc : rm.cells = 1) (hrs : rm.slots = 6) (hrf : rm.frames ≤ 9) (hrl : rm.locals ≤ 180) (x0 x1 x2 : Int32) (a : Int64) (hM : vx_Met l yX5_preview wsX5_preview rm (va_Pc [.ref (ad 0), .int x0, .int x1, .int x2] (zX D ty g ad)) zno (zXC "java/lang/IndexOutOfBoundsException") 1 6 (fun _ => False)) : Met l yL_preview wsL_preview ({ frames := 10, cells := 1, slots := 6, locals := 230 }) (va_Pc [.ref (ad 0), .int x0, .int x1, .int x2, .ref ob] (wX D ty tl g ad ob f sz)) (wQ D ty tl ad ob sz 1 a g) 1 6 (WC ad ob sz) := by
  refine zMetH (cc := cL_preview) (maxL := 6) (ret := (some .int)) (hh := [(0, 12, 15, 21), (0, 12, 19, 13), (0, 12, 23, 15)]) (by decide) rfl (Nat.le_of_ble_eq_true rfl) ?_
  intro p e s m below meth c hx hb hr hts hown hlocks hml htab hB ls hl
  obtain ⟨⟨⟨hP, hK, hN⟩, hQ, hT⟩, hNc, hKl, hO, hsz⟩ := hB
  have hS : va_S (WC ad ob sz) s.heap s.heap [] := va_S.rf
  have hl : lv_has ls 6 [(0, .ref (ad 0)), (1, .int x0), (2, .int x1), (3, .int x2), (4, .ref ob)] := hl
  refine lv_aload hx hb dL_preview_0 (lv_at hl 4 rfl) ?_
  refine lv_iconst (v := nI 0) hx hb dL_preview_2 (by decide) ?_
  refine lv_aload_n hx hb dL_preview_3 rfl (lv_at hl 0 rfl) ?_
  refine lv_iload_n hx hb dL_preview_4 rfl (lv_at hl 1 rfl) ?_
  refine lv_iload_n hx hb dL_preview_5 rfl (lv_at hl 2 rfl) ?_
  refine lv_iload_n hx hb dL_preview_6 rfl (lv_at hl 3 rfl) ?_
  refine zxcall (vx_runV (As := [.int x0, .int x1, .int x2]) (rest := [.int (nI 0), .ref ob]) ⟨hx, hb, hml, hown, hts⟩ hM (cwV 3 hts gL_preview_X5_preview rfl hrc hrs (by decide +kernel) ⟨by show _ ≤ 10; omega, by show _ ≤ 230; omega⟩) ⟨zBl zX_blind, va_recv hK hP (ci := 6) (q0 := 0) rfl rfl, fun U h1 h2 => ⟨rfl, zX_pre hP hK hN hQ hT U h1 h2⟩⟩ rfl rfl hl.1 rfl (lv_room (Nat.le_of_ble_eq_true rfl)) dL_preview_7 ⟨Nat.le_of_ble_eq_true rfl, Nat.le_of_ble_eq_true rfl⟩) hS (fun ce q9 H locs hz ho hS hc1 hc2 hc3 => ?_)
  refine vx_catch (name := "java/lang/IndexOutOfBoundsException") hown [] ⟨0, 12, 15, 21⟩ [⟨0, 12, 19, 13⟩, ⟨0, 12, 23, 15⟩] (htab.trans rfl) (fun z h => nomatch h) (by decide) (by decide) (hts (.classLink RL 21 "java/lang/IndexOutOfBoundsException") (by decide +kernel)) (zN.use hN (List.mem_of_getElem? (i := 36) rfl)) hc1 hc2 hc3 ?_
  refine lv_astore (lv' := [(5, .ref q9), (0, .ref (ad 0)), (1, .int x0), (2, .int x1), (3, .int x2), (4, .ref ob)]) hx hb dL_preview_15 hl (by decide) rfl (fun ls hl => ?_)
  refine lv_iconst (v := nI 1) hx hb dL_preview_17 (by decide) ?_
  have hP : va_P D vwCl (zC ty g ad) H := zC_kept hP (fun k hk h => ho _ h)
  have hO : va_at D vwCl (ob, eL tl f) H := hO.kept (ho ob hO.lt)
  exact W.iret (v := nI 1) hx hb hr (fun t ht hW => ⟨⟨_, (g, f), rfl, ⟨rfl, rfl, fun z => nomatch z⟩, by rw [ht]; exact hP, by rw [ht]; exact hO⟩, hS.F ht⟩) hS.2.2 dL_preview_18
set_option maxHeartbeats 1000000 in
set_option maxRecDepth 100000 in
theorem l_preview_x2 (l : Launch) (D : va_G) (ty : Nat → ClassId) (tl : ClassId) (g : Nat → Nat → Int32) (ad : Nat → Nat) (ob : Nat) (f : Nat → Int64) (sz : Nat) (hob : ∀ k, k < 39 → ad k ≠ ob) (rm : Room) (hrc : rm.cells = 1) (hrs : rm.slots = 6) (hrf : rm.frames ≤ 9) (hrl : rm.locals ≤ 180) (x0 x1 x2 : Int32) (a : Int64) (hM : vx_Met l yX5_preview wsX5_preview rm (va_Pc [.ref (ad 0), .int x0, .int x1, .int x2] (zX D ty g ad)) zno (zXC "java/lang/IllegalArgumentException") 1 6 (fun _ => False)) : Met l yL_preview wsL_preview ({ frames := 10, cells := 1, slots := 6, locals := 230 }) (va_Pc [.ref (ad 0), .int x0, .int x1, .int x2, .ref ob] (wX D ty tl g ad ob f sz)) (wQ D ty tl ad ob sz 2 a g) 1 6 (WC ad ob sz) := by
  refine zMetH (cc := cL_preview) (maxL := 6) (ret := (some .int)) (hh := [(0, 12, 15, 21), (0, 12, 19, 13), (0, 12, 23, 15)]) (by decide) rfl (Nat.le_of_ble_eq_true rfl) ?_
  intro p e s m below meth c hx hb hr hts hown hlocks hml htab hB ls hl
  obtain ⟨⟨⟨hP, hK, hN⟩, hQ, hT⟩, hNc, hKl, hO, hsz⟩ := hB
  have hS : va_S (WC ad ob sz) s.heap s.heap [] := va_S.rf
  have hl : lv_has ls 6 [(0, .ref (ad 0)), (1, .int x0), (2, .int x1), (3, .int x2), (4, .ref ob)] := hl
  refine lv_aload hx hb dL_preview_0 (lv_at hl 4 rfl) ?_
  refine lv_iconst (v := nI 0) hx hb dL_preview_2 (by decide) ?_
  refine lv_aload_n hx hb dL_preview_3 rfl (lv_at hl 0 rfl) ?_
  refine lv_iload_n hx hb dL_preview_4 rfl (lv_at hl 1 rfl) ?_
  refine lv_iload_n hx hb dL_preview_5 rfl (lv_at hl 2 rfl) ?_
  refine lv_iload_n hx hb dL_preview_6 rfl (lv_at hl 3 rfl) ?_
  refine zxcall (vx_runV (As := [.int x0, .int x1, .int x2]) (rest := [.int (nI 0), .ref ob]) ⟨hx, hb, hml, hown, hts⟩ hM (cwV 3 hts gL_preview_X5_preview rfl hrc hrs (by decide +kernel) ⟨by show _ ≤ 10; omega, by show _ ≤ 230; omega⟩) ⟨zBl zX_blind, va_recv hK hP (ci := 6) (q0 := 0) rfl rfl, fun U h1 h2 => ⟨rfl, zX_pre hP hK hN hQ hT U h1 h2⟩⟩ rfl rfl hl.1 rfl (lv_room (Nat.le_of_ble_eq_true rfl)) dL_preview_7 ⟨Nat.le_of_ble_eq_true rfl, Nat.le_of_ble_eq_true rfl⟩) hS (fun ce q9 H locs hz ho hS hc1 hc2 hc3 => ?_)
  refine vx_catch (name := "java/lang/IllegalArgumentException") hown [⟨0, 12, 15, 21⟩] ⟨0, 12, 19, 13⟩ [⟨0, 12, 23, 15⟩] (htab.trans rfl) (List.forall_mem_cons.mpr ⟨Or.inr ⟨by decide, "java/lang/IndexOutOfBoundsException", (hts (.classLink RL 21 "java/lang/IndexOutOfBoundsException") (by decide +kernel)), hNc.1⟩, fun z h => nomatch h⟩) (by decide) (by decide) (hts (.classLink RL 13 "java/lang/IllegalArgumentException") (by decide +kernel)) (zN.use hN (List.mem_of_getElem? (i := 29) rfl)) hc1 hc2 hc3 ?_
  refine lv_astore (lv' := [(5, .ref q9), (0, .ref (ad 0)), (1, .int x0), (2, .int x1), (3, .int x2), (4, .ref ob)]) hx hb dL_preview_19 hl (by decide) rfl (fun ls hl => ?_)
  refine lv_iconst (v := nI 2) hx hb dL_preview_21 (by decide) ?_
  have hP : va_P D vwCl (zC ty g ad) H := zC_kept hP (fun k hk h => ho _ h)
  have hO : va_at D vwCl (ob, eL tl f) H := hO.kept (ho ob hO.lt)
  exact W.iret (v := nI 2) hx hb hr (fun t ht hW => ⟨⟨_, (g, f), rfl, ⟨rfl, rfl, fun z => nomatch z⟩, by rw [ht]; exact hP, by rw [ht]; exact hO⟩, hS.F ht⟩) hS.2.2 dL_preview_22
set_option maxHeartbeats 1000000 in
set_option maxRecDepth 100000 in
theorem l_preview_x3 (l : Launch) (D : va_G) (ty : Nat → ClassId) (tl : ClassId) (g : Nat → Nat → Int32) (ad : Nat → Nat) (ob : Nat) (f : Nat → Int64) (sz : Nat) (hob : ∀ k, k < 39 → ad k ≠ ob) (rm : Room) (hrc : rm.cells = 1) (hrs : rm.slots = 6) (hrf : rm.frames ≤ 9) (hrl : rm.locals ≤ 180) (x0 x1 x2 : Int32) (a : Int64) (hM : vx_Met l yX5_preview wsX5_preview rm (va_Pc [.ref (ad 0), .int x0, .int x1, .int x2] (zX D ty g ad)) zno (zXC "java/lang/IllegalStateException") 1 6 (fun _ => False)) : Met l yL_preview wsL_preview ({ frames := 10, cells := 1, slots := 6, locals := 230 }) (va_Pc [.ref (ad 0), .int x0, .int x1, .int x2, .ref ob] (wX D ty tl g ad ob f sz)) (wQ D ty tl ad ob sz 3 a g) 1 6 (WC ad ob sz) := by
  refine zMetH (cc := cL_preview) (maxL := 6) (ret := (some .int)) (hh := [(0, 12, 15, 21), (0, 12, 19, 13), (0, 12, 23, 15)]) (by decide) rfl (Nat.le_of_ble_eq_true rfl) ?_
  intro p e s m below meth c hx hb hr hts hown hlocks hml htab hB ls hl
  obtain ⟨⟨⟨hP, hK, hN⟩, hQ, hT⟩, hNc, hKl, hO, hsz⟩ := hB
  have hS : va_S (WC ad ob sz) s.heap s.heap [] := va_S.rf
  have hl : lv_has ls 6 [(0, .ref (ad 0)), (1, .int x0), (2, .int x1), (3, .int x2), (4, .ref ob)] := hl
  refine lv_aload hx hb dL_preview_0 (lv_at hl 4 rfl) ?_
  refine lv_iconst (v := nI 0) hx hb dL_preview_2 (by decide) ?_
  refine lv_aload_n hx hb dL_preview_3 rfl (lv_at hl 0 rfl) ?_
  refine lv_iload_n hx hb dL_preview_4 rfl (lv_at hl 1 rfl) ?_
  refine lv_iload_n hx hb dL_preview_5 rfl (lv_at hl 2 rfl) ?_
  refine lv_iload_n hx hb dL_preview_6 rfl (lv_at hl 3 rfl) ?_
  refine zxcall (vx_runV (As := [.int x0, .int x1, .int x2]) (rest := [.int (nI 0), .ref ob]) ⟨hx, hb, hml, hown, hts⟩ hM (cwV 3 hts gL_preview_X5_preview rfl hrc hrs (by decide +kernel) ⟨by show _ ≤ 10; omega, by show _ ≤ 230; omega⟩) ⟨zBl zX_blind, va_recv hK hP (ci := 6) (q0 := 0) rfl rfl, fun U h1 h2 => ⟨rfl, zX_pre hP hK hN hQ hT U h1 h2⟩⟩ rfl rfl hl.1 rfl (lv_room (Nat.le_of_ble_eq_true rfl)) dL_preview_7 ⟨Nat.le_of_ble_eq_true rfl, Nat.le_of_ble_eq_true rfl⟩) hS (fun ce q9 H locs hz ho hS hc1 hc2 hc3 => ?_)
  refine vx_catch (name := "java/lang/IllegalStateException") hown [⟨0, 12, 15, 21⟩, ⟨0, 12, 19, 13⟩] ⟨0, 12, 23, 15⟩ [] (htab.trans rfl) (List.forall_mem_cons.mpr ⟨Or.inr ⟨by decide, "java/lang/IndexOutOfBoundsException", (hts (.classLink RL 21 "java/lang/IndexOutOfBoundsException") (by decide +kernel)), hNc.2.1⟩, List.forall_mem_cons.mpr ⟨Or.inr ⟨by decide, "java/lang/IllegalArgumentException", (hts (.classLink RL 13 "java/lang/IllegalArgumentException") (by decide +kernel)), hNc.2.2⟩, fun z h => nomatch h⟩⟩) (by decide) (by decide) (hts (.classLink RL 15 "java/lang/IllegalStateException") (by decide +kernel)) (zN.use hN (List.mem_of_getElem? (i := 38) rfl)) hc1 hc2 hc3 ?_
  refine lv_astore (lv' := [(5, .ref q9), (0, .ref (ad 0)), (1, .int x0), (2, .int x1), (3, .int x2), (4, .ref ob)]) hx hb dL_preview_23 hl (by decide) rfl (fun ls hl => ?_)
  refine lv_iconst (v := nI 3) hx hb dL_preview_25 (by decide) ?_
  have hP : va_P D vwCl (zC ty g ad) H := zC_kept hP (fun k hk h => ho _ h)
  have hO : va_at D vwCl (ob, eL tl f) H := hO.kept (ho ob hO.lt)
  exact W.iret (v := nI 3) hx hb hr (fun t ht hW => ⟨⟨_, (g, f), rfl, ⟨rfl, rfl, fun z => nomatch z⟩, by rw [ht]; exact hP, by rw [ht]; exact hO⟩, hS.F ht⟩) hS.2.2 dL_preview_26
set_option maxHeartbeats 1000000 in
set_option maxRecDepth 100000 in
theorem l_ofRead_ok (l : Launch) (D : va_G) (ty : Nat → ClassId) (tl : ClassId) (g g2 : Nat → Nat → Int32) (ad : Nat → Nat) (ob : Nat) (f : Nat → Int64) (sz : Nat) (hob : ∀ k, k < 39 → ad k ≠ ob) (rm : Room) (hrc : rm.cells = 0) (hrs : rm.slots = 0) (hrf : rm.frames ≤ 9) (hrl : rm.locals ≤ 180) (x0 x1 : Int32) (a : Int32) (hM : Met l yX5_ofRead wsX5_ofRead rm (va_Pc [.ref (ad 0), .int x0, .int x1] (fun U => zI D ty g ad U ∧ U.heap.size = sz)) (va_Qi (fun (v9 : Int32) (gz : Nat → Nat → Int32) => v9 = a ∧ gz = g2) (fun gz t => zI D ty gz ad t) (AC ad sz)) 0 0 (AC ad sz)) : Met l yL_ofRead wsL_ofRead ({ frames := 10, cells := 1, slots := 6, locals := 230 }) (va_Pc [.ref (ad 0), .int x0, .int x1, .ref ob] (wX D ty tl g ad ob f sz)) (wQ D ty tl ad ob sz 0 a.toInt64 g2) 1 6 (WC ad ob sz) := by
  refine zMetH (cc := cL_ofRead) (maxL := 5) (ret := (some .int)) (hh := [(0, 10, 13, 21), (0, 10, 17, 13)]) (by decide) rfl (Nat.le_of_ble_eq_true rfl) ?_
  intro p e s m below meth c hx hb hr hts hown hlocks hml htab hB ls hl
  obtain ⟨⟨⟨hP, hK, hN⟩, hQ, hT⟩, hNc, hKl, hO, hsz⟩ := hB
  have hS : va_S (WC ad ob sz) s.heap s.heap [] := va_S.rf
  have hl : lv_has ls 5 [(0, .ref (ad 0)), (1, .int x0), (2, .int x1), (3, .ref ob)] := hl
  refine lv_aload_n hx hb dL_ofRead_0 rfl (lv_at hl 3 rfl) ?_
  refine lv_iconst (v := nI 0) hx hb dL_ofRead_1 (by decide) ?_
  refine lv_aload_n hx hb dL_ofRead_2 rfl (lv_at hl 0 rfl) ?_
  refine lv_iload_n hx hb dL_ofRead_3 rfl (lv_at hl 1 rfl) ?_
  refine lv_iload_n hx hb dL_ofRead_4 rfl (lv_at hl 2 rfl) ?_
  refine va_calli (va_runV (As := [.int x0, .int x1]) (rest := [.int (nI 0), .ref ob]) ⟨hx, hb, hml, hown, hts⟩ hM (cwV 2 hts gL_ofRead_X5_ofRead rfl hrc hrs (by decide +kernel) ⟨by show _ ≤ 10; omega, by show _ ≤ 230; omega⟩) ⟨zBl zW_blind, va_recv hK hP (ci := 6) (q0 := 0) rfl rfl, fun U h1 h2 => ⟨rfl, zI_pre hP hK hN U h1 h2, by rw [h1]; exact hsz⟩⟩ rfl rfl hl.1 rfl (lv_room (Nat.le_of_ble_eq_true rfl)) dL_ofRead_5 ⟨Nat.le_of_ble_eq_true rfl, Nat.le_of_ble_eq_true rfl⟩) hS (fun _ _ h => Or.inl h) (fun _ h => Or.inl h) (fun r gz t H locs ht hvm hw hB hz1 hk1 hS => ?_)
  obtain ⟨rfl, rfl⟩ := hw
  have hP : va_P D vwCl (zC ty gz ad) H := by rw [← ht]; exact hB.1
  have hO : va_at D vwCl (ob, eL tl f) H := hO.kept (hk1 ob hO.lt (fun z => by rcases z with ⟨k, hk, z⟩ | z; (exact hob k hk z.symm); (have := hO.lt; have h9 : ob < s.heap.size := this; omega)))
  refine lv_i2l hx hb dL_ofRead_8 rfl ?_
  refine zlast hx hb hKl hO hS (Or.inr rfl) dL_ofRead_9 (fun H1 locs hO hS ho => ?_)
  have hP : va_P D vwCl (zC ty gz ad) H1 := zC_kept hP (fun k hk _ => ho _ (hob k hk))
  refine lv_goto (tgt := 21) hx hb dL_ofRead_10 (by decide) ?_
  refine lv_iconst (v := nI 0) hx hb dL_ofRead_21 (by decide) ?_
  refine W.widen (k := 1) (n := 6) (by omega) (by omega) ?_
  exact W.iret (v := nI 0) hx hb hr (fun t ht hW => ⟨⟨_, (gz, vp_updL f 0 (r.toInt64)), rfl, ⟨rfl, rfl, fun _ => (show vp_updL f 0 (r.toInt64) 0 = _ by unfold vp_updL; rw [if_pos rfl])⟩, by rw [ht]; exact hP, by rw [ht]; exact hO⟩, hS.F ht⟩) hS.2.2 dL_ofRead_22
set_option maxHeartbeats 1000000 in
set_option maxRecDepth 100000 in
theorem l_ofRead_x1 (l : Launch) (D : va_G) (ty : Nat → ClassId) (tl : ClassId) (g : Nat → Nat → Int32) (ad : Nat → Nat) (ob : Nat) (f : Nat → Int64) (sz : Nat) (hob : ∀ k, k < 39 → ad k ≠ ob) (rm : Room) (hrc : rm.cells = 1) (hrs : rm.slots = 6) (hrf : rm.frames ≤ 9) (hrl : rm.locals ≤ 180) (x0 x1 : Int32) (a : Int64) (hM : vx_Met l yX5_ofRead wsX5_ofRead rm (va_Pc [.ref (ad 0), .int x0, .int x1] (zX D ty g ad)) zno (zXC "java/lang/IndexOutOfBoundsException") 1 6 (fun _ => False)) : Met l yL_ofRead wsL_ofRead ({ frames := 10, cells := 1, slots := 6, locals := 230 }) (va_Pc [.ref (ad 0), .int x0, .int x1, .ref ob] (wX D ty tl g ad ob f sz)) (wQ D ty tl ad ob sz 1 a g) 1 6 (WC ad ob sz) := by
  refine zMetH (cc := cL_ofRead) (maxL := 5) (ret := (some .int)) (hh := [(0, 10, 13, 21), (0, 10, 17, 13)]) (by decide) rfl (Nat.le_of_ble_eq_true rfl) ?_
  intro p e s m below meth c hx hb hr hts hown hlocks hml htab hB ls hl
  obtain ⟨⟨⟨hP, hK, hN⟩, hQ, hT⟩, hNc, hKl, hO, hsz⟩ := hB
  have hS : va_S (WC ad ob sz) s.heap s.heap [] := va_S.rf
  have hl : lv_has ls 5 [(0, .ref (ad 0)), (1, .int x0), (2, .int x1), (3, .ref ob)] := hl
  refine lv_aload_n hx hb dL_ofRead_0 rfl (lv_at hl 3 rfl) ?_
  refine lv_iconst (v := nI 0) hx hb dL_ofRead_1 (by decide) ?_
  refine lv_aload_n hx hb dL_ofRead_2 rfl (lv_at hl 0 rfl) ?_
  refine lv_iload_n hx hb dL_ofRead_3 rfl (lv_at hl 1 rfl) ?_
  refine lv_iload_n hx hb dL_ofRead_4 rfl (lv_at hl 2 rfl) ?_
  refine zxcall (vx_runV (As := [.int x0, .int x1]) (rest := [.int (nI 0), .ref ob]) ⟨hx, hb, hml, hown, hts⟩ hM (cwV 2 hts gL_ofRead_X5_ofRead rfl hrc hrs (by decide +kernel) ⟨by show _ ≤ 10; omega, by show _ ≤ 230; omega⟩) ⟨zBl zX_blind, va_recv hK hP (ci := 6) (q0 := 0) rfl rfl, fun U h1 h2 => ⟨rfl, zX_pre hP hK hN hQ hT U h1 h2⟩⟩ rfl rfl hl.1 rfl (lv_room (Nat.le_of_ble_eq_true rfl)) dL_ofRead_5 ⟨Nat.le_of_ble_eq_true rfl, Nat.le_of_ble_eq_true rfl⟩) hS (fun ce q9 H locs hz ho hS hc1 hc2 hc3 => ?_)
  refine vx_catch (name := "java/lang/IndexOutOfBoundsException") hown [] ⟨0, 10, 13, 21⟩ [⟨0, 10, 17, 13⟩] (htab.trans rfl) (fun z h => nomatch h) (by decide) (by decide) (hts (.classLink RL 21 "java/lang/IndexOutOfBoundsException") (by decide +kernel)) (zN.use hN (List.mem_of_getElem? (i := 36) rfl)) hc1 hc2 hc3 ?_
  refine lv_astore (lv' := [(4, .ref q9), (0, .ref (ad 0)), (1, .int x0), (2, .int x1), (3, .ref ob)]) hx hb dL_ofRead_13 hl (by decide) rfl (fun ls hl => ?_)
  refine lv_iconst (v := nI 1) hx hb dL_ofRead_15 (by decide) ?_
  have hP : va_P D vwCl (zC ty g ad) H := zC_kept hP (fun k hk h => ho _ h)
  have hO : va_at D vwCl (ob, eL tl f) H := hO.kept (ho ob hO.lt)
  exact W.iret (v := nI 1) hx hb hr (fun t ht hW => ⟨⟨_, (g, f), rfl, ⟨rfl, rfl, fun z => nomatch z⟩, by rw [ht]; exact hP, by rw [ht]; exact hO⟩, hS.F ht⟩) hS.2.2 dL_ofRead_16
set_option maxHeartbeats 1000000 in
set_option maxRecDepth 100000 in
theorem l_ofRead_x2 (l : Launch) (D : va_G) (ty : Nat → ClassId) (tl : ClassId) (g : Nat → Nat → Int32) (ad : Nat → Nat) (ob : Nat) (f : Nat → Int64) (sz : Nat) (hob : ∀ k, k < 39 → ad k ≠ ob) (rm : Room) (hrc : rm.cells = 1) (hrs : rm.slots = 6) (hrf : rm.frames ≤ 9) (hrl : rm.locals ≤ 180) (x0 x1 : Int32) (a : Int64) (hM : vx_Met l yX5_ofRead wsX5_ofRead rm (va_Pc [.ref (ad 0), .int x0, .int x1] (zX D ty g ad)) zno (zXC "java/lang/IllegalArgumentException") 1 6 (fun _ => False)) : Met l yL_ofRead wsL_ofRead ({ frames := 10, cells := 1, slots := 6, locals := 230 }) (va_Pc [.ref (ad 0), .int x0, .int x1, .ref ob] (wX D ty tl g ad ob f sz)) (wQ D ty tl ad ob sz 2 a g) 1 6 (WC ad ob sz) := by
  refine zMetH (cc := cL_ofRead) (maxL := 5) (ret := (some .int)) (hh := [(0, 10, 13, 21), (0, 10, 17, 13)]) (by decide) rfl (Nat.le_of_ble_eq_true rfl) ?_
  intro p e s m below meth c hx hb hr hts hown hlocks hml htab hB ls hl
  obtain ⟨⟨⟨hP, hK, hN⟩, hQ, hT⟩, hNc, hKl, hO, hsz⟩ := hB
  have hS : va_S (WC ad ob sz) s.heap s.heap [] := va_S.rf
  have hl : lv_has ls 5 [(0, .ref (ad 0)), (1, .int x0), (2, .int x1), (3, .ref ob)] := hl
  refine lv_aload_n hx hb dL_ofRead_0 rfl (lv_at hl 3 rfl) ?_
  refine lv_iconst (v := nI 0) hx hb dL_ofRead_1 (by decide) ?_
  refine lv_aload_n hx hb dL_ofRead_2 rfl (lv_at hl 0 rfl) ?_
  refine lv_iload_n hx hb dL_ofRead_3 rfl (lv_at hl 1 rfl) ?_
  refine lv_iload_n hx hb dL_ofRead_4 rfl (lv_at hl 2 rfl) ?_
  refine zxcall (vx_runV (As := [.int x0, .int x1]) (rest := [.int (nI 0), .ref ob]) ⟨hx, hb, hml, hown, hts⟩ hM (cwV 2 hts gL_ofRead_X5_ofRead rfl hrc hrs (by decide +kernel) ⟨by show _ ≤ 10; omega, by show _ ≤ 230; omega⟩) ⟨zBl zX_blind, va_recv hK hP (ci := 6) (q0 := 0) rfl rfl, fun U h1 h2 => ⟨rfl, zX_pre hP hK hN hQ hT U h1 h2⟩⟩ rfl rfl hl.1 rfl (lv_room (Nat.le_of_ble_eq_true rfl)) dL_ofRead_5 ⟨Nat.le_of_ble_eq_true rfl, Nat.le_of_ble_eq_true rfl⟩) hS (fun ce q9 H locs hz ho hS hc1 hc2 hc3 => ?_)
  refine vx_catch (name := "java/lang/IllegalArgumentException") hown [⟨0, 10, 13, 21⟩] ⟨0, 10, 17, 13⟩ [] (htab.trans rfl) (List.forall_mem_cons.mpr ⟨Or.inr ⟨by decide, "java/lang/IndexOutOfBoundsException", (hts (.classLink RL 21 "java/lang/IndexOutOfBoundsException") (by decide +kernel)), hNc.1⟩, fun z h => nomatch h⟩) (by decide) (by decide) (hts (.classLink RL 13 "java/lang/IllegalArgumentException") (by decide +kernel)) (zN.use hN (List.mem_of_getElem? (i := 29) rfl)) hc1 hc2 hc3 ?_
  refine lv_astore (lv' := [(4, .ref q9), (0, .ref (ad 0)), (1, .int x0), (2, .int x1), (3, .ref ob)]) hx hb dL_ofRead_17 hl (by decide) rfl (fun ls hl => ?_)
  refine lv_iconst (v := nI 2) hx hb dL_ofRead_19 (by decide) ?_
  have hP : va_P D vwCl (zC ty g ad) H := zC_kept hP (fun k hk h => ho _ h)
  have hO : va_at D vwCl (ob, eL tl f) H := hO.kept (ho ob hO.lt)
  exact W.iret (v := nI 2) hx hb hr (fun t ht hW => ⟨⟨_, (g, f), rfl, ⟨rfl, rfl, fun z => nomatch z⟩, by rw [ht]; exact hP, by rw [ht]; exact hO⟩, hS.F ht⟩) hS.2.2 dL_ofRead_20
set_option maxHeartbeats 1000000 in
set_option maxRecDepth 100000 in
theorem l_ofReader_ok (l : Launch) (D : va_G) (ty : Nat → ClassId) (tl : ClassId) (g g2 : Nat → Nat → Int32) (ad : Nat → Nat) (ob : Nat) (f : Nat → Int64) (sz : Nat) (hob : ∀ k, k < 39 → ad k ≠ ob) (rm : Room) (hrc : rm.cells = 0) (hrs : rm.slots = 0) (hrf : rm.frames ≤ 9) (hrl : rm.locals ≤ 180) (x0 x1 : Int32) (a : Int32) (hM : Met l yX5_ofReader wsX5_ofReader rm (va_Pc [.ref (ad 0), .int x0, .int x1] (fun U => zI D ty g ad U ∧ U.heap.size = sz)) (va_Qi (fun (v9 : Int32) (gz : Nat → Nat → Int32) => v9 = a ∧ gz = g2) (fun gz t => zI D ty gz ad t) (AC ad sz)) 0 0 (AC ad sz)) : Met l yL_ofReader wsL_ofReader ({ frames := 10, cells := 1, slots := 6, locals := 230 }) (va_Pc [.ref (ad 0), .int x0, .int x1, .ref ob] (wX D ty tl g ad ob f sz)) (wQ D ty tl ad ob sz 0 a.toInt64 g2) 1 6 (WC ad ob sz) := by
  refine zMetH (cc := cL_ofReader) (maxL := 5) (ret := (some .int)) (hh := [(0, 10, 13, 21), (0, 10, 17, 13)]) (by decide) rfl (Nat.le_of_ble_eq_true rfl) ?_
  intro p e s m below meth c hx hb hr hts hown hlocks hml htab hB ls hl
  obtain ⟨⟨⟨hP, hK, hN⟩, hQ, hT⟩, hNc, hKl, hO, hsz⟩ := hB
  have hS : va_S (WC ad ob sz) s.heap s.heap [] := va_S.rf
  have hl : lv_has ls 5 [(0, .ref (ad 0)), (1, .int x0), (2, .int x1), (3, .ref ob)] := hl
  refine lv_aload_n hx hb dL_ofReader_0 rfl (lv_at hl 3 rfl) ?_
  refine lv_iconst (v := nI 0) hx hb dL_ofReader_1 (by decide) ?_
  refine lv_aload_n hx hb dL_ofReader_2 rfl (lv_at hl 0 rfl) ?_
  refine lv_iload_n hx hb dL_ofReader_3 rfl (lv_at hl 1 rfl) ?_
  refine lv_iload_n hx hb dL_ofReader_4 rfl (lv_at hl 2 rfl) ?_
  refine va_calli (va_runV (As := [.int x0, .int x1]) (rest := [.int (nI 0), .ref ob]) ⟨hx, hb, hml, hown, hts⟩ hM (cwV 2 hts gL_ofReader_X5_ofReader rfl hrc hrs (by decide +kernel) ⟨by show _ ≤ 10; omega, by show _ ≤ 230; omega⟩) ⟨zBl zW_blind, va_recv hK hP (ci := 6) (q0 := 0) rfl rfl, fun U h1 h2 => ⟨rfl, zI_pre hP hK hN U h1 h2, by rw [h1]; exact hsz⟩⟩ rfl rfl hl.1 rfl (lv_room (Nat.le_of_ble_eq_true rfl)) dL_ofReader_5 ⟨Nat.le_of_ble_eq_true rfl, Nat.le_of_ble_eq_true rfl⟩) hS (fun _ _ h => Or.inl h) (fun _ h => Or.inl h) (fun r gz t H locs ht hvm hw hB hz1 hk1 hS => ?_)
  obtain ⟨rfl, rfl⟩ := hw
  have hP : va_P D vwCl (zC ty gz ad) H := by rw [← ht]; exact hB.1
  have hO : va_at D vwCl (ob, eL tl f) H := hO.kept (hk1 ob hO.lt (fun z => by rcases z with ⟨k, hk, z⟩ | z; (exact hob k hk z.symm); (have := hO.lt; have h9 : ob < s.heap.size := this; omega)))
  refine lv_i2l hx hb dL_ofReader_8 rfl ?_
  refine zlast hx hb hKl hO hS (Or.inr rfl) dL_ofReader_9 (fun H1 locs hO hS ho => ?_)
  have hP : va_P D vwCl (zC ty gz ad) H1 := zC_kept hP (fun k hk _ => ho _ (hob k hk))
  refine lv_goto (tgt := 21) hx hb dL_ofReader_10 (by decide) ?_
  refine lv_iconst (v := nI 0) hx hb dL_ofReader_21 (by decide) ?_
  refine W.widen (k := 1) (n := 6) (by omega) (by omega) ?_
  exact W.iret (v := nI 0) hx hb hr (fun t ht hW => ⟨⟨_, (gz, vp_updL f 0 (r.toInt64)), rfl, ⟨rfl, rfl, fun _ => (show vp_updL f 0 (r.toInt64) 0 = _ by unfold vp_updL; rw [if_pos rfl])⟩, by rw [ht]; exact hP, by rw [ht]; exact hO⟩, hS.F ht⟩) hS.2.2 dL_ofReader_22
set_option maxHeartbeats 1000000 in
set_option maxRecDepth 100000 in
theorem l_ofReader_x1 (l : Launch) (D : va_G) (ty : Nat → ClassId) (tl : ClassId) (g : Nat → Nat → Int32) (ad : Nat → Nat) (ob : Nat) (f : Nat → Int64) (sz : Nat) (hob : ∀ k, k < 39 → ad k ≠ ob) (rm : Room) (hrc : rm.cells = 1) (hrs : rm.slots = 6) (hrf : rm.frames ≤ 9) (hrl : rm.locals ≤ 180) (x0 x1 : Int32) (a : Int64) (hM : vx_Met l yX5_ofReader wsX5_ofReader rm (va_Pc [.ref (ad 0), .int x0, .int x1] (zX D ty g ad)) zno (zXC "java/lang/IndexOutOfBoundsException") 1 6 (fun _ => False)) : Met l yL_ofReader wsL_ofReader ({ frames := 10, cells := 1, slots := 6, locals := 230 }) (va_Pc [.ref (ad 0), .int x0, .int x1, .ref ob] (wX D ty tl g ad ob f sz)) (wQ D ty tl ad ob sz 1 a g) 1 6 (WC ad ob sz) := by
  refine zMetH (cc := cL_ofReader) (maxL := 5) (ret := (some .int)) (hh := [(0, 10, 13, 21), (0, 10, 17, 13)]) (by decide) rfl (Nat.le_of_ble_eq_true rfl) ?_
  intro p e s m below meth c hx hb hr hts hown hlocks hml htab hB ls hl
  obtain ⟨⟨⟨hP, hK, hN⟩, hQ, hT⟩, hNc, hKl, hO, hsz⟩ := hB
  have hS : va_S (WC ad ob sz) s.heap s.heap [] := va_S.rf
  have hl : lv_has ls 5 [(0, .ref (ad 0)), (1, .int x0), (2, .int x1), (3, .ref ob)] := hl
  refine lv_aload_n hx hb dL_ofReader_0 rfl (lv_at hl 3 rfl) ?_
  refine lv_iconst (v := nI 0) hx hb dL_ofReader_1 (by decide) ?_
  refine lv_aload_n hx hb dL_ofReader_2 rfl (lv_at hl 0 rfl) ?_
  refine lv_iload_n hx hb dL_ofReader_3 rfl (lv_at hl 1 rfl) ?_
  refine lv_iload_n hx hb dL_ofReader_4 rfl (lv_at hl 2 rfl) ?_
  refine zxcall (vx_runV (As := [.int x0, .int x1]) (rest := [.int (nI 0), .ref ob]) ⟨hx, hb, hml, hown, hts⟩ hM (cwV 2 hts gL_ofReader_X5_ofReader rfl hrc hrs (by decide +kernel) ⟨by show _ ≤ 10; omega, by show _ ≤ 230; omega⟩) ⟨zBl zX_blind, va_recv hK hP (ci := 6) (q0 := 0) rfl rfl, fun U h1 h2 => ⟨rfl, zX_pre hP hK hN hQ hT U h1 h2⟩⟩ rfl rfl hl.1 rfl (lv_room (Nat.le_of_ble_eq_true rfl)) dL_ofReader_5 ⟨Nat.le_of_ble_eq_true rfl, Nat.le_of_ble_eq_true rfl⟩) hS (fun ce q9 H locs hz ho hS hc1 hc2 hc3 => ?_)
  refine vx_catch (name := "java/lang/IndexOutOfBoundsException") hown [] ⟨0, 10, 13, 21⟩ [⟨0, 10, 17, 13⟩] (htab.trans rfl) (fun z h => nomatch h) (by decide) (by decide) (hts (.classLink RL 21 "java/lang/IndexOutOfBoundsException") (by decide +kernel)) (zN.use hN (List.mem_of_getElem? (i := 36) rfl)) hc1 hc2 hc3 ?_
  refine lv_astore (lv' := [(4, .ref q9), (0, .ref (ad 0)), (1, .int x0), (2, .int x1), (3, .ref ob)]) hx hb dL_ofReader_13 hl (by decide) rfl (fun ls hl => ?_)
  refine lv_iconst (v := nI 1) hx hb dL_ofReader_15 (by decide) ?_
  have hP : va_P D vwCl (zC ty g ad) H := zC_kept hP (fun k hk h => ho _ h)
  have hO : va_at D vwCl (ob, eL tl f) H := hO.kept (ho ob hO.lt)
  exact W.iret (v := nI 1) hx hb hr (fun t ht hW => ⟨⟨_, (g, f), rfl, ⟨rfl, rfl, fun z => nomatch z⟩, by rw [ht]; exact hP, by rw [ht]; exact hO⟩, hS.F ht⟩) hS.2.2 dL_ofReader_16
set_option maxHeartbeats 1000000 in
set_option maxRecDepth 100000 in
theorem l_ofReader_x2 (l : Launch) (D : va_G) (ty : Nat → ClassId) (tl : ClassId) (g : Nat → Nat → Int32) (ad : Nat → Nat) (ob : Nat) (f : Nat → Int64) (sz : Nat) (hob : ∀ k, k < 39 → ad k ≠ ob) (rm : Room) (hrc : rm.cells = 1) (hrs : rm.slots = 6) (hrf : rm.frames ≤ 9) (hrl : rm.locals ≤ 180) (x0 x1 : Int32) (a : Int64) (hM : vx_Met l yX5_ofReader wsX5_ofReader rm (va_Pc [.ref (ad 0), .int x0, .int x1] (zX D ty g ad)) zno (zXC "java/lang/IllegalArgumentException") 1 6 (fun _ => False)) : Met l yL_ofReader wsL_ofReader ({ frames := 10, cells := 1, slots := 6, locals := 230 }) (va_Pc [.ref (ad 0), .int x0, .int x1, .ref ob] (wX D ty tl g ad ob f sz)) (wQ D ty tl ad ob sz 2 a g) 1 6 (WC ad ob sz) := by
  refine zMetH (cc := cL_ofReader) (maxL := 5) (ret := (some .int)) (hh := [(0, 10, 13, 21), (0, 10, 17, 13)]) (by decide) rfl (Nat.le_of_ble_eq_true rfl) ?_
  intro p e s m below meth c hx hb hr hts hown hlocks hml htab hB ls hl
  obtain ⟨⟨⟨hP, hK, hN⟩, hQ, hT⟩, hNc, hKl, hO, hsz⟩ := hB
  have hS : va_S (WC ad ob sz) s.heap s.heap [] := va_S.rf
  have hl : lv_has ls 5 [(0, .ref (ad 0)), (1, .int x0), (2, .int x1), (3, .ref ob)] := hl
  refine lv_aload_n hx hb dL_ofReader_0 rfl (lv_at hl 3 rfl) ?_
  refine lv_iconst (v := nI 0) hx hb dL_ofReader_1 (by decide) ?_
  refine lv_aload_n hx hb dL_ofReader_2 rfl (lv_at hl 0 rfl) ?_
  refine lv_iload_n hx hb dL_ofReader_3 rfl (lv_at hl 1 rfl) ?_
  refine lv_iload_n hx hb dL_ofReader_4 rfl (lv_at hl 2 rfl) ?_
  refine zxcall (vx_runV (As := [.int x0, .int x1]) (rest := [.int (nI 0), .ref ob]) ⟨hx, hb, hml, hown, hts⟩ hM (cwV 2 hts gL_ofReader_X5_ofReader rfl hrc hrs (by decide +kernel) ⟨by show _ ≤ 10; omega, by show _ ≤ 230; omega⟩) ⟨zBl zX_blind, va_recv hK hP (ci := 6) (q0 := 0) rfl rfl, fun U h1 h2 => ⟨rfl, zX_pre hP hK hN hQ hT U h1 h2⟩⟩ rfl rfl hl.1 rfl (lv_room (Nat.le_of_ble_eq_true rfl)) dL_ofReader_5 ⟨Nat.le_of_ble_eq_true rfl, Nat.le_of_ble_eq_true rfl⟩) hS (fun ce q9 H locs hz ho hS hc1 hc2 hc3 => ?_)
  refine vx_catch (name := "java/lang/IllegalArgumentException") hown [⟨0, 10, 13, 21⟩] ⟨0, 10, 17, 13⟩ [] (htab.trans rfl) (List.forall_mem_cons.mpr ⟨Or.inr ⟨by decide, "java/lang/IndexOutOfBoundsException", (hts (.classLink RL 21 "java/lang/IndexOutOfBoundsException") (by decide +kernel)), hNc.1⟩, fun z h => nomatch h⟩) (by decide) (by decide) (hts (.classLink RL 13 "java/lang/IllegalArgumentException") (by decide +kernel)) (zN.use hN (List.mem_of_getElem? (i := 29) rfl)) hc1 hc2 hc3 ?_
  refine lv_astore (lv' := [(4, .ref q9), (0, .ref (ad 0)), (1, .int x0), (2, .int x1), (3, .ref ob)]) hx hb dL_ofReader_17 hl (by decide) rfl (fun ls hl => ?_)
  refine lv_iconst (v := nI 2) hx hb dL_ofReader_19 (by decide) ?_
  have hP : va_P D vwCl (zC ty g ad) H := zC_kept hP (fun k hk h => ho _ h)
  have hO : va_at D vwCl (ob, eL tl f) H := hO.kept (ho ob hO.lt)
  exact W.iret (v := nI 2) hx hb hr (fun t ht hW => ⟨⟨_, (g, f), rfl, ⟨rfl, rfl, fun z => nomatch z⟩, by rw [ht]; exact hP, by rw [ht]; exact hO⟩, hS.F ht⟩) hS.2.2 dL_ofReader_20
set_option maxHeartbeats 1000000 in
set_option maxRecDepth 100000 in
theorem l_bill_ok (l : Launch) (D : va_G) (ty : Nat → ClassId) (tl : ClassId) (g g2 : Nat → Nat → Int32) (ad : Nat → Nat) (ob : Nat) (f : Nat → Int64) (sz : Nat) (hob : ∀ k, k < 39 → ad k ≠ ob) (rm : Room) (hrc : rm.cells = 0) (hrs : rm.slots = 0) (hrf : rm.frames ≤ 9) (hrl : rm.locals ≤ 180) (x0 : Int32) (a : Int32) (hM : Met l yX5_bill wsX5_bill rm (va_Pc [.ref (ad 0), .int x0] (fun U => zI D ty g ad U ∧ U.heap.size = sz)) (va_Qi (fun (v9 : Int32) (gz : Nat → Nat → Int32) => v9 = a ∧ gz = g2) (fun gz t => zI D ty gz ad t) (AC ad sz)) 0 0 (AC ad sz)) : Met l yL_bill wsL_bill ({ frames := 10, cells := 1, slots := 6, locals := 230 }) (va_Pc [.ref (ad 0), .int x0, .ref ob] (wX D ty tl g ad ob f sz)) (wQ D ty tl ad ob sz 0 a.toInt64 g2) 1 6 (WC ad ob sz) := by
  refine zMetH (cc := cL_bill) (maxL := 4) (ret := (some .int)) (hh := [(0, 9, 12, 21)]) (by decide) rfl (Nat.le_of_ble_eq_true rfl) ?_
  intro p e s m below meth c hx hb hr hts hown hlocks hml htab hB ls hl
  obtain ⟨⟨⟨hP, hK, hN⟩, hQ, hT⟩, hNc, hKl, hO, hsz⟩ := hB
  have hS : va_S (WC ad ob sz) s.heap s.heap [] := va_S.rf
  have hl : lv_has ls 4 [(0, .ref (ad 0)), (1, .int x0), (2, .ref ob)] := hl
  refine lv_aload_n hx hb dL_bill_0 rfl (lv_at hl 2 rfl) ?_
  refine lv_iconst (v := nI 0) hx hb dL_bill_1 (by decide) ?_
  refine lv_aload_n hx hb dL_bill_2 rfl (lv_at hl 0 rfl) ?_
  refine lv_iload_n hx hb dL_bill_3 rfl (lv_at hl 1 rfl) ?_
  refine va_calli (va_runV (As := [.int x0]) (rest := [.int (nI 0), .ref ob]) ⟨hx, hb, hml, hown, hts⟩ hM (cwV 1 hts gL_bill_X5_bill rfl hrc hrs (by decide +kernel) ⟨by show _ ≤ 10; omega, by show _ ≤ 230; omega⟩) ⟨zBl zW_blind, va_recv hK hP (ci := 6) (q0 := 0) rfl rfl, fun U h1 h2 => ⟨rfl, zI_pre hP hK hN U h1 h2, by rw [h1]; exact hsz⟩⟩ rfl rfl hl.1 rfl (lv_room (Nat.le_of_ble_eq_true rfl)) dL_bill_4 ⟨Nat.le_of_ble_eq_true rfl, Nat.le_of_ble_eq_true rfl⟩) hS (fun _ _ h => Or.inl h) (fun _ h => Or.inl h) (fun r gz t H locs ht hvm hw hB hz1 hk1 hS => ?_)
  obtain ⟨rfl, rfl⟩ := hw
  have hP : va_P D vwCl (zC ty gz ad) H := by rw [← ht]; exact hB.1
  have hO : va_at D vwCl (ob, eL tl f) H := hO.kept (hk1 ob hO.lt (fun z => by rcases z with ⟨k, hk, z⟩ | z; (exact hob k hk z.symm); (have := hO.lt; have h9 : ob < s.heap.size := this; omega)))
  refine lv_i2l hx hb dL_bill_7 rfl ?_
  refine zlast hx hb hKl hO hS (Or.inr rfl) dL_bill_8 (fun H1 locs hO hS ho => ?_)
  have hP : va_P D vwCl (zC ty gz ad) H1 := zC_kept hP (fun k hk _ => ho _ (hob k hk))
  refine lv_goto (tgt := 15) hx hb dL_bill_9 (by decide) ?_
  refine lv_iconst (v := nI 0) hx hb dL_bill_15 (by decide) ?_
  refine W.widen (k := 1) (n := 6) (by omega) (by omega) ?_
  exact W.iret (v := nI 0) hx hb hr (fun t ht hW => ⟨⟨_, (gz, vp_updL f 0 (r.toInt64)), rfl, ⟨rfl, rfl, fun _ => (show vp_updL f 0 (r.toInt64) 0 = _ by unfold vp_updL; rw [if_pos rfl])⟩, by rw [ht]; exact hP, by rw [ht]; exact hO⟩, hS.F ht⟩) hS.2.2 dL_bill_16
set_option maxHeartbeats 1000000 in
set_option maxRecDepth 100000 in
theorem l_bill_x1 (l : Launch) (D : va_G) (ty : Nat → ClassId) (tl : ClassId) (g : Nat → Nat → Int32) (ad : Nat → Nat) (ob : Nat) (f : Nat → Int64) (sz : Nat) (hob : ∀ k, k < 39 → ad k ≠ ob) (rm : Room) (hrc : rm.cells = 1) (hrs : rm.slots = 6) (hrf : rm.frames ≤ 9) (hrl : rm.locals ≤ 180) (x0 : Int32) (a : Int64) (hM : vx_Met l yX5_bill wsX5_bill rm (va_Pc [.ref (ad 0), .int x0] (zX D ty g ad)) zno (zXC "java/lang/IndexOutOfBoundsException") 1 6 (fun _ => False)) : Met l yL_bill wsL_bill ({ frames := 10, cells := 1, slots := 6, locals := 230 }) (va_Pc [.ref (ad 0), .int x0, .ref ob] (wX D ty tl g ad ob f sz)) (wQ D ty tl ad ob sz 1 a g) 1 6 (WC ad ob sz) := by
  refine zMetH (cc := cL_bill) (maxL := 4) (ret := (some .int)) (hh := [(0, 9, 12, 21)]) (by decide) rfl (Nat.le_of_ble_eq_true rfl) ?_
  intro p e s m below meth c hx hb hr hts hown hlocks hml htab hB ls hl
  obtain ⟨⟨⟨hP, hK, hN⟩, hQ, hT⟩, hNc, hKl, hO, hsz⟩ := hB
  have hS : va_S (WC ad ob sz) s.heap s.heap [] := va_S.rf
  have hl : lv_has ls 4 [(0, .ref (ad 0)), (1, .int x0), (2, .ref ob)] := hl
  refine lv_aload_n hx hb dL_bill_0 rfl (lv_at hl 2 rfl) ?_
  refine lv_iconst (v := nI 0) hx hb dL_bill_1 (by decide) ?_
  refine lv_aload_n hx hb dL_bill_2 rfl (lv_at hl 0 rfl) ?_
  refine lv_iload_n hx hb dL_bill_3 rfl (lv_at hl 1 rfl) ?_
  refine zxcall (vx_runV (As := [.int x0]) (rest := [.int (nI 0), .ref ob]) ⟨hx, hb, hml, hown, hts⟩ hM (cwV 1 hts gL_bill_X5_bill rfl hrc hrs (by decide +kernel) ⟨by show _ ≤ 10; omega, by show _ ≤ 230; omega⟩) ⟨zBl zX_blind, va_recv hK hP (ci := 6) (q0 := 0) rfl rfl, fun U h1 h2 => ⟨rfl, zX_pre hP hK hN hQ hT U h1 h2⟩⟩ rfl rfl hl.1 rfl (lv_room (Nat.le_of_ble_eq_true rfl)) dL_bill_4 ⟨Nat.le_of_ble_eq_true rfl, Nat.le_of_ble_eq_true rfl⟩) hS (fun ce q9 H locs hz ho hS hc1 hc2 hc3 => ?_)
  refine vx_catch (name := "java/lang/IndexOutOfBoundsException") hown [] ⟨0, 9, 12, 21⟩ [] (htab.trans rfl) (fun z h => nomatch h) (by decide) (by decide) (hts (.classLink RL 21 "java/lang/IndexOutOfBoundsException") (by decide +kernel)) (zN.use hN (List.mem_of_getElem? (i := 36) rfl)) hc1 hc2 hc3 ?_
  refine lv_astore_n (lv' := [(3, .ref q9), (0, .ref (ad 0)), (1, .int x0), (2, .ref ob)]) hx hb dL_bill_12 rfl hl (by decide) rfl (fun ls hl => ?_)
  refine lv_iconst (v := nI 1) hx hb dL_bill_13 (by decide) ?_
  have hP : va_P D vwCl (zC ty g ad) H := zC_kept hP (fun k hk h => ho _ h)
  have hO : va_at D vwCl (ob, eL tl f) H := hO.kept (ho ob hO.lt)
  exact W.iret (v := nI 1) hx hb hr (fun t ht hW => ⟨⟨_, (g, f), rfl, ⟨rfl, rfl, fun z => nomatch z⟩, by rw [ht]; exact hP, by rw [ht]; exact hO⟩, hS.F ht⟩) hS.2.2 dL_bill_14
set_option maxHeartbeats 1000000 in
set_option maxRecDepth 100000 in
theorem l_pass_ok (l : Launch) (D : va_G) (ty : Nat → ClassId) (tl : ClassId) (g g2 : Nat → Nat → Int32) (ad : Nat → Nat) (ob : Nat) (f : Nat → Int64) (sz : Nat) (hob : ∀ k, k < 39 → ad k ≠ ob) (rm : Room) (hrc : rm.cells = 0) (hrs : rm.slots = 0) (hrf : rm.frames ≤ 9) (hrl : rm.locals ≤ 180) (x0 : Int32) (a : Int32) (hM : Met l yX5_pass wsX5_pass rm (va_Pc [.ref (ad 0), .int x0] (fun U => zI D ty g ad U ∧ U.heap.size = sz)) (va_Qi (fun (v9 : Int32) (gz : Nat → Nat → Int32) => v9 = a ∧ gz = g2) (fun gz t => zI D ty gz ad t) (AC ad sz)) 0 0 (AC ad sz)) : Met l yL_pass wsL_pass ({ frames := 10, cells := 1, slots := 6, locals := 230 }) (va_Pc [.ref (ad 0), .int x0, .ref ob] (wX D ty tl g ad ob f sz)) (wQ D ty tl ad ob sz 0 a.toInt64 g2) 1 6 (WC ad ob sz) := by
  refine zMetH (cc := cL_pass) (maxL := 4) (ret := (some .int)) (hh := [(0, 9, 12, 13), (0, 9, 15, 15)]) (by decide) rfl (Nat.le_of_ble_eq_true rfl) ?_
  intro p e s m below meth c hx hb hr hts hown hlocks hml htab hB ls hl
  obtain ⟨⟨⟨hP, hK, hN⟩, hQ, hT⟩, hNc, hKl, hO, hsz⟩ := hB
  have hS : va_S (WC ad ob sz) s.heap s.heap [] := va_S.rf
  have hl : lv_has ls 4 [(0, .ref (ad 0)), (1, .int x0), (2, .ref ob)] := hl
  refine lv_aload_n hx hb dL_pass_0 rfl (lv_at hl 2 rfl) ?_
  refine lv_iconst (v := nI 0) hx hb dL_pass_1 (by decide) ?_
  refine lv_aload_n hx hb dL_pass_2 rfl (lv_at hl 0 rfl) ?_
  refine lv_iload_n hx hb dL_pass_3 rfl (lv_at hl 1 rfl) ?_
  refine va_calli (va_runV (As := [.int x0]) (rest := [.int (nI 0), .ref ob]) ⟨hx, hb, hml, hown, hts⟩ hM (cwV 1 hts gL_pass_X5_pass rfl hrc hrs (by decide +kernel) ⟨by show _ ≤ 10; omega, by show _ ≤ 230; omega⟩) ⟨zBl zW_blind, va_recv hK hP (ci := 6) (q0 := 0) rfl rfl, fun U h1 h2 => ⟨rfl, zI_pre hP hK hN U h1 h2, by rw [h1]; exact hsz⟩⟩ rfl rfl hl.1 rfl (lv_room (Nat.le_of_ble_eq_true rfl)) dL_pass_4 ⟨Nat.le_of_ble_eq_true rfl, Nat.le_of_ble_eq_true rfl⟩) hS (fun _ _ h => Or.inl h) (fun _ h => Or.inl h) (fun r gz t H locs ht hvm hw hB hz1 hk1 hS => ?_)
  obtain ⟨rfl, rfl⟩ := hw
  have hP : va_P D vwCl (zC ty gz ad) H := by rw [← ht]; exact hB.1
  have hO : va_at D vwCl (ob, eL tl f) H := hO.kept (hk1 ob hO.lt (fun z => by rcases z with ⟨k, hk, z⟩ | z; (exact hob k hk z.symm); (have := hO.lt; have h9 : ob < s.heap.size := this; omega)))
  refine lv_i2l hx hb dL_pass_7 rfl ?_
  refine zlast hx hb hKl hO hS (Or.inr rfl) dL_pass_8 (fun H1 locs hO hS ho => ?_)
  have hP : va_P D vwCl (zC ty gz ad) H1 := zC_kept hP (fun k hk _ => ho _ (hob k hk))
  refine lv_goto (tgt := 18) hx hb dL_pass_9 (by decide) ?_
  refine lv_iconst (v := nI 0) hx hb dL_pass_18 (by decide) ?_
  refine W.widen (k := 1) (n := 6) (by omega) (by omega) ?_
  exact W.iret (v := nI 0) hx hb hr (fun t ht hW => ⟨⟨_, (gz, vp_updL f 0 (r.toInt64)), rfl, ⟨rfl, rfl, fun _ => (show vp_updL f 0 (r.toInt64) 0 = _ by unfold vp_updL; rw [if_pos rfl])⟩, by rw [ht]; exact hP, by rw [ht]; exact hO⟩, hS.F ht⟩) hS.2.2 dL_pass_19
set_option maxHeartbeats 1000000 in
set_option maxRecDepth 100000 in
theorem l_pass_x1 (l : Launch) (D : va_G) (ty : Nat → ClassId) (tl : ClassId) (g : Nat → Nat → Int32) (ad : Nat → Nat) (ob : Nat) (f : Nat → Int64) (sz : Nat) (hob : ∀ k, k < 39 → ad k ≠ ob) (rm : Room) (hrc : rm.cells = 1) (hrs : rm.slots = 6) (hrf : rm.frames ≤ 9) (hrl : rm.locals ≤ 180) (x0 : Int32) (a : Int64) (hM : vx_Met l yX5_pass wsX5_pass rm (va_Pc [.ref (ad 0), .int x0] (zX D ty g ad)) zno (zXC "java/lang/IllegalArgumentException") 1 6 (fun _ => False)) : Met l yL_pass wsL_pass ({ frames := 10, cells := 1, slots := 6, locals := 230 }) (va_Pc [.ref (ad 0), .int x0, .ref ob] (wX D ty tl g ad ob f sz)) (wQ D ty tl ad ob sz 1 a g) 1 6 (WC ad ob sz) := by
  refine zMetH (cc := cL_pass) (maxL := 4) (ret := (some .int)) (hh := [(0, 9, 12, 13), (0, 9, 15, 15)]) (by decide) rfl (Nat.le_of_ble_eq_true rfl) ?_
  intro p e s m below meth c hx hb hr hts hown hlocks hml htab hB ls hl
  obtain ⟨⟨⟨hP, hK, hN⟩, hQ, hT⟩, hNc, hKl, hO, hsz⟩ := hB
  have hS : va_S (WC ad ob sz) s.heap s.heap [] := va_S.rf
  have hl : lv_has ls 4 [(0, .ref (ad 0)), (1, .int x0), (2, .ref ob)] := hl
  refine lv_aload_n hx hb dL_pass_0 rfl (lv_at hl 2 rfl) ?_
  refine lv_iconst (v := nI 0) hx hb dL_pass_1 (by decide) ?_
  refine lv_aload_n hx hb dL_pass_2 rfl (lv_at hl 0 rfl) ?_
  refine lv_iload_n hx hb dL_pass_3 rfl (lv_at hl 1 rfl) ?_
  refine zxcall (vx_runV (As := [.int x0]) (rest := [.int (nI 0), .ref ob]) ⟨hx, hb, hml, hown, hts⟩ hM (cwV 1 hts gL_pass_X5_pass rfl hrc hrs (by decide +kernel) ⟨by show _ ≤ 10; omega, by show _ ≤ 230; omega⟩) ⟨zBl zX_blind, va_recv hK hP (ci := 6) (q0 := 0) rfl rfl, fun U h1 h2 => ⟨rfl, zX_pre hP hK hN hQ hT U h1 h2⟩⟩ rfl rfl hl.1 rfl (lv_room (Nat.le_of_ble_eq_true rfl)) dL_pass_4 ⟨Nat.le_of_ble_eq_true rfl, Nat.le_of_ble_eq_true rfl⟩) hS (fun ce q9 H locs hz ho hS hc1 hc2 hc3 => ?_)
  refine vx_catch (name := "java/lang/IllegalArgumentException") hown [] ⟨0, 9, 12, 13⟩ [⟨0, 9, 15, 15⟩] (htab.trans rfl) (fun z h => nomatch h) (by decide) (by decide) (hts (.classLink RL 13 "java/lang/IllegalArgumentException") (by decide +kernel)) (zN.use hN (List.mem_of_getElem? (i := 29) rfl)) hc1 hc2 hc3 ?_
  refine lv_astore_n (lv' := [(3, .ref q9), (0, .ref (ad 0)), (1, .int x0), (2, .ref ob)]) hx hb dL_pass_12 rfl hl (by decide) rfl (fun ls hl => ?_)
  refine lv_iconst (v := nI 1) hx hb dL_pass_13 (by decide) ?_
  have hP : va_P D vwCl (zC ty g ad) H := zC_kept hP (fun k hk h => ho _ h)
  have hO : va_at D vwCl (ob, eL tl f) H := hO.kept (ho ob hO.lt)
  exact W.iret (v := nI 1) hx hb hr (fun t ht hW => ⟨⟨_, (g, f), rfl, ⟨rfl, rfl, fun z => nomatch z⟩, by rw [ht]; exact hP, by rw [ht]; exact hO⟩, hS.F ht⟩) hS.2.2 dL_pass_14
set_option maxHeartbeats 1000000 in
set_option maxRecDepth 100000 in
theorem l_pass_x2 (l : Launch) (D : va_G) (ty : Nat → ClassId) (tl : ClassId) (g : Nat → Nat → Int32) (ad : Nat → Nat) (ob : Nat) (f : Nat → Int64) (sz : Nat) (hob : ∀ k, k < 39 → ad k ≠ ob) (rm : Room) (hrc : rm.cells = 1) (hrs : rm.slots = 6) (hrf : rm.frames ≤ 9) (hrl : rm.locals ≤ 180) (x0 : Int32) (a : Int64) (hM : vx_Met l yX5_pass wsX5_pass rm (va_Pc [.ref (ad 0), .int x0] (zX D ty g ad)) zno (zXC "java/lang/IllegalStateException") 1 6 (fun _ => False)) : Met l yL_pass wsL_pass ({ frames := 10, cells := 1, slots := 6, locals := 230 }) (va_Pc [.ref (ad 0), .int x0, .ref ob] (wX D ty tl g ad ob f sz)) (wQ D ty tl ad ob sz 2 a g) 1 6 (WC ad ob sz) := by
  refine zMetH (cc := cL_pass) (maxL := 4) (ret := (some .int)) (hh := [(0, 9, 12, 13), (0, 9, 15, 15)]) (by decide) rfl (Nat.le_of_ble_eq_true rfl) ?_
  intro p e s m below meth c hx hb hr hts hown hlocks hml htab hB ls hl
  obtain ⟨⟨⟨hP, hK, hN⟩, hQ, hT⟩, hNc, hKl, hO, hsz⟩ := hB
  have hS : va_S (WC ad ob sz) s.heap s.heap [] := va_S.rf
  have hl : lv_has ls 4 [(0, .ref (ad 0)), (1, .int x0), (2, .ref ob)] := hl
  refine lv_aload_n hx hb dL_pass_0 rfl (lv_at hl 2 rfl) ?_
  refine lv_iconst (v := nI 0) hx hb dL_pass_1 (by decide) ?_
  refine lv_aload_n hx hb dL_pass_2 rfl (lv_at hl 0 rfl) ?_
  refine lv_iload_n hx hb dL_pass_3 rfl (lv_at hl 1 rfl) ?_
  refine zxcall (vx_runV (As := [.int x0]) (rest := [.int (nI 0), .ref ob]) ⟨hx, hb, hml, hown, hts⟩ hM (cwV 1 hts gL_pass_X5_pass rfl hrc hrs (by decide +kernel) ⟨by show _ ≤ 10; omega, by show _ ≤ 230; omega⟩) ⟨zBl zX_blind, va_recv hK hP (ci := 6) (q0 := 0) rfl rfl, fun U h1 h2 => ⟨rfl, zX_pre hP hK hN hQ hT U h1 h2⟩⟩ rfl rfl hl.1 rfl (lv_room (Nat.le_of_ble_eq_true rfl)) dL_pass_4 ⟨Nat.le_of_ble_eq_true rfl, Nat.le_of_ble_eq_true rfl⟩) hS (fun ce q9 H locs hz ho hS hc1 hc2 hc3 => ?_)
  refine vx_catch (name := "java/lang/IllegalStateException") hown [⟨0, 9, 12, 13⟩] ⟨0, 9, 15, 15⟩ [] (htab.trans rfl) (List.forall_mem_cons.mpr ⟨Or.inr ⟨by decide, "java/lang/IllegalArgumentException", (hts (.classLink RL 13 "java/lang/IllegalArgumentException") (by decide +kernel)), hNc.2.2⟩, fun z h => nomatch h⟩) (by decide) (by decide) (hts (.classLink RL 15 "java/lang/IllegalStateException") (by decide +kernel)) (zN.use hN (List.mem_of_getElem? (i := 38) rfl)) hc1 hc2 hc3 ?_
  refine lv_astore_n (lv' := [(3, .ref q9), (0, .ref (ad 0)), (1, .int x0), (2, .ref ob)]) hx hb dL_pass_15 rfl hl (by decide) rfl (fun ls hl => ?_)
  refine lv_iconst (v := nI 2) hx hb dL_pass_16 (by decide) ?_
  have hP : va_P D vwCl (zC ty g ad) H := zC_kept hP (fun k hk h => ho _ h)
  have hO : va_at D vwCl (ob, eL tl f) H := hO.kept (ho ob hO.lt)
  exact W.iret (v := nI 2) hx hb hr (fun t ht hW => ⟨⟨_, (g, f), rfl, ⟨rfl, rfl, fun z => nomatch z⟩, by rw [ht]; exact hP, by rw [ht]; exact hO⟩, hS.F ht⟩) hS.2.2 dL_pass_17
set_option maxHeartbeats 1000000 in
set_option maxRecDepth 100000 in
theorem l_many_ok (l : Launch) (D : va_G) (ty : Nat → ClassId) (tl : ClassId) (g g2 : Nat → Nat → Int32) (ad : Nat → Nat) (ob : Nat) (f : Nat → Int64) (sz : Nat) (hob : ∀ k, k < 39 → ad k ≠ ob) (rm : Room) (hrc : rm.cells = 0) (hrs : rm.slots = 0) (hrf : rm.frames ≤ 9) (hrl : rm.locals ≤ 180) (x0 : Int32) (a : Int32) (hM : Met l yX5_many wsX5_many rm (va_Pc [.ref (ad 0), .int x0] (fun U => zI D ty g ad U ∧ U.heap.size = sz)) (va_Qi (fun (v9 : Int32) (gz : Nat → Nat → Int32) => v9 = a ∧ gz = g2) (fun gz t => zI D ty gz ad t) (AC ad sz)) 0 0 (AC ad sz)) : Met l yL_many wsL_many ({ frames := 10, cells := 1, slots := 6, locals := 230 }) (va_Pc [.ref (ad 0), .int x0, .ref ob] (wX D ty tl g ad ob f sz)) (wQ D ty tl ad ob sz 0 a.toInt64 g2) 1 6 (WC ad ob sz) := by
  refine zMetH (cc := cL_many) (maxL := 4) (ret := (some .int)) (hh := [(0, 9, 12, 13)]) (by decide) rfl (Nat.le_of_ble_eq_true rfl) ?_
  intro p e s m below meth c hx hb hr hts hown hlocks hml htab hB ls hl
  obtain ⟨⟨⟨hP, hK, hN⟩, hQ, hT⟩, hNc, hKl, hO, hsz⟩ := hB
  have hS : va_S (WC ad ob sz) s.heap s.heap [] := va_S.rf
  have hl : lv_has ls 4 [(0, .ref (ad 0)), (1, .int x0), (2, .ref ob)] := hl
  refine lv_aload_n hx hb dL_many_0 rfl (lv_at hl 2 rfl) ?_
  refine lv_iconst (v := nI 0) hx hb dL_many_1 (by decide) ?_
  refine lv_aload_n hx hb dL_many_2 rfl (lv_at hl 0 rfl) ?_
  refine lv_iload_n hx hb dL_many_3 rfl (lv_at hl 1 rfl) ?_
  refine va_calli (va_runV (As := [.int x0]) (rest := [.int (nI 0), .ref ob]) ⟨hx, hb, hml, hown, hts⟩ hM (cwV 1 hts gL_many_X5_many rfl hrc hrs (by decide +kernel) ⟨by show _ ≤ 10; omega, by show _ ≤ 230; omega⟩) ⟨zBl zW_blind, va_recv hK hP (ci := 6) (q0 := 0) rfl rfl, fun U h1 h2 => ⟨rfl, zI_pre hP hK hN U h1 h2, by rw [h1]; exact hsz⟩⟩ rfl rfl hl.1 rfl (lv_room (Nat.le_of_ble_eq_true rfl)) dL_many_4 ⟨Nat.le_of_ble_eq_true rfl, Nat.le_of_ble_eq_true rfl⟩) hS (fun _ _ h => Or.inl h) (fun _ h => Or.inl h) (fun r gz t H locs ht hvm hw hB hz1 hk1 hS => ?_)
  obtain ⟨rfl, rfl⟩ := hw
  have hP : va_P D vwCl (zC ty gz ad) H := by rw [← ht]; exact hB.1
  have hO : va_at D vwCl (ob, eL tl f) H := hO.kept (hk1 ob hO.lt (fun z => by rcases z with ⟨k, hk, z⟩ | z; (exact hob k hk z.symm); (have := hO.lt; have h9 : ob < s.heap.size := this; omega)))
  refine lv_i2l hx hb dL_many_7 rfl ?_
  refine zlast hx hb hKl hO hS (Or.inr rfl) dL_many_8 (fun H1 locs hO hS ho => ?_)
  have hP : va_P D vwCl (zC ty gz ad) H1 := zC_kept hP (fun k hk _ => ho _ (hob k hk))
  refine lv_goto (tgt := 15) hx hb dL_many_9 (by decide) ?_
  refine lv_iconst (v := nI 0) hx hb dL_many_15 (by decide) ?_
  refine W.widen (k := 1) (n := 6) (by omega) (by omega) ?_
  exact W.iret (v := nI 0) hx hb hr (fun t ht hW => ⟨⟨_, (gz, vp_updL f 0 (r.toInt64)), rfl, ⟨rfl, rfl, fun _ => (show vp_updL f 0 (r.toInt64) 0 = _ by unfold vp_updL; rw [if_pos rfl])⟩, by rw [ht]; exact hP, by rw [ht]; exact hO⟩, hS.F ht⟩) hS.2.2 dL_many_16
set_option maxHeartbeats 1000000 in
set_option maxRecDepth 100000 in
theorem l_many_x1 (l : Launch) (D : va_G) (ty : Nat → ClassId) (tl : ClassId) (g : Nat → Nat → Int32) (ad : Nat → Nat) (ob : Nat) (f : Nat → Int64) (sz : Nat) (hob : ∀ k, k < 39 → ad k ≠ ob) (rm : Room) (hrc : rm.cells = 1) (hrs : rm.slots = 6) (hrf : rm.frames ≤ 9) (hrl : rm.locals ≤ 180) (x0 : Int32) (a : Int64) (hM : vx_Met l yX5_many wsX5_many rm (va_Pc [.ref (ad 0), .int x0] (zX D ty g ad)) zno (zXC "java/lang/IllegalArgumentException") 1 6 (fun _ => False)) : Met l yL_many wsL_many ({ frames := 10, cells := 1, slots := 6, locals := 230 }) (va_Pc [.ref (ad 0), .int x0, .ref ob] (wX D ty tl g ad ob f sz)) (wQ D ty tl ad ob sz 1 a g) 1 6 (WC ad ob sz) := by
  refine zMetH (cc := cL_many) (maxL := 4) (ret := (some .int)) (hh := [(0, 9, 12, 13)]) (by decide) rfl (Nat.le_of_ble_eq_true rfl) ?_
  intro p e s m below meth c hx hb hr hts hown hlocks hml htab hB ls hl
  obtain ⟨⟨⟨hP, hK, hN⟩, hQ, hT⟩, hNc, hKl, hO, hsz⟩ := hB
  have hS : va_S (WC ad ob sz) s.heap s.heap [] := va_S.rf
  have hl : lv_has ls 4 [(0, .ref (ad 0)), (1, .int x0), (2, .ref ob)] := hl
  refine lv_aload_n hx hb dL_many_0 rfl (lv_at hl 2 rfl) ?_
  refine lv_iconst (v := nI 0) hx hb dL_many_1 (by decide) ?_
  refine lv_aload_n hx hb dL_many_2 rfl (lv_at hl 0 rfl) ?_
  refine lv_iload_n hx hb dL_many_3 rfl (lv_at hl 1 rfl) ?_
  refine zxcall (vx_runV (As := [.int x0]) (rest := [.int (nI 0), .ref ob]) ⟨hx, hb, hml, hown, hts⟩ hM (cwV 1 hts gL_many_X5_many rfl hrc hrs (by decide +kernel) ⟨by show _ ≤ 10; omega, by show _ ≤ 230; omega⟩) ⟨zBl zX_blind, va_recv hK hP (ci := 6) (q0 := 0) rfl rfl, fun U h1 h2 => ⟨rfl, zX_pre hP hK hN hQ hT U h1 h2⟩⟩ rfl rfl hl.1 rfl (lv_room (Nat.le_of_ble_eq_true rfl)) dL_many_4 ⟨Nat.le_of_ble_eq_true rfl, Nat.le_of_ble_eq_true rfl⟩) hS (fun ce q9 H locs hz ho hS hc1 hc2 hc3 => ?_)
  refine vx_catch (name := "java/lang/IllegalArgumentException") hown [] ⟨0, 9, 12, 13⟩ [] (htab.trans rfl) (fun z h => nomatch h) (by decide) (by decide) (hts (.classLink RL 13 "java/lang/IllegalArgumentException") (by decide +kernel)) (zN.use hN (List.mem_of_getElem? (i := 29) rfl)) hc1 hc2 hc3 ?_
  refine lv_astore_n (lv' := [(3, .ref q9), (0, .ref (ad 0)), (1, .int x0), (2, .ref ob)]) hx hb dL_many_12 rfl hl (by decide) rfl (fun ls hl => ?_)
  refine lv_iconst (v := nI 1) hx hb dL_many_13 (by decide) ?_
  have hP : va_P D vwCl (zC ty g ad) H := zC_kept hP (fun k hk h => ho _ h)
  have hO : va_at D vwCl (ob, eL tl f) H := hO.kept (ho ob hO.lt)
  exact W.iret (v := nI 1) hx hb hr (fun t ht hW => ⟨⟨_, (g, f), rfl, ⟨rfl, rfl, fun z => nomatch z⟩, by rw [ht]; exact hP, by rw [ht]; exact hO⟩, hS.F ht⟩) hS.2.2 dL_many_14
set_option maxHeartbeats 1000000 in
set_option maxRecDepth 100000 in
theorem l_quote_ok (l : Launch) (D : va_G) (ty : Nat → ClassId) (tl : ClassId) (g g2 : Nat → Nat → Int32) (ad : Nat → Nat) (ob : Nat) (f : Nat → Int64) (sz : Nat) (hob : ∀ k, k < 39 → ad k ≠ ob) (rm : Room) (hrc : rm.cells = 0) (hrs : rm.slots = 0) (hrf : rm.frames ≤ 9) (hrl : rm.locals ≤ 180) (x0 x1 x2 x3 : Int32) (a : Int32) (hM : Met l yX5_quote wsX5_quote rm (va_Pc [.ref (ad 0), .int x0, .int x1, .int x2, .int x3] (fun U => zI D ty g ad U ∧ U.heap.size = sz)) (va_Qi (fun (v9 : Int32) (gz : Nat → Nat → Int32) => v9 = a ∧ gz = g2) (fun gz t => zI D ty gz ad t) (AC ad sz)) 0 0 (AC ad sz)) : Met l yL_quote wsL_quote ({ frames := 10, cells := 1, slots := 6, locals := 230 }) (va_Pc [.ref (ad 0), .int x0, .int x1, .int x2, .int x3, .ref ob] (wX D ty tl g ad ob f sz)) (wQ D ty tl ad ob sz 0 a.toInt64 g2) 1 6 (WC ad ob sz) := by
  refine zMetH (cc := cL_quote) (maxL := 7) (ret := (some .int)) (hh := [(0, 14, 17, 21), (0, 14, 21, 13)]) (by decide) rfl (Nat.le_of_ble_eq_true rfl) ?_
  intro p e s m below meth c hx hb hr hts hown hlocks hml htab hB ls hl
  obtain ⟨⟨⟨hP, hK, hN⟩, hQ, hT⟩, hNc, hKl, hO, hsz⟩ := hB
  have hS : va_S (WC ad ob sz) s.heap s.heap [] := va_S.rf
  have hl : lv_has ls 7 [(0, .ref (ad 0)), (1, .int x0), (2, .int x1), (3, .int x2), (4, .int x3), (5, .ref ob)] := hl
  refine lv_aload hx hb dL_quote_0 (lv_at hl 5 rfl) ?_
  refine lv_iconst (v := nI 0) hx hb dL_quote_2 (by decide) ?_
  refine lv_aload_n hx hb dL_quote_3 rfl (lv_at hl 0 rfl) ?_
  refine lv_iload_n hx hb dL_quote_4 rfl (lv_at hl 1 rfl) ?_
  refine lv_iload_n hx hb dL_quote_5 rfl (lv_at hl 2 rfl) ?_
  refine lv_iload_n hx hb dL_quote_6 rfl (lv_at hl 3 rfl) ?_
  refine lv_iload hx hb dL_quote_7 (lv_at hl 4 rfl) ?_
  refine va_calli (va_runV (As := [.int x0, .int x1, .int x2, .int x3]) (rest := [.int (nI 0), .ref ob]) ⟨hx, hb, hml, hown, hts⟩ hM (cwV 4 hts gL_quote_X5_quote rfl hrc hrs (by decide +kernel) ⟨by show _ ≤ 10; omega, by show _ ≤ 230; omega⟩) ⟨zBl zW_blind, va_recv hK hP (ci := 6) (q0 := 0) rfl rfl, fun U h1 h2 => ⟨rfl, zI_pre hP hK hN U h1 h2, by rw [h1]; exact hsz⟩⟩ rfl rfl hl.1 rfl (lv_room (Nat.le_of_ble_eq_true rfl)) dL_quote_9 ⟨Nat.le_of_ble_eq_true rfl, Nat.le_of_ble_eq_true rfl⟩) hS (fun _ _ h => Or.inl h) (fun _ h => Or.inl h) (fun r gz t H locs ht hvm hw hB hz1 hk1 hS => ?_)
  obtain ⟨rfl, rfl⟩ := hw
  have hP : va_P D vwCl (zC ty gz ad) H := by rw [← ht]; exact hB.1
  have hO : va_at D vwCl (ob, eL tl f) H := hO.kept (hk1 ob hO.lt (fun z => by rcases z with ⟨k, hk, z⟩ | z; (exact hob k hk z.symm); (have := hO.lt; have h9 : ob < s.heap.size := this; omega)))
  refine lv_i2l hx hb dL_quote_12 rfl ?_
  refine zlast hx hb hKl hO hS (Or.inr rfl) dL_quote_13 (fun H1 locs hO hS ho => ?_)
  have hP : va_P D vwCl (zC ty gz ad) H1 := zC_kept hP (fun k hk _ => ho _ (hob k hk))
  refine lv_goto (tgt := 25) hx hb dL_quote_14 (by decide) ?_
  refine lv_iconst (v := nI 0) hx hb dL_quote_25 (by decide) ?_
  refine W.widen (k := 1) (n := 6) (by omega) (by omega) ?_
  exact W.iret (v := nI 0) hx hb hr (fun t ht hW => ⟨⟨_, (gz, vp_updL f 0 (r.toInt64)), rfl, ⟨rfl, rfl, fun _ => (show vp_updL f 0 (r.toInt64) 0 = _ by unfold vp_updL; rw [if_pos rfl])⟩, by rw [ht]; exact hP, by rw [ht]; exact hO⟩, hS.F ht⟩) hS.2.2 dL_quote_26
set_option maxHeartbeats 1000000 in
set_option maxRecDepth 100000 in
theorem l_quote_x1 (l : Launch) (D : va_G) (ty : Nat → ClassId) (tl : ClassId) (g : Nat → Nat → Int32) (ad : Nat → Nat) (ob : Nat) (f : Nat → Int64) (sz : Nat) (hob : ∀ k, k < 39 → ad k ≠ ob) (rm : Room) (hrc : rm.cells = 1) (hrs : rm.slots = 6) (hrf : rm.frames ≤ 9) (hrl : rm.locals ≤ 180) (x0 x1 x2 x3 : Int32) (a : Int64) (hM : vx_Met l yX5_quote wsX5_quote rm (va_Pc [.ref (ad 0), .int x0, .int x1, .int x2, .int x3] (zX D ty g ad)) zno (zXC "java/lang/IndexOutOfBoundsException") 1 6 (fun _ => False)) : Met l yL_quote wsL_quote ({ frames := 10, cells := 1, slots := 6, locals := 230 }) (va_Pc [.ref (ad 0), .int x0, .int x1, .int x2, .int x3, .ref ob] (wX D ty tl g ad ob f sz)) (wQ D ty tl ad ob sz 1 a g) 1 6 (WC ad ob sz) := by
  refine zMetH (cc := cL_quote) (maxL := 7) (ret := (some .int)) (hh := [(0, 14, 17, 21), (0, 14, 21, 13)]) (by decide) rfl (Nat.le_of_ble_eq_true rfl) ?_
  intro p e s m below meth c hx hb hr hts hown hlocks hml htab hB ls hl
  obtain ⟨⟨⟨hP, hK, hN⟩, hQ, hT⟩, hNc, hKl, hO, hsz⟩ := hB
  have hS : va_S (WC ad ob sz) s.heap s.heap [] := va_S.rf
  have hl : lv_has ls 7 [(0, .ref (ad 0)), (1, .int x0), (2, .int x1), (3, .int x2), (4, .int x3), (5, .ref ob)] := hl
  refine lv_aload hx hb dL_quote_0 (lv_at hl 5 rfl) ?_
  refine lv_iconst (v := nI 0) hx hb dL_quote_2 (by decide) ?_
  refine lv_aload_n hx hb dL_quote_3 rfl (lv_at hl 0 rfl) ?_
  refine lv_iload_n hx hb dL_quote_4 rfl (lv_at hl 1 rfl) ?_
  refine lv_iload_n hx hb dL_quote_5 rfl (lv_at hl 2 rfl) ?_
  refine lv_iload_n hx hb dL_quote_6 rfl (lv_at hl 3 rfl) ?_
  refine lv_iload hx hb dL_quote_7 (lv_at hl 4 rfl) ?_
  refine zxcall (vx_runV (As := [.int x0, .int x1, .int x2, .int x3]) (rest := [.int (nI 0), .ref ob]) ⟨hx, hb, hml, hown, hts⟩ hM (cwV 4 hts gL_quote_X5_quote rfl hrc hrs (by decide +kernel) ⟨by show _ ≤ 10; omega, by show _ ≤ 230; omega⟩) ⟨zBl zX_blind, va_recv hK hP (ci := 6) (q0 := 0) rfl rfl, fun U h1 h2 => ⟨rfl, zX_pre hP hK hN hQ hT U h1 h2⟩⟩ rfl rfl hl.1 rfl (lv_room (Nat.le_of_ble_eq_true rfl)) dL_quote_9 ⟨Nat.le_of_ble_eq_true rfl, Nat.le_of_ble_eq_true rfl⟩) hS (fun ce q9 H locs hz ho hS hc1 hc2 hc3 => ?_)
  refine vx_catch (name := "java/lang/IndexOutOfBoundsException") hown [] ⟨0, 14, 17, 21⟩ [⟨0, 14, 21, 13⟩] (htab.trans rfl) (fun z h => nomatch h) (by decide) (by decide) (hts (.classLink RL 21 "java/lang/IndexOutOfBoundsException") (by decide +kernel)) (zN.use hN (List.mem_of_getElem? (i := 36) rfl)) hc1 hc2 hc3 ?_
  refine lv_astore (lv' := [(6, .ref q9), (0, .ref (ad 0)), (1, .int x0), (2, .int x1), (3, .int x2), (4, .int x3), (5, .ref ob)]) hx hb dL_quote_17 hl (by decide) rfl (fun ls hl => ?_)
  refine lv_iconst (v := nI 1) hx hb dL_quote_19 (by decide) ?_
  have hP : va_P D vwCl (zC ty g ad) H := zC_kept hP (fun k hk h => ho _ h)
  have hO : va_at D vwCl (ob, eL tl f) H := hO.kept (ho ob hO.lt)
  exact W.iret (v := nI 1) hx hb hr (fun t ht hW => ⟨⟨_, (g, f), rfl, ⟨rfl, rfl, fun z => nomatch z⟩, by rw [ht]; exact hP, by rw [ht]; exact hO⟩, hS.F ht⟩) hS.2.2 dL_quote_20
set_option maxHeartbeats 1000000 in
set_option maxRecDepth 100000 in
theorem l_quote_x2 (l : Launch) (D : va_G) (ty : Nat → ClassId) (tl : ClassId) (g : Nat → Nat → Int32) (ad : Nat → Nat) (ob : Nat) (f : Nat → Int64) (sz : Nat) (hob : ∀ k, k < 39 → ad k ≠ ob) (rm : Room) (hrc : rm.cells = 1) (hrs : rm.slots = 6) (hrf : rm.frames ≤ 9) (hrl : rm.locals ≤ 180) (x0 x1 x2 x3 : Int32) (a : Int64) (hM : vx_Met l yX5_quote wsX5_quote rm (va_Pc [.ref (ad 0), .int x0, .int x1, .int x2, .int x3] (zX D ty g ad)) zno (zXC "java/lang/IllegalArgumentException") 1 6 (fun _ => False)) : Met l yL_quote wsL_quote ({ frames := 10, cells := 1, slots := 6, locals := 230 }) (va_Pc [.ref (ad 0), .int x0, .int x1, .int x2, .int x3, .ref ob] (wX D ty tl g ad ob f sz)) (wQ D ty tl ad ob sz 2 a g) 1 6 (WC ad ob sz) := by
  refine zMetH (cc := cL_quote) (maxL := 7) (ret := (some .int)) (hh := [(0, 14, 17, 21), (0, 14, 21, 13)]) (by decide) rfl (Nat.le_of_ble_eq_true rfl) ?_
  intro p e s m below meth c hx hb hr hts hown hlocks hml htab hB ls hl
  obtain ⟨⟨⟨hP, hK, hN⟩, hQ, hT⟩, hNc, hKl, hO, hsz⟩ := hB
  have hS : va_S (WC ad ob sz) s.heap s.heap [] := va_S.rf
  have hl : lv_has ls 7 [(0, .ref (ad 0)), (1, .int x0), (2, .int x1), (3, .int x2), (4, .int x3), (5, .ref ob)] := hl
  refine lv_aload hx hb dL_quote_0 (lv_at hl 5 rfl) ?_
  refine lv_iconst (v := nI 0) hx hb dL_quote_2 (by decide) ?_
  refine lv_aload_n hx hb dL_quote_3 rfl (lv_at hl 0 rfl) ?_
  refine lv_iload_n hx hb dL_quote_4 rfl (lv_at hl 1 rfl) ?_
  refine lv_iload_n hx hb dL_quote_5 rfl (lv_at hl 2 rfl) ?_
  refine lv_iload_n hx hb dL_quote_6 rfl (lv_at hl 3 rfl) ?_
  refine lv_iload hx hb dL_quote_7 (lv_at hl 4 rfl) ?_
  refine zxcall (vx_runV (As := [.int x0, .int x1, .int x2, .int x3]) (rest := [.int (nI 0), .ref ob]) ⟨hx, hb, hml, hown, hts⟩ hM (cwV 4 hts gL_quote_X5_quote rfl hrc hrs (by decide +kernel) ⟨by show _ ≤ 10; omega, by show _ ≤ 230; omega⟩) ⟨zBl zX_blind, va_recv hK hP (ci := 6) (q0 := 0) rfl rfl, fun U h1 h2 => ⟨rfl, zX_pre hP hK hN hQ hT U h1 h2⟩⟩ rfl rfl hl.1 rfl (lv_room (Nat.le_of_ble_eq_true rfl)) dL_quote_9 ⟨Nat.le_of_ble_eq_true rfl, Nat.le_of_ble_eq_true rfl⟩) hS (fun ce q9 H locs hz ho hS hc1 hc2 hc3 => ?_)
  refine vx_catch (name := "java/lang/IllegalArgumentException") hown [⟨0, 14, 17, 21⟩] ⟨0, 14, 21, 13⟩ [] (htab.trans rfl) (List.forall_mem_cons.mpr ⟨Or.inr ⟨by decide, "java/lang/IndexOutOfBoundsException", (hts (.classLink RL 21 "java/lang/IndexOutOfBoundsException") (by decide +kernel)), hNc.1⟩, fun z h => nomatch h⟩) (by decide) (by decide) (hts (.classLink RL 13 "java/lang/IllegalArgumentException") (by decide +kernel)) (zN.use hN (List.mem_of_getElem? (i := 29) rfl)) hc1 hc2 hc3 ?_
  refine lv_astore (lv' := [(6, .ref q9), (0, .ref (ad 0)), (1, .int x0), (2, .int x1), (3, .int x2), (4, .int x3), (5, .ref ob)]) hx hb dL_quote_21 hl (by decide) rfl (fun ls hl => ?_)
  refine lv_iconst (v := nI 2) hx hb dL_quote_23 (by decide) ?_
  have hP : va_P D vwCl (zC ty g ad) H := zC_kept hP (fun k hk h => ho _ h)
  have hO : va_at D vwCl (ob, eL tl f) H := hO.kept (ho ob hO.lt)
  exact W.iret (v := nI 2) hx hb hr (fun t ht hW => ⟨⟨_, (g, f), rfl, ⟨rfl, rfl, fun z => nomatch z⟩, by rw [ht]; exact hP, by rw [ht]; exact hO⟩, hS.F ht⟩) hS.2.2 dL_quote_24
set_option maxHeartbeats 1000000 in
set_option maxRecDepth 100000 in
theorem l_creditBy_ok (l : Launch) (D : va_G) (ty : Nat → ClassId) (tl : ClassId) (g g2 : Nat → Nat → Int32) (ad : Nat → Nat) (ob : Nat) (f : Nat → Int64) (sz : Nat) (hob : ∀ k, k < 39 → ad k ≠ ob) (rm : Room) (hrc : rm.cells = 0) (hrs : rm.slots = 0) (hrf : rm.frames ≤ 9) (hrl : rm.locals ≤ 180) (x0 x1 x2 x3 : Int32) (a : Int32) (hM : Met l yX5_creditBy wsX5_creditBy rm (va_Pc [.ref (ad 0), .int x0, .int x1, .int x2, .int x3] (fun U => zI D ty g ad U ∧ U.heap.size = sz)) (va_Qi (fun (v9 : Int32) (gz : Nat → Nat → Int32) => v9 = a ∧ gz = g2) (fun gz t => zI D ty gz ad t) (AC ad sz)) 0 0 (AC ad sz)) : Met l yL_creditBy wsL_creditBy ({ frames := 10, cells := 1, slots := 6, locals := 230 }) (va_Pc [.ref (ad 0), .int x0, .int x1, .int x2, .int x3, .ref ob] (wX D ty tl g ad ob f sz)) (wQ D ty tl ad ob sz 0 a.toInt64 g2) 1 6 (WC ad ob sz) := by
  refine zMetH (cc := cL_creditBy) (maxL := 7) (ret := (some .int)) (hh := [(0, 14, 17, 21), (0, 14, 21, 13)]) (by decide) rfl (Nat.le_of_ble_eq_true rfl) ?_
  intro p e s m below meth c hx hb hr hts hown hlocks hml htab hB ls hl
  obtain ⟨⟨⟨hP, hK, hN⟩, hQ, hT⟩, hNc, hKl, hO, hsz⟩ := hB
  have hS : va_S (WC ad ob sz) s.heap s.heap [] := va_S.rf
  have hl : lv_has ls 7 [(0, .ref (ad 0)), (1, .int x0), (2, .int x1), (3, .int x2), (4, .int x3), (5, .ref ob)] := hl
  refine lv_aload hx hb dL_creditBy_0 (lv_at hl 5 rfl) ?_
  refine lv_iconst (v := nI 0) hx hb dL_creditBy_2 (by decide) ?_
  refine lv_aload_n hx hb dL_creditBy_3 rfl (lv_at hl 0 rfl) ?_
  refine lv_iload_n hx hb dL_creditBy_4 rfl (lv_at hl 1 rfl) ?_
  refine lv_iload_n hx hb dL_creditBy_5 rfl (lv_at hl 2 rfl) ?_
  refine lv_iload_n hx hb dL_creditBy_6 rfl (lv_at hl 3 rfl) ?_
  refine lv_iload hx hb dL_creditBy_7 (lv_at hl 4 rfl) ?_
  refine va_calli (va_runV (As := [.int x0, .int x1, .int x2, .int x3]) (rest := [.int (nI 0), .ref ob]) ⟨hx, hb, hml, hown, hts⟩ hM (cwV 4 hts gL_creditBy_X5_creditBy rfl hrc hrs (by decide +kernel) ⟨by show _ ≤ 10; omega, by show _ ≤ 230; omega⟩) ⟨zBl zW_blind, va_recv hK hP (ci := 6) (q0 := 0) rfl rfl, fun U h1 h2 => ⟨rfl, zI_pre hP hK hN U h1 h2, by rw [h1]; exact hsz⟩⟩ rfl rfl hl.1 rfl (lv_room (Nat.le_of_ble_eq_true rfl)) dL_creditBy_9 ⟨Nat.le_of_ble_eq_true rfl, Nat.le_of_ble_eq_true rfl⟩) hS (fun _ _ h => Or.inl h) (fun _ h => Or.inl h) (fun r gz t H locs ht hvm hw hB hz1 hk1 hS => ?_)
  obtain ⟨rfl, rfl⟩ := hw
  have hP : va_P D vwCl (zC ty gz ad) H := by rw [← ht]; exact hB.1
  have hO : va_at D vwCl (ob, eL tl f) H := hO.kept (hk1 ob hO.lt (fun z => by rcases z with ⟨k, hk, z⟩ | z; (exact hob k hk z.symm); (have := hO.lt; have h9 : ob < s.heap.size := this; omega)))
  refine lv_i2l hx hb dL_creditBy_12 rfl ?_
  refine zlast hx hb hKl hO hS (Or.inr rfl) dL_creditBy_13 (fun H1 locs hO hS ho => ?_)
  have hP : va_P D vwCl (zC ty gz ad) H1 := zC_kept hP (fun k hk _ => ho _ (hob k hk))
  refine lv_goto (tgt := 25) hx hb dL_creditBy_14 (by decide) ?_
  refine lv_iconst (v := nI 0) hx hb dL_creditBy_25 (by decide) ?_
  refine W.widen (k := 1) (n := 6) (by omega) (by omega) ?_
  exact W.iret (v := nI 0) hx hb hr (fun t ht hW => ⟨⟨_, (gz, vp_updL f 0 (r.toInt64)), rfl, ⟨rfl, rfl, fun _ => (show vp_updL f 0 (r.toInt64) 0 = _ by unfold vp_updL; rw [if_pos rfl])⟩, by rw [ht]; exact hP, by rw [ht]; exact hO⟩, hS.F ht⟩) hS.2.2 dL_creditBy_26
set_option maxHeartbeats 1000000 in
set_option maxRecDepth 100000 in
theorem l_creditBy_x1 (l : Launch) (D : va_G) (ty : Nat → ClassId) (tl : ClassId) (g : Nat → Nat → Int32) (ad : Nat → Nat) (ob : Nat) (f : Nat → Int64) (sz : Nat) (hob : ∀ k, k < 39 → ad k ≠ ob) (rm : Room) (hrc : rm.cells = 1) (hrs : rm.slots = 6) (hrf : rm.frames ≤ 9) (hrl : rm.locals ≤ 180) (x0 x1 x2 x3 : Int32) (a : Int64) (hM : vx_Met l yX5_creditBy wsX5_creditBy rm (va_Pc [.ref (ad 0), .int x0, .int x1, .int x2, .int x3] (zX D ty g ad)) zno (zXC "java/lang/IndexOutOfBoundsException") 1 6 (fun _ => False)) : Met l yL_creditBy wsL_creditBy ({ frames := 10, cells := 1, slots := 6, locals := 230 }) (va_Pc [.ref (ad 0), .int x0, .int x1, .int x2, .int x3, .ref ob] (wX D ty tl g ad ob f sz)) (wQ D ty tl ad ob sz 1 a g) 1 6 (WC ad ob sz) := by
  refine zMetH (cc := cL_creditBy) (maxL := 7) (ret := (some .int)) (hh := [(0, 14, 17, 21), (0, 14, 21, 13)]) (by decide) rfl (Nat.le_of_ble_eq_true rfl) ?_
  intro p e s m below meth c hx hb hr hts hown hlocks hml htab hB ls hl
  obtain ⟨⟨⟨hP, hK, hN⟩, hQ, hT⟩, hNc, hKl, hO, hsz⟩ := hB
  have hS : va_S (WC ad ob sz) s.heap s.heap [] := va_S.rf
  have hl : lv_has ls 7 [(0, .ref (ad 0)), (1, .int x0), (2, .int x1), (3, .int x2), (4, .int x3), (5, .ref ob)] := hl
  refine lv_aload hx hb dL_creditBy_0 (lv_at hl 5 rfl) ?_
  refine lv_iconst (v := nI 0) hx hb dL_creditBy_2 (by decide) ?_
  refine lv_aload_n hx hb dL_creditBy_3 rfl (lv_at hl 0 rfl) ?_
  refine lv_iload_n hx hb dL_creditBy_4 rfl (lv_at hl 1 rfl) ?_
  refine lv_iload_n hx hb dL_creditBy_5 rfl (lv_at hl 2 rfl) ?_
  refine lv_iload_n hx hb dL_creditBy_6 rfl (lv_at hl 3 rfl) ?_
  refine lv_iload hx hb dL_creditBy_7 (lv_at hl 4 rfl) ?_
  refine zxcall (vx_runV (As := [.int x0, .int x1, .int x2, .int x3]) (rest := [.int (nI 0), .ref ob]) ⟨hx, hb, hml, hown, hts⟩ hM (cwV 4 hts gL_creditBy_X5_creditBy rfl hrc hrs (by decide +kernel) ⟨by show _ ≤ 10; omega, by show _ ≤ 230; omega⟩) ⟨zBl zX_blind, va_recv hK hP (ci := 6) (q0 := 0) rfl rfl, fun U h1 h2 => ⟨rfl, zX_pre hP hK hN hQ hT U h1 h2⟩⟩ rfl rfl hl.1 rfl (lv_room (Nat.le_of_ble_eq_true rfl)) dL_creditBy_9 ⟨Nat.le_of_ble_eq_true rfl, Nat.le_of_ble_eq_true rfl⟩) hS (fun ce q9 H locs hz ho hS hc1 hc2 hc3 => ?_)
  refine vx_catch (name := "java/lang/IndexOutOfBoundsException") hown [] ⟨0, 14, 17, 21⟩ [⟨0, 14, 21, 13⟩] (htab.trans rfl) (fun z h => nomatch h) (by decide) (by decide) (hts (.classLink RL 21 "java/lang/IndexOutOfBoundsException") (by decide +kernel)) (zN.use hN (List.mem_of_getElem? (i := 36) rfl)) hc1 hc2 hc3 ?_
  refine lv_astore (lv' := [(6, .ref q9), (0, .ref (ad 0)), (1, .int x0), (2, .int x1), (3, .int x2), (4, .int x3), (5, .ref ob)]) hx hb dL_creditBy_17 hl (by decide) rfl (fun ls hl => ?_)
  refine lv_iconst (v := nI 1) hx hb dL_creditBy_19 (by decide) ?_
  have hP : va_P D vwCl (zC ty g ad) H := zC_kept hP (fun k hk h => ho _ h)
  have hO : va_at D vwCl (ob, eL tl f) H := hO.kept (ho ob hO.lt)
  exact W.iret (v := nI 1) hx hb hr (fun t ht hW => ⟨⟨_, (g, f), rfl, ⟨rfl, rfl, fun z => nomatch z⟩, by rw [ht]; exact hP, by rw [ht]; exact hO⟩, hS.F ht⟩) hS.2.2 dL_creditBy_20
set_option maxHeartbeats 1000000 in
set_option maxRecDepth 100000 in
theorem l_creditBy_x2 (l : Launch) (D : va_G) (ty : Nat → ClassId) (tl : ClassId) (g : Nat → Nat → Int32) (ad : Nat → Nat) (ob : Nat) (f : Nat → Int64) (sz : Nat) (hob : ∀ k, k < 39 → ad k ≠ ob) (rm : Room) (hrc : rm.cells = 1) (hrs : rm.slots = 6) (hrf : rm.frames ≤ 9) (hrl : rm.locals ≤ 180) (x0 x1 x2 x3 : Int32) (a : Int64) (hM : vx_Met l yX5_creditBy wsX5_creditBy rm (va_Pc [.ref (ad 0), .int x0, .int x1, .int x2, .int x3] (zX D ty g ad)) zno (zXC "java/lang/IllegalArgumentException") 1 6 (fun _ => False)) : Met l yL_creditBy wsL_creditBy ({ frames := 10, cells := 1, slots := 6, locals := 230 }) (va_Pc [.ref (ad 0), .int x0, .int x1, .int x2, .int x3, .ref ob] (wX D ty tl g ad ob f sz)) (wQ D ty tl ad ob sz 2 a g) 1 6 (WC ad ob sz) := by
  refine zMetH (cc := cL_creditBy) (maxL := 7) (ret := (some .int)) (hh := [(0, 14, 17, 21), (0, 14, 21, 13)]) (by decide) rfl (Nat.le_of_ble_eq_true rfl) ?_
  intro p e s m below meth c hx hb hr hts hown hlocks hml htab hB ls hl
  obtain ⟨⟨⟨hP, hK, hN⟩, hQ, hT⟩, hNc, hKl, hO, hsz⟩ := hB
  have hS : va_S (WC ad ob sz) s.heap s.heap [] := va_S.rf
  have hl : lv_has ls 7 [(0, .ref (ad 0)), (1, .int x0), (2, .int x1), (3, .int x2), (4, .int x3), (5, .ref ob)] := hl
  refine lv_aload hx hb dL_creditBy_0 (lv_at hl 5 rfl) ?_
  refine lv_iconst (v := nI 0) hx hb dL_creditBy_2 (by decide) ?_
  refine lv_aload_n hx hb dL_creditBy_3 rfl (lv_at hl 0 rfl) ?_
  refine lv_iload_n hx hb dL_creditBy_4 rfl (lv_at hl 1 rfl) ?_
  refine lv_iload_n hx hb dL_creditBy_5 rfl (lv_at hl 2 rfl) ?_
  refine lv_iload_n hx hb dL_creditBy_6 rfl (lv_at hl 3 rfl) ?_
  refine lv_iload hx hb dL_creditBy_7 (lv_at hl 4 rfl) ?_
  refine zxcall (vx_runV (As := [.int x0, .int x1, .int x2, .int x3]) (rest := [.int (nI 0), .ref ob]) ⟨hx, hb, hml, hown, hts⟩ hM (cwV 4 hts gL_creditBy_X5_creditBy rfl hrc hrs (by decide +kernel) ⟨by show _ ≤ 10; omega, by show _ ≤ 230; omega⟩) ⟨zBl zX_blind, va_recv hK hP (ci := 6) (q0 := 0) rfl rfl, fun U h1 h2 => ⟨rfl, zX_pre hP hK hN hQ hT U h1 h2⟩⟩ rfl rfl hl.1 rfl (lv_room (Nat.le_of_ble_eq_true rfl)) dL_creditBy_9 ⟨Nat.le_of_ble_eq_true rfl, Nat.le_of_ble_eq_true rfl⟩) hS (fun ce q9 H locs hz ho hS hc1 hc2 hc3 => ?_)
  refine vx_catch (name := "java/lang/IllegalArgumentException") hown [⟨0, 14, 17, 21⟩] ⟨0, 14, 21, 13⟩ [] (htab.trans rfl) (List.forall_mem_cons.mpr ⟨Or.inr ⟨by decide, "java/lang/IndexOutOfBoundsException", (hts (.classLink RL 21 "java/lang/IndexOutOfBoundsException") (by decide +kernel)), hNc.1⟩, fun z h => nomatch h⟩) (by decide) (by decide) (hts (.classLink RL 13 "java/lang/IllegalArgumentException") (by decide +kernel)) (zN.use hN (List.mem_of_getElem? (i := 29) rfl)) hc1 hc2 hc3 ?_
  refine lv_astore (lv' := [(6, .ref q9), (0, .ref (ad 0)), (1, .int x0), (2, .int x1), (3, .int x2), (4, .int x3), (5, .ref ob)]) hx hb dL_creditBy_21 hl (by decide) rfl (fun ls hl => ?_)
  refine lv_iconst (v := nI 2) hx hb dL_creditBy_23 (by decide) ?_
  have hP : va_P D vwCl (zC ty g ad) H := zC_kept hP (fun k hk h => ho _ h)
  have hO : va_at D vwCl (ob, eL tl f) H := hO.kept (ho ob hO.lt)
  exact W.iret (v := nI 2) hx hb hr (fun t ht hW => ⟨⟨_, (g, f), rfl, ⟨rfl, rfl, fun z => nomatch z⟩, by rw [ht]; exact hP, by rw [ht]; exact hO⟩, hS.F ht⟩) hS.2.2 dL_creditBy_24
set_option maxHeartbeats 1000000 in
set_option maxRecDepth 100000 in
theorem l_previews_ok (l : Launch) (D : va_G) (ty : Nat → ClassId) (tl : ClassId) (g g2 : Nat → Nat → Int32) (ad : Nat → Nat) (ob : Nat) (f : Nat → Int64) (sz : Nat) (hob : ∀ k, k < 39 → ad k ≠ ob) (rm : Room) (hrc : rm.cells = 0) (hrs : rm.slots = 0) (hrf : rm.frames ≤ 9) (hrl : rm.locals ≤ 180) (x0 x1 : Int32) (a : Int32) (hM : Met l yX5_previews wsX5_previews rm (va_Pc [.ref (ad 0), .int x0, .int x1] (fun U => zI D ty g ad U ∧ U.heap.size = sz)) (va_Qi (fun (v9 : Int32) (gz : Nat → Nat → Int32) => v9 = a ∧ gz = g2) (fun gz t => zI D ty gz ad t) (AC ad sz)) 0 0 (AC ad sz)) : Met l yL_previews wsL_previews ({ frames := 10, cells := 1, slots := 6, locals := 230 }) (va_Pc [.ref (ad 0), .int x0, .int x1, .ref ob] (wX D ty tl g ad ob f sz)) (wQ D ty tl ad ob sz 0 a.toInt64 g2) 1 6 (WC ad ob sz) := by
  refine zMetH (cc := cL_previews) (maxL := 5) (ret := (some .int)) (hh := [(0, 10, 13, 21)]) (by decide) rfl (Nat.le_of_ble_eq_true rfl) ?_
  intro p e s m below meth c hx hb hr hts hown hlocks hml htab hB ls hl
  obtain ⟨⟨⟨hP, hK, hN⟩, hQ, hT⟩, hNc, hKl, hO, hsz⟩ := hB
  have hS : va_S (WC ad ob sz) s.heap s.heap [] := va_S.rf
  have hl : lv_has ls 5 [(0, .ref (ad 0)), (1, .int x0), (2, .int x1), (3, .ref ob)] := hl
  refine lv_aload_n hx hb dL_previews_0 rfl (lv_at hl 3 rfl) ?_
  refine lv_iconst (v := nI 0) hx hb dL_previews_1 (by decide) ?_
  refine lv_aload_n hx hb dL_previews_2 rfl (lv_at hl 0 rfl) ?_
  refine lv_iload_n hx hb dL_previews_3 rfl (lv_at hl 1 rfl) ?_
  refine lv_iload_n hx hb dL_previews_4 rfl (lv_at hl 2 rfl) ?_
  refine va_calli (va_runV (As := [.int x0, .int x1]) (rest := [.int (nI 0), .ref ob]) ⟨hx, hb, hml, hown, hts⟩ hM (cwV 2 hts gL_previews_X5_previews rfl hrc hrs (by decide +kernel) ⟨by show _ ≤ 10; omega, by show _ ≤ 230; omega⟩) ⟨zBl zW_blind, va_recv hK hP (ci := 6) (q0 := 0) rfl rfl, fun U h1 h2 => ⟨rfl, zI_pre hP hK hN U h1 h2, by rw [h1]; exact hsz⟩⟩ rfl rfl hl.1 rfl (lv_room (Nat.le_of_ble_eq_true rfl)) dL_previews_5 ⟨Nat.le_of_ble_eq_true rfl, Nat.le_of_ble_eq_true rfl⟩) hS (fun _ _ h => Or.inl h) (fun _ h => Or.inl h) (fun r gz t H locs ht hvm hw hB hz1 hk1 hS => ?_)
  obtain ⟨rfl, rfl⟩ := hw
  have hP : va_P D vwCl (zC ty gz ad) H := by rw [← ht]; exact hB.1
  have hO : va_at D vwCl (ob, eL tl f) H := hO.kept (hk1 ob hO.lt (fun z => by rcases z with ⟨k, hk, z⟩ | z; (exact hob k hk z.symm); (have := hO.lt; have h9 : ob < s.heap.size := this; omega)))
  refine lv_i2l hx hb dL_previews_8 rfl ?_
  refine zlast hx hb hKl hO hS (Or.inr rfl) dL_previews_9 (fun H1 locs hO hS ho => ?_)
  have hP : va_P D vwCl (zC ty gz ad) H1 := zC_kept hP (fun k hk _ => ho _ (hob k hk))
  refine lv_goto (tgt := 17) hx hb dL_previews_10 (by decide) ?_
  refine lv_iconst (v := nI 0) hx hb dL_previews_17 (by decide) ?_
  refine W.widen (k := 1) (n := 6) (by omega) (by omega) ?_
  exact W.iret (v := nI 0) hx hb hr (fun t ht hW => ⟨⟨_, (gz, vp_updL f 0 (r.toInt64)), rfl, ⟨rfl, rfl, fun _ => (show vp_updL f 0 (r.toInt64) 0 = _ by unfold vp_updL; rw [if_pos rfl])⟩, by rw [ht]; exact hP, by rw [ht]; exact hO⟩, hS.F ht⟩) hS.2.2 dL_previews_18
set_option maxHeartbeats 1000000 in
set_option maxRecDepth 100000 in
theorem l_previews_x1 (l : Launch) (D : va_G) (ty : Nat → ClassId) (tl : ClassId) (g : Nat → Nat → Int32) (ad : Nat → Nat) (ob : Nat) (f : Nat → Int64) (sz : Nat) (hob : ∀ k, k < 39 → ad k ≠ ob) (rm : Room) (hrc : rm.cells = 1) (hrs : rm.slots = 6) (hrf : rm.frames ≤ 9) (hrl : rm.locals ≤ 180) (x0 x1 : Int32) (a : Int64) (hM : vx_Met l yX5_previews wsX5_previews rm (va_Pc [.ref (ad 0), .int x0, .int x1] (zX D ty g ad)) zno (zXC "java/lang/IndexOutOfBoundsException") 1 6 (fun _ => False)) : Met l yL_previews wsL_previews ({ frames := 10, cells := 1, slots := 6, locals := 230 }) (va_Pc [.ref (ad 0), .int x0, .int x1, .ref ob] (wX D ty tl g ad ob f sz)) (wQ D ty tl ad ob sz 1 a g) 1 6 (WC ad ob sz) := by
  refine zMetH (cc := cL_previews) (maxL := 5) (ret := (some .int)) (hh := [(0, 10, 13, 21)]) (by decide) rfl (Nat.le_of_ble_eq_true rfl) ?_
  intro p e s m below meth c hx hb hr hts hown hlocks hml htab hB ls hl
  obtain ⟨⟨⟨hP, hK, hN⟩, hQ, hT⟩, hNc, hKl, hO, hsz⟩ := hB
  have hS : va_S (WC ad ob sz) s.heap s.heap [] := va_S.rf
  have hl : lv_has ls 5 [(0, .ref (ad 0)), (1, .int x0), (2, .int x1), (3, .ref ob)] := hl
  refine lv_aload_n hx hb dL_previews_0 rfl (lv_at hl 3 rfl) ?_
  refine lv_iconst (v := nI 0) hx hb dL_previews_1 (by decide) ?_
  refine lv_aload_n hx hb dL_previews_2 rfl (lv_at hl 0 rfl) ?_
  refine lv_iload_n hx hb dL_previews_3 rfl (lv_at hl 1 rfl) ?_
  refine lv_iload_n hx hb dL_previews_4 rfl (lv_at hl 2 rfl) ?_
  refine zxcall (vx_runV (As := [.int x0, .int x1]) (rest := [.int (nI 0), .ref ob]) ⟨hx, hb, hml, hown, hts⟩ hM (cwV 2 hts gL_previews_X5_previews rfl hrc hrs (by decide +kernel) ⟨by show _ ≤ 10; omega, by show _ ≤ 230; omega⟩) ⟨zBl zX_blind, va_recv hK hP (ci := 6) (q0 := 0) rfl rfl, fun U h1 h2 => ⟨rfl, zX_pre hP hK hN hQ hT U h1 h2⟩⟩ rfl rfl hl.1 rfl (lv_room (Nat.le_of_ble_eq_true rfl)) dL_previews_5 ⟨Nat.le_of_ble_eq_true rfl, Nat.le_of_ble_eq_true rfl⟩) hS (fun ce q9 H locs hz ho hS hc1 hc2 hc3 => ?_)
  refine vx_catch (name := "java/lang/IndexOutOfBoundsException") hown [] ⟨0, 10, 13, 21⟩ [] (htab.trans rfl) (fun z h => nomatch h) (by decide) (by decide) (hts (.classLink RL 21 "java/lang/IndexOutOfBoundsException") (by decide +kernel)) (zN.use hN (List.mem_of_getElem? (i := 36) rfl)) hc1 hc2 hc3 ?_
  refine lv_astore (lv' := [(4, .ref q9), (0, .ref (ad 0)), (1, .int x0), (2, .int x1), (3, .ref ob)]) hx hb dL_previews_13 hl (by decide) rfl (fun ls hl => ?_)
  refine lv_iconst (v := nI 1) hx hb dL_previews_15 (by decide) ?_
  have hP : va_P D vwCl (zC ty g ad) H := zC_kept hP (fun k hk h => ho _ h)
  have hO : va_at D vwCl (ob, eL tl f) H := hO.kept (ho ob hO.lt)
  exact W.iret (v := nI 1) hx hb hr (fun t ht hW => ⟨⟨_, (g, f), rfl, ⟨rfl, rfl, fun z => nomatch z⟩, by rw [ht]; exact hP, by rw [ht]; exact hO⟩, hS.F ht⟩) hS.2.2 dL_previews_16
set_option maxHeartbeats 1000000 in
set_option maxRecDepth 100000 in
theorem l_neededBy_ok (l : Launch) (D : va_G) (ty : Nat → ClassId) (tl : ClassId) (g g2 : Nat → Nat → Int32) (ad : Nat → Nat) (ob : Nat) (f : Nat → Int64) (sz : Nat) (hob : ∀ k, k < 39 → ad k ≠ ob) (rm : Room) (hrc : rm.cells = 0) (hrs : rm.slots = 0) (hrf : rm.frames ≤ 9) (hrl : rm.locals ≤ 180) (x0 : Int32) (a : Int32) (hM : Met l yX5_neededBy wsX5_neededBy rm (va_Pc [.ref (ad 0), .int x0] (fun U => zI D ty g ad U ∧ U.heap.size = sz)) (va_Qi (fun (v9 : Int32) (gz : Nat → Nat → Int32) => v9 = a ∧ gz = g2) (fun gz t => zI D ty gz ad t) (AC ad sz)) 0 0 (AC ad sz)) : Met l yL_neededBy wsL_neededBy ({ frames := 10, cells := 1, slots := 6, locals := 230 }) (va_Pc [.ref (ad 0), .int x0, .ref ob] (wX D ty tl g ad ob f sz)) (wQ D ty tl ad ob sz 0 a.toInt64 g2) 1 6 (WC ad ob sz) := by
  refine zMetH (cc := cL_neededBy) (maxL := 4) (ret := (some .int)) (hh := [(0, 9, 12, 21)]) (by decide) rfl (Nat.le_of_ble_eq_true rfl) ?_
  intro p e s m below meth c hx hb hr hts hown hlocks hml htab hB ls hl
  obtain ⟨⟨⟨hP, hK, hN⟩, hQ, hT⟩, hNc, hKl, hO, hsz⟩ := hB
  have hS : va_S (WC ad ob sz) s.heap s.heap [] := va_S.rf
  have hl : lv_has ls 4 [(0, .ref (ad 0)), (1, .int x0), (2, .ref ob)] := hl
  refine lv_aload_n hx hb dL_neededBy_0 rfl (lv_at hl 2 rfl) ?_
  refine lv_iconst (v := nI 0) hx hb dL_neededBy_1 (by decide) ?_
  refine lv_aload_n hx hb dL_neededBy_2 rfl (lv_at hl 0 rfl) ?_
  refine lv_iload_n hx hb dL_neededBy_3 rfl (lv_at hl 1 rfl) ?_
  refine va_calli (va_runV (As := [.int x0]) (rest := [.int (nI 0), .ref ob]) ⟨hx, hb, hml, hown, hts⟩ hM (cwV 1 hts gL_neededBy_X5_neededBy rfl hrc hrs (by decide +kernel) ⟨by show _ ≤ 10; omega, by show _ ≤ 230; omega⟩) ⟨zBl zW_blind, va_recv hK hP (ci := 6) (q0 := 0) rfl rfl, fun U h1 h2 => ⟨rfl, zI_pre hP hK hN U h1 h2, by rw [h1]; exact hsz⟩⟩ rfl rfl hl.1 rfl (lv_room (Nat.le_of_ble_eq_true rfl)) dL_neededBy_4 ⟨Nat.le_of_ble_eq_true rfl, Nat.le_of_ble_eq_true rfl⟩) hS (fun _ _ h => Or.inl h) (fun _ h => Or.inl h) (fun r gz t H locs ht hvm hw hB hz1 hk1 hS => ?_)
  obtain ⟨rfl, rfl⟩ := hw
  have hP : va_P D vwCl (zC ty gz ad) H := by rw [← ht]; exact hB.1
  have hO : va_at D vwCl (ob, eL tl f) H := hO.kept (hk1 ob hO.lt (fun z => by rcases z with ⟨k, hk, z⟩ | z; (exact hob k hk z.symm); (have := hO.lt; have h9 : ob < s.heap.size := this; omega)))
  refine lv_i2l hx hb dL_neededBy_7 rfl ?_
  refine zlast hx hb hKl hO hS (Or.inr rfl) dL_neededBy_8 (fun H1 locs hO hS ho => ?_)
  have hP : va_P D vwCl (zC ty gz ad) H1 := zC_kept hP (fun k hk _ => ho _ (hob k hk))
  refine lv_goto (tgt := 15) hx hb dL_neededBy_9 (by decide) ?_
  refine lv_iconst (v := nI 0) hx hb dL_neededBy_15 (by decide) ?_
  refine W.widen (k := 1) (n := 6) (by omega) (by omega) ?_
  exact W.iret (v := nI 0) hx hb hr (fun t ht hW => ⟨⟨_, (gz, vp_updL f 0 (r.toInt64)), rfl, ⟨rfl, rfl, fun _ => (show vp_updL f 0 (r.toInt64) 0 = _ by unfold vp_updL; rw [if_pos rfl])⟩, by rw [ht]; exact hP, by rw [ht]; exact hO⟩, hS.F ht⟩) hS.2.2 dL_neededBy_16
set_option maxHeartbeats 1000000 in
set_option maxRecDepth 100000 in
theorem l_neededBy_x1 (l : Launch) (D : va_G) (ty : Nat → ClassId) (tl : ClassId) (g : Nat → Nat → Int32) (ad : Nat → Nat) (ob : Nat) (f : Nat → Int64) (sz : Nat) (hob : ∀ k, k < 39 → ad k ≠ ob) (rm : Room) (hrc : rm.cells = 1) (hrs : rm.slots = 6) (hrf : rm.frames ≤ 9) (hrl : rm.locals ≤ 180) (x0 : Int32) (a : Int64) (hM : vx_Met l yX5_neededBy wsX5_neededBy rm (va_Pc [.ref (ad 0), .int x0] (zX D ty g ad)) zno (zXC "java/lang/IndexOutOfBoundsException") 1 6 (fun _ => False)) : Met l yL_neededBy wsL_neededBy ({ frames := 10, cells := 1, slots := 6, locals := 230 }) (va_Pc [.ref (ad 0), .int x0, .ref ob] (wX D ty tl g ad ob f sz)) (wQ D ty tl ad ob sz 1 a g) 1 6 (WC ad ob sz) := by
  refine zMetH (cc := cL_neededBy) (maxL := 4) (ret := (some .int)) (hh := [(0, 9, 12, 21)]) (by decide) rfl (Nat.le_of_ble_eq_true rfl) ?_
  intro p e s m below meth c hx hb hr hts hown hlocks hml htab hB ls hl
  obtain ⟨⟨⟨hP, hK, hN⟩, hQ, hT⟩, hNc, hKl, hO, hsz⟩ := hB
  have hS : va_S (WC ad ob sz) s.heap s.heap [] := va_S.rf
  have hl : lv_has ls 4 [(0, .ref (ad 0)), (1, .int x0), (2, .ref ob)] := hl
  refine lv_aload_n hx hb dL_neededBy_0 rfl (lv_at hl 2 rfl) ?_
  refine lv_iconst (v := nI 0) hx hb dL_neededBy_1 (by decide) ?_
  refine lv_aload_n hx hb dL_neededBy_2 rfl (lv_at hl 0 rfl) ?_
  refine lv_iload_n hx hb dL_neededBy_3 rfl (lv_at hl 1 rfl) ?_
  refine zxcall (vx_runV (As := [.int x0]) (rest := [.int (nI 0), .ref ob]) ⟨hx, hb, hml, hown, hts⟩ hM (cwV 1 hts gL_neededBy_X5_neededBy rfl hrc hrs (by decide +kernel) ⟨by show _ ≤ 10; omega, by show _ ≤ 230; omega⟩) ⟨zBl zX_blind, va_recv hK hP (ci := 6) (q0 := 0) rfl rfl, fun U h1 h2 => ⟨rfl, zX_pre hP hK hN hQ hT U h1 h2⟩⟩ rfl rfl hl.1 rfl (lv_room (Nat.le_of_ble_eq_true rfl)) dL_neededBy_4 ⟨Nat.le_of_ble_eq_true rfl, Nat.le_of_ble_eq_true rfl⟩) hS (fun ce q9 H locs hz ho hS hc1 hc2 hc3 => ?_)
  refine vx_catch (name := "java/lang/IndexOutOfBoundsException") hown [] ⟨0, 9, 12, 21⟩ [] (htab.trans rfl) (fun z h => nomatch h) (by decide) (by decide) (hts (.classLink RL 21 "java/lang/IndexOutOfBoundsException") (by decide +kernel)) (zN.use hN (List.mem_of_getElem? (i := 36) rfl)) hc1 hc2 hc3 ?_
  refine lv_astore_n (lv' := [(3, .ref q9), (0, .ref (ad 0)), (1, .int x0), (2, .ref ob)]) hx hb dL_neededBy_12 rfl hl (by decide) rfl (fun ls hl => ?_)
  refine lv_iconst (v := nI 1) hx hb dL_neededBy_13 (by decide) ?_
  have hP : va_P D vwCl (zC ty g ad) H := zC_kept hP (fun k hk h => ho _ h)
  have hO : va_at D vwCl (ob, eL tl f) H := hO.kept (ho ob hO.lt)
  exact W.iret (v := nI 1) hx hb hr (fun t ht hW => ⟨⟨_, (g, f), rfl, ⟨rfl, rfl, fun z => nomatch z⟩, by rw [ht]; exact hP, by rw [ht]; exact hO⟩, hS.F ht⟩) hS.2.2 dL_neededBy_14
