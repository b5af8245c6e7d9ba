/-! the law: what holds all along, and between two calls -/
/-- the model's own places: new since the law began, but the desk's and the long[1] -/
def mA (hs ob : Nat) (ad : Nat → Nat) : Nat → Prop := fun q => hs ≤ q ∧ q ≠ ob ∧ ∀ k, k < 39 → q ≠ ad k
def lwC (p : Program) (l : Launch) (s : State) (m : MethodId) (meth : Method) (c : Code) (D : va_G) (ty : Nat → ClassId) (tl : ClassId) (t0 mi b L : Nat) (xs : Nat → Int32) : Prop :=
  (p.tables.exec = Jvm.exec ∧ c.code = cL_law ∧ meth.sig.returnType = some .boolean ∧ c.maxLocals = 9 ∧ meth.locks = false ∧ l.stackTraces = false) ∧ (s.vm.findClass RL = some m.cls ∧ (∀ w ∈ wsL_law, w.before #[Value.ref b] s = true) ∧ va_X b L xs s s.heap ∧ b < s.heap.size ∧ L ≤ 3584) ∧ (va_K D vwCl (zT ty) s ∧ va_K D vwCl (mT ty) s ∧ va_K D vwCl [(tl, .long)] s) ∧ zN s ∧ zStr s ∧ zQ s ∧ mS D ty (fun q => s.heap.size ≤ q) t0 mi s ∧ zNC s
theorem lwC.dr {p : Program} {l : Launch} {s : State} {m : MethodId} {meth : Method} {c : Code} {D : va_G} {ty : Nat → ClassId} {tl : ClassId} {t0 mi b L : Nat} {xs : Nat → Int32} (h : lwC p l s m meth c D ty tl t0 mi b L xs) (d : Drawn) : lwC p l (s.setDrawn d) m meth c D ty tl t0 mi b L xs := by
  obtain ⟨h1, ⟨h2, h3, h4, h5, h6⟩, ⟨h7, h8, h9⟩, h10, h11, h12, h13, h14⟩ := h
  have hW : s.vm.Alike (s.setDrawn d).vm := Vm.Alike.refl s.vm
  exact ⟨h1, ⟨h2, dr_words h3 d, va_X.moved (u := s) (U := s.setDrawn d) hW h4, h5, h6⟩, ⟨va_K.moved (u := s) (U := s.setDrawn d) hW h7, va_K.moved (u := s) (U := s.setDrawn d) hW h8, va_K.moved (u := s) (U := s.setDrawn d) hW h9⟩, zN.same (u := s) (U := s.setDrawn d) rfl h10, zStr.same (u := s) (U := s.setDrawn d) rfl h11, zQ.to (s := s) (U := s.setDrawn d) hW rfl h12, h13.same (U := s.setDrawn d) rfl rfl, zNC.moved (s := s) (U := s.setDrawn d) hW h14⟩
section LWS
variable {p : Program} {l : Launch} {e : Env} {s : State} {m : MethodId} {below : List Frame} {meth : Method} {c : Code} {H : Heap} {locs : List Loc} {cells slots : Nat} {Q : State → Prop}
variable {D : va_G} {ty : Nat → ClassId} {tl : ClassId} {t0 mi b L : Nat} {xs : Nat → Int32} {g : Nat → Nat → Int32} {ad : Nat → Nat} {ob : Nat} {f : Nat → Int64} {u : Nat → Nat → Prop} {C : Nat → Nat → va_E} {ma : Nat → Nat → Nat}
theorem zQ_later (hQ : zQ s) (hS : va_S (fun q => s.heap.size ≤ q) s.heap H locs) : ∀ U : State, U.heap = H → s.WarmedH U.vm → zQ U := fun U hU hW => by
  unfold zQ
  rw [hU]
  exact ⟨((vx_Zq.moved hW.alike hQ.1).kept (fun a ha hA => hS.2.1 a ha hA)).narrow (fun q hq => Nat.le_trans hS.1 hq), ((vx_Zq.moved hW.alike hQ.2).kept (fun a ha hA => hS.2.1 a ha hA)).narrow (fun q hq => Nat.le_trans hS.1 hq)⟩
theorem mS_narrow {A B : Nat → Prop} {U : State} (hAB : ∀ q, B q → A q) (h : mS D ty A t0 mi U) : mS D ty B t0 mi U := by
  obtain ⟨h1, h2, h3, h4, h5, h6, h7⟩ := h
  exact ⟨h1.narrow hAB, h2, fun z => h3 (hAB _ z), h4, h5, h6, h7⟩
theorem wX_law (hC : lwC p l s m meth c D ty tl t0 mi b L xs) (hS : va_S (fun q => s.heap.size ≤ q) s.heap H locs) (hP : va_P D vwCl (zC ty g ad) H) (hO : va_at D vwCl (ob, eL tl f) H) : ∀ U : State, U.heap = H → s.WarmedH U.vm → wX D ty tl g ad ob f H.size U := fun U hU hW => by
  obtain ⟨-, -, ⟨h7, h8, h9⟩, h10, h11, h12, h13, h14⟩ := hC
  exact ⟨⟨zI_pre hP h7 h10 U hU hW, zQ_later h12 hS U hU hW, h11.warm hW⟩, h14.moved hW.alike, va_K.moved hW.alike h9, by rw [hU]; exact hO, by rw [hU]⟩
theorem mI_law (hC : lwC p l s m meth c D ty tl t0 mi b L xs) (hS : va_S (fun q => s.heap.size ≤ q) s.heap H locs) (hM : mW D (mA s.heap.size ob ad) u C ma H) : ∀ U : State, U.heap = H → s.WarmedH U.vm → mI D ty (mA s.heap.size ob ad) u C ma t0 mi U := fun U hU hW => by
  obtain ⟨-, -, ⟨h7, h8, h9⟩, h10, h11, h12, h13, h14⟩ := hC
  exact ⟨by rw [hU]; exact hM, va_K.moved hW.alike h8, mS_narrow (fun q z => z.1) (h13.moved hW (by rw [hU]; exact hS.1) (fun q h1 h2 => by rw [hU]; exact hS.2.1 q h1 h2))⟩
end LWS
section LWR
variable {p : Program} {l : Launch} {e : Env} {R : Room} {s : State} {m : MethodId} {args : Array Value} {below : List Frame} {meth : Method} {c : Code} {H : Heap} {locs : List Loc} {cells slots : Nat} {Q : State → Prop}
variable {cc : ByteArray} {pc : Nat} {ls : Array Slot} {rest : List Value} {D : va_G} {cl : List vw_C} {A : Nat → Prop} {H0 : Heap} {tl : ClassId} {ob : Nat} {f : Nat → Int64}
/-- an int of the script -/
theorem zsld (hexec : p.tables.exec = Jvm.exec) (hb : c.code = cc) {b L : Nat} {xs : Nat → Int32} (hX : va_X b L xs s H0) (hbl : b < H0.size) (hbA : ¬ A b) (hS : va_S A H0 H locs) {i : Nat} (hi : i < L) (hL : L < 2 ^ 31) (hdg : decode cc pc = .ok (.iaload, 1))
    (kk : W p l e R s m args below meth c H locs cells slots Q (F0 m (pc + 1) ls (.int (xs i) :: rest))) : W p l e R s m args below meth c H locs cells slots Q (F0 m pc ls (.int (nI i) :: .ref b :: rest)) :=
  va_sld hexec hb hX hbl hbA hS (vp_in_nI hi hL) hdg (zeq (congrArg xs (nI_clamp (by omega))) kk)
/-- the law's long is read -/
theorem zlald (hexec : p.tables.exec = Jvm.exec) (hb : c.code = cc) (hK : va_K D cl [(tl, .long)] s) (hO : va_at D cl (ob, eL tl f) H) (hdg : decode cc pc = .ok (.laload, 1))
    (kk : W p l e R s m args below meth c H locs cells slots Q (F0 m (pc + 1) ls (.long (f 0) :: rest))) : W p l e R s m args below meth c H locs cells slots Q (F0 m pc ls (.int (nI 0) :: .ref ob :: rest)) := by
  have hP : va_P D cl [(ob, eL tl f)] H := fun i q hi => by
    have hz : i < 1 := (List.getElem?_eq_some_iff.mp hi).1
    rw [show i = 0 by omega] at hi
    cases hi
    exact hO
  exact va_lald hexec hb hK hP 0 0 rfl rfl (show vp_in (nI 0) 1 from vp_in_nI (show 0 < 1 by decide) (by decide)) hdg (zeqv (congrArg (fun k => Value.long (f k)) (nI_clamp (by decide))) kk)
end LWR
section TAIL
variable {p : Program} {l : Launch} {e : Env} {s : State} {m : MethodId} {below : List Frame} {meth : Method} {c : Code} {H : Heap} {locs : List Loc} {cells slots : Nat} {Q : State → Prop}
variable {D : va_G} {ty : Nat → ClassId} {tl : ClassId} {t0 mi b L : Nat} {xs : Nat → Int32} {G : Nat → Nat → Int32} {ad : Nat → Nat} {ob : Nat} {f : Nat → Int64} {u : Nat → Nat → Prop} {C : Nat → Nat → va_E} {ma : Nat → Nat → Nat} {n1 n2 nL n4 n5 k : Nat} {rep bro : Nat → Nat → Int32} {b9 j9 : Int32} {x9 : Nat} {pc : Nat} {off : Int} {ls : Array Slot}
/-- which one was thrown, on both sides -/
theorem law_thr (hC : lwC p l s m meth c D ty tl t0 mi b L xs) (hS : va_S (fun q => s.heap.size ≤ q) s.heap H locs) (hM : mW D (mA s.heap.size ob ad) u C ma H) (hk : k < 4) (hR : mR ty t0 G n1 n2 nL n4 n5 (nI k) rep bro u C ma)
    (hl : lv_has ls 9 [(6, .int b9), (5, .int (nI k)), (4, .int j9), (3, .ref ob), (2, .ref (ma 0 0)), (1, .ref x9), (0, .ref b)]) (hc : cells + 0 ≤ room_1.cells ∧ slots + 0 ≤ room_1.slots)
    (h0 : decode cL_law pc = .ok (.aload_n 2, 1)) (h1 : decode cL_law (pc + 1) = .ok (.invokevirtual 101, 3)) (h2 : decode cL_law (pc + 4) = .ok (.iload 5, 2)) (h3 : decode cL_law (pc + 6) = .ok (.if_icmp .eq 5, 3))
    (K : W p l e room_1 s m #[Value.ref b] below meth c H locs cells slots Q (F0 m (pc + 11) ls [])) : W p l e room_1 s m #[Value.ref b] below meth c H locs cells slots Q (F0 m pc ls []) := by
  have hI := mI_law hC hS hM
  obtain ⟨⟨hx, hb, hr, hml, hlocks, hlt⟩, ⟨hown, hts, hX, hbl, hL⟩, ⟨hKz, hK, hKl⟩, hN, hT, hQ, hMS, hNc⟩ := hC
  refine lv_aload_n hx hb h0 rfl (lv_at hl 4 rfl) ?_
  refine zcVi (As := []) (rest := []) ⟨hx, hb, hml, hown, hts⟩ (c_X12_thrown l D ty (mA s.heap.size ob ad) u C ma t0 mi G n1 n2 nL n4 n5 (nI k) rep bro hR) (cwV 0 hts gL_law_X12_thrown rfl rfl rfl (by decide +kernel) ⟨Nat.le_of_ble_eq_true rfl, Nat.le_of_ble_eq_true rfl⟩) mI_blind hI (va_recv hK (hM.Pa hR.o.1 rfl hR.o.2) (ci := 13) (q0 := 0) rfl rfl) rfl hl.1 rfl (Nat.le_of_ble_eq_true rfl) h1 hc (fun r hr => ?_)
  subst hr
  refine lv_iload hx hb h2 (lv_at hl 1 rfl) ?_
  exact lv_icmp_eq (tgt := pc + 11) hx hb h3 (by omega) (fun _ => K) (fun c => absurd rfl c)
theorem law_tail (hC : lwC p l s m meth c D ty tl t0 mi b L xs) (hS : va_S (fun q => s.heap.size ≤ q) s.heap H locs) (hO : va_at D vwCl (ob, eL tl f) H) (hM : mW D (mA s.heap.size ob ad) u C ma H) (hk : k < 4) (hR : mR ty t0 G n1 n2 nL n4 n5 (nI k) rep bro u C ma) (hf : k = 0 → f 0 = b9.toInt64)
    (hl : lv_has ls 9 [(6, .int b9), (5, .int (nI k)), (4, .int j9), (3, .ref ob), (2, .ref (ma 0 0)), (1, .ref x9), (0, .ref b)]) (hc : cells + 0 ≤ room_1.cells ∧ slots + 0 ≤ room_1.slots)
    (h0 : decode cL_law pc = .ok (.aload_n 2, 1)) (h1 : decode cL_law (pc + 1) = .ok (.invokevirtual 101, 3)) (h2 : decode cL_law (pc + 4) = .ok (.iload 5, 2)) (h3 : decode cL_law (pc + 6) = .ok (.if_icmp .eq 5, 3))
    (h4 : decode cL_law (pc + 11) = .ok (.iload 5, 2)) (h5 : decode cL_law (pc + 13) = .ok (.ifCond .ne 15, 3)) (h6 : decode cL_law (pc + 16) = .ok (.aload_n 3, 1)) (h7 : decode cL_law (pc + 17) = .ok (.iconst 0, 1)) (h8 : decode cL_law (pc + 18) = .ok (.laload, 1)) (h9 : decode cL_law (pc + 19) = .ok (.iload 6, 2)) (h10 : decode cL_law (pc + 21) = .ok (.i2l, 1)) (h11 : decode cL_law (pc + 22) = .ok (.lcmp, 1)) (h12 : decode cL_law (pc + 23) = .ok (.ifCond .eq 5, 3)) (h13 : decode cL_law (pc + 28) = .ok (.goto off, 3)) (hoff : ((pc + 28 : Nat) : Int) + off = (2038 : Nat))
    (K : W p l e room_1 s m #[Value.ref b] below meth c H locs cells slots Q (F0 m 2038 ls [])) : W p l e room_1 s m #[Value.ref b] below meth c H locs cells slots Q (F0 m pc ls []) := by
  refine law_thr hC hS hM hk hR hl hc h0 h1 h2 h3 ?_
  obtain ⟨⟨hx, hb, hr, hml, hlocks, hlt⟩, ⟨hown, hts, hX, hbl, hL⟩, ⟨hKz, hK, hKl⟩, hN, hT, hQ, hMS, hNc⟩ := hC
  have KG : W p l e room_1 s m #[Value.ref b] below meth c H locs cells slots Q (F0 m (pc + 28) ls []) := lv_goto (tgt := 2038) hx hb h13 hoff K
  refine lv_iload hx hb h4 (lv_at hl 1 rfl) ?_
  refine lv_if_ne (tgt := pc + 28) hx hb h5 (by omega) (fun _ => KG) (fun c0 => ?_)
  have hk0 : k = 0 := zq_eqT (by omega) c0
  refine lv_aload_n hx hb h6 rfl (lv_at hl 3 rfl) ?_
  refine lv_iconst (v := nI 0) hx hb h7 (by decide) ?_
  refine zlald hx hb hKl hO h8 ?_
  refine lv_iload hx hb h9 (lv_at hl 0 rfl) ?_
  refine lv_i2l hx hb h10 rfl ?_
  refine W.lcmp hx hb h11 ?_
  refine zeq (y := 0) (by rw [hf hk0]; simp [lg_cmp]) ?_
  exact lv_if_eq (tgt := pc + 28) hx hb h12 (by omega) (fun _ => KG) (fun c => absurd rfl c)
theorem law_tailZ (hC : lwC p l s m meth c D ty tl t0 mi b L xs) (hS : va_S (fun q => s.heap.size ≤ q) s.heap H locs) (hO : va_at D vwCl (ob, eL tl f) H) (hM : mW D (mA s.heap.size ob ad) u C ma H) (hk : k < 4) (hR : mR ty t0 G n1 n2 nL n4 n5 (nI k) rep bro u C ma) (hf : k = 0 → f 0 = b9.toInt64) (hz : ∃ bb : Bool, b9 = bI bb)
    (hl : lv_has ls 9 [(6, .int b9), (5, .int (nI k)), (4, .int j9), (3, .ref ob), (2, .ref (ma 0 0)), (1, .ref x9), (0, .ref b)]) (hc : cells + 0 ≤ room_1.cells ∧ slots + 0 ≤ room_1.slots)
    (h0 : decode cL_law pc = .ok (.aload_n 2, 1)) (h1 : decode cL_law (pc + 1) = .ok (.invokevirtual 101, 3)) (h2 : decode cL_law (pc + 4) = .ok (.iload 5, 2)) (h3 : decode cL_law (pc + 6) = .ok (.if_icmp .eq 5, 3))
    (h4 : decode cL_law (pc + 11) = .ok (.iload 5, 2)) (h5 : decode cL_law (pc + 13) = .ok (.ifCond .ne 22, 3)) (h6 : decode cL_law (pc + 16) = .ok (.aload_n 3, 1)) (h7 : decode cL_law (pc + 17) = .ok (.iconst 0, 1)) (h8 : decode cL_law (pc + 18) = .ok (.laload, 1)) (h9 : decode cL_law (pc + 19) = .ok (.iload 6, 2)) (h10 : decode cL_law (pc + 21) = .ok (.ifCond .eq 7, 3)) (ha : decode cL_law (pc + 24) = .ok (.lconst 1, 1)) (hb' : decode cL_law (pc + 25) = .ok (.goto 4, 3)) (hc' : decode cL_law (pc + 28) = .ok (.lconst 0, 1)) (h11 : decode cL_law (pc + 29) = .ok (.lcmp, 1)) (h12 : decode cL_law (pc + 30) = .ok (.ifCond .eq 5, 3)) (h13 : decode cL_law (pc + 35) = .ok (.goto off, 3)) (hoff : ((pc + 35 : Nat) : Int) + off = (2038 : Nat))
    (K : W p l e room_1 s m #[Value.ref b] below meth c H locs cells slots Q (F0 m 2038 ls [])) : W p l e room_1 s m #[Value.ref b] below meth c H locs cells slots Q (F0 m pc ls []) := by
  refine law_thr hC hS hM hk hR hl hc h0 h1 h2 h3 ?_
  obtain ⟨⟨hx, hb, hr, hml, hlocks, hlt⟩, ⟨hown, hts, hX, hbl, hL⟩, ⟨hKz, hK, hKl⟩, hN, hT, hQ, hMS, hNc⟩ := hC
  have KG : W p l e room_1 s m #[Value.ref b] below meth c H locs cells slots Q (F0 m (pc + 35) ls []) := lv_goto (tgt := 2038) hx hb h13 hoff K
  refine lv_iload hx hb h4 (lv_at hl 1 rfl) ?_
  refine lv_if_ne (tgt := pc + 35) hx hb h5 (by omega) (fun _ => KG) (fun c0 => ?_)
  have hk0 : k = 0 := zq_eqT (by omega) c0
  refine lv_aload_n hx hb h6 rfl (lv_at hl 3 rfl) ?_
  refine lv_iconst (v := nI 0) hx hb h7 (by decide) ?_
  refine zlald hx hb hKl hO h8 ?_
  refine lv_iload hx hb h9 (lv_at hl 0 rfl) ?_
  obtain ⟨bb, rfl⟩ := hz
  refine lv_if_eq (tgt := pc + 28) hx hb h10 (by omega) (fun c1 => ?_) (fun c1 => ?_)
  · obtain rfl := bI_f c1
    refine lv_lconst (v := 0) hx hb hc' (by decide) ?_
    refine W.lcmp hx hb h11 ?_
    refine zeq (y := 0) (by rw [hf hk0]; decide) ?_
    exact lv_if_eq (tgt := pc + 35) hx hb h12 (by omega) (fun _ => KG) (fun c => absurd rfl c)
  · obtain rfl := bI_t c1
    refine lv_lconst (v := 1) hx hb ha (by decide) ?_
    refine lv_goto (tgt := pc + 29) hx hb hb' (by omega) ?_
    refine W.lcmp hx hb h11 ?_
    refine zeq (y := 0) (by rw [hf hk0]; decide) ?_
    exact lv_if_eq (tgt := pc + 35) hx hb h12 (by omega) (fun _ => KG) (fun c => absurd rfl c)
end TAIL
/-- the two sides, between two calls -/
def lwI (D : va_G) (ty : Nat → ClassId) (tl : ClassId) (t0 hs : Nat) (ad : Nat → Nat) (ob : Nat) (g : Nat → Nat → Int32) (x y z : Nat → Int32) (f : Nat → Int64) (u : Nat → Nat → Prop) (C : Nat → Nat → va_E) (ma : Nat → Nat → Nat) (n1 n2 nL n4 n5 kk : Nat) (rep bro : Nat → Nat → Int32) (th : Int32) (H : Heap) : Prop :=
  va_P D vwCl (zC ty g ad) H ∧ (zIj ad ∧ (∀ k, k < 39 → ad k ≠ ob) ∧ (∀ k, k < 39 → hs ≤ ad k) ∧ hs ≤ ob) ∧ va_at D vwCl (ob, eL tl f) H ∧ mW D (mA hs ob ad) u C ma H ∧ mR ty t0 (mv g x y z) n1 n2 nL n4 n5 th rep bro u C ma ∧ lwN g x y n1 n2 nL n4 n5 kk
/-- the law goes on behind a case -/
def lwK (p : Program) (l : Launch) (e : Env) (s : State) (m : MethodId) (below : List Frame) (meth : Method) (c : Code) (Q : State → Prop) (D : va_G) (ty : Nat → ClassId) (tl : ClassId) (t0 b : Nat) (ad : Nat → Nat) (ob j a0 n5 kk mc cells slots : Nat) : Prop := ∀ (g : Nat → Nat → Int32) (x y z : Nat → Int32) (f : Nat → Int64) (u : Nat → Nat → Prop) (C : Nat → Nat → va_E) (ma : Nat → Nat → Nat) (n1 n2 nL n4 n5' kk' : Nat) (rep bro : Nat → Nat → Int32) (th : Int32) (H : Heap) (locs : List Loc) (ls : Array Slot),
  lwI D ty tl t0 s.heap.size ad ob g x y z f u C ma n1 n2 nL n4 n5' kk' rep bro th H → ma 0 0 = a0 → ((kk' = kk ∧ n5' = n5) ∨ (kk' = kk + 1 ∧ n5 ≤ n5' ∧ mc ≤ 59)) → va_S (fun q => s.heap.size ≤ q) s.heap H locs → lv_has ls 9 [(4, .int (nI j)), (3, .ref ob), (2, .ref a0), (1, .ref (ad 0)), (0, .ref b)] → W p l e room_1 s m #[Value.ref b] below meth c H locs cells slots Q (F0 m 2038 ls [])
theorem WC_hs {hs sz ob : Nat} {ad : Nat → Nat} (hlo : ∀ k, k < 39 → hs ≤ ad k) (hoo : hs ≤ ob) (h : hs ≤ sz) : ∀ q, WC ad ob sz q → hs ≤ q := fun q z => by
  rcases z with (⟨k, hk, rfl⟩ | z) | rfl
  · exact hlo k hk
  · exact Nat.le_trans h z
  · exact hoo
theorem mA_WC {hs sz ob : Nat} {ad : Nat → Nat} {q : Nat} (h : mA hs ob ad q) (hq : q < sz) : ¬ WC ad ob sz q := fun z => by
  rcases z with (⟨k, hk, e⟩ | z) | e
  · exact h.2.2 k hk e
  · omega
  · exact h.2.1 e
