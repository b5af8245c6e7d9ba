/-- where the law's switch goes -/
def law_tg : List Nat := [156, 212, 304, 408, 476, 556, 648, 728, 796, 921, 1039, 1095, 1187, 1291, 1371, 1439, 1507, 1563, 1619, 1675, 1716, 1808, 1900, 1968, 2024, 2038]
set_option maxHeartbeats 2000000 in
set_option maxRecDepth 100000 in
theorem law_head (p : Program) (l : Launch) (e : Env) (s : State) (m : MethodId) (below : List Frame) (meth : Method) (c : Code) (Q : State → Prop) (D : va_G) (ty : Nat → ClassId) (tl : ClassId) (t0 mi b L : Nat) (xs : Nat → Int32) (hC : lwC p l s m meth c D ty tl t0 mi b L xs) (H : Heap) (locs : List Loc) (cells slots : Nat) (hS : va_S (fun q => s.heap.size ≤ q) s.heap H locs) (ls : Array Slot) (j x1 x2 ob : Nat) (hj : j ≤ L) (hl : lv_has ls 9 [(4, .int (nI j)), (3, .ref ob), (2, .ref x2), (1, .ref x1), (0, .ref b)])
    (KE : W p l e room_1 s m #[Value.ref b] below meth c H locs cells slots Q (F0 m 2044 ls [])) (K : ∀ t, t ∈ law_tg → j + 7 ≤ L → W p l e room_1 s m #[Value.ref b] below meth c H locs cells slots Q (F0 m t ls [])) : W p l e room_1 s m #[Value.ref b] below meth c H locs cells slots Q (F0 m 23 ls []) := by
  obtain ⟨⟨hx, hb, hr, hml, hlocks, hlt⟩, ⟨hown, hts, hX, hbl, hL⟩, ⟨hKz, hK, hKl⟩, hNz, hT, hQ, hMS, hNc⟩ := hC
  have hbA : ¬ s.heap.size ≤ b := Nat.not_le.mpr hbl
  refine lv_iload hx hb dL_law_23 (lv_at hl 0 rfl) ?_
  refine lv_aload_n hx hb dL_law_25 rfl (lv_at hl 4 rfl) ?_
  refine va_slen hx hb hX hbl hbA hS dL_law_26 ?_
  refine lv_bipush (v := nI 7) hx hb dL_law_27 (by decide) ?_
  refine lv_isub hx hb dL_law_29 ?_
  have e7 : (nI L - nI 7).toInt = (L : Int) - (7 : Nat) := pk_sub_toInt (by omega) (by decide)
  refine lv_icmp_gt (tgt := 2044) hx hb dL_law_30 (by decide) (fun _ => KE) (fun hc => ?_)
  have hj7 : j + 7 ≤ L := by
    have h1 : (nI L - nI 7) < nI j ↔ _ := Int32.lt_iff_toInt_lt
    have h2 : ¬ (nI L - nI 7).toInt < (nI j).toInt := fun h => hc (h1.mpr h)
    rw [e7, nI_toInt (show j < 2 ^ 31 by omega)] at h2
    omega
  refine lv_aload_n hx hb dL_law_33 rfl (lv_at hl 4 rfl) ?_
  refine lv_iload hx hb dL_law_34 (lv_at hl 0 rfl) ?_
  refine zsld hx hb hX hbl hbA hS (show j < L by omega) (by omega) dL_law_36 ?_
  refine lv_bipush (v := nI 31) hx hb dL_law_37 (by decide) ?_
  refine lv_iand hx hb dL_law_39 ?_
  obtain ⟨k, hk, ek⟩ := pk_andE (xs j) 5 (m := nI 31) (by decide)
  refine zeq ek ?_
  have hk : k < 32 := hk
  by_cases h0 : k = 0
  · rw [h0]
    exact lv_tableIn (off := 116) (tgt := 156) hx hb dL_law_40 (by decide) (by decide) rfl (by decide) (K 156 (by decide) hj7)
  by_cases h1 : k = 1
  · rw [h1]
    exact lv_tableIn (off := 172) (tgt := 212) hx hb dL_law_40 (by decide) (by decide) rfl (by decide) (K 212 (by decide) hj7)
  by_cases h2 : k = 2
  · rw [h2]
    exact lv_tableIn (off := 264) (tgt := 304) hx hb dL_law_40 (by decide) (by decide) rfl (by decide) (K 304 (by decide) hj7)
  by_cases h3 : k = 3
  · rw [h3]
    exact lv_tableIn (off := 368) (tgt := 408) hx hb dL_law_40 (by decide) (by decide) rfl (by decide) (K 408 (by decide) hj7)
  by_cases h4 : k = 4
  · rw [h4]
    exact lv_tableIn (off := 436) (tgt := 476) hx hb dL_law_40 (by decide) (by decide) rfl (by decide) (K 476 (by decide) hj7)
  by_cases h5 : k = 5
  · rw [h5]
    exact lv_tableIn (off := 516) (tgt := 556) hx hb dL_law_40 (by decide) (by decide) rfl (by decide) (K 556 (by decide) hj7)
  by_cases h6 : k = 6
  · rw [h6]
    exact lv_tableIn (off := 608) (tgt := 648) hx hb dL_law_40 (by decide) (by decide) rfl (by decide) (K 648 (by decide) hj7)
  by_cases h7 : k = 7
  · rw [h7]
    exact lv_tableIn (off := 688) (tgt := 728) hx hb dL_law_40 (by decide) (by decide) rfl (by decide) (K 728 (by decide) hj7)
  by_cases h8 : k = 8
  · rw [h8]
    exact lv_tableIn (off := 756) (tgt := 796) hx hb dL_law_40 (by decide) (by decide) rfl (by decide) (K 796 (by decide) hj7)
  by_cases h9 : k = 9
  · rw [h9]
    exact lv_tableIn (off := 881) (tgt := 921) hx hb dL_law_40 (by decide) (by decide) rfl (by decide) (K 921 (by decide) hj7)
  by_cases h10 : k = 10
  · rw [h10]
    exact lv_tableIn (off := 999) (tgt := 1039) hx hb dL_law_40 (by decide) (by decide) rfl (by decide) (K 1039 (by decide) hj7)
  by_cases h11 : k = 11
  · rw [h11]
    exact lv_tableIn (off := 1055) (tgt := 1095) hx hb dL_law_40 (by decide) (by decide) rfl (by decide) (K 1095 (by decide) hj7)
  by_cases h12 : k = 12
  · rw [h12]
    exact lv_tableIn (off := 1147) (tgt := 1187) hx hb dL_law_40 (by decide) (by decide) rfl (by decide) (K 1187 (by decide) hj7)
  by_cases h13 : k = 13
  · rw [h13]
    exact lv_tableIn (off := 1251) (tgt := 1291) hx hb dL_law_40 (by decide) (by decide) rfl (by decide) (K 1291 (by decide) hj7)
  by_cases h14 : k = 14
  · rw [h14]
    exact lv_tableIn (off := 1331) (tgt := 1371) hx hb dL_law_40 (by decide) (by decide) rfl (by decide) (K 1371 (by decide) hj7)
  by_cases h15 : k = 15
  · rw [h15]
    exact lv_tableIn (off := 1399) (tgt := 1439) hx hb dL_law_40 (by decide) (by decide) rfl (by decide) (K 1439 (by decide) hj7)
  by_cases h16 : k = 16
  · rw [h16]
    exact lv_tableIn (off := 1467) (tgt := 1507) hx hb dL_law_40 (by decide) (by decide) rfl (by decide) (K 1507 (by decide) hj7)
  by_cases h17 : k = 17
  · rw [h17]
    exact lv_tableIn (off := 1523) (tgt := 1563) hx hb dL_law_40 (by decide) (by decide) rfl (by decide) (K 1563 (by decide) hj7)
  by_cases h18 : k = 18
  · rw [h18]
    exact lv_tableIn (off := 1579) (tgt := 1619) hx hb dL_law_40 (by decide) (by decide) rfl (by decide) (K 1619 (by decide) hj7)
  by_cases h19 : k = 19
  · rw [h19]
    exact lv_tableIn (off := 1635) (tgt := 1675) hx hb dL_law_40 (by decide) (by decide) rfl (by decide) (K 1675 (by decide) hj7)
  by_cases h20 : k = 20
  · rw [h20]
    exact lv_tableIn (off := 1676) (tgt := 1716) hx hb dL_law_40 (by decide) (by decide) rfl (by decide) (K 1716 (by decide) hj7)
  by_cases h21 : k = 21
  · rw [h21]
    exact lv_tableIn (off := 1768) (tgt := 1808) hx hb dL_law_40 (by decide) (by decide) rfl (by decide) (K 1808 (by decide) hj7)
  by_cases h22 : k = 22
  · rw [h22]
    exact lv_tableIn (off := 1860) (tgt := 1900) hx hb dL_law_40 (by decide) (by decide) rfl (by decide) (K 1900 (by decide) hj7)
  by_cases h23 : k = 23
  · rw [h23]
    exact lv_tableIn (off := 1928) (tgt := 1968) hx hb dL_law_40 (by decide) (by decide) rfl (by decide) (K 1968 (by decide) hj7)
  by_cases h24 : k = 24
  · rw [h24]
    exact lv_tableIn (off := 1984) (tgt := 2024) hx hb dL_law_40 (by decide) (by decide) rfl (by decide) (K 2024 (by decide) hj7)
  refine lv_tableOut (tgt := 2038) hx hb dL_law_40 (Or.inr (by rw [nI_toInt (show k < 2 ^ 31 by omega)]; omega)) (by decide) (K 2038 (by decide) hj7)
/-! the loop: i calls made, kk of them accepted ones that add -/
set_option maxHeartbeats 4000000 in
set_option maxRecDepth 100000 in
theorem law_loop (p : Program) (l : Launch) (e : Env) (s : State) (m : MethodId) (below : List Frame) (meth : Method) (c : Code) (Q : State → Prop) (D : va_G) (ty : Nat → ClassId) (tl : ClassId) (t0 mi b L : Nat) (xs : Nat → Int32) (hC : lwC p l s m meth c D ty tl t0 mi b L xs) (ad : Nat → Nat) (ob : Nat)
    (E : ∀ d : Drawn, s.drawn.sameBut d lw_cs → ∀ (H : Heap) (ls : Array Slot), W p l e room_1 (s.setDrawn d) m #[Value.ref b] below meth c H [] 594050 7313955 Q (F0 m 2045 ls [.int 1])) :
    ∀ (r i : Nat) (d0 : Drawn), s.drawn.sameBut d0 lw_cs → ∀ (g : Nat → Nat → Int32) (x y z : Nat → Int32) (f : Nat → Int64) (u : Nat → Nat → Prop) (C : Nat → Nat → va_E) (ma : Nat → Nat → Nat) (n1 n2 nL n4 n5 kk : Nat) (rep bro : Nat → Nat → Int32) (th : Int32) (H : Heap) (locs : List Loc) (ls : Array Slot) (cells slots : Nat), L < 7 * (i + r) → 7 * i ≤ L →
      lwI D ty tl t0 s.heap.size ad ob g x y z f u C ma n1 n2 nL n4 n5 kk rep bro th H → va_S (fun q => s.heap.size ≤ q) s.heap H locs → lv_has ls 9 [(4, .int (nI (7 * i))), (3, .ref ob), (2, .ref (ma 0 0)), (1, .ref (ad 0)), (0, .ref b)] → kk ≤ i → cells ≤ 45 + bud i kk n5 → slots ≤ 3000 + 10600 * i →
      W p l e room_1 (s.setDrawn d0) m #[Value.ref b] below meth c H locs cells slots Q (F0 m 23 ls []) := by
  intro r
  induction r with
  | zero => intro i d0 hd0 g x y z f u C ma n1 n2 nL n4 n5 kk rep bro th H locs ls cells slots h1 h2; omega
  | succ r ih =>
    intro i d0 hd0 g x y z f u C ma n1 n2 nL n4 n5 kk rep bro th H locs ls cells slots h1 h2 hW hS hl hki hcl hsl
    have hL : L ≤ 3584 := hC.2.1.2.2.2.2
    have hx := hC.1.1
    have hb := hC.1.2.1
    have hI := hW.2.2.2.2.1.I
    have h5 : n5 ≤ 40 := hI.b5
    have h53 : 0 < n5 → n5 + 3 ≤ kk := hW.2.2.2.2.2.2.2.2.2.2
    have hbe : bud i kk n5 ≤ 593051 := bud_end (by omega) hki h5 h53
    refine law_head p l e (s.setDrawn d0) m below meth c Q D ty tl t0 mi b L xs (hC.dr d0) H locs cells slots hS ls (7 * i) (ad 0) (ma 0 0) ob h2 hl ?_ (fun t ht hj7 => ?_)
    · refine lv_iconst (v := 1) hx hb dL_law_2044 (by decide) ?_
      refine va_forget (fun q hq => hS.2.2 q hq) ?_
      exact W.widen (k := 594050) (n := 7313955) (by omega) (by omega) (E d0 hd0 H ls)
    have hbf : bud (i + 1) kk n5 ≤ 593051 := bud_end (by omega) (by omega) h5 h53
    have hbd : bud (i + 1) kk n5 = bud i kk n5 + (579 + 17 * n5) := bud_dig hki
    have NX : ∀ (d : Drawn), s.drawn.sameBut d lw_cs → ∀ (mc cells' slots' : Nat), (∀ kk1 n51 : Nat, ((kk1 = kk ∧ n51 = n5) ∨ (kk1 = kk + 1 ∧ n5 ≤ n51 ∧ mc ≤ 59)) → cells' ≤ 45 + bud (i + 1) kk1 n51) → slots' ≤ slots + 10600 → lwK p l e (s.setDrawn d) m below meth c Q D ty tl t0 b ad ob (7 * i) (ma 0 0) n5 kk mc cells' slots' := by
      intro d hd mc cells' slots' hcb hsb g x y z f u C ma2 n1 n2 nL n4 n5' kk' rep bro th H locs ls hW h00 hkk hS hl
      refine lv_iinc (v := nI (7 * (i + 1))) (lv' := [(4, .int (nI (7 * (i + 1)))), (3, .ref ob), (2, .ref (ma 0 0)), (1, .ref (ad 0)), (0, .ref b)]) hx hb dL_law_2038 hl (k := 0) rfl (by rw [show (7 * (i + 1)) = 7 * i + 7 by omega]; exact nI_add (7 * i) 7) (by decide) rfl (fun ls hl => ?_)
      refine lv_goto (tgt := 23) hx hb dL_law_2041 (by decide) ?_
      rw [← h00] at hl
      exact ih (i + 1) d hd g x y z f u C ma2 n1 n2 nL n4 n5' kk' rep bro th H locs ls cells' slots' (by omega) (by omega) hW hS hl (by rcases hkk with h | h <;> omega) (hcb kk' n5' hkk) (by omega)
    unfold law_tg at ht
    rcases List.mem_cons.mp ht with rfl | ht
    · exact law_set p l e (s.setDrawn d0) m below meth c Q D ty tl t0 mi b L xs (hC.dr d0) ad ob g x y z f u C ma n1 n2 nL n4 n5 kk rep bro th H locs cells slots hW hS ls (7 * i) hj7 hl ⟨by omega, by omega⟩ (NX d0 hd0 6 _ _ (fun kk1 n51 h => by have := bud_step hki h (show 6 + 1 ≤ 579 + 17 * n5 by omega); omega) (by omega))
    rcases List.mem_cons.mp ht with rfl | ht
    · exact law_terms p l e (s.setDrawn d0) m below meth c Q D ty tl t0 mi b L xs (hC.dr d0) ad ob g x y z f u C ma n1 n2 nL n4 n5 kk rep bro th H locs cells slots hW hS ls (7 * i) hj7 hl ⟨by omega, by omega⟩ (NX d0 hd0 0 _ _ (fun kk1 n51 h => by have := bud_step hki h (show 0 + 1 ≤ 579 + 17 * n5 by omega); omega) (by omega))
    rcases List.mem_cons.mp ht with rfl | ht
    · exact law_source p l e (s.setDrawn d0) m below meth c Q D ty tl t0 mi b L xs (hC.dr d0) ad ob g x y z f u C ma n1 n2 nL n4 n5 kk rep bro th H locs cells slots hW hS ls (7 * i) hj7 hl ⟨by omega, by omega⟩ (NX d0 hd0 2 _ _ (fun kk1 n51 h => by have := bud_step hki h (show 2 + 1 ≤ 579 + 17 * n5 by omega); omega) (by omega))
    rcases List.mem_cons.mp ht with rfl | ht
    · exact law_version p l e (s.setDrawn d0) m below meth c Q D ty tl t0 mi b L xs (hC.dr d0) ad ob g x y z f u C ma n1 n2 nL n4 n5 kk rep bro th H locs cells slots hW hS ls (7 * i) hj7 hl ⟨by omega, by omega⟩ (NX d0 hd0 58 _ _ (fun kk1 n51 h => by have := bud_step hki h (show 58 + 1 ≤ 579 + 17 * n5 by omega); omega) (by omega))
    rcases List.mem_cons.mp ht with rfl | ht
    · exact law_missing p l e (s.setDrawn d0) m below meth c Q D ty tl t0 mi b L xs (hC.dr d0) ad ob g x y z f u C ma n1 n2 nL n4 n5 kk rep bro th H locs cells slots hW hS ls (7 * i) hj7 hl ⟨by omega, by omega⟩ (NX d0 hd0 57 _ _ (fun kk1 n51 h => by have := bud_step hki h (show 57 + 1 ≤ 579 + 17 * n5 by omega); omega) (by omega))
    rcases List.mem_cons.mp ht with rfl | ht
    · exact law_report p l e (s.setDrawn d0) m below meth c Q D ty tl t0 mi b L xs (hC.dr d0) ad ob g x y z f u C ma n1 n2 nL n4 n5 kk rep bro th H locs cells slots hW hS ls (7 * i) hj7 hl ⟨by omega, by omega⟩ (NX d0 hd0 114 _ _ (fun kk1 n51 h => by have := bud_step hki h (show 114 + 1 ≤ 579 + 17 * n5 by omega); omega) (by omega))
    rcases List.mem_cons.mp ht with rfl | ht
    · exact law_harm p l e (s.setDrawn d0) m below meth c Q D ty tl t0 mi b L xs (hC.dr d0) ad ob g x y z f u C ma n1 n2 nL n4 n5 kk rep bro th H locs cells slots hW hS ls (7 * i) hj7 hl ⟨by omega, by omega⟩ (NX d0 hd0 57 _ _ (fun kk1 n51 h => by have := bud_step hki h (show 57 + 1 ≤ 579 + 17 * n5 by omega); omega) (by omega))
    rcases List.mem_cons.mp ht with rfl | ht
    · exact law_ofSet p l e (s.setDrawn d0) m below meth c Q D ty tl t0 mi b L xs (hC.dr d0) ad ob g x y z f u C ma n1 n2 nL n4 n5 kk rep bro th H locs cells slots hW hS ls (7 * i) hj7 hl ⟨by omega, by omega⟩ (NX d0 hd0 57 _ _ (fun kk1 n51 h => by have := bud_step hki h (show 57 + 1 ≤ 579 + 17 * n5 by omega); omega) (by omega))
    rcases List.mem_cons.mp ht with rfl | ht
    · exact law_isMadeOf p l e (s.setDrawn d0) m below meth c Q D ty tl t0 mi b L xs (hC.dr d0) ad ob g x y z f u C ma n1 n2 nL n4 n5 kk rep bro th H locs cells slots hW hS ls (7 * i) hj7 hl ⟨by omega, by omega⟩ (NX d0 hd0 0 _ _ (fun kk1 n51 h => by have := bud_step hki h (show 0 + 1 ≤ 579 + 17 * n5 by omega); omega) (by omega))
    rcases List.mem_cons.mp ht with rfl | ht
    · exact law_contract p l e (s.setDrawn d0) m below meth c Q D ty tl t0 mi b L xs (hC.dr d0) ad ob g x y z f u C ma n1 n2 nL n4 n5 kk rep bro th H locs cells slots hW hS ls (7 * i) hj7 hl ⟨by omega, by omega⟩ (NX d0 hd0 2 _ _ (fun kk1 n51 h => by have := bud_step hki h (show 2 + 1 ≤ 579 + 17 * n5 by omega); omega) (by omega))
    rcases List.mem_cons.mp ht with rfl | ht
    · exact law_end p l e (s.setDrawn d0) m below meth c Q D ty tl t0 mi b L xs (hC.dr d0) ad ob g x y z f u C ma n1 n2 nL n4 n5 kk rep bro th H locs cells slots hW hS ls (7 * i) hj7 hl ⟨by omega, by omega⟩ (NX d0 hd0 0 _ _ (fun kk1 n51 h => by have := bud_step hki h (show 0 + 1 ≤ 579 + 17 * n5 by omega); omega) (by omega))
    rcases List.mem_cons.mp ht with rfl | ht
    · exact law_covered p l e (s.setDrawn d0) m below meth c Q D ty tl t0 mi b L xs (hC.dr d0) ad ob g x y z f u C ma n1 n2 nL n4 n5 kk rep bro th H locs cells slots hW hS ls (7 * i) hj7 hl ⟨by omega, by omega⟩ (NX d0 hd0 0 _ _ (fun kk1 n51 h => by have := bud_step hki h (show 0 + 1 ≤ 579 + 17 * n5 by omega); omega) (by omega))
    rcases List.mem_cons.mp ht with rfl | ht
    · exact law_read p l e (s.setDrawn d0) m below meth c Q D ty tl t0 mi b L xs (hC.dr d0) ad ob g x y z f u C ma n1 n2 nL n4 n5 kk rep bro th H locs cells slots hW hS ls (7 * i) hj7 hl ⟨by omega, by omega⟩ (NX d0 hd0 3 _ _ (fun kk1 n51 h => by have := bud_step hki h (show 3 + 1 ≤ 579 + 17 * n5 by omega); omega) (by omega))
    rcases List.mem_cons.mp ht with rfl | ht
    · exact law_preview p l e (s.setDrawn d0) m below meth c Q D ty tl t0 mi b L xs (hC.dr d0) ad ob g x y z f u C ma n1 n2 nL n4 n5 kk rep bro th H locs cells slots hW hS ls (7 * i) hj7 hl ⟨by omega, by omega⟩ (NX d0 hd0 0 _ _ (fun kk1 n51 h => by have := bud_step hki h (show 0 + 1 ≤ 579 + 17 * n5 by omega); omega) (by omega))
    rcases List.mem_cons.mp ht with rfl | ht
    · exact law_ofRead p l e (s.setDrawn d0) m below meth c Q D ty tl t0 mi b L xs (hC.dr d0) ad ob g x y z f u C ma n1 n2 nL n4 n5 kk rep bro th H locs cells slots hW hS ls (7 * i) hj7 hl ⟨by omega, by omega⟩ (NX d0 hd0 58 _ _ (fun kk1 n51 h => by have := bud_step hki h (show 58 + 1 ≤ 579 + 17 * n5 by omega); omega) (by omega))
    rcases List.mem_cons.mp ht with rfl | ht
    · exact law_ofReader p l e (s.setDrawn d0) m below meth c Q D ty tl t0 mi b L xs (hC.dr d0) ad ob g x y z f u C ma n1 n2 nL n4 n5 kk rep bro th H locs cells slots hW hS ls (7 * i) hj7 hl ⟨by omega, by omega⟩ (NX d0 hd0 97 _ _ (fun kk1 n51 h => by have := bud_step hki h (show 97 + 1 ≤ 579 + 17 * n5 by omega); omega) (by omega))
    rcases List.mem_cons.mp ht with rfl | ht
    · exact law_bill p l e (s.setDrawn d0) m below meth c Q D ty tl t0 mi b L xs (hC.dr d0) ad ob g x y z f u C ma n1 n2 nL n4 n5 kk rep bro th H locs cells slots hW hS ls (7 * i) hj7 hl ⟨by omega, by omega⟩ (NX d0 hd0 97 _ _ (fun kk1 n51 h => by have := bud_step hki h (show 97 + 1 ≤ 579 + 17 * n5 by omega); omega) (by omega))
    rcases List.mem_cons.mp ht with rfl | ht
    · exact law_pass p l e (s.setDrawn d0) m below meth c Q D ty tl t0 mi b L xs (hC.dr d0) ad ob g x y z f u C ma n1 n2 nL n4 n5 kk rep bro th H locs cells slots hW hS ls (7 * i) hj7 hl ⟨by omega, by omega⟩ (NX d0 hd0 0 _ _ (fun kk1 n51 h => by have := bud_step hki h (show 0 + 1 ≤ 579 + 17 * n5 by omega); omega) (by omega))
    rcases List.mem_cons.mp ht with rfl | ht
    · exact law_many p l e (s.setDrawn d0) m below meth c Q D ty tl t0 mi b L xs (hC.dr d0) ad ob g x y z f u C ma n1 n2 nL n4 n5 kk rep bro th H locs cells slots hW hS ls (7 * i) hj7 hl ⟨by omega, by omega⟩ (NX d0 hd0 58 _ _ (fun kk1 n51 h => by have := bud_step hki h (show 58 + 1 ≤ 579 + 17 * n5 by omega); omega) (by omega))
    rcases List.mem_cons.mp ht with rfl | ht
    · exact law_meanWorth p l e s m below meth c Q D ty tl t0 mi b L xs hC ad ob g x y z f u C ma n1 n2 nL n4 n5 kk rep bro th H locs cells slots hW hS ls (7 * i) hj7 hl d0 hd0 ⟨by omega, by omega⟩ (fun d hd => NX d hd 116 _ _ (fun kk1 n51 h => by rcases h with ⟨rfl, rfl⟩ | h; (rw [hbd]; omega); omega) (by omega))
    rcases List.mem_cons.mp ht with rfl | ht
    · exact law_quote p l e (s.setDrawn d0) m below meth c Q D ty tl t0 mi b L xs (hC.dr d0) ad ob g x y z f u C ma n1 n2 nL n4 n5 kk rep bro th H locs cells slots hW hS ls (7 * i) hj7 hl ⟨by omega, by omega⟩ (NX d0 hd0 2 _ _ (fun kk1 n51 h => by have := bud_step hki h (show 2 + 1 ≤ 579 + 17 * n5 by omega); omega) (by omega))
    rcases List.mem_cons.mp ht with rfl | ht
    · exact law_creditBy p l e (s.setDrawn d0) m below meth c Q D ty tl t0 mi b L xs (hC.dr d0) ad ob g x y z f u C ma n1 n2 nL n4 n5 kk rep bro th H locs cells slots hW hS ls (7 * i) hj7 hl ⟨by omega, by omega⟩ (NX d0 hd0 114 _ _ (fun kk1 n51 h => by have := bud_step hki h (show 114 + 1 ≤ 579 + 17 * n5 by omega); omega) (by omega))
    rcases List.mem_cons.mp ht with rfl | ht
    · exact law_previews p l e (s.setDrawn d0) m below meth c Q D ty tl t0 mi b L xs (hC.dr d0) ad ob g x y z f u C ma n1 n2 nL n4 n5 kk rep bro th H locs cells slots hW hS ls (7 * i) hj7 hl ⟨by omega, by omega⟩ (NX d0 hd0 0 _ _ (fun kk1 n51 h => by have := bud_step hki h (show 0 + 1 ≤ 579 + 17 * n5 by omega); omega) (by omega))
    rcases List.mem_cons.mp ht with rfl | ht
    · exact law_neededBy p l e (s.setDrawn d0) m below meth c Q D ty tl t0 mi b L xs (hC.dr d0) ad ob g x y z f u C ma n1 n2 nL n4 n5 kk rep bro th H locs cells slots hW hS ls (7 * i) hj7 hl ⟨by omega, by omega⟩ (NX d0 hd0 0 _ _ (fun kk1 n51 h => by have := bud_step hki h (show 0 + 1 ≤ 579 + 17 * n5 by omega); omega) (by omega))
    rcases List.mem_cons.mp ht with rfl | ht
    · exact law_digest p l e (s.setDrawn d0) m below meth c Q D ty tl t0 mi b L xs (hC.dr d0) ad ob g x y z f u C ma n1 n2 nL n4 n5 kk rep bro th H locs cells slots hW hS ls (7 * i) hj7 hl ⟨by omega, by omega⟩ (NX d0 hd0 116 _ _ (fun kk1 n51 h => by rcases h with ⟨rfl, rfl⟩ | h; (rw [hbd]; omega); omega) (by omega))
    rcases List.mem_cons.mp ht with rfl | ht
    · exact NX d0 hd0 116 _ _ (fun kk1 n51 h => by rcases h with ⟨rfl, rfl⟩ | h; (rw [hbd]; omega); omega) (by omega) g x y z f u C ma n1 n2 nL n4 n5 kk rep bro th H locs ls hW rfl (Or.inl ⟨rfl, rfl⟩) hS hl
    exact absurd ht List.not_mem_nil
