set_option maxHeartbeats 2000000 in
set_option maxRecDepth 100000 in
theorem law_isMadeOf (p : Program) (l : Launch) (e : Env) (s : State) (m : MethodId) (below : List Frame) (meth : Method) (c : Code) (Q : State → Prop) (D : va_G) (ty : Nat → ClassId) (tl : ClassId) (t0 mi b L : Nat) (xs : Nat → Int32) (hC : lwC p l s m meth c D ty tl t0 mi b L xs) (ad : Nat → Nat) (ob : Nat) (g : Nat → Nat → Int32) (x y z : Nat → Int32) (f : Nat → Int64) (u : Nat → Nat → Prop) (C : Nat → Nat → va_E) (ma : Nat → Nat → Nat) (n1 n2 nL n4 n5 kk : Nat) (rep bro : Nat → Nat → Int32) (th : Int32) (H : Heap) (locs : List Loc) (cells slots : Nat) (hW : lwI D ty tl t0 s.heap.size ad ob g x y z f u C ma n1 n2 nL n4 n5 kk rep bro th H) (hS : va_S (fun q => s.heap.size ≤ q) s.heap H locs) (ls : Array Slot) (j : Nat) (hj : j + 7 ≤ L) (hl : lv_has ls 9 [(4, .int (nI j)), (3, .ref ob), (2, .ref (ma 0 0)), (1, .ref (ad 0)), (0, .ref b)]) (hc : cells + 1 + 0 ≤ 594050 ∧ slots + 6 + 0 ≤ 7313955) (K : lwK p l e s m below meth c Q D ty tl t0 b ad ob j (ma 0 0) n5 kk 0 (cells + 1 + 0) (slots + 6 + 0)) : W p l e room_1 s m #[Value.ref b] below meth c H locs cells slots Q (F0 m 796 ls []) := by
  obtain ⟨hP, ⟨hij, hob, hlo, hoo⟩, hO, hM, hR, hN⟩ := hW
  have hC0 := hC
  obtain ⟨⟨hx, hb, hr, hml, hlocks, hlt⟩, ⟨hown, hts, hX, hbl, hL⟩, ⟨hKz, hK, hKl⟩, hNz, hT, hQ, hMS, hNc⟩ := hC
  have hbA : ¬ s.heap.size ≤ b := Nat.not_le.mpr hbl
  refine lv_aload_n hx hb dL_law_796 rfl (lv_at hl 3 rfl) ?_
  refine lv_aload_n hx hb dL_law_797 rfl (lv_at hl 4 rfl) ?_
  refine lv_iload hx hb dL_law_798 (lv_at hl 0 rfl) ?_
  refine lv_iconst (v := nI 1) hx hb dL_law_800 (by decide) ?_
  refine lv_iadd hx hb dL_law_801 ?_
  refine zeq (nI_add j 1) ?_
  refine zsld hx hb hX hbl hbA hS (show j + 1 < L by omega) (by omega) dL_law_802 ?_
  refine lv_aload_n hx hb dL_law_803 rfl (lv_at hl 4 rfl) ?_
  refine lv_iload hx hb dL_law_804 (lv_at hl 0 rfl) ?_
  refine lv_iconst (v := nI 2) hx hb dL_law_806 (by decide) ?_
  refine lv_iadd hx hb dL_law_807 ?_
  refine zeq (nI_add j 2) ?_
  refine zsld hx hb hX hbl hbA hS (show j + 2 < L by omega) (by omega) dL_law_808 ?_
  refine lv_aload_n hx hb dL_law_809 rfl (lv_at hl 4 rfl) ?_
  refine lv_iload hx hb dL_law_810 (lv_at hl 0 rfl) ?_
  refine lv_iconst (v := nI 3) hx hb dL_law_812 (by decide) ?_
  refine lv_iadd hx hb dL_law_813 ?_
  refine zeq (nI_add j 3) ?_
  refine zsld hx hb hX hbl hbA hS (show j + 3 < L by omega) (by omega) dL_law_814 ?_
  refine lv_aload_n hx hb dL_law_815 rfl (lv_at hl 4 rfl) ?_
  refine lv_iload hx hb dL_law_816 (lv_at hl 0 rfl) ?_
  refine lv_iconst (v := nI 4) hx hb dL_law_818 (by decide) ?_
  refine lv_iadd hx hb dL_law_819 ?_
  refine zeq (nI_add j 4) ?_
  refine zsld hx hb hX hbl hbA hS (show j + 4 < L by omega) (by omega) dL_law_820 ?_
  refine lv_aload_n hx hb dL_law_821 rfl (lv_at hl 4 rfl) ?_
  refine lv_iload hx hb dL_law_822 (lv_at hl 0 rfl) ?_
  refine lv_iconst (v := nI 5) hx hb dL_law_824 (by decide) ?_
  refine lv_iadd hx hb dL_law_825 ?_
  refine zeq (nI_add j 5) ?_
  refine zsld hx hb hX hbl hbA hS (show j + 5 < L by omega) (by omega) dL_law_826 ?_
  refine lv_aload_n hx hb dL_law_827 rfl (lv_at hl 4 rfl) ?_
  refine lv_iload hx hb dL_law_828 (lv_at hl 0 rfl) ?_
  refine lv_bipush (v := nI 6) hx hb dL_law_830 (by decide) ?_
  refine lv_iadd hx hb dL_law_832 ?_
  refine zeq (nI_add j 6) ?_
  refine zsld hx hb hX hbl hbA hS (show j + 6 < L by omega) (by omega) dL_law_833 ?_
  refine lv_aload_n hx hb dL_law_834 rfl (lv_at hl 1 rfl) ?_
  obtain ⟨k, b9, g1, x1, y1, z1, n11, n21, nL1, n41, n51, kk1, rep1, bro1, hk4, hZ, hWr, hMo, hN1, hkk⟩ := b_isMadeOf l hlt D ty tl (mA s.heap.size ob ad) u C ma t0 mi g x y z ad hij ob f H.size hob n1 n2 nL n4 n5 kk th rep bro hR hN (xs (j + 1)) (xs (j + 2)) (xs (j + 3)) (xs (j + 4)) (xs (j + 5)) (xs (j + 6))
  have hWA := WC_hs hlo hoo hS.1
  refine va_calli (vx_runSW (As := [.ref (ad 0), .int (xs (j + 1)), .int (xs (j + 2)), .int (xs (j + 3)), .int (xs (j + 4)), .int (xs (j + 5)), .int (xs (j + 6)), .ref ob]) (rest := []) ⟨hx, hb, hml, hown, hts⟩ hWr (vx_cwSW 8 hts gL_law_L_isMadeOf rfl rfl rfl (by decide +kernel) ⟨Nat.le_of_ble_eq_true rfl, Nat.le_of_ble_eq_true rfl⟩) ⟨zBl wX_blind, fun U h1 h2 => ⟨rfl, wX_law hC0 hS hP hO U h1 h2⟩⟩ rfl rfl hl.1 rfl (lv_room (Nat.le_of_ble_eq_true rfl)) dL_law_835 ⟨by show _ ≤ 594050; omega, by show _ ≤ 7313955; omega⟩) hS (fun q _ h => hWA q h) (fun q h => hWA q h) (fun r S t H1 locs ht hvm hw hB hz1 hk1 hS => ?_)
  obtain ⟨g2, f2⟩ := S
  obtain ⟨rfl, hg, hout⟩ := hw
  obtain rfl : g2 = g1 := hg
  have hP : va_P D vwCl (zC ty g2 ad) H1 := by rw [← ht]; exact hB.1
  have hO : va_at D vwCl (ob, eL tl f2) H1 := by rw [← ht]; exact hB.2
  have hM : mW D (mA s.heap.size ob ad) u C ma H1 := hM.ext (fun q hq hA => hk1 q hq (mA_WC hA hq)) hz1
  clear hB ht hvm hz1 hk1 hWA
  clear t
  refine lv_istore (lv' := [(5, .int (nI k)), (4, .int (nI j)), (3, .ref ob), (2, .ref (ma 0 0)), (1, .ref (ad 0)), (0, .ref b)]) hx hb dL_law_838 hl (by decide) rfl (fun ls hl => ?_)
  refine lv_aload_n hx hb dL_law_840 rfl (lv_at hl 3 rfl) ?_
  refine lv_aload_n hx hb dL_law_841 rfl (lv_at hl 5 rfl) ?_
  refine lv_iload hx hb dL_law_842 (lv_at hl 1 rfl) ?_
  refine lv_iconst (v := nI 1) hx hb dL_law_844 (by decide) ?_
  refine lv_iadd hx hb dL_law_845 ?_
  refine zeq (nI_add j 1) ?_
  refine zsld hx hb hX hbl hbA hS (show j + 1 < L by omega) (by omega) dL_law_846 ?_
  refine lv_aload_n hx hb dL_law_847 rfl (lv_at hl 5 rfl) ?_
  refine lv_iload hx hb dL_law_848 (lv_at hl 1 rfl) ?_
  refine lv_iconst (v := nI 2) hx hb dL_law_850 (by decide) ?_
  refine lv_iadd hx hb dL_law_851 ?_
  refine zeq (nI_add j 2) ?_
  refine zsld hx hb hX hbl hbA hS (show j + 2 < L by omega) (by omega) dL_law_852 ?_
  refine lv_aload_n hx hb dL_law_853 rfl (lv_at hl 5 rfl) ?_
  refine lv_iload hx hb dL_law_854 (lv_at hl 1 rfl) ?_
  refine lv_iconst (v := nI 3) hx hb dL_law_856 (by decide) ?_
  refine lv_iadd hx hb dL_law_857 ?_
  refine zeq (nI_add j 3) ?_
  refine zsld hx hb hX hbl hbA hS (show j + 3 < L by omega) (by omega) dL_law_858 ?_
  refine lv_aload_n hx hb dL_law_859 rfl (lv_at hl 5 rfl) ?_
  refine lv_iload hx hb dL_law_860 (lv_at hl 1 rfl) ?_
  refine lv_iconst (v := nI 4) hx hb dL_law_862 (by decide) ?_
  refine lv_iadd hx hb dL_law_863 ?_
  refine zeq (nI_add j 4) ?_
  refine zsld hx hb hX hbl hbA hS (show j + 4 < L by omega) (by omega) dL_law_864 ?_
  refine lv_aload_n hx hb dL_law_865 rfl (lv_at hl 5 rfl) ?_
  refine lv_iload hx hb dL_law_866 (lv_at hl 1 rfl) ?_
  refine lv_iconst (v := nI 5) hx hb dL_law_868 (by decide) ?_
  refine lv_iadd hx hb dL_law_869 ?_
  refine zeq (nI_add j 5) ?_
  refine zsld hx hb hX hbl hbA hS (show j + 5 < L by omega) (by omega) dL_law_870 ?_
  refine lv_aload_n hx hb dL_law_871 rfl (lv_at hl 5 rfl) ?_
  refine lv_iload hx hb dL_law_872 (lv_at hl 1 rfl) ?_
  refine lv_bipush (v := nI 6) hx hb dL_law_874 (by decide) ?_
  refine lv_iadd hx hb dL_law_876 ?_
  refine zeq (nI_add j 6) ?_
  refine zsld hx hb hX hbl hbA hS (show j + 6 < L by omega) (by omega) dL_law_877 ?_
  refine va_calli (va_runV (As := [.int (xs (j + 1)), .int (xs (j + 2)), .int (xs (j + 3)), .int (xs (j + 4)), .int (xs (j + 5)), .int (xs (j + 6))]) (rest := []) ⟨hx, hb, hml, hown, hts⟩ hMo (cwV 6 hts gL_law_X12_isMadeOf rfl rfl rfl (by decide +kernel) ⟨Nat.le_of_ble_eq_true rfl, Nat.le_of_ble_eq_true rfl⟩) ⟨zBl mI_blind, va_recv hK (hM.Pa hR.o.1 rfl hR.o.2) (ci := 13) (q0 := 0) rfl rfl, fun U h1 h2 => ⟨rfl, mI_law hC0 hS hM U h1 h2⟩⟩ rfl rfl hl.1 rfl (lv_room (Nat.le_of_ble_eq_true rfl)) dL_law_878 ⟨by show _ ≤ 594050; omega, by show _ ≤ 7313955; omega⟩) hS (fun q _ h => h.1) (fun q h => h.1) (fun r S t H2 locs ht hvm hw hB hz1 hk1 hS => ?_)
  obtain ⟨u2, C2, ma2⟩ := S
  obtain ⟨rfl, h00, hR2⟩ := hw
  have h00 : ma2 0 0 = ma 0 0 := h00
  have hM2 : mW D (mA s.heap.size ob ad) u2 C2 ma2 H2 := by rw [← ht]; exact hB.1
  have hP : va_P D vwCl (zC ty g2 ad) H2 := zC_kept hP (fun k hk h => hk1 _ h (fun z => z.2.2 k hk rfl))
  have hO : va_at D vwCl (ob, eL tl f2) H2 := hO.kept (hk1 ob hO.lt (fun z => z.2.1 rfl))
  refine lv_istore (lv' := [(6, .int r), (5, .int (nI k)), (4, .int (nI j)), (3, .ref ob), (2, .ref (ma 0 0)), (1, .ref (ad 0)), (0, .ref b)]) hx hb dL_law_881 hl (by decide) rfl (fun ls hl => ?_)
  have hl5 : lv_has ls 9 [(4, .int (nI j)), (3, .ref ob), (2, .ref (ma 0 0)), (1, .ref (ad 0)), (0, .ref b)] := lv_sub hl [2, 3, 4, 5, 6] rfl
  have hl : lv_has ls 9 [(6, .int r), (5, .int (nI k)), (4, .int (nI j)), (3, .ref ob), (2, .ref (ma 0 0)), (1, .ref (ad 0)), (0, .ref b)] := hl
  rw [← h00] at hl
  exact law_tailZ hC0 hS hO hM2 hk4 hR2 hout hZ hl ⟨by show _ ≤ 594050; omega, by show _ ≤ 7313955; omega⟩ dL_law_883 dL_law_884 dL_law_887 dL_law_889 dL_law_894 dL_law_896 dL_law_899 dL_law_900 dL_law_901 dL_law_902 dL_law_904 dL_law_907 dL_law_908 dL_law_911 dL_law_912 dL_law_913 dL_law_918 (by decide) (K _ _ _ _ _ _ _ _ _ _ _ _ _ _ _ _ _ _ _ _ ⟨hP, ⟨hij, hob, hlo, hoo⟩, hO, hM2, hR2, hN1⟩ h00 hkk hS hl5)
set_option maxHeartbeats 2000000 in
set_option maxRecDepth 100000 in
theorem law_contract (p : Program) (l : Launch) (e : Env) (s : State) (m : MethodId) (below : List Frame) (meth : Method) (c : Code) (Q : State → Prop) (D : va_G) (ty : Nat → ClassId) (tl : ClassId) (t0 mi b L : Nat) (xs : Nat → Int32) (hC : lwC p l s m meth c D ty tl t0 mi b L xs) (ad : Nat → Nat) (ob : Nat) (g : Nat → Nat → Int32) (x y z : Nat → Int32) (f : Nat → Int64) (u : Nat → Nat → Prop) (C : Nat → Nat → va_E) (ma : Nat → Nat → Nat) (n1 n2 nL n4 n5 kk : Nat) (rep bro : Nat → Nat → Int32) (th : Int32) (H : Heap) (locs : List Loc) (cells slots : Nat) (hW : lwI D ty tl t0 s.heap.size ad ob g x y z f u C ma n1 n2 nL n4 n5 kk rep bro th H) (hS : va_S (fun q => s.heap.size ≤ q) s.heap H locs) (ls : Array Slot) (j : Nat) (hj : j + 7 ≤ L) (hl : lv_has ls 9 [(4, .int (nI j)), (3, .ref ob), (2, .ref (ma 0 0)), (1, .ref (ad 0)), (0, .ref b)]) (hc : cells + 1 + 2 ≤ 594050 ∧ slots + 6 + 66 ≤ 7313955) (K : lwK p l e s m below meth c Q D ty tl t0 b ad ob j (ma 0 0) n5 kk 2 (cells + 1 + 2) (slots + 6 + 66)) : W p l e room_1 s m #[Value.ref b] below meth c H locs cells slots Q (F0 m 921 ls []) := by
  obtain ⟨hP, ⟨hij, hob, hlo, hoo⟩, hO, hM, hR, hN⟩ := hW
  have hC0 := hC
  obtain ⟨⟨hx, hb, hr, hml, hlocks, hlt⟩, ⟨hown, hts, hX, hbl, hL⟩, ⟨hKz, hK, hKl⟩, hNz, hT, hQ, hMS, hNc⟩ := hC
  have hbA : ¬ s.heap.size ≤ b := Nat.not_le.mpr hbl
  refine lv_aload_n hx hb dL_law_921 rfl (lv_at hl 3 rfl) ?_
  refine lv_aload_n hx hb dL_law_922 rfl (lv_at hl 4 rfl) ?_
  refine lv_iload hx hb dL_law_923 (lv_at hl 0 rfl) ?_
  refine lv_iconst (v := nI 1) hx hb dL_law_925 (by decide) ?_
  refine lv_iadd hx hb dL_law_926 ?_
  refine zeq (nI_add j 1) ?_
  refine zsld hx hb hX hbl hbA hS (show j + 1 < L by omega) (by omega) dL_law_927 ?_
  refine lv_aload_n hx hb dL_law_928 rfl (lv_at hl 4 rfl) ?_
  refine lv_iload hx hb dL_law_929 (lv_at hl 0 rfl) ?_
  refine lv_iconst (v := nI 2) hx hb dL_law_931 (by decide) ?_
  refine lv_iadd hx hb dL_law_932 ?_
  refine zeq (nI_add j 2) ?_
  refine zsld hx hb hX hbl hbA hS (show j + 2 < L by omega) (by omega) dL_law_933 ?_
  refine lv_aload_n hx hb dL_law_934 rfl (lv_at hl 4 rfl) ?_
  refine lv_iload hx hb dL_law_935 (lv_at hl 0 rfl) ?_
  refine lv_iconst (v := nI 3) hx hb dL_law_937 (by decide) ?_
  refine lv_iadd hx hb dL_law_938 ?_
  refine zeq (nI_add j 3) ?_
  refine zsld hx hb hX hbl hbA hS (show j + 3 < L by omega) (by omega) dL_law_939 ?_
  refine lv_aload_n hx hb dL_law_940 rfl (lv_at hl 4 rfl) ?_
  refine lv_iload hx hb dL_law_941 (lv_at hl 0 rfl) ?_
  refine lv_iconst (v := nI 4) hx hb dL_law_943 (by decide) ?_
  refine lv_iadd hx hb dL_law_944 ?_
  refine zeq (nI_add j 4) ?_
  refine zsld hx hb hX hbl hbA hS (show j + 4 < L by omega) (by omega) dL_law_945 ?_
  refine lv_aload_n hx hb dL_law_946 rfl (lv_at hl 4 rfl) ?_
  refine lv_iload hx hb dL_law_947 (lv_at hl 0 rfl) ?_
  refine lv_iconst (v := nI 5) hx hb dL_law_949 (by decide) ?_
  refine lv_iadd hx hb dL_law_950 ?_
  refine zeq (nI_add j 5) ?_
  refine zsld hx hb hX hbl hbA hS (show j + 5 < L by omega) (by omega) dL_law_951 ?_
  refine lv_aload_n hx hb dL_law_952 rfl (lv_at hl 4 rfl) ?_
  refine lv_iload hx hb dL_law_953 (lv_at hl 0 rfl) ?_
  refine lv_bipush (v := nI 6) hx hb dL_law_955 (by decide) ?_
  refine lv_iadd hx hb dL_law_957 ?_
  refine zeq (nI_add j 6) ?_
  refine zsld hx hb hX hbl hbA hS (show j + 6 < L by omega) (by omega) dL_law_958 ?_
  refine lv_aload_n hx hb dL_law_959 rfl (lv_at hl 1 rfl) ?_
  obtain ⟨k, b9, g1, x1, y1, z1, n11, n21, nL1, n41, n51, kk1, rep1, bro1, hk4, hZ, hWr, hMo, hN1, hkk⟩ := b_contract l hlt D ty tl (mA s.heap.size ob ad) u C ma t0 mi g x y z ad hij ob f H.size hob n1 n2 nL n4 n5 kk th rep bro hR hN (xs (j + 1)) (xs (j + 2)) (xs (j + 3)) (xs (j + 4)) (xs (j + 5)) (xs (j + 6))
  have hWA := WC_hs hlo hoo hS.1
  refine va_calli (vx_runSW (As := [.ref (ad 0), .int (xs (j + 1)), .int (xs (j + 2)), .int (xs (j + 3)), .int (xs (j + 4)), .int (xs (j + 5)), .int (xs (j + 6)), .ref ob]) (rest := []) ⟨hx, hb, hml, hown, hts⟩ hWr (vx_cwSW 8 hts gL_law_L_contract rfl rfl rfl (by decide +kernel) ⟨Nat.le_of_ble_eq_true rfl, Nat.le_of_ble_eq_true rfl⟩) ⟨zBl wX_blind, fun U h1 h2 => ⟨rfl, wX_law hC0 hS hP hO U h1 h2⟩⟩ rfl rfl hl.1 rfl (lv_room (Nat.le_of_ble_eq_true rfl)) dL_law_960 ⟨by show _ ≤ 594050; omega, by show _ ≤ 7313955; omega⟩) hS (fun q _ h => hWA q h) (fun q h => hWA q h) (fun r S t H1 locs ht hvm hw hB hz1 hk1 hS => ?_)
  obtain ⟨g2, f2⟩ := S
  obtain ⟨rfl, hg, hout⟩ := hw
  obtain rfl : g2 = g1 := hg
  have hP : va_P D vwCl (zC ty g2 ad) H1 := by rw [← ht]; exact hB.1
  have hO : va_at D vwCl (ob, eL tl f2) H1 := by rw [← ht]; exact hB.2
  have hM : mW D (mA s.heap.size ob ad) u C ma H1 := hM.ext (fun q hq hA => hk1 q hq (mA_WC hA hq)) hz1
  clear hB ht hvm hz1 hk1 hWA
  clear t
  refine lv_istore (lv' := [(5, .int (nI k)), (4, .int (nI j)), (3, .ref ob), (2, .ref (ma 0 0)), (1, .ref (ad 0)), (0, .ref b)]) hx hb dL_law_963 hl (by decide) rfl (fun ls hl => ?_)
  refine lv_aload_n hx hb dL_law_965 rfl (lv_at hl 3 rfl) ?_
  refine lv_aload_n hx hb dL_law_966 rfl (lv_at hl 5 rfl) ?_
  refine lv_iload hx hb dL_law_967 (lv_at hl 1 rfl) ?_
  refine lv_iconst (v := nI 1) hx hb dL_law_969 (by decide) ?_
  refine lv_iadd hx hb dL_law_970 ?_
  refine zeq (nI_add j 1) ?_
  refine zsld hx hb hX hbl hbA hS (show j + 1 < L by omega) (by omega) dL_law_971 ?_
  refine lv_aload_n hx hb dL_law_972 rfl (lv_at hl 5 rfl) ?_
  refine lv_iload hx hb dL_law_973 (lv_at hl 1 rfl) ?_
  refine lv_iconst (v := nI 2) hx hb dL_law_975 (by decide) ?_
  refine lv_iadd hx hb dL_law_976 ?_
  refine zeq (nI_add j 2) ?_
  refine zsld hx hb hX hbl hbA hS (show j + 2 < L by omega) (by omega) dL_law_977 ?_
  refine lv_aload_n hx hb dL_law_978 rfl (lv_at hl 5 rfl) ?_
  refine lv_iload hx hb dL_law_979 (lv_at hl 1 rfl) ?_
  refine lv_iconst (v := nI 3) hx hb dL_law_981 (by decide) ?_
  refine lv_iadd hx hb dL_law_982 ?_
  refine zeq (nI_add j 3) ?_
  refine zsld hx hb hX hbl hbA hS (show j + 3 < L by omega) (by omega) dL_law_983 ?_
  refine lv_aload_n hx hb dL_law_984 rfl (lv_at hl 5 rfl) ?_
  refine lv_iload hx hb dL_law_985 (lv_at hl 1 rfl) ?_
  refine lv_iconst (v := nI 4) hx hb dL_law_987 (by decide) ?_
  refine lv_iadd hx hb dL_law_988 ?_
  refine zeq (nI_add j 4) ?_
  refine zsld hx hb hX hbl hbA hS (show j + 4 < L by omega) (by omega) dL_law_989 ?_
  refine lv_aload_n hx hb dL_law_990 rfl (lv_at hl 5 rfl) ?_
  refine lv_iload hx hb dL_law_991 (lv_at hl 1 rfl) ?_
  refine lv_iconst (v := nI 5) hx hb dL_law_993 (by decide) ?_
  refine lv_iadd hx hb dL_law_994 ?_
  refine zeq (nI_add j 5) ?_
  refine zsld hx hb hX hbl hbA hS (show j + 5 < L by omega) (by omega) dL_law_995 ?_
  refine lv_aload_n hx hb dL_law_996 rfl (lv_at hl 5 rfl) ?_
  refine lv_iload hx hb dL_law_997 (lv_at hl 1 rfl) ?_
  refine lv_bipush (v := nI 6) hx hb dL_law_999 (by decide) ?_
  refine lv_iadd hx hb dL_law_1001 ?_
  refine zeq (nI_add j 6) ?_
  refine zsld hx hb hX hbl hbA hS (show j + 6 < L by omega) (by omega) dL_law_1002 ?_
  refine va_calli (va_runV (As := [.int (xs (j + 1)), .int (xs (j + 2)), .int (xs (j + 3)), .int (xs (j + 4)), .int (xs (j + 5)), .int (xs (j + 6))]) (rest := []) ⟨hx, hb, hml, hown, hts⟩ hMo (cwV 6 hts gL_law_X12_contract rfl rfl rfl (by decide +kernel) ⟨Nat.le_of_ble_eq_true rfl, Nat.le_of_ble_eq_true rfl⟩) ⟨zBl mI_blind, va_recv hK (hM.Pa hR.o.1 rfl hR.o.2) (ci := 13) (q0 := 0) rfl rfl, fun U h1 h2 => ⟨rfl, mI_law hC0 hS hM U h1 h2⟩⟩ rfl rfl hl.1 rfl (lv_room (Nat.le_of_ble_eq_true rfl)) dL_law_1003 ⟨by show _ ≤ 594050; omega, by show _ ≤ 7313955; omega⟩) hS (fun q _ h => h.1) (fun q h => h.1) (fun r S t H2 locs ht hvm hw hB hz1 hk1 hS => ?_)
  obtain ⟨u2, C2, ma2⟩ := S
  obtain ⟨rfl, h00, hR2⟩ := hw
  have h00 : ma2 0 0 = ma 0 0 := h00
  have hM2 : mW D (mA s.heap.size ob ad) u2 C2 ma2 H2 := by rw [← ht]; exact hB.1
  have hP : va_P D vwCl (zC ty g2 ad) H2 := zC_kept hP (fun k hk h => hk1 _ h (fun z => z.2.2 k hk rfl))
  have hO : va_at D vwCl (ob, eL tl f2) H2 := hO.kept (hk1 ob hO.lt (fun z => z.2.1 rfl))
  refine lv_istore (lv' := [(6, .int r), (5, .int (nI k)), (4, .int (nI j)), (3, .ref ob), (2, .ref (ma 0 0)), (1, .ref (ad 0)), (0, .ref b)]) hx hb dL_law_1006 hl (by decide) rfl (fun ls hl => ?_)
  have hl5 : lv_has ls 9 [(4, .int (nI j)), (3, .ref ob), (2, .ref (ma 0 0)), (1, .ref (ad 0)), (0, .ref b)] := lv_sub hl [2, 3, 4, 5, 6] rfl
  have hl : lv_has ls 9 [(6, .int r), (5, .int (nI k)), (4, .int (nI j)), (3, .ref ob), (2, .ref (ma 0 0)), (1, .ref (ad 0)), (0, .ref b)] := hl
  rw [← h00] at hl
  exact law_tail hC0 hS hO hM2 hk4 hR2 hout hl ⟨by show _ ≤ 594050; omega, by show _ ≤ 7313955; omega⟩ dL_law_1008 dL_law_1009 dL_law_1012 dL_law_1014 dL_law_1019 dL_law_1021 dL_law_1024 dL_law_1025 dL_law_1026 dL_law_1027 dL_law_1029 dL_law_1030 dL_law_1031 dL_law_1036 (by decide) (K _ _ _ _ _ _ _ _ _ _ _ _ _ _ _ _ _ _ _ _ ⟨hP, ⟨hij, hob, hlo, hoo⟩, hO, hM2, hR2, hN1⟩ h00 hkk hS hl5)
set_option maxHeartbeats 2000000 in
set_option maxRecDepth 100000 in
theorem law_end (p : Program) (l : Launch) (e : Env) (s : State) (m : MethodId) (below : List Frame) (meth : Method) (c : Code) (Q : State → Prop) (D : va_G) (ty : Nat → ClassId) (tl : ClassId) (t0 mi b L : Nat) (xs : Nat → Int32) (hC : lwC p l s m meth c D ty tl t0 mi b L xs) (ad : Nat → Nat) (ob : Nat) (g : Nat → Nat → Int32) (x y z : Nat → Int32) (f : Nat → Int64) (u : Nat → Nat → Prop) (C : Nat → Nat → va_E) (ma : Nat → Nat → Nat) (n1 n2 nL n4 n5 kk : Nat) (rep bro : Nat → Nat → Int32) (th : Int32) (H : Heap) (locs : List Loc) (cells slots : Nat) (hW : lwI D ty tl t0 s.heap.size ad ob g x y z f u C ma n1 n2 nL n4 n5 kk rep bro th H) (hS : va_S (fun q => s.heap.size ≤ q) s.heap H locs) (ls : Array Slot) (j : Nat) (hj : j + 7 ≤ L) (hl : lv_has ls 9 [(4, .int (nI j)), (3, .ref ob), (2, .ref (ma 0 0)), (1, .ref (ad 0)), (0, .ref b)]) (hc : cells + 1 + 0 ≤ 594050 ∧ slots + 6 + 0 ≤ 7313955) (K : lwK p l e s m below meth c Q D ty tl t0 b ad ob j (ma 0 0) n5 kk 0 (cells + 1 + 0) (slots + 6 + 0)) : W p l e room_1 s m #[Value.ref b] below meth c H locs cells slots Q (F0 m 1039 ls []) := by
  obtain ⟨hP, ⟨hij, hob, hlo, hoo⟩, hO, hM, hR, hN⟩ := hW
  have hC0 := hC
  obtain ⟨⟨hx, hb, hr, hml, hlocks, hlt⟩, ⟨hown, hts, hX, hbl, hL⟩, ⟨hKz, hK, hKl⟩, hNz, hT, hQ, hMS, hNc⟩ := hC
  have hbA : ¬ s.heap.size ≤ b := Nat.not_le.mpr hbl
  refine lv_aload_n hx hb dL_law_1039 rfl (lv_at hl 3 rfl) ?_
  refine lv_aload_n hx hb dL_law_1040 rfl (lv_at hl 4 rfl) ?_
  refine lv_iload hx hb dL_law_1041 (lv_at hl 0 rfl) ?_
  refine lv_iconst (v := nI 1) hx hb dL_law_1043 (by decide) ?_
  refine lv_iadd hx hb dL_law_1044 ?_
  refine zeq (nI_add j 1) ?_
  refine zsld hx hb hX hbl hbA hS (show j + 1 < L by omega) (by omega) dL_law_1045 ?_
  refine lv_aload_n hx hb dL_law_1046 rfl (lv_at hl 1 rfl) ?_
  obtain ⟨k, b9, g1, x1, y1, z1, n11, n21, nL1, n41, n51, kk1, rep1, bro1, hk4, hZ, hWr, hMo, hN1, hkk⟩ := b_end l hlt D ty tl (mA s.heap.size ob ad) u C ma t0 mi g x y z ad hij ob f H.size hob n1 n2 nL n4 n5 kk th rep bro hR hN (xs (j + 1))
  have hWA := WC_hs hlo hoo hS.1
  refine va_calli (vx_runSW (As := [.ref (ad 0), .int (xs (j + 1)), .ref ob]) (rest := []) ⟨hx, hb, hml, hown, hts⟩ hWr (vx_cwSW 3 hts gL_law_L_end rfl rfl rfl (by decide +kernel) ⟨Nat.le_of_ble_eq_true rfl, Nat.le_of_ble_eq_true rfl⟩) ⟨zBl wX_blind, fun U h1 h2 => ⟨rfl, wX_law hC0 hS hP hO U h1 h2⟩⟩ rfl rfl hl.1 rfl (lv_room (Nat.le_of_ble_eq_true rfl)) dL_law_1047 ⟨by show _ ≤ 594050; omega, by show _ ≤ 7313955; omega⟩) hS (fun q _ h => hWA q h) (fun q h => hWA q h) (fun r S t H1 locs ht hvm hw hB hz1 hk1 hS => ?_)
  obtain ⟨g2, f2⟩ := S
  obtain ⟨rfl, hg, hout⟩ := hw
  obtain rfl : g2 = g1 := hg
  have hP : va_P D vwCl (zC ty g2 ad) H1 := by rw [← ht]; exact hB.1
  have hO : va_at D vwCl (ob, eL tl f2) H1 := by rw [← ht]; exact hB.2
  have hM : mW D (mA s.heap.size ob ad) u C ma H1 := hM.ext (fun q hq hA => hk1 q hq (mA_WC hA hq)) hz1
  clear hB ht hvm hz1 hk1 hWA
  clear t
  refine lv_istore (lv' := [(5, .int (nI k)), (4, .int (nI j)), (3, .ref ob), (2, .ref (ma 0 0)), (1, .ref (ad 0)), (0, .ref b)]) hx hb dL_law_1050 hl (by decide) rfl (fun ls hl => ?_)
  refine lv_aload_n hx hb dL_law_1052 rfl (lv_at hl 3 rfl) ?_
  refine lv_aload_n hx hb dL_law_1053 rfl (lv_at hl 5 rfl) ?_
  refine lv_iload hx hb dL_law_1054 (lv_at hl 1 rfl) ?_
  refine lv_iconst (v := nI 1) hx hb dL_law_1056 (by decide) ?_
  refine lv_iadd hx hb dL_law_1057 ?_
  refine zeq (nI_add j 1) ?_
  refine zsld hx hb hX hbl hbA hS (show j + 1 < L by omega) (by omega) dL_law_1058 ?_
  refine va_calli (va_runV (As := [.int (xs (j + 1))]) (rest := []) ⟨hx, hb, hml, hown, hts⟩ hMo (cwV 1 hts gL_law_X12_end rfl rfl rfl (by decide +kernel) ⟨Nat.le_of_ble_eq_true rfl, Nat.le_of_ble_eq_true rfl⟩) ⟨zBl mI_blind, va_recv hK (hM.Pa hR.o.1 rfl hR.o.2) (ci := 13) (q0 := 0) rfl rfl, fun U h1 h2 => ⟨rfl, mI_law hC0 hS hM U h1 h2⟩⟩ rfl rfl hl.1 rfl (lv_room (Nat.le_of_ble_eq_true rfl)) dL_law_1059 ⟨by show _ ≤ 594050; omega, by show _ ≤ 7313955; omega⟩) hS (fun q _ h => h.1) (fun q h => h.1) (fun r S t H2 locs ht hvm hw hB hz1 hk1 hS => ?_)
  obtain ⟨u2, C2, ma2⟩ := S
  obtain ⟨rfl, h00, hR2⟩ := hw
  have h00 : ma2 0 0 = ma 0 0 := h00
  have hM2 : mW D (mA s.heap.size ob ad) u2 C2 ma2 H2 := by rw [← ht]; exact hB.1
  have hP : va_P D vwCl (zC ty g2 ad) H2 := zC_kept hP (fun k hk h => hk1 _ h (fun z => z.2.2 k hk rfl))
  have hO : va_at D vwCl (ob, eL tl f2) H2 := hO.kept (hk1 ob hO.lt (fun z => z.2.1 rfl))
  refine lv_istore (lv' := [(6, .int r), (5, .int (nI k)), (4, .int (nI j)), (3, .ref ob), (2, .ref (ma 0 0)), (1, .ref (ad 0)), (0, .ref b)]) hx hb dL_law_1062 hl (by decide) rfl (fun ls hl => ?_)
  have hl5 : lv_has ls 9 [(4, .int (nI j)), (3, .ref ob), (2, .ref (ma 0 0)), (1, .ref (ad 0)), (0, .ref b)] := lv_sub hl [2, 3, 4, 5, 6] rfl
  have hl : lv_has ls 9 [(6, .int r), (5, .int (nI k)), (4, .int (nI j)), (3, .ref ob), (2, .ref (ma 0 0)), (1, .ref (ad 0)), (0, .ref b)] := hl
  rw [← h00] at hl
  exact law_tail hC0 hS hO hM2 hk4 hR2 hout hl ⟨by show _ ≤ 594050; omega, by show _ ≤ 7313955; omega⟩ dL_law_1064 dL_law_1065 dL_law_1068 dL_law_1070 dL_law_1075 dL_law_1077 dL_law_1080 dL_law_1081 dL_law_1082 dL_law_1083 dL_law_1085 dL_law_1086 dL_law_1087 dL_law_1092 (by decide) (K _ _ _ _ _ _ _ _ _ _ _ _ _ _ _ _ _ _ _ _ ⟨hP, ⟨hij, hob, hlo, hoo⟩, hO, hM2, hR2, hN1⟩ h00 hkk hS hl5)
set_option maxHeartbeats 2000000 in
set_option maxRecDepth 100000 in
theorem law_covered (p : Program) (l : Launch) (e : Env) (s : State) (m : MethodId) (below : List Frame) (meth : Method) (c : Code) (Q : State → Prop) (D : va_G) (ty : Nat → ClassId) (tl : ClassId) (t0 mi b L : Nat) (xs : Nat → Int32) (hC : lwC p l s m meth c D ty tl t0 mi b L xs) (ad : Nat → Nat) (ob : Nat) (g : Nat → Nat → Int32) (x y z : Nat → Int32) (f : Nat → Int64) (u : Nat → Nat → Prop) (C : Nat → Nat → va_E) (ma : Nat → Nat → Nat) (n1 n2 nL n4 n5 kk : Nat) (rep bro : Nat → Nat → Int32) (th : Int32) (H : Heap) (locs : List Loc) (cells slots : Nat) (hW : lwI D ty tl t0 s.heap.size ad ob g x y z f u C ma n1 n2 nL n4 n5 kk rep bro th H) (hS : va_S (fun q => s.heap.size ≤ q) s.heap H locs) (ls : Array Slot) (j : Nat) (hj : j + 7 ≤ L) (hl : lv_has ls 9 [(4, .int (nI j)), (3, .ref ob), (2, .ref (ma 0 0)), (1, .ref (ad 0)), (0, .ref b)]) (hc : cells + 1 + 0 ≤ 594050 ∧ slots + 6 + 0 ≤ 7313955) (K : lwK p l e s m below meth c Q D ty tl t0 b ad ob j (ma 0 0) n5 kk 0 (cells + 1 + 0) (slots + 6 + 0)) : W p l e room_1 s m #[Value.ref b] below meth c H locs cells slots Q (F0 m 1095 ls []) := by
  obtain ⟨hP, ⟨hij, hob, hlo, hoo⟩, hO, hM, hR, hN⟩ := hW
  have hC0 := hC
  obtain ⟨⟨hx, hb, hr, hml, hlocks, hlt⟩, ⟨hown, hts, hX, hbl, hL⟩, ⟨hKz, hK, hKl⟩, hNz, hT, hQ, hMS, hNc⟩ := hC
  have hbA : ¬ s.heap.size ≤ b := Nat.not_le.mpr hbl
  refine lv_aload_n hx hb dL_law_1095 rfl (lv_at hl 3 rfl) ?_
  refine lv_aload_n hx hb dL_law_1096 rfl (lv_at hl 4 rfl) ?_
  refine lv_iload hx hb dL_law_1097 (lv_at hl 0 rfl) ?_
  refine lv_iconst (v := nI 1) hx hb dL_law_1099 (by decide) ?_
  refine lv_iadd hx hb dL_law_1100 ?_
  refine zeq (nI_add j 1) ?_
  refine zsld hx hb hX hbl hbA hS (show j + 1 < L by omega) (by omega) dL_law_1101 ?_
  refine lv_aload_n hx hb dL_law_1102 rfl (lv_at hl 4 rfl) ?_
  refine lv_iload hx hb dL_law_1103 (lv_at hl 0 rfl) ?_
  refine lv_iconst (v := nI 2) hx hb dL_law_1105 (by decide) ?_
  refine lv_iadd hx hb dL_law_1106 ?_
  refine zeq (nI_add j 2) ?_
  refine zsld hx hb hX hbl hbA hS (show j + 2 < L by omega) (by omega) dL_law_1107 ?_
  refine lv_aload_n hx hb dL_law_1108 rfl (lv_at hl 4 rfl) ?_
  refine lv_iload hx hb dL_law_1109 (lv_at hl 0 rfl) ?_
  refine lv_iconst (v := nI 3) hx hb dL_law_1111 (by decide) ?_
  refine lv_iadd hx hb dL_law_1112 ?_
  refine zeq (nI_add j 3) ?_
  refine zsld hx hb hX hbl hbA hS (show j + 3 < L by omega) (by omega) dL_law_1113 ?_
  refine lv_aload_n hx hb dL_law_1114 rfl (lv_at hl 4 rfl) ?_
  refine lv_iload hx hb dL_law_1115 (lv_at hl 0 rfl) ?_
  refine lv_iconst (v := nI 4) hx hb dL_law_1117 (by decide) ?_
  refine lv_iadd hx hb dL_law_1118 ?_
  refine zeq (nI_add j 4) ?_
  refine zsld hx hb hX hbl hbA hS (show j + 4 < L by omega) (by omega) dL_law_1119 ?_
  refine lv_aload_n hx hb dL_law_1120 rfl (lv_at hl 1 rfl) ?_
  obtain ⟨k, b9, g1, x1, y1, z1, n11, n21, nL1, n41, n51, kk1, rep1, bro1, hk4, hZ, hWr, hMo, hN1, hkk⟩ := b_covered l hlt D ty tl (mA s.heap.size ob ad) u C ma t0 mi g x y z ad hij ob f H.size hob n1 n2 nL n4 n5 kk th rep bro hR hN (xs (j + 1)) (xs (j + 2)) (xs (j + 3)) (xs (j + 4))
  have hWA := WC_hs hlo hoo hS.1
  refine va_calli (vx_runSW (As := [.ref (ad 0), .int (xs (j + 1)), .int (xs (j + 2)), .int (xs (j + 3)), .int (xs (j + 4)), .ref ob]) (rest := []) ⟨hx, hb, hml, hown, hts⟩ hWr (vx_cwSW 6 hts gL_law_L_covered rfl rfl rfl (by decide +kernel) ⟨Nat.le_of_ble_eq_true rfl, Nat.le_of_ble_eq_true rfl⟩) ⟨zBl wX_blind, fun U h1 h2 => ⟨rfl, wX_law hC0 hS hP hO U h1 h2⟩⟩ rfl rfl hl.1 rfl (lv_room (Nat.le_of_ble_eq_true rfl)) dL_law_1121 ⟨by show _ ≤ 594050; omega, by show _ ≤ 7313955; omega⟩) hS (fun q _ h => hWA q h) (fun q h => hWA q h) (fun r S t H1 locs ht hvm hw hB hz1 hk1 hS => ?_)
  obtain ⟨g2, f2⟩ := S
  obtain ⟨rfl, hg, hout⟩ := hw
  obtain rfl : g2 = g1 := hg
  have hP : va_P D vwCl (zC ty g2 ad) H1 := by rw [← ht]; exact hB.1
  have hO : va_at D vwCl (ob, eL tl f2) H1 := by rw [← ht]; exact hB.2
  have hM : mW D (mA s.heap.size ob ad) u C ma H1 := hM.ext (fun q hq hA => hk1 q hq (mA_WC hA hq)) hz1
  clear hB ht hvm hz1 hk1 hWA
  clear t
  refine lv_istore (lv' := [(5, .int (nI k)), (4, .int (nI j)), (3, .ref ob), (2, .ref (ma 0 0)), (1, .ref (ad 0)), (0, .ref b)]) hx hb dL_law_1124 hl (by decide) rfl (fun ls hl => ?_)
  refine lv_aload_n hx hb dL_law_1126 rfl (lv_at hl 3 rfl) ?_
  refine lv_aload_n hx hb dL_law_1127 rfl (lv_at hl 5 rfl) ?_
  refine lv_iload hx hb dL_law_1128 (lv_at hl 1 rfl) ?_
  refine lv_iconst (v := nI 1) hx hb dL_law_1130 (by decide) ?_
  refine lv_iadd hx hb dL_law_1131 ?_
  refine zeq (nI_add j 1) ?_
  refine zsld hx hb hX hbl hbA hS (show j + 1 < L by omega) (by omega) dL_law_1132 ?_
  refine lv_aload_n hx hb dL_law_1133 rfl (lv_at hl 5 rfl) ?_
  refine lv_iload hx hb dL_law_1134 (lv_at hl 1 rfl) ?_
  refine lv_iconst (v := nI 2) hx hb dL_law_1136 (by decide) ?_
  refine lv_iadd hx hb dL_law_1137 ?_
  refine zeq (nI_add j 2) ?_
  refine zsld hx hb hX hbl hbA hS (show j + 2 < L by omega) (by omega) dL_law_1138 ?_
  refine lv_aload_n hx hb dL_law_1139 rfl (lv_at hl 5 rfl) ?_
  refine lv_iload hx hb dL_law_1140 (lv_at hl 1 rfl) ?_
  refine lv_iconst (v := nI 3) hx hb dL_law_1142 (by decide) ?_
  refine lv_iadd hx hb dL_law_1143 ?_
  refine zeq (nI_add j 3) ?_
  refine zsld hx hb hX hbl hbA hS (show j + 3 < L by omega) (by omega) dL_law_1144 ?_
  refine lv_aload_n hx hb dL_law_1145 rfl (lv_at hl 5 rfl) ?_
  refine lv_iload hx hb dL_law_1146 (lv_at hl 1 rfl) ?_
  refine lv_iconst (v := nI 4) hx hb dL_law_1148 (by decide) ?_
  refine lv_iadd hx hb dL_law_1149 ?_
  refine zeq (nI_add j 4) ?_
  refine zsld hx hb hX hbl hbA hS (show j + 4 < L by omega) (by omega) dL_law_1150 ?_
  refine va_calli (va_runV (As := [.int (xs (j + 1)), .int (xs (j + 2)), .int (xs (j + 3)), .int (xs (j + 4))]) (rest := []) ⟨hx, hb, hml, hown, hts⟩ hMo (cwV 4 hts gL_law_X12_covered rfl rfl rfl (by decide +kernel) ⟨Nat.le_of_ble_eq_true rfl, Nat.le_of_ble_eq_true rfl⟩) ⟨zBl mI_blind, va_recv hK (hM.Pa hR.o.1 rfl hR.o.2) (ci := 13) (q0 := 0) rfl rfl, fun U h1 h2 => ⟨rfl, mI_law hC0 hS hM U h1 h2⟩⟩ rfl rfl hl.1 rfl (lv_room (Nat.le_of_ble_eq_true rfl)) dL_law_1151 ⟨by show _ ≤ 594050; omega, by show _ ≤ 7313955; omega⟩) hS (fun q _ h => h.1) (fun q h => h.1) (fun r S t H2 locs ht hvm hw hB hz1 hk1 hS => ?_)
  obtain ⟨u2, C2, ma2⟩ := S
  obtain ⟨rfl, h00, hR2⟩ := hw
  have h00 : ma2 0 0 = ma 0 0 := h00
  have hM2 : mW D (mA s.heap.size ob ad) u2 C2 ma2 H2 := by rw [← ht]; exact hB.1
  have hP : va_P D vwCl (zC ty g2 ad) H2 := zC_kept hP (fun k hk h => hk1 _ h (fun z => z.2.2 k hk rfl))
  have hO : va_at D vwCl (ob, eL tl f2) H2 := hO.kept (hk1 ob hO.lt (fun z => z.2.1 rfl))
  refine lv_istore (lv' := [(6, .int r), (5, .int (nI k)), (4, .int (nI j)), (3, .ref ob), (2, .ref (ma 0 0)), (1, .ref (ad 0)), (0, .ref b)]) hx hb dL_law_1154 hl (by decide) rfl (fun ls hl => ?_)
  have hl5 : lv_has ls 9 [(4, .int (nI j)), (3, .ref ob), (2, .ref (ma 0 0)), (1, .ref (ad 0)), (0, .ref b)] := lv_sub hl [2, 3, 4, 5, 6] rfl
  have hl : lv_has ls 9 [(6, .int r), (5, .int (nI k)), (4, .int (nI j)), (3, .ref ob), (2, .ref (ma 0 0)), (1, .ref (ad 0)), (0, .ref b)] := hl
  rw [← h00] at hl
  exact law_tail hC0 hS hO hM2 hk4 hR2 hout hl ⟨by show _ ≤ 594050; omega, by show _ ≤ 7313955; omega⟩ dL_law_1156 dL_law_1157 dL_law_1160 dL_law_1162 dL_law_1167 dL_law_1169 dL_law_1172 dL_law_1173 dL_law_1174 dL_law_1175 dL_law_1177 dL_law_1178 dL_law_1179 dL_law_1184 (by decide) (K _ _ _ _ _ _ _ _ _ _ _ _ _ _ _ _ _ _ _ _ ⟨hP, ⟨hij, hob, hlo, hoo⟩, hO, hM2, hR2, hN1⟩ h00 hkk hS hl5)
