/-! numbers that are none; the budget of the calls -/
theorem nan_val {v : UInt64} (h : isNaN64 v = true) : FP.Core.decode FP.Core.b64 v.toNat = .nan := by
  unfold isNaN64 at h
  have h1 : (0x7ff0000000000000 : UInt64) < v &&& 0x7fffffffffffffff := of_decide_eq_true h
  rw [UInt64.lt_iff_toNat_lt, UInt64.toNat_and] at h1
  have e : (0x7fffffffffffffff : UInt64).toNat = 2 ^ 63 - 1 := by decide
  have e2 : (0x7ff0000000000000 : UInt64).toNat = 9218868437227405312 := by decide
  rw [e, Nat.and_two_pow_sub_one_eq_mod, e2] at h1
  unfold FP.Core.decode FP.Core.fieldE FP.Core.fieldT
  have ht : FP.Core.b64.tails = 4503599627370496 := by decide
  have he : FP.Core.b64.exps = 2048 := by decide
  rw [ht, he, if_pos (by omega), if_neg (by omega)]
theorem cmp_nanL {a b : UInt64} (h : FP.Core.decode FP.Core.b64 a.toNat = .nan) : FP.dcmp a b = none := by
  show FP.Core.order (FP.Core.decode FP.Core.b64 a.toNat) (FP.Core.decode FP.Core.b64 b.toNat) = none
  rw [h]; rfl
theorem cmp_rfl {a : UInt64} (h : FP.Core.decode FP.Core.b64 a.toNat ≠ .nan) : FP.dcmp a a = some .eq := by
  show FP.Core.order (FP.Core.decode FP.Core.b64 a.toNat) (FP.Core.decode FP.Core.b64 a.toNat) = some .eq
  generalize FP.Core.decode FP.Core.b64 a.toNat = d at h
  cases d with
  | nan => exact absurd rfl h
  | inf s => show some (compare _ _) = _; rw [Int.compare_eq_eq.mpr rfl]
  | fin s c q => show some (compare _ _) = _; rw [Int.compare_eq_eq.mpr rfl]
/-- two answers that are alike with a third: the same number, or both no numbers -/
theorem nan_two {r w r2 : UInt64} (h1 : alike64 r w = true) (h2 : alike64 r2 w = true) : FP.dcmp r r2 = some .eq ∨ (FP.dcmp r r2 = none ∧ FP.dcmp r r = none ∧ FP.dcmp r2 r2 = none) := by
  unfold alike64 at h1 h2
  rw [Bool.or_eq_true, decide_eq_true_eq, Bool.and_eq_true] at h1 h2
  have K : ∀ {a b : UInt64}, isNaN64 a = true → isNaN64 b = true → FP.dcmp a b = some .eq ∨ (FP.dcmp a b = none ∧ FP.dcmp a a = none ∧ FP.dcmp b b = none) := fun ha hb => Or.inr ⟨cmp_nanL (nan_val ha), cmp_nanL (nan_val ha), cmp_nanL (nan_val hb)⟩
  rcases h1 with rfl | ⟨h1, h3⟩
  · rcases h2 with rfl | ⟨h2, h4⟩
    · by_cases hn : FP.Core.decode FP.Core.b64 r2.toNat = .nan
      · exact Or.inr ⟨cmp_nanL hn, cmp_nanL hn, cmp_nanL hn⟩
      · exact Or.inl (cmp_rfl hn)
    · exact K h4 h2
  · rcases h2 with rfl | ⟨h2, h4⟩
    · exact K h1 h3
    · exact K h1 h2
set_option maxRecDepth 20000 in
theorem bud0 : ∀ n, n < 41 → (509 - n) * (579 + 17 * n) + 60 * (n + 3) ≤ 593051 := by decide
def bud (i kk n5 : Nat) : Nat := (i - kk) * (579 + 17 * n5) + 60 * kk
theorem bud_end {i kk n5 : Nat} (hi : i ≤ 512) (hk : kk ≤ i) (h5 : n5 ≤ 40) (h : 0 < n5 → n5 + 3 ≤ kk) : bud i kk n5 ≤ 593051 := by
  unfold bud
  have h1 : (i - kk) * (579 + 17 * n5) ≤ (512 - kk) * (579 + 17 * n5) := Nat.mul_le_mul_right _ (by omega)
  by_cases h0 : 0 < n5
  · have h3 := h h0
    obtain ⟨d, rfl⟩ : ∃ d, kk = n5 + 3 + d := ⟨kk - (n5 + 3), by omega⟩
    have h2 := bud0 n5 (by omega)
    obtain ⟨q, hq⟩ : ∃ q, 509 - n5 = q + d := ⟨509 - n5 - d, by omega⟩
    rw [show 512 - (n5 + 3 + d) = q by omega] at h1
    rw [hq, Nat.add_mul] at h2
    have h4 : d * 60 ≤ d * (579 + 17 * n5) := Nat.mul_le_mul_left _ (by omega)
    omega
  · have : n5 = 0 := by omega
    rw [this, Nat.mul_zero, Nat.add_zero]
    have h2 : (i - kk) * 579 ≤ 512 * 579 := Nat.mul_le_mul_right _ (by omega)
    have h3 : 60 * kk ≤ 60 * 512 := Nat.mul_le_mul_left _ (by omega)
    exact Nat.le_trans (Nat.add_le_add h2 h3) (by decide)
theorem bud_step {i kk n5 kk' n5' mc : Nat} (hk : kk ≤ i) (h : (kk' = kk ∧ n5' = n5) ∨ (kk' = kk + 1 ∧ n5 ≤ n5' ∧ mc ≤ 59)) (hmc : mc + 1 ≤ 579 + 17 * n5) : bud i kk n5 + (1 + mc) ≤ bud (i + 1) kk' n5' := by
  unfold bud
  rcases h with ⟨rfl, rfl⟩ | ⟨rfl, h1, h2⟩
  · rw [show i + 1 - kk' = (i - kk') + 1 by omega, Nat.add_mul, Nat.one_mul]
    omega
  · rw [show i + 1 - (kk + 1) = i - kk by omega]
    have := Nat.mul_le_mul_left (i - kk) (show 579 + 17 * n5 ≤ 579 + 17 * n5' by omega)
    omega
theorem bud_dig {i kk n5 : Nat} (hk : kk ≤ i) : bud (i + 1) kk n5 = bud i kk n5 + (579 + 17 * n5) := by
  unfold bud
  rw [show i + 1 - kk = (i - kk) + 1 by omega, Nat.add_mul, Nat.one_mul]
  omega
set_option maxHeartbeats 2000000 in
set_option maxRecDepth 100000 in
theorem law_digest (p : Program) (l : Launch) (e : Env) (s : State) (m : MethodId) (below : List Frame) (meth : Method) (c : Code) (Q : State → Prop) (D : va_G) (ty : Nat → ClassId) (tl : ClassId) (t0 mi b L : Nat) (xs : Nat → Int32) (hC : lwC p l s m meth c D ty tl t0 mi b L xs) (ad : Nat → Nat) (ob : Nat) (g : Nat → Nat → Int32) (x y z : Nat → Int32) (f : Nat → Int64) (u : Nat → Nat → Prop) (C : Nat → Nat → va_E) (ma : Nat → Nat → Nat) (n1 n2 nL n4 n5 kk : Nat) (rep bro : Nat → Nat → Int32) (th : Int32) (H : Heap) (locs : List Loc) (cells slots : Nat) (hW : lwI D ty tl t0 s.heap.size ad ob g x y z f u C ma n1 n2 nL n4 n5 kk rep bro th H) (hS : va_S (fun q => s.heap.size ≤ q) s.heap H locs) (ls : Array Slot) (j : Nat) (hj : j + 7 ≤ L) (hl : lv_has ls 9 [(4, .int (nI j)), (3, .ref ob), (2, .ref (ma 0 0)), (1, .ref (ad 0)), (0, .ref b)]) (hc : cells + (579 + 17 * n5) ≤ 594050 ∧ slots + (3521 + 174 * n5) ≤ 7313955) (K : lwK p l e s m below meth c Q D ty tl t0 b ad ob j (ma 0 0) n5 kk 116 (cells + (579 + 17 * n5)) (slots + (3521 + 174 * n5))) : W p l e room_1 s m #[Value.ref b] below meth c H locs cells slots Q (F0 m 2024 ls []) := by
  obtain ⟨hP, ⟨hij, hob, hlo, hoo⟩, hO, hM, hR, hN⟩ := hW
  have hC0 := hC
  obtain ⟨⟨hx, hb, hr, hml, hlocks, hlt⟩, ⟨hown, hts, hX, hbl, hL⟩, ⟨hKz, hK, hKl⟩, hNz, hT, hQ, hMS, hNc⟩ := hC
  have hbA : ¬ s.heap.size ≤ b := Nat.not_le.mpr hbl
  refine lv_aload_n hx hb dL_law_2024 rfl (lv_at hl 3 rfl) ?_
  refine zcVl (As := []) (rest := []) ⟨hx, hb, hml, hown, hts⟩ (c_X5_digest l D ty g ad n1 n2 nL n4 n5 hR.I.d) (cwV 0 hts gL_law_X5_digest rfl rfl rfl (by decide +kernel) ⟨Nat.le_of_ble_eq_true rfl, Nat.le_of_ble_eq_true rfl⟩) zI_blind (zI_pre hP hKz hNz) (va_recv hKz hP (ci := 6) (q0 := 0) rfl rfl) rfl hl.1 rfl (Nat.le_of_ble_eq_true rfl) dL_law_2025 ⟨by show _ ≤ 594050; omega, by show _ ≤ 7313955; omega⟩ (fun r_9 hr_9 => ?_)
  subst hr_9
  refine lv_aload_n hx hb dL_law_2028 rfl (lv_at hl 2 rfl) ?_
  refine va_calll (va_runV (As := []) (rest := [.long (digN g n1 n4 n5)]) ⟨hx, hb, hml, hown, hts⟩ (m_digest l D ty (mA s.heap.size ob ad) u C ma t0 mi (mv g x y z) n1 n2 nL n4 n5 th rep bro hR) (cwV 0 hts gL_law_X12_digest rfl rfl rfl (by decide +kernel) ⟨Nat.le_of_ble_eq_true rfl, Nat.le_of_ble_eq_true rfl⟩) ⟨zBl mI_blind, va_recv hK (hM.Pa hR.o.1 rfl hR.o.2) (ci := 13) (q0 := 0) rfl rfl, fun U h1 h2 => ⟨rfl, mI_law hC0 hS hM U h1 h2⟩⟩ rfl rfl hl.1 rfl (lv_room (Nat.le_of_ble_eq_true rfl)) dL_law_2029 ⟨by show _ ≤ 594050; omega, by show _ ≤ 7313955; omega⟩) hS (fun q _ h => h.1) (fun q h => h.1) (fun r C2 t H2 locs ht hvm hw hB hz1 hk1 hS => ?_)
  obtain ⟨hr, hR2⟩ := hw
  have hM2 : mW D (mA s.heap.size ob ad) u C2 ma H2 := by rw [← ht]; exact hB.1
  have hP : va_P D vwCl (zC ty g ad) H2 := zC_kept hP (fun k hk h => hk1 _ h (fun z => z.2.2 k hk rfl))
  have hO : va_at D vwCl (ob, eL tl f) H2 := hO.kept (hk1 ob hO.lt (fun z => z.2.1 rfl))
  have hr : r = digN g n1 n4 n5 := hr
  rw [hr]
  refine W.lcmp hx hb dL_law_2032 ?_
  refine zeq (y := 0) (by simp [lg_cmp]) ?_
  refine lv_if_eq (tgt := 2038) hx hb dL_law_2033 (by decide) (fun _ => ?_) (fun c => absurd rfl c)
  exact K _ _ _ _ _ _ _ _ _ _ _ _ _ _ _ _ _ _ _ _ ⟨hP, ⟨hij, hob, hlo, hoo⟩, hO, hM2, hR2, hN⟩ rfl (Or.inl ⟨rfl, rfl⟩) hS hl
set_option maxHeartbeats 2000000 in
set_option maxRecDepth 100000 in
theorem law_meanWorth (p : Program) (l : Launch) (e : Env) (s : State) (m : MethodId) (below : List Frame) (meth : Method) (c : Code) (Q : State → Prop) (D : va_G) (ty : Nat → ClassId) (tl : ClassId) (t0 mi b L : Nat) (xs : Nat → Int32) (hC : lwC p l s m meth c D ty tl t0 mi b L xs) (ad : Nat → Nat) (ob : Nat) (g : Nat → Nat → Int32) (x y z : Nat → Int32) (f : Nat → Int64) (u : Nat → Nat → Prop) (C : Nat → Nat → va_E) (ma : Nat → Nat → Nat) (n1 n2 nL n4 n5 kk : Nat) (rep bro : Nat → Nat → Int32) (th : Int32) (H : Heap) (locs : List Loc) (cells slots : Nat) (hW : lwI D ty tl t0 s.heap.size ad ob g x y z f u C ma n1 n2 nL n4 n5 kk rep bro th H) (hS : va_S (fun q => s.heap.size ≤ q) s.heap H locs) (ls : Array Slot) (j : Nat) (hj : j + 7 ≤ L) (hl : lv_has ls 9 [(4, .int (nI j)), (3, .ref ob), (2, .ref (ma 0 0)), (1, .ref (ad 0)), (0, .ref b)]) (d0 : Drawn) (hd0 : s.drawn.sameBut d0 lw_cs) (hc : cells + 116 ≤ 594050 ∧ slots + 706 ≤ 7313955) (K : ∀ d : Drawn, s.drawn.sameBut d lw_cs → lwK p l e (s.setDrawn d) m below meth c Q D ty tl t0 b ad ob j (ma 0 0) n5 kk 116 (cells + 0 + 116) (slots + 0 + 706)) : W p l e room_1 (s.setDrawn d0) m #[Value.ref b] below meth c H locs cells slots Q (F0 m 1675 ls []) := by
  obtain ⟨hP, ⟨hij, hob, hlo, hoo⟩, hO, hM, hR, hN⟩ := hW
  have hC0 := fun d => hC.dr d
  obtain ⟨⟨hx, hb, hr, hml, hlocks, hlt⟩, ⟨hown, hts, hX, hbl, hL⟩, ⟨hKz, hK, hKl⟩, hNz, hT, hQ, hMS, hNc⟩ := hC
  refine lv_aload_n hx hb dL_law_1675 rfl (lv_at hl 3 rfl) ?_
  refine va_calldD hd0 (va_runV_D (As := []) (rest := []) ⟨hx, hb, hml, hown, dr_words hts d0⟩ (c_X5_meanWorth l D ty g ad n1 n2 nL n4 n5 hR.I.d) (cwV 0 (dr_words hts d0) gL_law_X5_meanWorth rfl rfl rfl (by decide +kernel) ⟨Nat.le_of_ble_eq_true rfl, Nat.le_of_ble_eq_true rfl⟩) ⟨zBl zI_blind, va_recv (hC0 d0).2.2.1.1 hP (ci := 6) (q0 := 0) rfl rfl, fun U h1 h2 => ⟨rfl, zI_pre hP (hC0 d0).2.2.1.1 (hC0 d0).2.2.2.1 U h1 h2⟩⟩ rfl rfl hl.1 rfl (lv_room (Nat.le_of_ble_eq_true rfl)) dL_law_1676 ⟨by show _ ≤ 594050; omega, by show _ ≤ 7313955; omega⟩) hS (fun q _ h => h.elim) (fun q h => h.elim) (fun r _ t H1 locs ht hvm hw1 hB hz1 hk1 hS d1 hd1 => ?_)
  have hP : va_P D vwCl (zC ty g ad) H1 := zC_kept hP (fun k hk h => hk1 _ h (fun z => z))
  have hO : va_at D vwCl (ob, eL tl f) H1 := hO.kept (hk1 ob hO.lt (fun z => z))
  have hM : mW D (mA s.heap.size ob ad) u C ma H1 := hM.ext (fun q hq hA => hk1 q hq (fun z => z)) hz1
  clear hB ht hvm hz1 hk1
  clear t
  refine lv_dstore (lv' := [(5, .double r), (4, .int (nI j)), (3, .ref ob), (2, .ref (ma 0 0)), (1, .ref (ad 0)), (0, .ref b)]) hx hb dL_law_1679 hl (by decide) rfl (fun ls hl => ?_)
  refine lv_aload_n hx hb dL_law_1681 rfl (lv_at hl 3 rfl) ?_
  refine va_calldD hd1 (va_runV_D (As := []) (rest := []) ⟨hx, hb, hml, hown, dr_words hts d1⟩ (m_meanWorth l D ty (mA s.heap.size ob ad) u C ma t0 mi (mv g x y z) n1 n2 nL n4 n5 th rep bro hR) (cwV 0 (dr_words hts d1) gL_law_X12_meanWorth rfl rfl rfl (by decide +kernel) ⟨Nat.le_of_ble_eq_true rfl, Nat.le_of_ble_eq_true rfl⟩) ⟨zBl mI_blind, va_recv (hC0 d1).2.2.1.2.1 (hM.Pa hR.o.1 rfl hR.o.2) (ci := 13) (q0 := 0) rfl rfl, fun U h1 h2 => ⟨rfl, mI_law (hC0 d1) hS hM U h1 h2⟩⟩ rfl rfl hl.1 rfl (lv_room (Nat.le_of_ble_eq_true rfl)) dL_law_1682 ⟨by show _ ≤ 594050; omega, by show _ ≤ 7313955; omega⟩) hS (fun q _ h => h.1) (fun q h => h.1) (fun r2 C2 t H2 locs ht hvm hw hB hz1 hk1 hS d2 hd2 => ?_)
  obtain ⟨hw2, hR2⟩ := hw
  have hw2 : alike64 r2 (mwN g n5) = true := hw2
  have hM2 : mW D (mA s.heap.size ob ad) u C2 ma H2 := by rw [← ht]; exact hB.1
  have hP : va_P D vwCl (zC ty g ad) H2 := zC_kept hP (fun k hk h => hk1 _ h (fun z => z.2.2 k hk rfl))
  have hO : va_at D vwCl (ob, eL tl f) H2 := hO.kept (hk1 ob hO.lt (fun z => z.2.1 rfl))
  refine lv_dstore (lv' := [(7, .double r2), (5, .double r), (4, .int (nI j)), (3, .ref ob), (2, .ref (ma 0 0)), (1, .ref (ad 0)), (0, .ref b)]) hx hb dL_law_1685 hl (by decide) rfl (fun ls hl => ?_)
  have hlb : lv_has ls 9 [(4, .int (nI j)), (3, .ref ob), (2, .ref (ma 0 0)), (1, .ref (ad 0)), (0, .ref b)] := lv_sub hl [2, 3, 4, 5, 6] rfl
  have KG : W p l e room_1 (s.setDrawn d2) m #[Value.ref b] below meth c H2 locs (cells + 0 + 116) (slots + 0 + 706) Q (F0 m 1713 ls []) := by
    refine lv_goto (tgt := 2038) hx hb dL_law_1713 (by decide) ?_
    exact K d2 hd2 _ _ _ _ _ _ _ _ _ _ _ _ _ _ _ _ _ _ _ _ ⟨hP, ⟨hij, hob, hlo, hoo⟩, hO, hM2, hR2, hN⟩ rfl (Or.inl ⟨rfl, rfl⟩) hS hlb
  refine lv_dload hx hb dL_law_1687 (lv_at hl 1 rfl) ?_
  refine lv_dload hx hb dL_law_1689 (lv_at hl 0 rfl) ?_
  refine lv_dcmp hx hb dL_law_1691 ?_
  rcases nan_two hw1 hw2 with h | ⟨h1, h2, h3⟩
  · rw [h]
    exact lv_if_eq (tgt := 1713) hx hb dL_law_1692 (by decide) (fun _ => KG) (fun c => absurd rfl c)
  · rw [h1]
    refine lv_if_eq (tgt := 1713) hx hb dL_law_1692 (by decide) (fun _ => KG) (fun _ => ?_)
    refine lv_dload hx hb dL_law_1695 (lv_at hl 1 rfl) ?_
    refine lv_dload hx hb dL_law_1697 (lv_at hl 1 rfl) ?_
    refine lv_dcmp hx hb dL_law_1699 ?_
    rw [h2]
    refine lv_if_eq (tgt := 1711) hx hb dL_law_1700 (by decide) (fun c => absurd c (by decide)) (fun _ => ?_)
    refine lv_dload hx hb dL_law_1703 (lv_at hl 0 rfl) ?_
    refine lv_dload hx hb dL_law_1705 (lv_at hl 0 rfl) ?_
    refine lv_dcmp hx hb dL_law_1707 ?_
    rw [h3]
    exact lv_if_ne (tgt := 1713) hx hb dL_law_1708 (by decide) (fun _ => KG) (fun c => absurd c (by decide))
