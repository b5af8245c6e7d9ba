set_option maxHeartbeats 2000000 in
set_option maxRecDepth 100000 in
theorem b_set (l : Launch) (hlt : l.stackTraces = false) (D : va_G) (ty : Nat → ClassId) (tl : ClassId) (A : Nat → Prop) (u : Nat → Nat → Prop) (C : Nat → Nat → va_E) (ma : Nat → Nat → Nat) (t0 mi : Nat) (g : Nat → Nat → Int32) (x y z : Nat → Int32) (ad : Nat → Nat) (hij : zIj ad) (ob : Nat) (f : Nat → Int64) (sz : Nat) (hob : ∀ k, k < 39 → ad k ≠ ob) (n1 n2 nL n4 n5 kk : Nat) (th : Int32) (rep bro : Nat → Nat → Int32) (hR : mR ty t0 (mv g x y z) n1 n2 nL n4 n5 th rep bro u C ma) (hN : lwN g x y n1 n2 nL n4 n5 kk) (a0 : Int32) : bth l D ty tl A u C ma t0 mi g ad ob f sz n5 kk yL_set wsL_set yX12_set wsX12_set [.int a0] 6 86 (fun _ => True) := by
  have hI := hR.I
  have hd : dI g n1 n2 nL n4 n5 := hI.d
  have hb1 := hI.b1
  have hb2 := hI.b2
  have hb4 := hI.b4
  have hb5 := hI.b5
  by_cases h : a0 < nI 1 ∨ nI 6 < a0
  · exact bth_x (fun a => l_set_x1 l D ty tl g ad ob f sz hob _ rfl rfl (Nat.le_of_ble_eq_true rfl) (Nat.le_of_ble_eq_true rfl) a0 a (c_X5_set_xA l hlt D ty g ad n1 n2 nL n4 n5 hd a0 h)) (by decide) (m_set_x1 l D ty A u C ma t0 mi (mv g x y z) n1 n2 nL n4 n5 th rep bro hR a0 (by rw [inB_rn h]; rfl)) (Nat.le_of_ble_eq_true rfl) (Nat.le_of_ble_eq_true rfl) (Nat.le_of_ble_eq_true rfl) (Nat.le_of_ble_eq_true rfl) (Nat.le_of_ble_eq_true rfl) (Nat.le_of_ble_eq_true rfl) hN (trivial)
  · obtain ⟨h1, h2⟩ := not_or.mp h
    obtain ⟨k0, hk1, hk6, rfl⟩ := spR h1 h2 (by decide) (by decide)
    by_cases hn8 : n1 = 8
    · exact bth_x (fun a => l_set_x2 l D ty tl g ad ob f sz hob _ rfl rfl (Nat.le_of_ble_eq_true rfl) (Nat.le_of_ble_eq_true rfl) (nI k0) a (c_X5_set_xS l hlt D ty g ad n1 n2 nL n4 n5 hd k0 hk1 hk6 hn8)) (by decide) (m_set_x2 l D ty A u C ma t0 mi (mv g x y z) n1 n2 nL n4 n5 th rep bro hR k0 hk1 hk6 hn8) (Nat.le_of_ble_eq_true rfl) (Nat.le_of_ble_eq_true rfl) (Nat.le_of_ble_eq_true rfl) (Nat.le_of_ble_eq_true rfl) (Nat.le_of_ble_eq_true rfl) (Nat.le_of_ble_eq_true rfl) hN (trivial)
    · exact bth_s (l_set_ok l D ty tl g _ ad ob f sz hob _ rfl rfl (Nat.le_of_ble_eq_true rfl) (Nat.le_of_ble_eq_true rfl) (nI k0) _ (c_X5_set l D ty g ad sz hij n1 n2 nL n4 n5 hd k0 hk1 hk6 (by omega))) (by decide) (m_set l D ty A u C ma t0 mi (mv g x y z) n1 n2 nL n4 n5 th rep bro hR k0 hk1 hk6 (by omega)) (rfl) (ag_up (ag_x (Or.inr (Or.inl rfl)) (ag_x (Or.inl rfl) (ag_up (ag_mv g x y z) rfl))) rfl) (Nat.le_of_ble_eq_true rfl) (Nat.le_of_ble_eq_true rfl) (Nat.le_of_ble_eq_true rfl) (Nat.le_of_ble_eq_true rfl) (Nat.le_of_ble_eq_true rfl) (Nat.le_of_ble_eq_true rfl) (lwN_set hI hN (by omega) hk1 hk6) (Or.inr ⟨rfl, Nat.le_refl _, (Nat.le_of_ble_eq_true rfl)⟩) (trivial)
set_option maxHeartbeats 2000000 in
set_option maxRecDepth 100000 in
theorem b_terms (l : Launch) (hlt : l.stackTraces = false) (D : va_G) (ty : Nat → ClassId) (tl : ClassId) (A : Nat → Prop) (u : Nat → Nat → Prop) (C : Nat → Nat → va_E) (ma : Nat → Nat → Nat) (t0 mi : Nat) (g : Nat → Nat → Int32) (x y z : Nat → Int32) (ad : Nat → Nat) (hij : zIj ad) (ob : Nat) (f : Nat → Int64) (sz : Nat) (hob : ∀ k, k < 39 → ad k ≠ ob) (n1 n2 nL n4 n5 kk : Nat) (th : Int32) (rep bro : Nat → Nat → Int32) (hR : mR ty t0 (mv g x y z) n1 n2 nL n4 n5 th rep bro u C ma) (hN : lwN g x y n1 n2 nL n4 n5 kk) (a0 a1 a2 a3 : Int32) : bth l D ty tl A u C ma t0 mi g ad ob f sz n5 kk yL_terms wsL_terms yX12_terms wsX12_terms [.int a0, .int a1, .int a2, .int a3] 0 0 (fun _ => True) := by
  have hI := hR.I
  have hd : dI g n1 n2 nL n4 n5 := hI.d
  have hb1 := hI.b1
  have hb2 := hI.b2
  have hb4 := hI.b4
  have hb5 := hI.b5
  rcases spF hI a0 a1 with h | ⟨i, j, hi, hj, rfl, rfl⟩
  · exact bth_x (fun a => l_terms_x1 l D ty tl g ad ob f sz hob _ rfl rfl (Nat.le_of_ble_eq_true rfl) (Nat.le_of_ble_eq_true rfl) a0 a1 a2 a3 a (c_X5_terms_xB l hlt D ty g ad n1 n2 nL n4 n5 hd a0 a1 a2 a3 h)) (by decide) (m_terms_x1 l D ty A u C ma t0 mi (mv g x y z) n1 n2 nL n4 n5 th rep bro hR a0 a1 a2 a3 (bFld_x hI h)) (Nat.le_of_ble_eq_true rfl) (Nat.le_of_ble_eq_true rfl) (Nat.le_of_ble_eq_true rfl) (Nat.le_of_ble_eq_true rfl) (Nat.le_of_ble_eq_true rfl) (Nat.le_of_ble_eq_true rfl) hN (trivial)
  · by_cases h : a2 < nI 1 ∨ nI 99 < a2 ∨ a3 < 0 ∨ nI 1000 < a3
    · exact bth_x (fun a => l_terms_x2 l D ty tl g ad ob f sz hob _ rfl rfl (Nat.le_of_ble_eq_true rfl) (Nat.le_of_ble_eq_true rfl) (nI i) (nI j) a2 a3 a (c_X5_terms_xA l hlt D ty g ad n1 n2 nL n4 n5 hd i j hi hj a2 a3 h)) (by decide) (m_terms_x2 l D ty A u C ma t0 mi (mv g x y z) n1 n2 nL n4 n5 th rep bro hR (nI i) (nI j) a2 a3 (bFld_ok hI hi hj) (by rcases h with h | h | h | h; (rw [inB_rn (Or.inl h)]; rfl); (rw [inB_rn (Or.inr h)]; rfl); (rw [inB_rn (a := 0) (Or.inl (by rw [nI_0]; exact h))]; exact Bool.or_true _); (rw [inB_rn (x := a3) (Or.inr h)]; exact Bool.or_true _))) (Nat.le_of_ble_eq_true rfl) (Nat.le_of_ble_eq_true rfl) (Nat.le_of_ble_eq_true rfl) (Nat.le_of_ble_eq_true rfl) (Nat.le_of_ble_eq_true rfl) (Nat.le_of_ble_eq_true rfl) hN (trivial)
    · obtain ⟨h1, h2⟩ := not_or.mp h
      obtain ⟨h2, h3⟩ := not_or.mp h2
      obtain ⟨h3, h4⟩ := not_or.mp h3
      have h7 : nF g i < 7 := (hI.f7 hi).2.2
      exact bth_c (l_terms_ok l D ty tl g _ ad ob f sz hob _ rfl rfl (Nat.le_of_ble_eq_true rfl) (Nat.le_of_ble_eq_true rfl) (nI i) (nI j) a2 a3 _ (c_X5_terms l D ty g ad sz hij n1 n2 nL n4 n5 hd i j hi hj a2 a3 h1 h2 h3 h4)) (by decide) (m_terms l D ty A u C ma t0 mi (mv g x y z) n1 n2 nL n4 n5 th rep bro hR i j hi hj a2 a3 h1 h2 (by rw [nI_0]; exact h3) h4) ((hN.1 i j hi hj).1) (ag_x (Or.inr (Or.inl rfl)) (ag_x (Or.inl rfl) (ag_mv g x y z))) (Nat.le_of_ble_eq_true rfl) (Nat.le_of_ble_eq_true rfl) (Nat.le_of_ble_eq_true rfl) (Nat.le_of_ble_eq_true rfl) (Nat.le_of_ble_eq_true rfl) (Nat.le_of_ble_eq_true rfl) (lwN_terms hN (i * 6 + j) a2 a3) (Or.inl ⟨rfl, rfl⟩) (trivial)
set_option maxHeartbeats 2000000 in
set_option maxRecDepth 100000 in
theorem b_source (l : Launch) (hlt : l.stackTraces = false) (D : va_G) (ty : Nat → ClassId) (tl : ClassId) (A : Nat → Prop) (u : Nat → Nat → Prop) (C : Nat → Nat → va_E) (ma : Nat → Nat → Nat) (t0 mi : Nat) (g : Nat → Nat → Int32) (x y z : Nat → Int32) (ad : Nat → Nat) (hij : zIj ad) (ob : Nat) (f : Nat → Int64) (sz : Nat) (hob : ∀ k, k < 39 → ad k ≠ ob) (n1 n2 nL n4 n5 kk : Nat) (th : Int32) (rep bro : Nat → Nat → Int32) (hR : mR ty t0 (mv g x y z) n1 n2 nL n4 n5 th rep bro u C ma) (hN : lwN g x y n1 n2 nL n4 n5 kk) (a0 a1 a2 a3 a4 : Int32) : bth l D ty tl A u C ma t0 mi g ad ob f sz n5 kk yL_source wsL_source yX12_source wsX12_source [.int a0, .int a1, .int a2, .int a3, .int a4] 2 65 (fun _ => True) := by
  have hI := hR.I
  have hd : dI g n1 n2 nL n4 n5 := hI.d
  have hb1 := hI.b1
  have hb2 := hI.b2
  have hb4 := hI.b4
  have hb5 := hI.b5
  rcases spF hI a0 a1 with h | ⟨i, j, hi, hj, rfl, rfl⟩
  · exact bth_x (fun a => l_source_x1 l D ty tl g ad ob f sz hob _ rfl rfl (Nat.le_of_ble_eq_true rfl) (Nat.le_of_ble_eq_true rfl) a0 a1 a2 a3 a4 a (c_X5_source_xB1 l hlt D ty g ad n1 n2 nL n4 n5 hd a0 a1 a2 a3 a4 h)) (by decide) (m_source_x1 l D ty A u C ma t0 mi (mv g x y z) n1 n2 nL n4 n5 th rep bro hR a0 a1 a2 a3 a4 (by rw [bFld_x hI h]; rfl)) (Nat.le_of_ble_eq_true rfl) (Nat.le_of_ble_eq_true rfl) (Nat.le_of_ble_eq_true rfl) (Nat.le_of_ble_eq_true rfl) (Nat.le_of_ble_eq_true rfl) (Nat.le_of_ble_eq_true rfl) hN (trivial)
  · rcases spF hI a2 a3 with h | ⟨i2, j2, hi2, hj2, rfl, rfl⟩
    · exact bth_x (fun a => l_source_x1 l D ty tl g ad ob f sz hob _ rfl rfl (Nat.le_of_ble_eq_true rfl) (Nat.le_of_ble_eq_true rfl) (nI i) (nI j) a2 a3 a4 a (c_X5_source_xB2 l hlt D ty g ad n1 n2 nL n4 n5 hd i j hi hj a2 a3 a4 h)) (by decide) (m_source_x1 l D ty A u C ma t0 mi (mv g x y z) n1 n2 nL n4 n5 th rep bro hR (nI i) (nI j) a2 a3 a4 (by rw [bFld_x (a := a2) hI h]; exact Bool.or_true _)) (Nat.le_of_ble_eq_true rfl) (Nat.le_of_ble_eq_true rfl) (Nat.le_of_ble_eq_true rfl) (Nat.le_of_ble_eq_true rfl) (Nat.le_of_ble_eq_true rfl) (Nat.le_of_ble_eq_true rfl) hN (trivial)
    · by_cases h : i ≤ i2 ∨ a4 < nI 1 ∨ nI 100 < a4
      · exact bth_x (fun a => l_source_x2 l D ty tl g ad ob f sz hob _ rfl rfl (Nat.le_of_ble_eq_true rfl) (Nat.le_of_ble_eq_true rfl) (nI i) (nI j) (nI i2) (nI j2) a4 a (c_X5_source_xA l hlt D ty g ad n1 n2 nL n4 n5 hd i j i2 j2 hi hj hi2 hj2 a4 h)) (by decide) (m_source_x2 l D ty A u C ma t0 mi (mv g x y z) n1 n2 nL n4 n5 th rep bro hR (nI i) (nI j) (nI i2) (nI j2) a4 (by rw [bFld_ok hI hi hj, bFld_ok hI hi2 hj2]; rfl) (by rcases h with h | h; (rw [decide_eq_false (nI_nlt h (by omega))]; rfl); (rw [inB_rn h]; exact Bool.or_true _))) (Nat.le_of_ble_eq_true rfl) (Nat.le_of_ble_eq_true rfl) (Nat.le_of_ble_eq_true rfl) (Nat.le_of_ble_eq_true rfl) (Nat.le_of_ble_eq_true rfl) (Nat.le_of_ble_eq_true rfl) hN (trivial)
      · obtain ⟨h1, h2⟩ := not_or.mp h
        obtain ⟨h2, h3⟩ := not_or.mp h2
        have hii : i2 < i := by omega
        by_cases hx : ∃ q, q < n2 ∧ (g 12 q = nI (i * 6 + j) ∧ g 13 q = nI (i2 * 6 + j2))
        · obtain ⟨j0, hj0, hj1, hj2'⟩ := ex_min n2 hx
          exact bth_s (l_source_ok l D ty tl g _ ad ob f sz hob _ rfl rfl (Nat.le_of_ble_eq_true rfl) (Nat.le_of_ble_eq_true rfl) (nI i) (nI j) (nI i2) (nI j2) a4 _ (c_X5_source_k l D ty g ad sz hij n1 n2 nL n4 n5 hd i j i2 j2 hi hj hii hj2 a4 h2 h3 j0 hj0 hj1 hj2')) (by decide) (m_source_k l D ty A u C ma t0 mi (mv g x y z) n1 n2 nL n4 n5 th rep bro hR i j i2 j2 hi hj hii hj2 a4 h2 h3 j0 hj0 hj1 hj2') (rfl) (ag_up (ag_mv g x y z) rfl) (Nat.le_of_ble_eq_true rfl) (Nat.le_of_ble_eq_true rfl) (Nat.le_of_ble_eq_true rfl) (Nat.le_of_ble_eq_true rfl) (Nat.le_of_ble_eq_true rfl) (Nat.le_of_ble_eq_true rfl) (hN.cong (fun k hk => vn (by omega))) (Or.inl ⟨rfl, rfl⟩) (trivial)
        · have hj2' : ∀ q, q < n2 → ¬ (g 12 q = nI (i * 6 + j) ∧ g 13 q = nI (i2 * 6 + j2)) := fun q h1 h2 => hx ⟨q, h1, h2⟩
          by_cases hn : n2 = 20
          · exact bth_x (fun a => l_source_x3 l D ty tl g ad ob f sz hob _ rfl rfl (Nat.le_of_ble_eq_true rfl) (Nat.le_of_ble_eq_true rfl) (nI i) (nI j) (nI i2) (nI j2) a4 a (c_X5_source_xS l hlt D ty g ad n1 n2 nL n4 n5 hd i j i2 j2 hi hj hii hj2 a4 h2 h3 hn hj2')) (by decide) (m_source_x3 l D ty A u C ma t0 mi (mv g x y z) n1 n2 nL n4 n5 th rep bro hR i j i2 j2 hi hj hii hj2 a4 h2 h3 hn hj2') (Nat.le_of_ble_eq_true rfl) (Nat.le_of_ble_eq_true rfl) (Nat.le_of_ble_eq_true rfl) (Nat.le_of_ble_eq_true rfl) (Nat.le_of_ble_eq_true rfl) (Nat.le_of_ble_eq_true rfl) hN (trivial)
          · exact bth_s (l_source_ok l D ty tl g _ ad ob f sz hob _ rfl rfl (Nat.le_of_ble_eq_true rfl) (Nat.le_of_ble_eq_true rfl) (nI i) (nI j) (nI i2) (nI j2) a4 _ (c_X5_source_n l D ty g ad sz hij n1 n2 nL n4 n5 hd i j i2 j2 hi hj hii hj2 a4 h2 h3 (by omega) hj2')) (by decide) (m_source_n l D ty A u C ma t0 mi (mv g x y z) n1 n2 nL n4 n5 th rep bro hR i j i2 j2 hi hj hii hj2 a4 h2 h3 (by omega) hj2') (rfl) (ag_up (ag_up (ag_up (ag_up (ag_mv g x y z) rfl) rfl) rfl) rfl) (Nat.le_of_ble_eq_true rfl) (Nat.le_of_ble_eq_true rfl) (Nat.le_of_ble_eq_true rfl) (Nat.le_of_ble_eq_true rfl) (Nat.le_of_ble_eq_true rfl) (Nat.le_of_ble_eq_true rfl) (lwN_src hN (i * 6 + j) (i2 * 6 + j2) a4) (Or.inl ⟨rfl, rfl⟩) (trivial)
set_option maxHeartbeats 2000000 in
set_option maxRecDepth 100000 in
theorem b_version (l : Launch) (hlt : l.stackTraces = false) (D : va_G) (ty : Nat → ClassId) (tl : ClassId) (A : Nat → Prop) (u : Nat → Nat → Prop) (C : Nat → Nat → va_E) (ma : Nat → Nat → Nat) (t0 mi : Nat) (g : Nat → Nat → Int32) (x y z : Nat → Int32) (ad : Nat → Nat) (hij : zIj ad) (ob : Nat) (f : Nat → Int64) (sz : Nat) (hob : ∀ k, k < 39 → ad k ≠ ob) (n1 n2 nL n4 n5 kk : Nat) (th : Int32) (rep bro : Nat → Nat → Int32) (hR : mR ty t0 (mv g x y z) n1 n2 nL n4 n5 th rep bro u C ma) (hN : lwN g x y n1 n2 nL n4 n5 kk) (a0 a1 : Int32) : bth l D ty tl A u C ma t0 mi g ad ob f sz n5 kk yL_version wsL_version yX12_version wsX12_version [.int a0, .int a1] 58 1744 (fun _ => True) := by
  have hI := hR.I
  have hd : dI g n1 n2 nL n4 n5 := hI.d
  have hb1 := hI.b1
  have hb2 := hI.b2
  have hb4 := hI.b4
  have hb5 := hI.b5
  rcases spI a0 (show n1 < 2 ^ 31 by omega) with h | ⟨i, hi, rfl⟩
  · exact bth_x (fun a => l_version_x1 l D ty tl g ad ob f sz hob _ rfl rfl (Nat.le_of_ble_eq_true rfl) (Nat.le_of_ble_eq_true rfl) a0 a1 a (c_X5_version_xB l hlt D ty g ad n1 n2 nL n4 n5 hd a0 a1 h)) (by decide) (m_version_x1 l D ty A u C ma t0 mi (mv g x y z) n1 n2 nL n4 n5 th rep bro hR a0 a1 (bNo_x hb1 h)) (Nat.le_of_ble_eq_true rfl) (Nat.le_of_ble_eq_true rfl) (Nat.le_of_ble_eq_true rfl) (Nat.le_of_ble_eq_true rfl) (Nat.le_of_ble_eq_true rfl) (Nat.le_of_ble_eq_true rfl) hN (trivial)
  · by_cases h : a1 < nI 1 ∨ nI 9999 < a1
    · exact bth_x (fun a => l_version_x2 l D ty tl g ad ob f sz hob _ rfl rfl (Nat.le_of_ble_eq_true rfl) (Nat.le_of_ble_eq_true rfl) (nI i) a1 a (c_X5_version_xA l hlt D ty g ad n1 n2 nL n4 n5 hd i hi a1 h)) (by decide) (m_version_x2 l D ty A u C ma t0 mi (mv g x y z) n1 n2 nL n4 n5 th rep bro hR i hi a1 (by rw [inB_rn h]; rfl)) (Nat.le_of_ble_eq_true rfl) (Nat.le_of_ble_eq_true rfl) (Nat.le_of_ble_eq_true rfl) (Nat.le_of_ble_eq_true rfl) (Nat.le_of_ble_eq_true rfl) (Nat.le_of_ble_eq_true rfl) hN (trivial)
    · obtain ⟨h1, h2⟩ := not_or.mp h
      have h7 : nV g i < 7 := (hI.v7 hi).2
      by_cases h6 : nV g i = 6
      · exact bth_x (fun a => l_version_x3 l D ty tl g ad ob f sz hob _ rfl rfl (Nat.le_of_ble_eq_true rfl) (Nat.le_of_ble_eq_true rfl) (nI i) a1 a (c_X5_version_xS l hlt D ty g ad n1 n2 nL n4 n5 hd i hi h6 a1 h1 h2)) (by decide) (m_version_x3 l D ty A u C ma t0 mi (mv g x y z) n1 n2 nL n4 n5 th rep bro hR i hi a1 (by rw [inB_r h1 h2]; rfl) h6) (Nat.le_of_ble_eq_true rfl) (Nat.le_of_ble_eq_true rfl) (Nat.le_of_ble_eq_true rfl) (Nat.le_of_ble_eq_true rfl) (Nat.le_of_ble_eq_true rfl) (Nat.le_of_ble_eq_true rfl) hN (trivial)
      · have h6v : nV g i < 6 := by omega
        have hX := ver_X hI hN hi h6v
        exact bth_s (l_version_ok l D ty tl g _ ad ob f sz hob _ rfl rfl (Nat.le_of_ble_eq_true rfl) (Nat.le_of_ble_eq_true rfl) (nI i) a1 _ (c_X5_version l D ty g ad sz hij n1 n2 nL n4 n5 hd i hi h6v a1 h1 h2)) (by decide) (m_version l D ty A u C ma t0 mi (mv g x y z) n1 n2 nL n4 n5 th rep bro hR i hi a1 (by rw [inB_r h1 h2]; rfl) h6v (by rw [cS_c (g := g) (g' := mv g x y z) rfl]; exact hX)) (rfl) (ag_ver (ag_mv g x y z) n2 i a1) (Nat.le_of_ble_eq_true rfl) (Nat.le_of_ble_eq_true rfl) (Nat.le_of_ble_eq_true rfl) (Nat.le_of_ble_eq_true rfl) (Nat.le_of_ble_eq_true rfl) (Nat.le_of_ble_eq_true rfl) (by rw [verG_o (k := 10) (by decide), verG_o (k := 11) (by decide)]; exact lwN_ver hI hN hi h6v a1) (Or.inr ⟨rfl, Nat.le_refl _, (Nat.le_of_ble_eq_true rfl)⟩) (trivial)
set_option maxHeartbeats 2000000 in
set_option maxRecDepth 100000 in
theorem b_missing (l : Launch) (hlt : l.stackTraces = false) (D : va_G) (ty : Nat → ClassId) (tl : ClassId) (A : Nat → Prop) (u : Nat → Nat → Prop) (C : Nat → Nat → va_E) (ma : Nat → Nat → Nat) (t0 mi : Nat) (g : Nat → Nat → Int32) (x y z : Nat → Int32) (ad : Nat → Nat) (hij : zIj ad) (ob : Nat) (f : Nat → Int64) (sz : Nat) (hob : ∀ k, k < 39 → ad k ≠ ob) (n1 n2 nL n4 n5 kk : Nat) (th : Int32) (rep bro : Nat → Nat → Int32) (hR : mR ty t0 (mv g x y z) n1 n2 nL n4 n5 th rep bro u C ma) (hN : lwN g x y n1 n2 nL n4 n5 kk) (a0 a1 a2 : Int32) : bth l D ty tl A u C ma t0 mi g ad ob f sz n5 kk yL_missing wsL_missing yX12_missing wsX12_missing [.int a0, .int a1, .int a2] 57 344 (fun _ => True) := by
  have hI := hR.I
  have hd : dI g n1 n2 nL n4 n5 := hI.d
  have hb1 := hI.b1
  have hb2 := hI.b2
  have hb4 := hI.b4
  have hb5 := hI.b5
  rcases spF hI a0 a1 with h | ⟨i, j, hi, hj, rfl, rfl⟩
  · exact bth_x (fun a => l_missing_x1 l D ty tl g ad ob f sz hob _ rfl rfl (Nat.le_of_ble_eq_true rfl) (Nat.le_of_ble_eq_true rfl) a0 a1 a2 a (c_X5_missing_xB l hlt D ty g ad n1 n2 nL n4 n5 hd a0 a1 a2 h)) (by decide) (m_missing_x1 l D ty A u C ma t0 mi (mv g x y z) n1 n2 nL n4 n5 th rep bro hR a0 a1 a2 (bFld_x hI h)) (Nat.le_of_ble_eq_true rfl) (Nat.le_of_ble_eq_true rfl) (Nat.le_of_ble_eq_true rfl) (Nat.le_of_ble_eq_true rfl) (Nat.le_of_ble_eq_true rfl) (Nat.le_of_ble_eq_true rfl) hN (trivial)
  · by_cases h : a2 < 0 ∨ nI 1000 < a2
    · exact bth_x (fun a => l_missing_x2 l D ty tl g ad ob f sz hob _ rfl rfl (Nat.le_of_ble_eq_true rfl) (Nat.le_of_ble_eq_true rfl) (nI i) (nI j) a2 a (c_X5_missing_xA l hlt D ty g ad n1 n2 nL n4 n5 hd i j hi hj a2 h)) (by decide) (m_missing_x2 l D ty A u C ma t0 mi (mv g x y z) n1 n2 nL n4 n5 th rep bro hR (nI i) (nI j) a2 (bFld_ok hI hi hj) (by rw [inB_rn (a := 0) (by rw [nI_0]; exact h)]; rfl)) (Nat.le_of_ble_eq_true rfl) (Nat.le_of_ble_eq_true rfl) (Nat.le_of_ble_eq_true rfl) (Nat.le_of_ble_eq_true rfl) (Nat.le_of_ble_eq_true rfl) (Nat.le_of_ble_eq_true rfl) hN (trivial)
    · obtain ⟨h1, h2⟩ := not_or.mp h
      have h1' : ¬ a2 < nI 0 := by rw [nI_0]; exact h1
      have h7 : nV g i < 7 := (hI.v7 hi).2
      by_cases hv0 : nV g i = 0
      · exact bth_x (fun a => l_missing_x3 l D ty tl g ad ob f sz hob _ rfl rfl (Nat.le_of_ble_eq_true rfl) (Nat.le_of_ble_eq_true rfl) (nI i) (nI j) a2 a (c_X5_missing_xS0 l hlt D ty g ad n1 n2 nL n4 n5 hd i j hi hj a2 h1 h2 hv0)) (by decide) (m_missing_x3a l D ty A u C ma t0 mi (mv g x y z) n1 n2 nL n4 n5 th rep bro hR i j hi hj a2 h1' h2 hv0) (Nat.le_of_ble_eq_true rfl) (Nat.le_of_ble_eq_true rfl) (Nat.le_of_ble_eq_true rfl) (Nat.le_of_ble_eq_true rfl) (Nat.le_of_ble_eq_true rfl) (Nat.le_of_ble_eq_true rfl) hN (trivial)
      · have hv1 : 0 < nV g i := by omega
        by_cases ht0 : g 20 ((i * 6 + (nV g i - 1)) * 6 + j) = 0
        · have e11 : (mv g x y z) 11 (i * 6 + j) = g 11 (i * 6 + j) := (hN.1 i j hi hj).2
          have hM := m_missing l D ty A u C ma t0 mi (mv g x y z) n1 n2 nL n4 n5 th rep bro hR i j hi hj a2 h1' h2 hv1 ht0
          rw [e11] at hM
          exact bth_c (l_missing_ok l D ty tl g _ ad ob f sz hob _ rfl rfl (Nat.le_of_ble_eq_true rfl) (Nat.le_of_ble_eq_true rfl) (nI i) (nI j) a2 _ (c_X5_missing l D ty g ad sz hij n1 n2 nL n4 n5 hd i j hi hj hv1 a2 h1 h2 ht0)) (by decide) (hM) (congrFun (ag_setl (ag_rse (ag_mv g x y z) _ _) nL) _) (ag_mis (ag_mv g x y z) nL _ _) (Nat.le_of_ble_eq_true rfl) (Nat.le_of_ble_eq_true rfl) (Nat.le_of_ble_eq_true rfl) (Nat.le_of_ble_eq_true rfl) (Nat.le_of_ble_eq_true rfl) (Nat.le_of_ble_eq_true rfl) (hN.cong (fun k hk => (vn (by omega)).trans ((vn (by omega)).trans (vn (by omega))))) (Or.inl ⟨rfl, rfl⟩) (trivial)
        · exact bth_x (fun a => l_missing_x3 l D ty tl g ad ob f sz hob _ rfl rfl (Nat.le_of_ble_eq_true rfl) (Nat.le_of_ble_eq_true rfl) (nI i) (nI j) a2 a (c_X5_missing_xS1 l hlt D ty g ad n1 n2 nL n4 n5 hd i j hi hj a2 h1 h2 hv1 ht0)) (by decide) (m_missing_x3b l D ty A u C ma t0 mi (mv g x y z) n1 n2 nL n4 n5 th rep bro hR i j hi hj a2 h1' h2 hv1 ht0) (Nat.le_of_ble_eq_true rfl) (Nat.le_of_ble_eq_true rfl) (Nat.le_of_ble_eq_true rfl) (Nat.le_of_ble_eq_true rfl) (Nat.le_of_ble_eq_true rfl) (Nat.le_of_ble_eq_true rfl) hN (trivial)
set_option maxHeartbeats 2000000 in
set_option maxRecDepth 100000 in
theorem b_report (l : Launch) (hlt : l.stackTraces = false) (D : va_G) (ty : Nat → ClassId) (tl : ClassId) (A : Nat → Prop) (u : Nat → Nat → Prop) (C : Nat → Nat → va_E) (ma : Nat → Nat → Nat) (t0 mi : Nat) (g : Nat → Nat → Int32) (x y z : Nat → Int32) (ad : Nat → Nat) (hij : zIj ad) (ob : Nat) (f : Nat → Int64) (sz : Nat) (hob : ∀ k, k < 39 → ad k ≠ ob) (n1 n2 nL n4 n5 kk : Nat) (th : Int32) (rep bro : Nat → Nat → Int32) (hR : mR ty t0 (mv g x y z) n1 n2 nL n4 n5 th rep bro u C ma) (hN : lwN g x y n1 n2 nL n4 n5 kk) (a0 a1 a2 a3 : Int32) : bth l D ty tl A u C ma t0 mi g ad ob f sz n5 kk yL_report wsL_report yX12_report wsX12_report [.int a0, .int a1, .int a2, .int a3] 114 688 (fun _ => True) := by
  have hI := hR.I
  have hd : dI g n1 n2 nL n4 n5 := hI.d
  have hb1 := hI.b1
  have hb2 := hI.b2
  have hb4 := hI.b4
  have hb5 := hI.b5
  rcases spP hI a0 a1 a2 with h | ⟨i, w, j, hi, hw, hj, rfl, rfl, rfl⟩
  · exact bth_x (fun a => l_report_x1 l D ty tl g ad ob f sz hob _ rfl rfl (Nat.le_of_ble_eq_true rfl) (Nat.le_of_ble_eq_true rfl) a0 a1 a2 a3 a (c_X5_report_xB l hlt D ty g ad n1 n2 nL n4 n5 hd a0 a1 a2 a3 h)) (by decide) (m_report_x1 l D ty A u C ma t0 mi (mv g x y z) n1 n2 nL n4 n5 th rep bro hR a0 a1 a2 a3 (bVal_x hI h)) (Nat.le_of_ble_eq_true rfl) (Nat.le_of_ble_eq_true rfl) (Nat.le_of_ble_eq_true rfl) (Nat.le_of_ble_eq_true rfl) (Nat.le_of_ble_eq_true rfl) (Nat.le_of_ble_eq_true rfl) hN (trivial)
  · by_cases h : a3 < nI 1 ∨ nI 100 < a3
    · exact bth_x (fun a => l_report_x2 l D ty tl g ad ob f sz hob _ rfl rfl (Nat.le_of_ble_eq_true rfl) (Nat.le_of_ble_eq_true rfl) (nI i) (nI w) (nI j) a3 a (c_X5_report_xA l hlt D ty g ad n1 n2 nL n4 n5 hd i w j hi hw hj a3 h)) (by decide) (m_report_x2 l D ty A u C ma t0 mi (mv g x y z) n1 n2 nL n4 n5 th rep bro hR (nI i) (nI w) (nI j) a3 (bVal_ok hI hi hw hj) (by rw [inB_rn h]; rfl)) (Nat.le_of_ble_eq_true rfl) (Nat.le_of_ble_eq_true rfl) (Nat.le_of_ble_eq_true rfl) (Nat.le_of_ble_eq_true rfl) (Nat.le_of_ble_eq_true rfl) (Nat.le_of_ble_eq_true rfl) hN (trivial)
    · obtain ⟨h1, h2⟩ := not_or.mp h
      exact bth_c (l_report_ok l D ty tl g _ ad ob f sz hob _ rfl rfl (Nat.le_of_ble_eq_true rfl) (Nat.le_of_ble_eq_true rfl) (nI i) (nI w) (nI j) a3 _ (c_X5_report l D ty g ad sz hij n1 n2 nL n4 n5 hd i w j hi hw hj a3 h1 h2)) (by decide) (m_report l D ty A u C ma t0 mi (mv g x y z) n1 n2 nL n4 n5 th rep bro hR i w j hi hw hj a3 h1 h2) (ag_gain (ag_mv g x y z) nL n5 _ a3) (ag_rep (ag_mv g x y z) nL _ a3) (Nat.le_of_ble_eq_true rfl) (Nat.le_of_ble_eq_true rfl) (Nat.le_of_ble_eq_true rfl) (Nat.le_of_ble_eq_true rfl) (Nat.le_of_ble_eq_true rfl) (Nat.le_of_ble_eq_true rfl) (hN.cong (fun k hk => (vn (by omega)).trans ((vn (by omega)).trans (vn (by omega))))) (Or.inl ⟨rfl, rfl⟩) (trivial)
set_option maxHeartbeats 2000000 in
set_option maxRecDepth 100000 in
theorem b_creditBy (l : Launch) (hlt : l.stackTraces = false) (D : va_G) (ty : Nat → ClassId) (tl : ClassId) (A : Nat → Prop) (u : Nat → Nat → Prop) (C : Nat → Nat → va_E) (ma : Nat → Nat → Nat) (t0 mi : Nat) (g : Nat → Nat → Int32) (x y z : Nat → Int32) (ad : Nat → Nat) (hij : zIj ad) (ob : Nat) (f : Nat → Int64) (sz : Nat) (hob : ∀ k, k < 39 → ad k ≠ ob) (n1 n2 nL n4 n5 kk : Nat) (th : Int32) (rep bro : Nat → Nat → Int32) (hR : mR ty t0 (mv g x y z) n1 n2 nL n4 n5 th rep bro u C ma) (hN : lwN g x y n1 n2 nL n4 n5 kk) (a0 a1 a2 a3 : Int32) : bth l D ty tl A u C ma t0 mi g ad ob f sz n5 kk yL_creditBy wsL_creditBy yX12_creditBy wsX12_creditBy [.int a0, .int a1, .int a2, .int a3] 114 688 (fun _ => True) := by
  have hI := hR.I
  have hd : dI g n1 n2 nL n4 n5 := hI.d
  have hb1 := hI.b1
  have hb2 := hI.b2
  have hb4 := hI.b4
  have hb5 := hI.b5
  rcases spP hI a0 a1 a2 with h | ⟨i, w, j, hi, hw, hj, rfl, rfl, rfl⟩
  · exact bth_x (fun a => l_creditBy_x1 l D ty tl g ad ob f sz hob _ rfl rfl (Nat.le_of_ble_eq_true rfl) (Nat.le_of_ble_eq_true rfl) a0 a1 a2 a3 a (c_X5_creditBy_xB l hlt D ty g ad n1 n2 nL n4 n5 hd a0 a1 a2 a3 h)) (by decide) (m_creditBy_x1 l D ty A u C ma t0 mi (mv g x y z) n1 n2 nL n4 n5 th rep bro hR a0 a1 a2 a3 (bVal_x hI h)) (Nat.le_of_ble_eq_true rfl) (Nat.le_of_ble_eq_true rfl) (Nat.le_of_ble_eq_true rfl) (Nat.le_of_ble_eq_true rfl) (Nat.le_of_ble_eq_true rfl) (Nat.le_of_ble_eq_true rfl) hN (trivial)
  · by_cases h : a3 < nI 1 ∨ nI 100 < a3
    · exact bth_x (fun a => l_creditBy_x2 l D ty tl g ad ob f sz hob _ rfl rfl (Nat.le_of_ble_eq_true rfl) (Nat.le_of_ble_eq_true rfl) (nI i) (nI w) (nI j) a3 a (c_X5_creditBy_xA l hlt D ty g ad n1 n2 nL n4 n5 hd i w j hi hw hj a3 h)) (by decide) (m_creditBy_x2 l D ty A u C ma t0 mi (mv g x y z) n1 n2 nL n4 n5 th rep bro hR (nI i) (nI w) (nI j) a3 (bVal_ok hI hi hw hj) (by rw [inB_rn h]; rfl)) (Nat.le_of_ble_eq_true rfl) (Nat.le_of_ble_eq_true rfl) (Nat.le_of_ble_eq_true rfl) (Nat.le_of_ble_eq_true rfl) (Nat.le_of_ble_eq_true rfl) (Nat.le_of_ble_eq_true rfl) hN (trivial)
    · obtain ⟨h1, h2⟩ := not_or.mp h
      exact bth_c (l_creditBy_ok l D ty tl g _ ad ob f sz hob _ rfl rfl (Nat.le_of_ble_eq_true rfl) (Nat.le_of_ble_eq_true rfl) (nI i) (nI w) (nI j) a3 _ (c_X5_creditBy l D ty g ad sz hij n1 n2 nL n4 n5 hd i w j hi hw hj a3 h1 h2)) (by decide) (m_creditBy l D ty A u C ma t0 mi (mv g x y z) n1 n2 nL n4 n5 th rep bro hR i w j hi hw hj a3 h1 h2) (ag_gain (ag_mv g x y z) nL n5 _ a3) (ag_tri (ag_mv g x y z) nL _ a3) (Nat.le_of_ble_eq_true rfl) (Nat.le_of_ble_eq_true rfl) (Nat.le_of_ble_eq_true rfl) (Nat.le_of_ble_eq_true rfl) (Nat.le_of_ble_eq_true rfl) (Nat.le_of_ble_eq_true rfl) (hN.cong (fun k hk => vn (by omega))) (Or.inl ⟨rfl, rfl⟩) (trivial)
set_option maxHeartbeats 2000000 in
set_option maxRecDepth 100000 in
theorem b_harm (l : Launch) (hlt : l.stackTraces = false) (D : va_G) (ty : Nat → ClassId) (tl : ClassId) (A : Nat → Prop) (u : Nat → Nat → Prop) (C : Nat → Nat → va_E) (ma : Nat → Nat → Nat) (t0 mi : Nat) (g : Nat → Nat → Int32) (x y z : Nat → Int32) (ad : Nat → Nat) (hij : zIj ad) (ob : Nat) (f : Nat → Int64) (sz : Nat) (hob : ∀ k, k < 39 → ad k ≠ ob) (n1 n2 nL n4 n5 kk : Nat) (th : Int32) (rep bro : Nat → Nat → Int32) (hR : mR ty t0 (mv g x y z) n1 n2 nL n4 n5 th rep bro u C ma) (hN : lwN g x y n1 n2 nL n4 n5 kk) (a0 a1 a2 : Int32) : bth l D ty tl A u C ma t0 mi g ad ob f sz n5 kk yL_harm wsL_harm yX12_harm wsX12_harm [.int a0, .int a1, .int a2] 57 344 (fun _ => True) := by
  have hI := hR.I
  have hd : dI g n1 n2 nL n4 n5 := hI.d
  have hb1 := hI.b1
  have hb2 := hI.b2
  have hb4 := hI.b4
  have hb5 := hI.b5
  rcases spP hI a0 a1 a2 with h | ⟨i, w, j, hi, hw, hj, rfl, rfl, rfl⟩
  · exact bth_x (fun a => l_harm_x1 l D ty tl g ad ob f sz hob _ rfl rfl (Nat.le_of_ble_eq_true rfl) (Nat.le_of_ble_eq_true rfl) a0 a1 a2 a (c_X5_harm_xB l hlt D ty g ad n1 n2 nL n4 n5 hd a0 a1 a2 h)) (by decide) (m_harm_x1 l D ty A u C ma t0 mi (mv g x y z) n1 n2 nL n4 n5 th rep bro hR a0 a1 a2 (bVal_x hI h)) (Nat.le_of_ble_eq_true rfl) (Nat.le_of_ble_eq_true rfl) (Nat.le_of_ble_eq_true rfl) (Nat.le_of_ble_eq_true rfl) (Nat.le_of_ble_eq_true rfl) (Nat.le_of_ble_eq_true rfl) hN (trivial)
  · exact bth_c (l_harm_ok l D ty tl g _ ad ob f sz hob _ rfl rfl (Nat.le_of_ble_eq_true rfl) (Nat.le_of_ble_eq_true rfl) (nI i) (nI w) (nI j) _ (met_rd (c_X5_harm l D ty g ad n1 n2 nL n4 n5 hd i w j hi hw hj))) (by decide) (m_harm l D ty A u C ma t0 mi (mv g x y z) n1 n2 nL n4 n5 th rep bro hR i w j hi hw hj) (rfl) ((ag_mv g x y z)) (Nat.le_of_ble_eq_true rfl) (Nat.le_of_ble_eq_true rfl) (Nat.le_of_ble_eq_true rfl) (Nat.le_of_ble_eq_true rfl) (Nat.le_of_ble_eq_true rfl) (Nat.le_of_ble_eq_true rfl) (hN) (Or.inl ⟨rfl, rfl⟩) (trivial)
set_option maxHeartbeats 2000000 in
set_option maxRecDepth 100000 in
theorem b_ofSet (l : Launch) (hlt : l.stackTraces = false) (D : va_G) (ty : Nat → ClassId) (tl : ClassId) (A : Nat → Prop) (u : Nat → Nat → Prop) (C : Nat → Nat → va_E) (ma : Nat → Nat → Nat) (t0 mi : Nat) (g : Nat → Nat → Int32) (x y z : Nat → Int32) (ad : Nat → Nat) (hij : zIj ad) (ob : Nat) (f : Nat → Int64) (sz : Nat) (hob : ∀ k, k < 39 → ad k ≠ ob) (n1 n2 nL n4 n5 kk : Nat) (th : Int32) (rep bro : Nat → Nat → Int32) (hR : mR ty t0 (mv g x y z) n1 n2 nL n4 n5 th rep bro u C ma) (hN : lwN g x y n1 n2 nL n4 n5 kk) (a0 a1 : Int32) : bth l D ty tl A u C ma t0 mi g ad ob f sz n5 kk yL_ofSet wsL_ofSet yX12_ofSet wsX12_ofSet [.int a0, .int a1] 57 344 (fun _ => True) := by
  have hI := hR.I
  have hd : dI g n1 n2 nL n4 n5 := hI.d
  have hb1 := hI.b1
  have hb2 := hI.b2
  have hb4 := hI.b4
  have hb5 := hI.b5
  rcases spI a0 (show n1 < 2 ^ 31 by omega) with h | ⟨i, hi, rfl⟩
  · exact bth_x (fun a => l_ofSet_x1 l D ty tl g ad ob f sz hob _ rfl rfl (Nat.le_of_ble_eq_true rfl) (Nat.le_of_ble_eq_true rfl) a0 a1 a (c_X5_ofSet_xB l hlt D ty g ad n1 n2 nL n4 n5 hd a0 a1 h)) (by decide) (m_ofSet_x1 l D ty A u C ma t0 mi (mv g x y z) n1 n2 nL n4 n5 th rep bro hR a0 a1 (bNo_x hb1 h)) (Nat.le_of_ble_eq_true rfl) (Nat.le_of_ble_eq_true rfl) (Nat.le_of_ble_eq_true rfl) (Nat.le_of_ble_eq_true rfl) (Nat.le_of_ble_eq_true rfl) (Nat.le_of_ble_eq_true rfl) hN (trivial)
  · rcases spI a1 (show 7 < 2 ^ 31 by decide) with h | ⟨w, hw, rfl⟩
    · exact bth_x (fun a => l_ofSet_x2 l D ty tl g ad ob f sz hob _ rfl rfl (Nat.le_of_ble_eq_true rfl) (Nat.le_of_ble_eq_true rfl) (nI i) a1 a (c_X5_ofSet_xA l hlt D ty g ad n1 n2 nL n4 n5 hd i hi a1 h)) (by decide) (m_ofSet_x2 l D ty A u C ma t0 mi (mv g x y z) n1 n2 nL n4 n5 th rep bro hR (nI i) a1 (bNo_ok hb1 hi) (by rw [inB_xk (k := 6) (by decide) h]; rfl)) (Nat.le_of_ble_eq_true rfl) (Nat.le_of_ble_eq_true rfl) (Nat.le_of_ble_eq_true rfl) (Nat.le_of_ble_eq_true rfl) (Nat.le_of_ble_eq_true rfl) (Nat.le_of_ble_eq_true rfl) hN (trivial)
    · exact bth_c (l_ofSet_ok l D ty tl g _ ad ob f sz hob _ rfl rfl (Nat.le_of_ble_eq_true rfl) (Nat.le_of_ble_eq_true rfl) (nI i) (nI w) _ (met_rd (c_X5_ofSet l D ty g ad n1 n2 nL n4 n5 hd i w hi hw))) (by decide) (m_ofSet l D ty A u C ma t0 mi (mv g x y z) n1 n2 nL n4 n5 th rep bro hR i w hi hw) (rfl) ((ag_mv g x y z)) (Nat.le_of_ble_eq_true rfl) (Nat.le_of_ble_eq_true rfl) (Nat.le_of_ble_eq_true rfl) (Nat.le_of_ble_eq_true rfl) (Nat.le_of_ble_eq_true rfl) (Nat.le_of_ble_eq_true rfl) (hN) (Or.inl ⟨rfl, rfl⟩) (trivial)
set_option maxHeartbeats 2000000 in
set_option maxRecDepth 100000 in
theorem b_isMadeOf (l : Launch) (hlt : l.stackTraces = false) (D : va_G) (ty : Nat → ClassId) (tl : ClassId) (A : Nat → Prop) (u : Nat → Nat → Prop) (C : Nat → Nat → va_E) (ma : Nat → Nat → Nat) (t0 mi : Nat) (g : Nat → Nat → Int32) (x y z : Nat → Int32) (ad : Nat → Nat) (hij : zIj ad) (ob : Nat) (f : Nat → Int64) (sz : Nat) (hob : ∀ k, k < 39 → ad k ≠ ob) (n1 n2 nL n4 n5 kk : Nat) (th : Int32) (rep bro : Nat → Nat → Int32) (hR : mR ty t0 (mv g x y z) n1 n2 nL n4 n5 th rep bro u C ma) (hN : lwN g x y n1 n2 nL n4 n5 kk) (a0 a1 a2 a3 a4 a5 : Int32) : bth l D ty tl A u C ma t0 mi g ad ob f sz n5 kk yL_isMadeOf wsL_isMadeOf yX12_isMadeOf wsX12_isMadeOf [.int a0, .int a1, .int a2, .int a3, .int a4, .int a5] 0 0 (fun b9 => ∃ bb : Bool, b9 = bI bb) := by
  have hI := hR.I
  have hd : dI g n1 n2 nL n4 n5 := hI.d
  have hb1 := hI.b1
  have hb2 := hI.b2
  have hb4 := hI.b4
  have hb5 := hI.b5
  rcases spP hI a0 a1 a2 with h | ⟨i, w, j, hi, hw, hj, rfl, rfl, rfl⟩
  · exact bth_x (fun a => l_isMadeOf_x1 l D ty tl g ad ob f sz hob _ rfl rfl (Nat.le_of_ble_eq_true rfl) (Nat.le_of_ble_eq_true rfl) a0 a1 a2 a3 a4 a5 a (c_X5_isMadeOf_xB1 l hlt D ty g ad n1 n2 nL n4 n5 hd a0 a1 a2 a3 a4 a5 h)) (by decide) (m_isMadeOf_x1 l D ty A u C ma t0 mi (mv g x y z) n1 n2 nL n4 n5 th rep bro hR a0 a1 a2 a3 a4 a5 (by rw [bVal_x hI h]; rfl)) (Nat.le_of_ble_eq_true rfl) (Nat.le_of_ble_eq_true rfl) (Nat.le_of_ble_eq_true rfl) (Nat.le_of_ble_eq_true rfl) (Nat.le_of_ble_eq_true rfl) (Nat.le_of_ble_eq_true rfl) hN (⟨false, rfl⟩)
  · rcases spP hI a3 a4 a5 with h | ⟨i2, w2, j2, hi2, hw2, hj2, rfl, rfl, rfl⟩
    · exact bth_x (fun a => l_isMadeOf_x1 l D ty tl g ad ob f sz hob _ rfl rfl (Nat.le_of_ble_eq_true rfl) (Nat.le_of_ble_eq_true rfl) (nI i) (nI w) (nI j) a3 a4 a5 a (c_X5_isMadeOf_xB2 l hlt D ty g ad n1 n2 nL n4 n5 hd i w j hi hw hj a3 a4 a5 h)) (by decide) (m_isMadeOf_x1 l D ty A u C ma t0 mi (mv g x y z) n1 n2 nL n4 n5 th rep bro hR (nI i) (nI w) (nI j) a3 a4 a5 (by rw [bVal_x (a := a3) hI h]; exact Bool.or_true _)) (Nat.le_of_ble_eq_true rfl) (Nat.le_of_ble_eq_true rfl) (Nat.le_of_ble_eq_true rfl) (Nat.le_of_ble_eq_true rfl) (Nat.le_of_ble_eq_true rfl) (Nat.le_of_ble_eq_true rfl) hN (⟨false, rfl⟩)
    · have q1 : nF g i < 7 := (hI.f7 hi).2.2
      have q2 : nV g i < 7 := (hI.v7 hi).2
      have q3 : nF g i2 < 7 := (hI.f7 hi2).2.2
      have q4 : nV g i2 < 7 := (hI.v7 hi2).2
      exact bth_c (l_isMadeOf_ok l D ty tl g _ ad ob f sz hob _ rfl rfl (Nat.le_of_ble_eq_true rfl) (Nat.le_of_ble_eq_true rfl) (nI i) (nI w) (nI j) (nI i2) (nI w2) (nI j2) _ _ rfl (c_X5_isMadeOf l D ty g ad sz hij n1 n2 nL n4 n5 hd i w j hi hw hj i2 w2 j2 hi2 hw2 hj2)) (by decide) (m_isMadeOf l D ty A u C ma t0 mi (mv g x y z) n1 n2 nL n4 n5 th rep bro hR i w j i2 w2 j2 hi hw hj hi2 hw2 hj2) (congrArg bI ((made_eq hI (g 18) (by omega) (by omega)).symm.trans (by rw [rchN_c (g := g) (g' := mv g x y z) rfl rfl]))) (ag_r (Or.inr (Or.inr rfl)) (ag_mv g x y z)) (Nat.le_of_ble_eq_true rfl) (Nat.le_of_ble_eq_true rfl) (Nat.le_of_ble_eq_true rfl) (Nat.le_of_ble_eq_true rfl) (Nat.le_of_ble_eq_true rfl) (Nat.le_of_ble_eq_true rfl) (hN.cong (fun k hk => vn (by omega))) (Or.inl ⟨rfl, rfl⟩) (⟨_, rfl⟩)
set_option maxHeartbeats 2000000 in
set_option maxRecDepth 100000 in
theorem b_contract (l : Launch) (hlt : l.stackTraces = false) (D : va_G) (ty : Nat → ClassId) (tl : ClassId) (A : Nat → Prop) (u : Nat → Nat → Prop) (C : Nat → Nat → va_E) (ma : Nat → Nat → Nat) (t0 mi : Nat) (g : Nat → Nat → Int32) (x y z : Nat → Int32) (ad : Nat → Nat) (hij : zIj ad) (ob : Nat) (f : Nat → Int64) (sz : Nat) (hob : ∀ k, k < 39 → ad k ≠ ob) (n1 n2 nL n4 n5 kk : Nat) (th : Int32) (rep bro : Nat → Nat → Int32) (hR : mR ty t0 (mv g x y z) n1 n2 nL n4 n5 th rep bro u C ma) (hN : lwN g x y n1 n2 nL n4 n5 kk) (a0 a1 a2 a3 a4 a5 : Int32) : bth l D ty tl A u C ma t0 mi g ad ob f sz n5 kk yL_contract wsL_contract yX12_contract wsX12_contract [.int a0, .int a1, .int a2, .int a3, .int a4, .int a5] 2 66 (fun _ => True) := by
  have hI := hR.I
  have hd : dI g n1 n2 nL n4 n5 := hI.d
  have hb1 := hI.b1
  have hb2 := hI.b2
  have hb4 := hI.b4
  have hb5 := hI.b5
  rcases spI a0 (show 6 < 2 ^ 31 by decide) with h | ⟨R, hr6, rfl⟩
  · exact bth_x (fun a => l_contract_x1 l D ty tl g ad ob f sz hob _ rfl rfl (Nat.le_of_ble_eq_true rfl) (Nat.le_of_ble_eq_true rfl) a0 a1 a2 a3 a4 a5 a (c_X5_contract_xB1 l hlt D ty g ad n1 n2 nL n4 n5 hd a0 a1 a2 a3 a4 a5 h)) (by decide) (m_contract_x1 l D ty A u C ma t0 mi (mv g x y z) n1 n2 nL n4 n5 th rep bro hR a0 a1 a2 a3 a4 a5 (by rw [bRd_x h]; rfl)) (Nat.le_of_ble_eq_true rfl) (Nat.le_of_ble_eq_true rfl) (Nat.le_of_ble_eq_true rfl) (Nat.le_of_ble_eq_true rfl) (Nat.le_of_ble_eq_true rfl) (Nat.le_of_ble_eq_true rfl) hN (trivial)
  · rcases spI a1 (show n1 < 2 ^ 31 by omega) with h | ⟨i, hi, rfl⟩
    · exact bth_x (fun a => l_contract_x1 l D ty tl g ad ob f sz hob _ rfl rfl (Nat.le_of_ble_eq_true rfl) (Nat.le_of_ble_eq_true rfl) (nI R) a1 a2 a3 a4 a5 a (c_X5_contract_xB2 l hlt D ty g ad n1 n2 nL n4 n5 hd R hr6 a1 a2 a3 a4 a5 h)) (by decide) (m_contract_x1 l D ty A u C ma t0 mi (mv g x y z) n1 n2 nL n4 n5 th rep bro hR (nI R) a1 a2 a3 a4 a5 (by rw [bNo_x hb1 h]; exact Bool.or_true _)) (Nat.le_of_ble_eq_true rfl) (Nat.le_of_ble_eq_true rfl) (Nat.le_of_ble_eq_true rfl) (Nat.le_of_ble_eq_true rfl) (Nat.le_of_ble_eq_true rfl) (Nat.le_of_ble_eq_true rfl) hN (trivial)
    · by_cases h : a2 < nI 1 ∨ allF g i < a2
      · exact bth_x (fun a => l_contract_x2 l D ty tl g ad ob f sz hob _ rfl rfl (Nat.le_of_ble_eq_true rfl) (Nat.le_of_ble_eq_true rfl) (nI R) (nI i) a2 a3 a4 a5 a (c_X5_contract_xA1 l hlt D ty g ad n1 n2 nL n4 n5 hd R i hr6 hi a2 a3 a4 a5 h)) (by decide) (m_contract_x2 l D ty A u C ma t0 mi (mv g x y z) n1 n2 nL n4 n5 th rep bro hR R i hr6 hi a2 a3 a4 a5 (by rw [show bFds (mv g x y z) i a2 = true from bFds_x h]; rfl)) (Nat.le_of_ble_eq_true rfl) (Nat.le_of_ble_eq_true rfl) (Nat.le_of_ble_eq_true rfl) (Nat.le_of_ble_eq_true rfl) (Nat.le_of_ble_eq_true rfl) (Nat.le_of_ble_eq_true rfl) hN (trivial)
      · obtain ⟨h1, h2⟩ := not_or.mp h
        have hF : bFds (mv g x y z) i a2 = false := bFds_n h1 h2
        have e0 : (mv g x y z) 0 0 = g 0 0 := rfl
        by_cases h : a3 < nI 1 ∨ nI 15 < a3 ∨ a4 < g 0 0 ∨ a5 < a4 ∨ nI 359 < a5
        · exact bth_x (fun a => l_contract_x2 l D ty tl g ad ob f sz hob _ rfl rfl (Nat.le_of_ble_eq_true rfl) (Nat.le_of_ble_eq_true rfl) (nI R) (nI i) a2 a3 a4 a5 a (c_X5_contract_xA2 l hlt D ty g ad n1 n2 nL n4 n5 hd R i hr6 hi a2 a3 a4 a5 h1 h2 h)) (by decide) (m_contract_x2 l D ty A u C ma t0 mi (mv g x y z) n1 n2 nL n4 n5 th rep bro hR R i hr6 hi a2 a3 a4 a5 (by rw [hF, e0]; rcases h with h | h | h | h | h; (rw [inB_rn (Or.inl h)]; rfl); (rw [inB_rn (Or.inr h)]; rfl); (rw [decide_eq_true h]; simp only [Bool.or_true, Bool.true_or]); (rw [decide_eq_true h]; simp only [Bool.or_true, Bool.true_or]); (rw [decide_eq_true h]; simp only [Bool.or_true, Bool.true_or]))) (Nat.le_of_ble_eq_true rfl) (Nat.le_of_ble_eq_true rfl) (Nat.le_of_ble_eq_true rfl) (Nat.le_of_ble_eq_true rfl) (Nat.le_of_ble_eq_true rfl) (Nat.le_of_ble_eq_true rfl) hN (trivial)
        · obtain ⟨p1, h⟩ := not_or.mp h
          obtain ⟨p2, h⟩ := not_or.mp h
          obtain ⟨p3, h⟩ := not_or.mp h
          obtain ⟨p4, p5⟩ := not_or.mp h
          have hall : (bFds (mv g x y z) i a2 || !inB a3 (nI 1) (nI 15) || decide (a4 < (mv g x y z) 0 0) || decide (a5 < a4) || decide (nI 359 < a5)) = false := by rw [hF, e0, inB_r p1 p2, decide_eq_false p3, decide_eq_false p4, decide_eq_false p5]; rfl
          by_cases hn : n4 = 16
          · exact bth_x (fun a => l_contract_x3 l D ty tl g ad ob f sz hob _ rfl rfl (Nat.le_of_ble_eq_true rfl) (Nat.le_of_ble_eq_true rfl) (nI R) (nI i) a2 a3 a4 a5 a (c_X5_contract_xS l hlt D ty g ad n1 n2 nL n4 n5 hd R i hr6 hi a2 a3 a4 a5 h1 h2 p1 p2 p3 p4 p5 hn)) (by decide) (m_contract_x3 l D ty A u C ma t0 mi (mv g x y z) n1 n2 nL n4 n5 th rep bro hR R i hr6 hi a2 a3 a4 a5 hall hn) (Nat.le_of_ble_eq_true rfl) (Nat.le_of_ble_eq_true rfl) (Nat.le_of_ble_eq_true rfl) (Nat.le_of_ble_eq_true rfl) (Nat.le_of_ble_eq_true rfl) (Nat.le_of_ble_eq_true rfl) hN (trivial)
          · have hfr : nb a4 360 := by
              have hd2 := hI.day
              have hq : ¬ a4 < nI (cn (g 0 0)) := by have e1 : g 0 0 = nI (cn (g 0 0)) := hd2.1; rw [← e1]; exact p3
              have hq2 : ¬ nI 359 < a4 := fun q => p5 (by have k := Int32.not_lt.mp p4; rw [Int32.le_iff_toInt_le] at k; rw [Int32.lt_iff_toInt_lt] at q ⊢; omega)
              have hq3 : cn (g 0 0) < 360 := hd2.2
              obtain ⟨k, k1, k2, rfl⟩ := spR hq hq2 (by omega) (by decide)
              exact nb_nI (by omega) (by decide)
            exact bth_s (l_contract_ok l D ty tl g _ ad ob f sz hob _ rfl rfl (Nat.le_of_ble_eq_true rfl) (Nat.le_of_ble_eq_true rfl) (nI R) (nI i) a2 a3 a4 a5 _ (c_X5_contract l D ty g ad sz hij n1 n2 nL n4 n5 hd R i hr6 hi a2 a3 a4 a5 h1 h2 p1 p2 p3 p4 p5 (by omega))) (by decide) (m_contract l D ty A u C ma t0 mi (mv g x y z) n1 n2 nL n4 n5 th rep bro hR R i hr6 hi a2 a3 a4 a5 hall (by omega)) (rfl) (ag_con (ag_mv g x y z) n4 _ _ a2 a3 a4 a5) (Nat.le_of_ble_eq_true rfl) (Nat.le_of_ble_eq_true rfl) (Nat.le_of_ble_eq_true rfl) (Nat.le_of_ble_eq_true rfl) (Nat.le_of_ble_eq_true rfl) (Nat.le_of_ble_eq_true rfl) (lwN_con hN _ _ a2 a3 a4 a5 hfr) (Or.inr ⟨rfl, Nat.le_refl _, (Nat.le_of_ble_eq_true rfl)⟩) (trivial)
set_option maxHeartbeats 2000000 in
set_option maxRecDepth 100000 in
theorem b_end (l : Launch) (hlt : l.stackTraces = false) (D : va_G) (ty : Nat → ClassId) (tl : ClassId) (A : Nat → Prop) (u : Nat → Nat → Prop) (C : Nat → Nat → va_E) (ma : Nat → Nat → Nat) (t0 mi : Nat) (g : Nat → Nat → Int32) (x y z : Nat → Int32) (ad : Nat → Nat) (hij : zIj ad) (ob : Nat) (f : Nat → Int64) (sz : Nat) (hob : ∀ k, k < 39 → ad k ≠ ob) (n1 n2 nL n4 n5 kk : Nat) (th : Int32) (rep bro : Nat → Nat → Int32) (hR : mR ty t0 (mv g x y z) n1 n2 nL n4 n5 th rep bro u C ma) (hN : lwN g x y n1 n2 nL n4 n5 kk) (a0 : Int32) : bth l D ty tl A u C ma t0 mi g ad ob f sz n5 kk yL_end wsL_end yX12_end wsX12_end [.int a0] 0 0 (fun _ => True) := by
  have hI := hR.I
  have hd : dI g n1 n2 nL n4 n5 := hI.d
  have hb1 := hI.b1
  have hb2 := hI.b2
  have hb4 := hI.b4
  have hb5 := hI.b5
  rcases spI a0 (show n4 < 2 ^ 31 by omega) with h | ⟨c0, hc0, rfl⟩
  · exact bth_x (fun a => l_end_x1 l D ty tl g ad ob f sz hob _ rfl rfl (Nat.le_of_ble_eq_true rfl) (Nat.le_of_ble_eq_true rfl) a0 a (c_X5_end_xB l hlt D ty g ad n1 n2 nL n4 n5 hd a0 h)) (by decide) (m_end_x1 l D ty A u C ma t0 mi (mv g x y z) n1 n2 nL n4 n5 th rep bro hR a0 (by rw [inB_out (by omega) h]; rfl)) (Nat.le_of_ble_eq_true rfl) (Nat.le_of_ble_eq_true rfl) (Nat.le_of_ble_eq_true rfl) (Nat.le_of_ble_eq_true rfl) (Nat.le_of_ble_eq_true rfl) (Nat.le_of_ble_eq_true rfl) hN (trivial)
  · have h27 := hN.2.2.1 c0 hc0
    have hb : zmax (nI 0) ((mv g x y z) 28 c0 - zmax ((mv g x y z) 27 c0 - nI 1) ((mv g x y z) 0 0)) = zmax (g 28 c0 - zmax (g 27 c0) (g 0 0 + nI 1) + nI 1) (nI 0) := by
      have h9 := end_eq h27.2 (show cn (g 0 0) < 360 from hI.day.2) (g 28 c0)
      rw [← h27.1, ← (show g 0 0 = nI (cn (g 0 0)) from hI.day.1)] at h9
      exact h9
    exact bth_c (l_end_ok l D ty tl g _ ad ob f sz hob _ rfl rfl (Nat.le_of_ble_eq_true rfl) (Nat.le_of_ble_eq_true rfl) (nI c0) _ (c_X5_end l D ty g ad sz hij n1 n2 nL n4 n5 hd c0 hc0)) (by decide) (m_end l D ty A u C ma t0 mi (mv g x y z) n1 n2 nL n4 n5 th rep bro hR c0 hc0) (hb) (ag_up (ag_mv g x y z) rfl) (Nat.le_of_ble_eq_true rfl) (Nat.le_of_ble_eq_true rfl) (Nat.le_of_ble_eq_true rfl) (Nat.le_of_ble_eq_true rfl) (Nat.le_of_ble_eq_true rfl) (Nat.le_of_ble_eq_true rfl) (hN.cong (fun k hk => vn (by omega))) (Or.inl ⟨rfl, rfl⟩) (trivial)
set_option maxHeartbeats 2000000 in
set_option maxRecDepth 100000 in
theorem b_neededBy (l : Launch) (hlt : l.stackTraces = false) (D : va_G) (ty : Nat → ClassId) (tl : ClassId) (A : Nat → Prop) (u : Nat → Nat → Prop) (C : Nat → Nat → va_E) (ma : Nat → Nat → Nat) (t0 mi : Nat) (g : Nat → Nat → Int32) (x y z : Nat → Int32) (ad : Nat → Nat) (hij : zIj ad) (ob : Nat) (f : Nat → Int64) (sz : Nat) (hob : ∀ k, k < 39 → ad k ≠ ob) (n1 n2 nL n4 n5 kk : Nat) (th : Int32) (rep bro : Nat → Nat → Int32) (hR : mR ty t0 (mv g x y z) n1 n2 nL n4 n5 th rep bro u C ma) (hN : lwN g x y n1 n2 nL n4 n5 kk) (a0 : Int32) : bth l D ty tl A u C ma t0 mi g ad ob f sz n5 kk yL_neededBy wsL_neededBy yX12_neededBy wsX12_neededBy [.int a0] 0 0 (fun _ => True) := by
  have hI := hR.I
  have hd : dI g n1 n2 nL n4 n5 := hI.d
  have hb1 := hI.b1
  have hb2 := hI.b2
  have hb4 := hI.b4
  have hb5 := hI.b5
  rcases spI a0 (show n4 < 2 ^ 31 by omega) with h | ⟨c0, hc0, rfl⟩
  · exact bth_x (fun a => l_neededBy_x1 l D ty tl g ad ob f sz hob _ rfl rfl (Nat.le_of_ble_eq_true rfl) (Nat.le_of_ble_eq_true rfl) a0 a (c_X5_neededBy_xB l hlt D ty g ad n1 n2 nL n4 n5 hd a0 h)) (by decide) (m_neededBy_x1 l D ty A u C ma t0 mi (mv g x y z) n1 n2 nL n4 n5 th rep bro hR a0 (by rw [inB_out (by omega) h]; rfl)) (Nat.le_of_ble_eq_true rfl) (Nat.le_of_ble_eq_true rfl) (Nat.le_of_ble_eq_true rfl) (Nat.le_of_ble_eq_true rfl) (Nat.le_of_ble_eq_true rfl) (Nat.le_of_ble_eq_true rfl) hN (trivial)
  · exact bth_c (l_neededBy_ok l D ty tl g _ ad ob f sz hob _ rfl rfl (Nat.le_of_ble_eq_true rfl) (Nat.le_of_ble_eq_true rfl) (nI c0) _ (met_rd (c_X5_neededBy l D ty g ad n1 n2 nL n4 n5 hd c0 hc0))) (by decide) (m_neededBy l D ty A u C ma t0 mi (mv g x y z) n1 n2 nL n4 n5 th rep bro hR c0 hc0) (rfl) ((ag_mv g x y z)) (Nat.le_of_ble_eq_true rfl) (Nat.le_of_ble_eq_true rfl) (Nat.le_of_ble_eq_true rfl) (Nat.le_of_ble_eq_true rfl) (Nat.le_of_ble_eq_true rfl) (Nat.le_of_ble_eq_true rfl) (hN) (Or.inl ⟨rfl, rfl⟩) (trivial)
set_option maxHeartbeats 2000000 in
set_option maxRecDepth 100000 in
theorem b_covered (l : Launch) (hlt : l.stackTraces = false) (D : va_G) (ty : Nat → ClassId) (tl : ClassId) (A : Nat → Prop) (u : Nat → Nat → Prop) (C : Nat → Nat → va_E) (ma : Nat → Nat → Nat) (t0 mi : Nat) (g : Nat → Nat → Int32) (x y z : Nat → Int32) (ad : Nat → Nat) (hij : zIj ad) (ob : Nat) (f : Nat → Int64) (sz : Nat) (hob : ∀ k, k < 39 → ad k ≠ ob) (n1 n2 nL n4 n5 kk : Nat) (th : Int32) (rep bro : Nat → Nat → Int32) (hR : mR ty t0 (mv g x y z) n1 n2 nL n4 n5 th rep bro u C ma) (hN : lwN g x y n1 n2 nL n4 n5 kk) (a0 a1 a2 a3 : Int32) : bth l D ty tl A u C ma t0 mi g ad ob f sz n5 kk yL_covered wsL_covered yX12_covered wsX12_covered [.int a0, .int a1, .int a2, .int a3] 0 0 (fun _ => True) := by
  have hI := hR.I
  have hd : dI g n1 n2 nL n4 n5 := hI.d
  have hb1 := hI.b1
  have hb2 := hI.b2
  have hb4 := hI.b4
  have hb5 := hI.b5
  rcases spI a0 (show 6 < 2 ^ 31 by decide) with h | ⟨R, hr6, rfl⟩
  · exact bth_x (fun a => l_covered_x1 l D ty tl g ad ob f sz hob _ rfl rfl (Nat.le_of_ble_eq_true rfl) (Nat.le_of_ble_eq_true rfl) a0 a1 a2 a3 a (c_X5_covered_xB1 l hlt D ty g ad n1 n2 nL n4 n5 hd a0 a1 a2 a3 h)) (by decide) (m_covered_x1 l D ty A u C ma t0 mi (mv g x y z) n1 n2 nL n4 n5 th rep bro hR a0 a1 a2 a3 (by rw [bRd_x h]; rfl)) (Nat.le_of_ble_eq_true rfl) (Nat.le_of_ble_eq_true rfl) (Nat.le_of_ble_eq_true rfl) (Nat.le_of_ble_eq_true rfl) (Nat.le_of_ble_eq_true rfl) (Nat.le_of_ble_eq_true rfl) hN (trivial)
  · rcases spI a1 (show n1 < 2 ^ 31 by omega) with h | ⟨i, hi, rfl⟩
    · exact bth_x (fun a => l_covered_x1 l D ty tl g ad ob f sz hob _ rfl rfl (Nat.le_of_ble_eq_true rfl) (Nat.le_of_ble_eq_true rfl) (nI R) a1 a2 a3 a (c_X5_covered_xB2 l hlt D ty g ad n1 n2 nL n4 n5 hd R hr6 a1 a2 a3 h)) (by decide) (m_covered_x1 l D ty A u C ma t0 mi (mv g x y z) n1 n2 nL n4 n5 th rep bro hR (nI R) a1 a2 a3 (by rw [bNo_x hb1 h]; simp only [Bool.or_true, Bool.true_or])) (Nat.le_of_ble_eq_true rfl) (Nat.le_of_ble_eq_true rfl) (Nat.le_of_ble_eq_true rfl) (Nat.le_of_ble_eq_true rfl) (Nat.le_of_ble_eq_true rfl) (Nat.le_of_ble_eq_true rfl) hN (trivial)
    · rcases spI a2 (show 4 < 2 ^ 31 by decide) with h | ⟨P, hp, rfl⟩
      · exact bth_x (fun a => l_covered_x1 l D ty tl g ad ob f sz hob _ rfl rfl (Nat.le_of_ble_eq_true rfl) (Nat.le_of_ble_eq_true rfl) (nI R) (nI i) a2 a3 a (c_X5_covered_xB3 l hlt D ty g ad n1 n2 nL n4 n5 hd R i hr6 hi a2 a3 h)) (by decide) (m_covered_x1 l D ty A u C ma t0 mi (mv g x y z) n1 n2 nL n4 n5 th rep bro hR (nI R) (nI i) a2 a3 (by rw [inB_xk (k := 3) (by decide) h]; exact Bool.or_true _)) (Nat.le_of_ble_eq_true rfl) (Nat.le_of_ble_eq_true rfl) (Nat.le_of_ble_eq_true rfl) (Nat.le_of_ble_eq_true rfl) (Nat.le_of_ble_eq_true rfl) (Nat.le_of_ble_eq_true rfl) hN (trivial)
      · have hok : (bRd (nI R) || bNo n1 (nI i) || !inB (nI P) (nI 0) (nI 3)) = false := by rw [bRd_ok hr6, bNo_ok hb1 hi, inB_k (show P ≤ 3 by omega) (by decide)]; rfl
        by_cases h : a3 < 0 ∨ nI 359 < a3
        · exact bth_x (fun a => l_covered_x2 l D ty tl g ad ob f sz hob _ rfl rfl (Nat.le_of_ble_eq_true rfl) (Nat.le_of_ble_eq_true rfl) (nI R) (nI i) (nI P) a3 a (c_X5_covered_xA l hlt D ty g ad n1 n2 nL n4 n5 hd R i P hr6 hi hp a3 h)) (by decide) (m_covered_x2 l D ty A u C ma t0 mi (mv g x y z) n1 n2 nL n4 n5 th rep bro hR (nI R) (nI i) (nI P) a3 hok (by rw [inB_rn (a := 0) (by rw [nI_0]; exact h)]; rfl)) (Nat.le_of_ble_eq_true rfl) (Nat.le_of_ble_eq_true rfl) (Nat.le_of_ble_eq_true rfl) (Nat.le_of_ble_eq_true rfl) (Nat.le_of_ble_eq_true rfl) (Nat.le_of_ble_eq_true rfl) hN (trivial)
        · obtain ⟨h1, h2⟩ := not_or.mp h
          exact bth_c (l_covered_ok l D ty tl g _ ad ob f sz hob _ rfl rfl (Nat.le_of_ble_eq_true rfl) (Nat.le_of_ble_eq_true rfl) (nI R) (nI i) (nI P) a3 _ (met_rd (c_X5_covered l D ty g ad n1 n2 nL n4 n5 hd R i P hr6 hi hp a3 h1 h2))) (by decide) (m_covered l D ty A u C ma t0 mi (mv g x y z) n1 n2 nL n4 n5 th rep bro hR R i P hr6 hi hp a3 (by rw [nI_0]; exact h1) h2) (rfl) ((ag_mv g x y z)) (Nat.le_of_ble_eq_true rfl) (Nat.le_of_ble_eq_true rfl) (Nat.le_of_ble_eq_true rfl) (Nat.le_of_ble_eq_true rfl) (Nat.le_of_ble_eq_true rfl) (Nat.le_of_ble_eq_true rfl) (hN) (Or.inl ⟨rfl, rfl⟩) (trivial)
set_option maxHeartbeats 2000000 in
set_option maxRecDepth 100000 in
theorem b_read (l : Launch) (hlt : l.stackTraces = false) (D : va_G) (ty : Nat → ClassId) (tl : ClassId) (A : Nat → Prop) (u : Nat → Nat → Prop) (C : Nat → Nat → va_E) (ma : Nat → Nat → Nat) (t0 mi : Nat) (g : Nat → Nat → Int32) (x y z : Nat → Int32) (ad : Nat → Nat) (hij : zIj ad) (ob : Nat) (f : Nat → Int64) (sz : Nat) (hob : ∀ k, k < 39 → ad k ≠ ob) (n1 n2 nL n4 n5 kk : Nat) (th : Int32) (rep bro : Nat → Nat → Int32) (hR : mR ty t0 (mv g x y z) n1 n2 nL n4 n5 th rep bro u C ma) (hN : lwN g x y n1 n2 nL n4 n5 kk) (a0 a1 a2 a3 a4 : Int32) : bth l D ty tl A u C ma t0 mi g ad ob f sz n5 kk yL_read wsL_read yX12_read wsX12_read [.int a0, .int a1, .int a2, .int a3, .int a4] 3 76 (fun _ => True) := by
  have hI := hR.I
  have hd : dI g n1 n2 nL n4 n5 := hI.d
  have hb1 := hI.b1
  have hb2 := hI.b2
  have hb4 := hI.b4
  have hb5 := hI.b5
  rcases spI a0 (show 6 < 2 ^ 31 by decide) with h | ⟨R, hr6, rfl⟩
  · exact bth_x (fun a => l_read_x1 l D ty tl g ad ob f sz hob _ rfl rfl (Nat.le_of_ble_eq_true rfl) (Nat.le_of_ble_eq_true rfl) a0 a1 a2 a3 a4 a (c_X5_read_xB1 l hlt D ty g ad n1 n2 nL n4 n5 hd a0 a1 a2 a3 a4 h)) (by decide) (m_read_x1 l D ty A u C ma t0 mi (mv g x y z) n1 n2 nL n4 n5 th rep bro hR a0 a1 a2 a3 a4 (by rw [bRd_x h]; rfl)) (Nat.le_of_ble_eq_true rfl) (Nat.le_of_ble_eq_true rfl) (Nat.le_of_ble_eq_true rfl) (Nat.le_of_ble_eq_true rfl) (Nat.le_of_ble_eq_true rfl) (Nat.le_of_ble_eq_true rfl) hN (trivial)
  · rcases spI a1 (show n1 < 2 ^ 31 by omega) with h | ⟨i, hi, rfl⟩
    · exact bth_x (fun a => l_read_x1 l D ty tl g ad ob f sz hob _ rfl rfl (Nat.le_of_ble_eq_true rfl) (Nat.le_of_ble_eq_true rfl) (nI R) a1 a2 a3 a4 a (c_X5_read_xB2 l hlt D ty g ad n1 n2 nL n4 n5 hd R hr6 a1 a2 a3 a4 h)) (by decide) (m_read_x1 l D ty A u C ma t0 mi (mv g x y z) n1 n2 nL n4 n5 th rep bro hR (nI R) a1 a2 a3 a4 (by rw [bNo_x hb1 h]; simp only [Bool.or_true, Bool.true_or])) (Nat.le_of_ble_eq_true rfl) (Nat.le_of_ble_eq_true rfl) (Nat.le_of_ble_eq_true rfl) (Nat.le_of_ble_eq_true rfl) (Nat.le_of_ble_eq_true rfl) (Nat.le_of_ble_eq_true rfl) hN (trivial)
    · rcases spI a4 (show 4 < 2 ^ 31 by decide) with h | ⟨P, hp, rfl⟩
      · exact bth_x (fun a => l_read_x1 l D ty tl g ad ob f sz hob _ rfl rfl (Nat.le_of_ble_eq_true rfl) (Nat.le_of_ble_eq_true rfl) (nI R) (nI i) a2 a3 a4 a (c_X5_read_xB3 l hlt D ty g ad n1 n2 nL n4 n5 hd R i hr6 hi a2 a3 a4 h)) (by decide) (m_read_x1 l D ty A u C ma t0 mi (mv g x y z) n1 n2 nL n4 n5 th rep bro hR (nI R) (nI i) a2 a3 a4 (by rw [inB_xk (k := 3) (by decide) h]; simp only [Bool.not_false, Bool.or_true])) (Nat.le_of_ble_eq_true rfl) (Nat.le_of_ble_eq_true rfl) (Nat.le_of_ble_eq_true rfl) (Nat.le_of_ble_eq_true rfl) (Nat.le_of_ble_eq_true rfl) (Nat.le_of_ble_eq_true rfl) hN (trivial)
      · by_cases h : a2 < nI 1 ∨ allF g i < a2
        · exact bth_x (fun a => l_read_x2 l D ty tl g ad ob f sz hob _ rfl rfl (Nat.le_of_ble_eq_true rfl) (Nat.le_of_ble_eq_true rfl) (nI R) (nI i) a2 a3 (nI P) a (c_X5_read_xA1 l hlt D ty g ad n1 n2 nL n4 n5 hd R i P hr6 hi hp a2 a3 h)) (by decide) (m_read_x2 l D ty A u C ma t0 mi (mv g x y z) n1 n2 nL n4 n5 th rep bro hR R i P hr6 hi hp a2 a3 (by rw [show bFds (mv g x y z) i a2 = true from bFds_x h]; rfl)) (Nat.le_of_ble_eq_true rfl) (Nat.le_of_ble_eq_true rfl) (Nat.le_of_ble_eq_true rfl) (Nat.le_of_ble_eq_true rfl) (Nat.le_of_ble_eq_true rfl) (Nat.le_of_ble_eq_true rfl) hN (trivial)
        · obtain ⟨h1, h2⟩ := not_or.mp h
          have hF : bFds (mv g x y z) i a2 = false := bFds_n h1 h2
          by_cases hr : a3 < nI 1
          · exact bth_x (fun a => l_read_x2 l D ty tl g ad ob f sz hob _ rfl rfl (Nat.le_of_ble_eq_true rfl) (Nat.le_of_ble_eq_true rfl) (nI R) (nI i) a2 a3 (nI P) a (c_X5_read_xA2 l hlt D ty g ad n1 n2 nL n4 n5 hd R i P hr6 hi hp a2 a3 h1 h2 hr)) (by decide) (m_read_x2 l D ty A u C ma t0 mi (mv g x y z) n1 n2 nL n4 n5 th rep bro hR R i P hr6 hi hp a2 a3 (by rw [decide_eq_true hr]; exact Bool.or_true _)) (Nat.le_of_ble_eq_true rfl) (Nat.le_of_ble_eq_true rfl) (Nat.le_of_ble_eq_true rfl) (Nat.le_of_ble_eq_true rfl) (Nat.le_of_ble_eq_true rfl) (Nat.le_of_ble_eq_true rfl) hN (trivial)
          · have hFr : (bFds (mv g x y z) i a2 || decide (a3 < nI 1)) = false := by rw [hF, decide_eq_false hr]; rfl
            by_cases hn : n5 = 40
            · exact bth_x (fun a => l_read_x3 l D ty tl g ad ob f sz hob _ rfl rfl (Nat.le_of_ble_eq_true rfl) (Nat.le_of_ble_eq_true rfl) (nI R) (nI i) a2 a3 (nI P) a (c_X5_read_xS1 l hlt D ty g ad n1 n2 nL n4 n5 hd R i P hr6 hi hp a2 a3 h1 h2 hr hn)) (by decide) (m_read_x3a l D ty A u C ma t0 mi (mv g x y z) n1 n2 nL n4 n5 th rep bro hR R i P hr6 hi hp a2 a3 hFr hn) (Nat.le_of_ble_eq_true rfl) (Nat.le_of_ble_eq_true rfl) (Nat.le_of_ble_eq_true rfl) (Nat.le_of_ble_eq_true rfl) (Nat.le_of_ble_eq_true rfl) (Nat.le_of_ble_eq_true rfl) hN (trivial)
            · have hn40 : n5 < 40 := by omega
              by_cases hr2 : rowsL g i < a3
              · exact bth_x (fun a => l_read_x3 l D ty tl g ad ob f sz hob _ rfl rfl (Nat.le_of_ble_eq_true rfl) (Nat.le_of_ble_eq_true rfl) (nI R) (nI i) a2 a3 (nI P) a (c_X5_read_xS2 l hlt D ty g ad n1 n2 nL n4 n5 hd R i P hr6 hi hp a2 a3 h1 h2 hr hn40 hr2)) (by decide) (m_read_x3b l D ty A u C ma t0 mi (mv g x y z) n1 n2 nL n4 n5 th rep bro hR R i P hr6 hi hp a2 a3 hFr hn40 hr2) (Nat.le_of_ble_eq_true rfl) (Nat.le_of_ble_eq_true rfl) (Nat.le_of_ble_eq_true rfl) (Nat.le_of_ble_eq_true rfl) (Nat.le_of_ble_eq_true rfl) (Nat.le_of_ble_eq_true rfl) hN (trivial)
              · by_cases hcv : a2 &&& (orN (fOpen g (nI R) (nI i) (nI 1 <<< (nI P &&& 31)) (g 0 0) (-1)) n4 ^^^ (-1)) = 0
                · have hv : 0 < nV g i := Nat.pos_of_ne_zero (fun q => by unfold rowsL at hr2; rw [if_pos q] at hr2; exact rows0 hr hr2)
                  have h4 : 0 < n4 := Nat.pos_of_ne_zero (fun q => by rw [q] at hcv; have e := and_all hcv; rw [e] at h1; exact h1 (by decide))
                  have hp10 : ∀ f, f < nF g i → (mv g x y z) 10 (i * 6 + f) = g 10 (i * 6 + f) := fun f hf => (hN.1 i f hi hf).1
                  have hag := ag_read (ag_mv g x y z) n5 R i a2 a3 P hp10
                  exact bth_s (l_read_ok l D ty tl g _ ad ob f sz hob _ rfl rfl (Nat.le_of_ble_eq_true rfl) (Nat.le_of_ble_eq_true rfl) (nI R) (nI i) a2 a3 (nI P) _ (c_X5_read l D ty g ad sz hij n1 n2 nL n4 n5 hd R i P hr6 hi hp a2 a3 h1 h2 hr hn40 hr2 hcv)) (by decide) (m_read l D ty A u C ma t0 mi (mv g x y z) n1 n2 nL n4 n5 th rep bro hR R i P hr6 hi hp a2 a3 hFr h1 h2 hv hn40 hr2 hcv) (ag_chN hag n5) (hag) (Nat.le_of_ble_eq_true rfl) (Nat.le_of_ble_eq_true rfl) (Nat.le_of_ble_eq_true rfl) (Nat.le_of_ble_eq_true rfl) (Nat.le_of_ble_eq_true rfl) (Nat.le_of_ble_eq_true rfl) (by rw [readG_o (k := 10) _ _ _ _ _ _ _ (by decide), readG_o (k := 11) _ _ _ _ _ _ _ (by decide)]; exact lwN_read hN a2 a3 P hi hv h4) (Or.inr ⟨rfl, Nat.le_succ _, (Nat.le_of_ble_eq_true rfl)⟩) (trivial)
                · exact bth_x (fun a => l_read_x3 l D ty tl g ad ob f sz hob _ rfl rfl (Nat.le_of_ble_eq_true rfl) (Nat.le_of_ble_eq_true rfl) (nI R) (nI i) a2 a3 (nI P) a (c_X5_read_xS3 l hlt D ty g ad n1 n2 nL n4 n5 hd R i P hr6 hi hp a2 a3 h1 h2 hr hn40 hr2 hcv)) (by decide) (m_read_x3c l D ty A u C ma t0 mi (mv g x y z) n1 n2 nL n4 n5 th rep bro hR R i P hr6 hi hp a2 a3 hFr hn40 hr2 hcv) (Nat.le_of_ble_eq_true rfl) (Nat.le_of_ble_eq_true rfl) (Nat.le_of_ble_eq_true rfl) (Nat.le_of_ble_eq_true rfl) (Nat.le_of_ble_eq_true rfl) (Nat.le_of_ble_eq_true rfl) hN (trivial)
set_option maxHeartbeats 2000000 in
set_option maxRecDepth 100000 in
theorem b_preview (l : Launch) (hlt : l.stackTraces = false) (D : va_G) (ty : Nat → ClassId) (tl : ClassId) (A : Nat → Prop) (u : Nat → Nat → Prop) (C : Nat → Nat → va_E) (ma : Nat → Nat → Nat) (t0 mi : Nat) (g : Nat → Nat → Int32) (x y z : Nat → Int32) (ad : Nat → Nat) (hij : zIj ad) (ob : Nat) (f : Nat → Int64) (sz : Nat) (hob : ∀ k, k < 39 → ad k ≠ ob) (n1 n2 nL n4 n5 kk : Nat) (th : Int32) (rep bro : Nat → Nat → Int32) (hR : mR ty t0 (mv g x y z) n1 n2 nL n4 n5 th rep bro u C ma) (hN : lwN g x y n1 n2 nL n4 n5 kk) (a0 a1 a2 : Int32) : bth l D ty tl A u C ma t0 mi g ad ob f sz n5 kk yL_preview wsL_preview yX12_preview wsX12_preview [.int a0, .int a1, .int a2] 0 0 (fun _ => True) := by
  have hI := hR.I
  have hd : dI g n1 n2 nL n4 n5 := hI.d
  have hb1 := hI.b1
  have hb2 := hI.b2
  have hb4 := hI.b4
  have hb5 := hI.b5
  rcases spI a0 (show 6 < 2 ^ 31 by decide) with h | ⟨R, hr6, rfl⟩
  · exact bth_x (fun a => l_preview_x1 l D ty tl g ad ob f sz hob _ rfl rfl (Nat.le_of_ble_eq_true rfl) (Nat.le_of_ble_eq_true rfl) a0 a1 a2 a (c_X5_preview_xB1 l hlt D ty g ad n1 n2 nL n4 n5 hd a0 a1 a2 h)) (by decide) (m_preview_x1 l D ty A u C ma t0 mi (mv g x y z) n1 n2 nL n4 n5 th rep bro hR a0 a1 a2 (by rw [bRd_x h]; rfl)) (Nat.le_of_ble_eq_true rfl) (Nat.le_of_ble_eq_true rfl) (Nat.le_of_ble_eq_true rfl) (Nat.le_of_ble_eq_true rfl) (Nat.le_of_ble_eq_true rfl) (Nat.le_of_ble_eq_true rfl) hN (trivial)
  · rcases spI a1 (show n1 < 2 ^ 31 by omega) with h | ⟨i, hi, rfl⟩
    · exact bth_x (fun a => l_preview_x1 l D ty tl g ad ob f sz hob _ rfl rfl (Nat.le_of_ble_eq_true rfl) (Nat.le_of_ble_eq_true rfl) (nI R) a1 a2 a (c_X5_preview_xB2 l hlt D ty g ad n1 n2 nL n4 n5 hd R hr6 a1 a2 h)) (by decide) (m_preview_x1 l D ty A u C ma t0 mi (mv g x y z) n1 n2 nL n4 n5 th rep bro hR (nI R) a1 a2 (by rw [bNo_x hb1 h]; exact Bool.or_true _)) (Nat.le_of_ble_eq_true rfl) (Nat.le_of_ble_eq_true rfl) (Nat.le_of_ble_eq_true rfl) (Nat.le_of_ble_eq_true rfl) (Nat.le_of_ble_eq_true rfl) (Nat.le_of_ble_eq_true rfl) hN (trivial)
    · by_cases h : a2 < nI 1 ∨ allF g i < a2
      · exact bth_x (fun a => l_preview_x2 l D ty tl g ad ob f sz hob _ rfl rfl (Nat.le_of_ble_eq_true rfl) (Nat.le_of_ble_eq_true rfl) (nI R) (nI i) a2 a (c_X5_preview_xA1 l hlt D ty g ad n1 n2 nL n4 n5 hd R i hr6 hi a2 h)) (by decide) (m_preview_x2 l D ty A u C ma t0 mi (mv g x y z) n1 n2 nL n4 n5 th rep bro hR R i hr6 hi a2 (by rw [show bFds (mv g x y z) i a2 = true from bFds_x h]; rfl)) (Nat.le_of_ble_eq_true rfl) (Nat.le_of_ble_eq_true rfl) (Nat.le_of_ble_eq_true rfl) (Nat.le_of_ble_eq_true rfl) (Nat.le_of_ble_eq_true rfl) (Nat.le_of_ble_eq_true rfl) hN (trivial)
      · obtain ⟨h1, h2⟩ := not_or.mp h
        have hF : bFds (mv g x y z) i a2 = false := bFds_n h1 h2
        by_cases hb : nI 2 < bc a2
        · exact bth_x (fun a => l_preview_x2 l D ty tl g ad ob f sz hob _ rfl rfl (Nat.le_of_ble_eq_true rfl) (Nat.le_of_ble_eq_true rfl) (nI R) (nI i) a2 a (c_X5_preview_xA2 l hlt D ty g ad n1 n2 nL n4 n5 hd R i hr6 hi a2 h1 h2 hb)) (by decide) (m_preview_x2 l D ty A u C ma t0 mi (mv g x y z) n1 n2 nL n4 n5 th rep bro hR R i hr6 hi a2 (by rw [decide_eq_true hb]; exact Bool.or_true _)) (Nat.le_of_ble_eq_true rfl) (Nat.le_of_ble_eq_true rfl) (Nat.le_of_ble_eq_true rfl) (Nat.le_of_ble_eq_true rfl) (Nat.le_of_ble_eq_true rfl) (Nat.le_of_ble_eq_true rfl) hN (trivial)
        · have hFb : (bFds (mv g x y z) i a2 || decide (nI 2 < bc a2)) = false := by rw [hF, decide_eq_false hb]; rfl
          by_cases hv0 : nV g i = 0
          · exact bth_x (fun a => l_preview_x3 l D ty tl g ad ob f sz hob _ rfl rfl (Nat.le_of_ble_eq_true rfl) (Nat.le_of_ble_eq_true rfl) (nI R) (nI i) a2 a (c_X5_preview_xS1 l hlt D ty g ad n1 n2 nL n4 n5 hd R i hr6 hi a2 h1 h2 hb hv0)) (by decide) (m_preview_x3 l D ty A u C ma t0 mi (mv g x y z) n1 n2 nL n4 n5 th rep bro hR R i hr6 hi a2 hFb (by rw [decide_eq_true (show nV (mv g x y z) i = 0 from hv0)]; rfl)) (Nat.le_of_ble_eq_true rfl) (Nat.le_of_ble_eq_true rfl) (Nat.le_of_ble_eq_true rfl) (Nat.le_of_ble_eq_true rfl) (Nat.le_of_ble_eq_true rfl) (Nat.le_of_ble_eq_true rfl) hN (trivial)
          · have hv1 : 0 < nV g i := by omega
            rcases hm : mayB g i (g 6 (R * 8 + i) ||| a2) (openT g n4 (nI R) (nI i)) with _ | _
            · exact bth_x (fun a => l_preview_x3 l D ty tl g ad ob f sz hob _ rfl rfl (Nat.le_of_ble_eq_true rfl) (Nat.le_of_ble_eq_true rfl) (nI R) (nI i) a2 a (c_X5_preview_xS2 l hlt D ty g ad n1 n2 nL n4 n5 hd R i hr6 hi a2 h1 h2 hb hv1 hm)) (by decide) (m_preview_x3 l D ty A u C ma t0 mi (mv g x y z) n1 n2 nL n4 n5 th rep bro hR R i hr6 hi a2 hFb (by rw [show mayB (mv g x y z) i ((mv g x y z) 6 (R * 8 + i) ||| a2) (openT (mv g x y z) n4 (nI R) (nI i)) = false from hm]; simp only [Bool.and_false, Bool.not_false])) (Nat.le_of_ble_eq_true rfl) (Nat.le_of_ble_eq_true rfl) (Nat.le_of_ble_eq_true rfl) (Nat.le_of_ble_eq_true rfl) (Nat.le_of_ble_eq_true rfl) (Nat.le_of_ble_eq_true rfl) hN (trivial)
            · exact bth_c (l_preview_ok l D ty tl g _ ad ob f sz hob _ rfl rfl (Nat.le_of_ble_eq_true rfl) (Nat.le_of_ble_eq_true rfl) (nI R) (nI i) a2 _ (c_X5_preview l D ty g ad sz hij n1 n2 nL n4 n5 hd R i hr6 hi a2 h1 h2 hb hv1 hm)) (by decide) (m_preview l D ty A u C ma t0 mi (mv g x y z) n1 n2 nL n4 n5 th rep bro hR R i hr6 hi a2 hFb (by rw [show mayB (mv g x y z) i ((mv g x y z) 6 (R * 8 + i) ||| a2) (openT (mv g x y z) n4 (nI R) (nI i)) = true from hm, decide_eq_false (show ¬ nV (mv g x y z) i = 0 from hv0)]; rfl)) (rfl) (ag_up (ag_mv g x y z) rfl) (Nat.le_of_ble_eq_true rfl) (Nat.le_of_ble_eq_true rfl) (Nat.le_of_ble_eq_true rfl) (Nat.le_of_ble_eq_true rfl) (Nat.le_of_ble_eq_true rfl) (Nat.le_of_ble_eq_true rfl) (hN.cong (fun k hk => vn (by omega))) (Or.inl ⟨rfl, rfl⟩) (trivial)
set_option maxHeartbeats 2000000 in
set_option maxRecDepth 100000 in
theorem b_ofRead (l : Launch) (hlt : l.stackTraces = false) (D : va_G) (ty : Nat → ClassId) (tl : ClassId) (A : Nat → Prop) (u : Nat → Nat → Prop) (C : Nat → Nat → va_E) (ma : Nat → Nat → Nat) (t0 mi : Nat) (g : Nat → Nat → Int32) (x y z : Nat → Int32) (ad : Nat → Nat) (hij : zIj ad) (ob : Nat) (f : Nat → Int64) (sz : Nat) (hob : ∀ k, k < 39 → ad k ≠ ob) (n1 n2 nL n4 n5 kk : Nat) (th : Int32) (rep bro : Nat → Nat → Int32) (hR : mR ty t0 (mv g x y z) n1 n2 nL n4 n5 th rep bro u C ma) (hN : lwN g x y n1 n2 nL n4 n5 kk) (a0 a1 : Int32) : bth l D ty tl A u C ma t0 mi g ad ob f sz n5 kk yL_ofRead wsL_ofRead yX12_ofRead wsX12_ofRead [.int a0, .int a1] 58 356 (fun _ => True) := by
  have hI := hR.I
  have hd : dI g n1 n2 nL n4 n5 := hI.d
  have hb1 := hI.b1
  have hb2 := hI.b2
  have hb4 := hI.b4
  have hb5 := hI.b5
  rcases spI a0 (show n5 < 2 ^ 31 by omega) with h | ⟨r0, hr0, rfl⟩
  · exact bth_x (fun a => l_ofRead_x1 l D ty tl g ad ob f sz hob _ rfl rfl (Nat.le_of_ble_eq_true rfl) (Nat.le_of_ble_eq_true rfl) a0 a1 a (c_X5_ofRead_xB l hlt D ty g ad n1 n2 nL n4 n5 hd a0 a1 h)) (by decide) (m_ofRead_x1 l D ty A u C ma t0 mi (mv g x y z) n1 n2 nL n4 n5 th rep bro hR a0 a1 (by rw [inB_out (by omega) h]; rfl)) (Nat.le_of_ble_eq_true rfl) (Nat.le_of_ble_eq_true rfl) (Nat.le_of_ble_eq_true rfl) (Nat.le_of_ble_eq_true rfl) (Nat.le_of_ble_eq_true rfl) (Nat.le_of_ble_eq_true rfl) hN (trivial)
  · rcases spI a1 (show 12 < 2 ^ 31 by decide) with h | ⟨w, hw, rfl⟩
    · exact bth_x (fun a => l_ofRead_x2 l D ty tl g ad ob f sz hob _ rfl rfl (Nat.le_of_ble_eq_true rfl) (Nat.le_of_ble_eq_true rfl) (nI r0) a1 a (c_X5_ofRead_xA l hlt D ty g ad n1 n2 nL n4 n5 hd r0 hr0 a1 h)) (by decide) (m_ofRead_x2 l D ty A u C ma t0 mi (mv g x y z) n1 n2 nL n4 n5 th rep bro hR (nI r0) a1 (by rw [inB_c (by omega) hr0]; rfl) (by rw [inB_xk (k := 11) (by decide) h]; rfl)) (Nat.le_of_ble_eq_true rfl) (Nat.le_of_ble_eq_true rfl) (Nat.le_of_ble_eq_true rfl) (Nat.le_of_ble_eq_true rfl) (Nat.le_of_ble_eq_true rfl) (Nat.le_of_ble_eq_true rfl) hN (trivial)
    · exact bth_c (l_ofRead_ok l D ty tl g _ ad ob f sz hob _ rfl rfl (Nat.le_of_ble_eq_true rfl) (Nat.le_of_ble_eq_true rfl) (nI r0) (nI w) _ (met_rd (c_X5_ofRead l D ty g ad n1 n2 nL n4 n5 hd r0 w hr0 hw))) (by decide) (m_ofRead l D ty A u C ma t0 mi (mv g x y z) n1 n2 nL n4 n5 th rep bro hR r0 w hr0 hw) (rfl) ((ag_mv g x y z)) (Nat.le_of_ble_eq_true rfl) (Nat.le_of_ble_eq_true rfl) (Nat.le_of_ble_eq_true rfl) (Nat.le_of_ble_eq_true rfl) (Nat.le_of_ble_eq_true rfl) (Nat.le_of_ble_eq_true rfl) (hN) (Or.inl ⟨rfl, rfl⟩) (trivial)
set_option maxHeartbeats 2000000 in
set_option maxRecDepth 100000 in
theorem b_ofReader (l : Launch) (hlt : l.stackTraces = false) (D : va_G) (ty : Nat → ClassId) (tl : ClassId) (A : Nat → Prop) (u : Nat → Nat → Prop) (C : Nat → Nat → va_E) (ma : Nat → Nat → Nat) (t0 mi : Nat) (g : Nat → Nat → Int32) (x y z : Nat → Int32) (ad : Nat → Nat) (hij : zIj ad) (ob : Nat) (f : Nat → Int64) (sz : Nat) (hob : ∀ k, k < 39 → ad k ≠ ob) (n1 n2 nL n4 n5 kk : Nat) (th : Int32) (rep bro : Nat → Nat → Int32) (hR : mR ty t0 (mv g x y z) n1 n2 nL n4 n5 th rep bro u C ma) (hN : lwN g x y n1 n2 nL n4 n5 kk) (a0 a1 : Int32) : bth l D ty tl A u C ma t0 mi g ad ob f sz n5 kk yL_ofReader wsL_ofReader yX12_ofReader wsX12_ofReader [.int a0, .int a1] 97 584 (fun _ => True) := by
  have hI := hR.I
  have hd : dI g n1 n2 nL n4 n5 := hI.d
  have hb1 := hI.b1
  have hb2 := hI.b2
  have hb4 := hI.b4
  have hb5 := hI.b5
  rcases spI a0 (show 6 < 2 ^ 31 by decide) with h | ⟨R, hr6, rfl⟩
  · exact bth_x (fun a => l_ofReader_x1 l D ty tl g ad ob f sz hob _ rfl rfl (Nat.le_of_ble_eq_true rfl) (Nat.le_of_ble_eq_true rfl) a0 a1 a (c_X5_ofReader_xB l hlt D ty g ad n1 n2 nL n4 n5 hd a0 a1 h)) (by decide) (m_ofReader_x1 l D ty A u C ma t0 mi (mv g x y z) n1 n2 nL n4 n5 th rep bro hR a0 a1 (bRd_x h)) (Nat.le_of_ble_eq_true rfl) (Nat.le_of_ble_eq_true rfl) (Nat.le_of_ble_eq_true rfl) (Nat.le_of_ble_eq_true rfl) (Nat.le_of_ble_eq_true rfl) (Nat.le_of_ble_eq_true rfl) hN (trivial)
  · rcases spI a1 (show 7 < 2 ^ 31 by decide) with h | ⟨w, hw, rfl⟩
    · exact bth_x (fun a => l_ofReader_x2 l D ty tl g ad ob f sz hob _ rfl rfl (Nat.le_of_ble_eq_true rfl) (Nat.le_of_ble_eq_true rfl) (nI R) a1 a (c_X5_ofReader_xA l hlt D ty g ad n1 n2 nL n4 n5 hd R hr6 a1 h)) (by decide) (m_ofReader_x2 l D ty A u C ma t0 mi (mv g x y z) n1 n2 nL n4 n5 th rep bro hR (nI R) a1 (bRd_ok hr6) (by rw [inB_xk (k := 6) (by decide) h]; rfl)) (Nat.le_of_ble_eq_true rfl) (Nat.le_of_ble_eq_true rfl) (Nat.le_of_ble_eq_true rfl) (Nat.le_of_ble_eq_true rfl) (Nat.le_of_ble_eq_true rfl) (Nat.le_of_ble_eq_true rfl) hN (trivial)
    · exact bth_c (l_ofReader_ok l D ty tl g _ ad ob f sz hob _ rfl rfl (Nat.le_of_ble_eq_true rfl) (Nat.le_of_ble_eq_true rfl) (nI R) (nI w) _ (met_rd (c_X5_ofReader l D ty g ad n1 n2 nL n4 n5 hd R w hr6 hw))) (by decide) (m_ofReader l D ty A u C ma t0 mi (mv g x y z) n1 n2 nL n4 n5 th rep bro hR R w hr6 hw) (rfl) ((ag_mv g x y z)) (Nat.le_of_ble_eq_true rfl) (Nat.le_of_ble_eq_true rfl) (Nat.le_of_ble_eq_true rfl) (Nat.le_of_ble_eq_true rfl) (Nat.le_of_ble_eq_true rfl) (Nat.le_of_ble_eq_true rfl) (hN) (Or.inl ⟨rfl, rfl⟩) (trivial)
set_option maxHeartbeats 2000000 in
set_option maxRecDepth 100000 in
theorem b_bill (l : Launch) (hlt : l.stackTraces = false) (D : va_G) (ty : Nat → ClassId) (tl : ClassId) (A : Nat → Prop) (u : Nat → Nat → Prop) (C : Nat → Nat → va_E) (ma : Nat → Nat → Nat) (t0 mi : Nat) (g : Nat → Nat → Int32) (x y z : Nat → Int32) (ad : Nat → Nat) (hij : zIj ad) (ob : Nat) (f : Nat → Int64) (sz : Nat) (hob : ∀ k, k < 39 → ad k ≠ ob) (n1 n2 nL n4 n5 kk : Nat) (th : Int32) (rep bro : Nat → Nat → Int32) (hR : mR ty t0 (mv g x y z) n1 n2 nL n4 n5 th rep bro u C ma) (hN : lwN g x y n1 n2 nL n4 n5 kk) (a0 : Int32) : bth l D ty tl A u C ma t0 mi g ad ob f sz n5 kk yL_bill wsL_bill yX12_bill wsX12_bill [.int a0] 97 584 (fun _ => True) := by
  have hI := hR.I
  have hd : dI g n1 n2 nL n4 n5 := hI.d
  have hb1 := hI.b1
  have hb2 := hI.b2
  have hb4 := hI.b4
  have hb5 := hI.b5
  rcases spI a0 (show 6 < 2 ^ 31 by decide) with h | ⟨R, hr6, rfl⟩
  · exact bth_x (fun a => l_bill_x1 l D ty tl g ad ob f sz hob _ rfl rfl (Nat.le_of_ble_eq_true rfl) (Nat.le_of_ble_eq_true rfl) a0 a (c_X5_bill_xB l hlt D ty g ad n1 n2 nL n4 n5 hd a0 h)) (by decide) (m_bill_x1 l D ty A u C ma t0 mi (mv g x y z) n1 n2 nL n4 n5 th rep bro hR a0 (bRd_x h)) (Nat.le_of_ble_eq_true rfl) (Nat.le_of_ble_eq_true rfl) (Nat.le_of_ble_eq_true rfl) (Nat.le_of_ble_eq_true rfl) (Nat.le_of_ble_eq_true rfl) (Nat.le_of_ble_eq_true rfl) hN (trivial)
  · exact bth_c (l_bill_ok l D ty tl g _ ad ob f sz hob _ rfl rfl (Nat.le_of_ble_eq_true rfl) (Nat.le_of_ble_eq_true rfl) (nI R) _ (c_X5_bill l D ty g ad sz hij n1 n2 nL n4 n5 hd R hr6)) (by decide) (m_bill l D ty A u C ma t0 mi (mv g x y z) n1 n2 nL n4 n5 th rep bro hR R hr6) (rfl) (ag_up (ag_mv g x y z) rfl) (Nat.le_of_ble_eq_true rfl) (Nat.le_of_ble_eq_true rfl) (Nat.le_of_ble_eq_true rfl) (Nat.le_of_ble_eq_true rfl) (Nat.le_of_ble_eq_true rfl) (Nat.le_of_ble_eq_true rfl) (hN.cong (fun k hk => vn (by omega))) (Or.inl ⟨rfl, rfl⟩) (trivial)
set_option maxHeartbeats 2000000 in
set_option maxRecDepth 100000 in
theorem b_pass (l : Launch) (hlt : l.stackTraces = false) (D : va_G) (ty : Nat → ClassId) (tl : ClassId) (A : Nat → Prop) (u : Nat → Nat → Prop) (C : Nat → Nat → va_E) (ma : Nat → Nat → Nat) (t0 mi : Nat) (g : Nat → Nat → Int32) (x y z : Nat → Int32) (ad : Nat → Nat) (hij : zIj ad) (ob : Nat) (f : Nat → Int64) (sz : Nat) (hob : ∀ k, k < 39 → ad k ≠ ob) (n1 n2 nL n4 n5 kk : Nat) (th : Int32) (rep bro : Nat → Nat → Int32) (hR : mR ty t0 (mv g x y z) n1 n2 nL n4 n5 th rep bro u C ma) (hN : lwN g x y n1 n2 nL n4 n5 kk) (a0 : Int32) : bth l D ty tl A u C ma t0 mi g ad ob f sz n5 kk yL_pass wsL_pass yX12_pass wsX12_pass [.int a0] 0 0 (fun _ => True) := by
  have hI := hR.I
  have hd : dI g n1 n2 nL n4 n5 := hI.d
  have hb1 := hI.b1
  have hb2 := hI.b2
  have hb4 := hI.b4
  have hb5 := hI.b5
  by_cases h : a0 < nI 1 ∨ nI 30 < a0
  · exact bth_x (fun a => l_pass_x1 l D ty tl g ad ob f sz hob _ rfl rfl (Nat.le_of_ble_eq_true rfl) (Nat.le_of_ble_eq_true rfl) a0 a (c_X5_pass_xA l hlt D ty g ad n1 n2 nL n4 n5 hd a0 h)) (by decide) (m_pass_x1 l D ty A u C ma t0 mi (mv g x y z) n1 n2 nL n4 n5 th rep bro hR a0 (by rw [inB_rn h]; rfl)) (Nat.le_of_ble_eq_true rfl) (Nat.le_of_ble_eq_true rfl) (Nat.le_of_ble_eq_true rfl) (Nat.le_of_ble_eq_true rfl) (Nat.le_of_ble_eq_true rfl) (Nat.le_of_ble_eq_true rfl) hN (trivial)
  · obtain ⟨h1, h2⟩ := not_or.mp h
    by_cases h3 : nI 359 < g 0 0 + a0
    · exact bth_x (fun a => l_pass_x2 l D ty tl g ad ob f sz hob _ rfl rfl (Nat.le_of_ble_eq_true rfl) (Nat.le_of_ble_eq_true rfl) a0 a (c_X5_pass_xS l hlt D ty g ad n1 n2 nL n4 n5 hd a0 h1 h2 h3)) (by decide) (m_pass_x2 l D ty A u C ma t0 mi (mv g x y z) n1 n2 nL n4 n5 th rep bro hR a0 (by rw [inB_r h1 h2]; rfl) (decide_eq_true h3)) (Nat.le_of_ble_eq_true rfl) (Nat.le_of_ble_eq_true rfl) (Nat.le_of_ble_eq_true rfl) (Nat.le_of_ble_eq_true rfl) (Nat.le_of_ble_eq_true rfl) (Nat.le_of_ble_eq_true rfl) hN (trivial)
    · have hx : nb (g 0 0 + a0) 360 := by
        obtain ⟨k, k1, k2, rfl⟩ := spR h1 h2 (by decide) (by decide)
        have hd1 : g 0 0 = nI (cn (g 0 0)) := hI.day.1
        have hd2 : cn (g 0 0) < 360 := hI.day.2
        rw [hd1, nI_add] at h3 ⊢
        have h4 : cn (g 0 0) + k < 360 := Nat.lt_of_not_le (fun q => h3 (nI_lt (by omega) (by omega)))
        exact nb_nI h4 (by decide)
      exact bth_c (l_pass_ok l D ty tl g _ ad ob f sz hob _ rfl rfl (Nat.le_of_ble_eq_true rfl) (Nat.le_of_ble_eq_true rfl) a0 _ (c_X5_pass l D ty g ad sz hij n1 n2 nL n4 n5 hd a0 h1 h2 h3)) (by decide) (m_pass l D ty A u C ma t0 mi (mv g x y z) n1 n2 nL n4 n5 th rep bro hR a0 h1 h2 h3 hx) (rfl) (ag_up (ag_mv g x y z) rfl) (Nat.le_of_ble_eq_true rfl) (Nat.le_of_ble_eq_true rfl) (Nat.le_of_ble_eq_true rfl) (Nat.le_of_ble_eq_true rfl) (Nat.le_of_ble_eq_true rfl) (Nat.le_of_ble_eq_true rfl) (hN.cong (fun k hk => vn (by omega))) (Or.inl ⟨rfl, rfl⟩) (trivial)
set_option maxHeartbeats 2000000 in
set_option maxRecDepth 100000 in
theorem b_many (l : Launch) (hlt : l.stackTraces = false) (D : va_G) (ty : Nat → ClassId) (tl : ClassId) (A : Nat → Prop) (u : Nat → Nat → Prop) (C : Nat → Nat → va_E) (ma : Nat → Nat → Nat) (t0 mi : Nat) (g : Nat → Nat → Int32) (x y z : Nat → Int32) (ad : Nat → Nat) (hij : zIj ad) (ob : Nat) (f : Nat → Int64) (sz : Nat) (hob : ∀ k, k < 39 → ad k ≠ ob) (n1 n2 nL n4 n5 kk : Nat) (th : Int32) (rep bro : Nat → Nat → Int32) (hR : mR ty t0 (mv g x y z) n1 n2 nL n4 n5 th rep bro u C ma) (hN : lwN g x y n1 n2 nL n4 n5 kk) (a0 : Int32) : bth l D ty tl A u C ma t0 mi g ad ob f sz n5 kk yL_many wsL_many yX12_many wsX12_many [.int a0] 58 353 (fun _ => True) := by
  have hI := hR.I
  have hd : dI g n1 n2 nL n4 n5 := hI.d
  have hb1 := hI.b1
  have hb2 := hI.b2
  have hb4 := hI.b4
  have hb5 := hI.b5
  rcases spI a0 (show 9 < 2 ^ 31 by decide) with h | ⟨w, hw, rfl⟩
  · exact bth_x (fun a => l_many_x1 l D ty tl g ad ob f sz hob _ rfl rfl (Nat.le_of_ble_eq_true rfl) (Nat.le_of_ble_eq_true rfl) a0 a (c_X5_many_xA l hlt D ty g ad n1 n2 nL n4 n5 hd a0 h)) (by decide) (m_many_x1 l D ty A u C ma t0 mi (mv g x y z) n1 n2 nL n4 n5 th rep bro hR a0 (by rw [inB_xk (k := 8) (by decide) h]; rfl)) (Nat.le_of_ble_eq_true rfl) (Nat.le_of_ble_eq_true rfl) (Nat.le_of_ble_eq_true rfl) (Nat.le_of_ble_eq_true rfl) (Nat.le_of_ble_eq_true rfl) (Nat.le_of_ble_eq_true rfl) hN (trivial)
  · exact bth_c (l_many_ok l D ty tl g _ ad ob f sz hob _ rfl rfl (Nat.le_of_ble_eq_true rfl) (Nat.le_of_ble_eq_true rfl) (nI w) _ (met_rd (c_X5_many l D ty g ad n1 n2 nL n4 n5 hd w hw))) (by decide) (m_many l D ty A u C ma t0 mi (mv g x y z) n1 n2 nL n4 n5 th rep bro hR w hw) (rfl) ((ag_mv g x y z)) (Nat.le_of_ble_eq_true rfl) (Nat.le_of_ble_eq_true rfl) (Nat.le_of_ble_eq_true rfl) (Nat.le_of_ble_eq_true rfl) (Nat.le_of_ble_eq_true rfl) (Nat.le_of_ble_eq_true rfl) (hN) (Or.inl ⟨rfl, rfl⟩) (trivial)
set_option maxHeartbeats 2000000 in
set_option maxRecDepth 100000 in
theorem b_quote (l : Launch) (hlt : l.stackTraces = false) (D : va_G) (ty : Nat → ClassId) (tl : ClassId) (A : Nat → Prop) (u : Nat → Nat → Prop) (C : Nat → Nat → va_E) (ma : Nat → Nat → Nat) (t0 mi : Nat) (g : Nat → Nat → Int32) (x y z : Nat → Int32) (ad : Nat → Nat) (hij : zIj ad) (ob : Nat) (f : Nat → Int64) (sz : Nat) (hob : ∀ k, k < 39 → ad k ≠ ob) (n1 n2 nL n4 n5 kk : Nat) (th : Int32) (rep bro : Nat → Nat → Int32) (hR : mR ty t0 (mv g x y z) n1 n2 nL n4 n5 th rep bro u C ma) (hN : lwN g x y n1 n2 nL n4 n5 kk) (a0 a1 a2 a3 : Int32) : bth l D ty tl A u C ma t0 mi g ad ob f sz n5 kk yL_quote wsL_quote yX12_quote wsX12_quote [.int a0, .int a1, .int a2, .int a3] 2 16 (fun _ => True) := by
  have hI := hR.I
  have hd : dI g n1 n2 nL n4 n5 := hI.d
  have hb1 := hI.b1
  have hb2 := hI.b2
  have hb4 := hI.b4
  have hb5 := hI.b5
  rcases spI a0 (show 6 < 2 ^ 31 by decide) with h | ⟨R, hr6, rfl⟩
  · exact bth_x (fun a => l_quote_x1 l D ty tl g ad ob f sz hob _ rfl rfl (Nat.le_of_ble_eq_true rfl) (Nat.le_of_ble_eq_true rfl) a0 a1 a2 a3 a (c_X5_quote_xB1 l hlt D ty g ad n1 n2 nL n4 n5 hd a0 a1 a2 a3 h)) (by decide) (m_quote_x1 l D ty A u C ma t0 mi (mv g x y z) n1 n2 nL n4 n5 th rep bro hR a0 a1 a2 a3 (by rw [bRd_x h]; rfl)) (Nat.le_of_ble_eq_true rfl) (Nat.le_of_ble_eq_true rfl) (Nat.le_of_ble_eq_true rfl) (Nat.le_of_ble_eq_true rfl) (Nat.le_of_ble_eq_true rfl) (Nat.le_of_ble_eq_true rfl) hN (trivial)
  · rcases spI a1 (show n1 < 2 ^ 31 by omega) with h | ⟨i, hi, rfl⟩
    · exact bth_x (fun a => l_quote_x1 l D ty tl g ad ob f sz hob _ rfl rfl (Nat.le_of_ble_eq_true rfl) (Nat.le_of_ble_eq_true rfl) (nI R) a1 a2 a3 a (c_X5_quote_xB2 l hlt D ty g ad n1 n2 nL n4 n5 hd R hr6 a1 a2 a3 h)) (by decide) (m_quote_x1 l D ty A u C ma t0 mi (mv g x y z) n1 n2 nL n4 n5 th rep bro hR (nI R) a1 a2 a3 (by rw [bNo_x hb1 h]; exact Bool.or_true _)) (Nat.le_of_ble_eq_true rfl) (Nat.le_of_ble_eq_true rfl) (Nat.le_of_ble_eq_true rfl) (Nat.le_of_ble_eq_true rfl) (Nat.le_of_ble_eq_true rfl) (Nat.le_of_ble_eq_true rfl) hN (trivial)
    · by_cases h : a2 < nI 1 ∨ allF g i < a2
      · exact bth_x (fun a => l_quote_x2 l D ty tl g ad ob f sz hob _ rfl rfl (Nat.le_of_ble_eq_true rfl) (Nat.le_of_ble_eq_true rfl) (nI R) (nI i) a2 a3 a (c_X5_quote_xA1 l hlt D ty g ad n1 n2 nL n4 n5 hd R i hr6 hi a2 a3 h)) (by decide) (m_quote_x2 l D ty A u C ma t0 mi (mv g x y z) n1 n2 nL n4 n5 th rep bro hR R i hr6 hi a2 a3 (by rw [show bFds (mv g x y z) i a2 = true from bFds_x h]; rfl)) (Nat.le_of_ble_eq_true rfl) (Nat.le_of_ble_eq_true rfl) (Nat.le_of_ble_eq_true rfl) (Nat.le_of_ble_eq_true rfl) (Nat.le_of_ble_eq_true rfl) (Nat.le_of_ble_eq_true rfl) hN (trivial)
      · obtain ⟨h1, h2⟩ := not_or.mp h
        have hF : bFds (mv g x y z) i a2 = false := bFds_n h1 h2
        by_cases h : a3 < nI 1 ∨ nI 9999 < a3
        · exact bth_x (fun a => l_quote_x2 l D ty tl g ad ob f sz hob _ rfl rfl (Nat.le_of_ble_eq_true rfl) (Nat.le_of_ble_eq_true rfl) (nI R) (nI i) a2 a3 a (c_X5_quote_xA2 l hlt D ty g ad n1 n2 nL n4 n5 hd R i hr6 hi a2 a3 h1 h2 h)) (by decide) (m_quote_x2 l D ty A u C ma t0 mi (mv g x y z) n1 n2 nL n4 n5 th rep bro hR R i hr6 hi a2 a3 (by rw [inB_rn h]; exact Bool.or_true _)) (Nat.le_of_ble_eq_true rfl) (Nat.le_of_ble_eq_true rfl) (Nat.le_of_ble_eq_true rfl) (Nat.le_of_ble_eq_true rfl) (Nat.le_of_ble_eq_true rfl) (Nat.le_of_ble_eq_true rfl) hN (trivial)
        · obtain ⟨h3, h4⟩ := not_or.mp h
          have hb : sumN (mdF (mv g x y z) i a2 a3 (tierN (sumN (fUn (mv g x y z) (nI R) ((mv g x y z) 0 0)) n5))) 6 = sumN (qtF g i a2 a3 (tierN (sumN (fUn g (nI R) (g 0 0)) n5))) (nF g i) := by
            rw [quote_eq (g := mv g x y z) (hI.f7 hi).2.2 h1 h2]
            refine sumN_same (nF g i) fun f hf => ?_
            have h10 : (mv g x y z) 10 (i * 6 + f) = g 10 (i * 6 + f) := (hN.1 i f hi hf).1
            unfold qtF
            rw [h10]; rfl
          exact bth_s (l_quote_ok l D ty tl g _ ad ob f sz hob _ rfl rfl (Nat.le_of_ble_eq_true rfl) (Nat.le_of_ble_eq_true rfl) (nI R) (nI i) a2 a3 _ (met_rd (c_X5_quote l D ty g ad n1 n2 nL n4 n5 hd R i hr6 hi a2 a3 h1 h2 h3 h4))) (by decide) (m_quote l D ty A u C ma t0 mi (mv g x y z) n1 n2 nL n4 n5 th rep bro hR R i hr6 hi a2 a3 (by rw [hF, inB_r h3 h4]; rfl)) (hb) ((ag_mv g x y z)) (Nat.le_of_ble_eq_true rfl) (Nat.le_of_ble_eq_true rfl) (Nat.le_of_ble_eq_true rfl) (Nat.le_of_ble_eq_true rfl) (Nat.le_of_ble_eq_true rfl) (Nat.le_of_ble_eq_true rfl) (hN) (Or.inl ⟨rfl, rfl⟩) (trivial)
set_option maxHeartbeats 2000000 in
set_option maxRecDepth 100000 in
theorem b_previews (l : Launch) (hlt : l.stackTraces = false) (D : va_G) (ty : Nat → ClassId) (tl : ClassId) (A : Nat → Prop) (u : Nat → Nat → Prop) (C : Nat → Nat → va_E) (ma : Nat → Nat → Nat) (t0 mi : Nat) (g : Nat → Nat → Int32) (x y z : Nat → Int32) (ad : Nat → Nat) (hij : zIj ad) (ob : Nat) (f : Nat → Int64) (sz : Nat) (hob : ∀ k, k < 39 → ad k ≠ ob) (n1 n2 nL n4 n5 kk : Nat) (th : Int32) (rep bro : Nat → Nat → Int32) (hR : mR ty t0 (mv g x y z) n1 n2 nL n4 n5 th rep bro u C ma) (hN : lwN g x y n1 n2 nL n4 n5 kk) (a0 a1 : Int32) : bth l D ty tl A u C ma t0 mi g ad ob f sz n5 kk yL_previews wsL_previews yX12_previews wsX12_previews [.int a0, .int a1] 0 0 (fun _ => True) := by
  have hI := hR.I
  have hd : dI g n1 n2 nL n4 n5 := hI.d
  have hb1 := hI.b1
  have hb2 := hI.b2
  have hb4 := hI.b4
  have hb5 := hI.b5
  rcases spI a0 (show 6 < 2 ^ 31 by decide) with h | ⟨R, hr6, rfl⟩
  · exact bth_x (fun a => l_previews_x1 l D ty tl g ad ob f sz hob _ rfl rfl (Nat.le_of_ble_eq_true rfl) (Nat.le_of_ble_eq_true rfl) a0 a1 a (c_X5_previews_xB1 l hlt D ty g ad n1 n2 nL n4 n5 hd a0 a1 h)) (by decide) (m_previews_x1 l D ty A u C ma t0 mi (mv g x y z) n1 n2 nL n4 n5 th rep bro hR a0 a1 (by rw [bRd_x h]; rfl)) (Nat.le_of_ble_eq_true rfl) (Nat.le_of_ble_eq_true rfl) (Nat.le_of_ble_eq_true rfl) (Nat.le_of_ble_eq_true rfl) (Nat.le_of_ble_eq_true rfl) (Nat.le_of_ble_eq_true rfl) hN (trivial)
  · rcases spI a1 (show n1 < 2 ^ 31 by omega) with h | ⟨i, hi, rfl⟩
    · exact bth_x (fun a => l_previews_x1 l D ty tl g ad ob f sz hob _ rfl rfl (Nat.le_of_ble_eq_true rfl) (Nat.le_of_ble_eq_true rfl) (nI R) a1 a (c_X5_previews_xB2 l hlt D ty g ad n1 n2 nL n4 n5 hd R hr6 a1 h)) (by decide) (m_previews_x1 l D ty A u C ma t0 mi (mv g x y z) n1 n2 nL n4 n5 th rep bro hR (nI R) a1 (by rw [bNo_x hb1 h]; exact Bool.or_true _)) (Nat.le_of_ble_eq_true rfl) (Nat.le_of_ble_eq_true rfl) (Nat.le_of_ble_eq_true rfl) (Nat.le_of_ble_eq_true rfl) (Nat.le_of_ble_eq_true rfl) (Nat.le_of_ble_eq_true rfl) hN (trivial)
    · exact bth_c (l_previews_ok l D ty tl g _ ad ob f sz hob _ rfl rfl (Nat.le_of_ble_eq_true rfl) (Nat.le_of_ble_eq_true rfl) (nI R) (nI i) _ (met_rd (c_X5_previews l D ty g ad n1 n2 nL n4 n5 hd R i hr6 hi))) (by decide) (m_previews l D ty A u C ma t0 mi (mv g x y z) n1 n2 nL n4 n5 th rep bro hR R i hr6 hi) (rfl) ((ag_mv g x y z)) (Nat.le_of_ble_eq_true rfl) (Nat.le_of_ble_eq_true rfl) (Nat.le_of_ble_eq_true rfl) (Nat.le_of_ble_eq_true rfl) (Nat.le_of_ble_eq_true rfl) (Nat.le_of_ble_eq_true rfl) (hN) (Or.inl ⟨rfl, rfl⟩) (trivial)
