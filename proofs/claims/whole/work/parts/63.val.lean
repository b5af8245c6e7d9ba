theorem inB_k {w k : Nat} (h : w ≤ k) (hk : k < 2 ^ 31) : inB (nI w) (nI 0) (nI k) = true := by
  unfold inB
  rw [decide_eq_false (fun z => nI_pos (show w < 2 ^ 31 by omega) (by rw [nI_0] at z; exact z)), decide_eq_false (nI_nlt h hk)]; rfl
theorem inB_r {x : Int32} {a b : Nat} (h1 : ¬ x < nI a) (h2 : ¬ nI b < x) : inB x (nI a) (nI b) = true := by
  unfold inB; rw [decide_eq_false h1, decide_eq_false h2]; rfl
theorem inB_rn {x : Int32} {a b : Nat} (h : x < nI a ∨ nI b < x) : inB x (nI a) (nI b) = false := by
  unfold inB
  rcases h with h | h
  · rw [decide_eq_true h]; rfl
  · rw [decide_eq_true h, Bool.not_true, Bool.and_false]
theorem bFld_ok {g : Nat → Nat → Int32} {n1 n2 nL n4 n5 i f : Nat} (hI : gI g n1 n2 nL n4 n5) (hi : i < n1) (hf : f < nF g i) : bFld g n1 (nI i) (nI f) = false := by
  have h8 := hI.b1
  have h7 := hI.f7 hi
  unfold bFld
  rw [bNo_ok hI.b1 hi, cn_nI (show i < 2 ^ 31 by omega), h7.1, (inB_n (show nF g i < 2 ^ 30 by omega)).mpr ⟨f, hf, rfl⟩]; rfl
theorem bVer_ok {g : Nat → Nat → Int32} {n1 n2 nL n4 n5 i v : Nat} (hI : gI g n1 n2 nL n4 n5) (hi : i < n1) (hv : v < nV g i) : bVer g n1 (nI i) (nI v) = false := by
  have h8 := hI.b1
  have h7 := hI.v7 hi
  unfold bVer
  rw [bNo_ok hI.b1 hi, cn_nI (show i < 2 ^ 31 by omega), (inB_n (show nV g i < 2 ^ 30 by omega)).mpr ⟨v, hv, rfl⟩]; rfl
theorem bVal_ok {g : Nat → Nat → Int32} {n1 n2 nL n4 n5 i v f : Nat} (hI : gI g n1 n2 nL n4 n5) (hi : i < n1) (hv : v < nV g i) (hf : f < nF g i) : bVal g n1 (nI i) (nI v) (nI f) = false := by
  unfold bVal; rw [bFld_ok hI hi hf, bVer_ok hI hi hv]; rfl
theorem bRd_ok {R : Nat} (h : R < 6) : bRd (nI R) = false := by
  unfold bRd; rw [inB_k (show R ≤ 5 by omega) (by decide)]; rfl
theorem nIs {n : Nat} (h : 0 < n) : nI n - nI 1 = nI (n - 1) := pk_sub (by omega)
theorem inB_c {c n : Nat} (hn : n < 2 ^ 30) (h : c < n) : inB (nI c) (nI 0) (nI n - nI 1) = true := (inB_n hn).mpr ⟨c, h, rfl⟩
