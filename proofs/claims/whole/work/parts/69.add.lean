theorem eR_inj {c : ClassId} {n n' : Nat} {h h' : Nat → Option Nat} (e : eR c n h = eR c n' h') : n = n' ∧ h = h' := by
  injection e with e
  injection e with e8 e
  injection e with e7 e
  injection e with e
  injection e with e
  injection e with e
  injection e with e
  exact ⟨e7, e⟩
set_option maxHeartbeats 1000000 in
theorem c_add (l : Launch) (D : va_G) (ty : Nat → ClassId) (A : Nat → Prop) (u : Nat → Nat → Prop) (C : Nat → Nat → va_E) (ma : Nat → Nat → Nat) (t0 mi : Nat) (kl x n : Nat) (f : Nat → Nat) (hL : isL ty t0 u C ma kl x n f) (ke xe ci : Nat) (gs : List Value) (rc : vw_C) (hue : u ke xe) (hCe : C ke xe = eO ci gs) (hrc : vwCl[ci]? = some rc) (hcast : Cond.castable rc.1 "java/lang/Object" ∈ zNl) (hn1 : ¬ (ke = kl ∧ xe = x)) (hn2 : ¬ (ke = kl + 1 ∧ xe = x)) (hel : ∀ j, j < n → elL kl x u C ma (f j)) (hn40 : n < 40) : Met l yJx4a65c_add_9ea2d wsJx4a65c_add_9ea2d ({ frames := 6, cells := 1, slots := 60, locals := 194 }) (va_Pc [.ref (ma kl x), .ref (ma ke xe)] (mI D ty A u C ma t0 mi)) (va_Qi (fun (v9 : Int32) (S : mSt) => v9 = nI 1 ∧ chg kl x u C ma S ∧ isL ty t0 S.1 S.2.1 S.2.2 kl x (n + 1) (fun j => if j = n then ma ke xe else f j)) (fun S t => mI D ty A S.1 S.2.1 S.2.2 t0 mi t) A) 1 60 A := by
  by_cases h0 : n = 0
  · exact c_add0 l D ty A u C ma t0 mi kl x n f hL ke xe ci gs rc hue hCe hrc hcast hn1 hn2 h0 hn40
  · obtain ⟨-, -, m1, -, -, cap, hcv, hC2, hcap, -, -, -⟩ := hL.pos (by omega)
    by_cases hr : n < cap
    · exact c_addR l D ty A u C ma t0 mi kl x n f hL ke xe ci gs rc hue hCe hrc hcast hn1 hn2 cap hcv (by omega) hC2 hr hn40
    · exact c_addN l D ty A u C ma t0 mi kl x n f hL ke xe ci gs rc hue hCe hrc hcast hn1 hn2 (by omega) hel (fun N h e _ => by have := (eR_inj (e.symm.trans hC2)).1; omega) hn40
