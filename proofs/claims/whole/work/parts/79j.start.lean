section ST0
variable {ty : Nat → ClassId} {t0 : Nat} {g : Nat → Nat → Int32} {rep bro : Nat → Nat → Int32} {u : Nat → Nat → Prop} {C : Nat → Nat → va_E} {ma : Nat → Nat → Nat}
/-- the empty desk -/
theorem gI_zero : gI (fun _ _ => 0) 0 0 0 0 0 := by
  refine ⟨⟨⟨rfl, by decide⟩, fun i hi => absurd hi (Nat.not_lt_zero _), ⟨rfl, by decide⟩, fun j hj => absurd hj (Nat.not_lt_zero _), ⟨rfl, by decide⟩, fun j hj => absurd hj (Nat.not_lt_zero _), ⟨rfl, by decide⟩, ⟨rfl, by decide⟩, fun r hr => absurd hr (Nat.not_lt_zero _), nb_nI (k := 0) (by decide) (by decide)⟩, fun j hj => absurd hj (Nat.not_lt_zero _), fun j k hj => absurd hj (Nat.not_lt_zero _), fun p hp => rfl, fun p hp hn => ⟨rfl, rfl⟩, fun p hp => Nat.zero_le _, fun r i _ _ _ => rfl, fun i _ _ => rfl, fun p _ => rfl, fun r _ => rfl⟩
theorem mR_start (hI : gI g 0 0 0 0 0) (h0 : g 0 0 = 0) (o : u 0 0 ∧ C 0 0 = eO 13 [.int 0, .ref (ma 1 0), .ref (ma 3 0), .ref (ma 5 0), .ref (ma 7 0), .int 0]) (l1 : u 1 0 ∧ C 1 0 = eO 0 [.int (nI 0), .ref t0, .int 0]) (l3 : u 3 0 ∧ C 3 0 = eO 0 [.int (nI 0), .ref t0, .int 0]) (l5 : u 5 0 ∧ C 5 0 = eO 0 [.int (nI 0), .ref t0, .int 0]) (l7 : u 7 0 ∧ C 7 0 = eO 0 [.int (nI 0), .ref t0, .int 0]) : mR ty t0 g 0 0 0 0 0 (nI 0) rep bro u C ma := by
  have L : ∀ kl f, (u kl 0 ∧ C kl 0 = eO 0 [.int (nI 0), .ref t0, .int 0]) → isL ty t0 u C ma kl 0 0 f := fun kl f h => ⟨h.1, by decide, nI 0, Or.inl ⟨rfl, h.2⟩⟩
  refine ⟨hI, ⟨o.1, ?_⟩, L 1 _ l1, L 3 _ l3, L 5 _ l5, L 7 _ l7, fun i hi => absurd hi (Nat.not_lt_zero _), fun i v hi => absurd hi (Nat.not_lt_zero _), fun j hj => absurd hj (Nat.not_lt_zero _), fun j hj => absurd hj (Nat.not_lt_zero _), fun j hj => absurd hj (Nat.not_lt_zero _), fun j hj => absurd hj (Nat.not_lt_zero _)⟩
  unfold oC
  rw [h0]
  exact o.2
end ST0
