set_option maxHeartbeats 4000000 in
set_option maxRecDepth 100000 in
theorem c_X0_init (l : Launch) (D : va_G) (ty : Nat → ClassId) (q sz : Nat) : Met l yX0_init wsX0_init ({ frames := 1, cells := 6, slots := 96, locals := 20 }) (va_Pc [.ref q] (wI D ty [(q, .inr (0, [.int 0, .null, .null, .null, .null, .null, .null]))] (fun _ => True) sz)) (va_Qv (fun _ : Nat → Nat => True) (fun as t => va_P D vwCl [(q, .inr (0, [.int (nI 0), .ref (as 0), .ref (as 1), .ref (as 2), .ref (as 3), .ref (as 4), .ref (as 5)])), ((as 0), .inl (ty 0, 16, .inl (fun _ => 0))), ((as 1), .inl (ty 0, 16, .inl (fun _ => 0))), ((as 2), .inl (ty 0, 16, .inl (fun _ => 0))), ((as 3), .inl (ty 0, 16, .inl (fun _ => 0))), ((as 4), .inl (ty 0, 16, .inl (fun _ => 0))), ((as 5), .inl (ty 0, 16, .inl (fun _ => 0)))] t.heap ∧ va_D (va_A [(q, .inr (0, [.int 0, .null, .null, .null, .null, .null, .null]))] sz) [(q, .inr (0, [.int (nI 0), .ref (as 0), .ref (as 1), .ref (as 2), .ref (as 3), .ref (as 4), .ref (as 5)])), ((as 0), .inl (ty 0, 16, .inl (fun _ => 0))), ((as 1), .inl (ty 0, 16, .inl (fun _ => 0))), ((as 2), .inl (ty 0, 16, .inl (fun _ => 0))), ((as 3), .inl (ty 0, 16, .inl (fun _ => 0))), ((as 4), .inl (ty 0, 16, .inl (fun _ => 0))), ((as 5), .inl (ty 0, 16, .inl (fun _ => 0)))]) (va_A [(q, .inr (0, [.int 0, .null, .null, .null, .null, .null, .null]))] sz)) 6 96 (va_A [(q, .inr (0, [.int 0, .null, .null, .null, .null, .null, .null]))] sz) := by
  refine zMetI (cc := cX0_init) (maxL := 1) (ret := none) (by decide) rfl (Nat.le_of_ble_eq_true rfl) ?_
  intro p e s m below meth c hx hb hr hts hown hlocks hml hB hin9 ls hl
  obtain ⟨hP, hD0, hK, hN, hsz⟩ := hB
  subst hsz
  have hD := hD0.self (sz := s.heap.size)
  generalize hAe : va_A [(q, .inr (0, [.int 0, .null, .null, .null, .null, .null, .null]))] s.heap.size = A9 at hD ⊢
  have hA : ∀ q : Nat, s.heap.size ≤ q → A9 q := fun q h => by rw [← hAe]; exact Or.inr h
  have hS : va_S A9 s.heap s.heap [] := va_S.rf
  have hl : lv_has ls 1 [(0, .ref q)] := hl
  have hk0 := hts (.fieldLink RX0 9 "DatamarketDesk$Contracts" "count" "I") (by decide +kernel)
  have hinX0 : ∀ w ∈ wsX00, w ∈ wsX0_init := by decide +kernel
  have hk2 := hts (.fieldLink RX0 15 "DatamarketDesk$Contracts" "readers" "[I") (by decide +kernel)
  have hk3 := hts (.fieldLink RX0 19 "DatamarketDesk$Contracts" "sets" "[I") (by decide +kernel)
  have hk4 := hts (.fieldLink RX0 22 "DatamarketDesk$Contracts" "fields" "[I") (by decide +kernel)
  have hk5 := hts (.fieldLink RX0 25 "DatamarketDesk$Contracts" "purposes" "[I") (by decide +kernel)
  have hk6 := hts (.fieldLink RX0 28 "DatamarketDesk$Contracts" "firstDays" "[I") (by decide +kernel)
  have hk7 := hts (.fieldLink RX0 31 "DatamarketDesk$Contracts" "lastDays" "[I") (by decide +kernel)
  refine lv_aload_n hx hb dX0_init_0 rfl (lv_at hl 0 rfl) ?_
  refine W.objInit hx hb hown (hts (.methodLink RX0 3 objectInit) (by decide +kernel)) (hts (.instanceMethod objectInit) (by decide +kernel)) (hts _ (List.mem_cons_of_mem _ (List.mem_append_left _ (List.mem_of_getElem? (i := 2) rfl)))) rfl (by rw [hml]; exact hl.1) rfl dX0_init_1 (Nat.le_of_ble_eq_true rfl) (Nat.le_of_ble_eq_true rfl) ?_
  refine W.eq (g2 := F0 m 4 ls []) rfl ?_
  refine lv_aload_n hx hb dX0_init_4 rfl (lv_at hl 0 rfl) ?_
  refine lv_iconst (v := nI 0) hx hb dX0_init_5 (by decide) ?_
  refine va_put (D := D) (ci := 0) (v := .int (nI 0)) (ty := .int) hx hb hts hinX0 tyX0 tyX0_ok nmX0 hown hK hP hD hS 0 rfl rfl 0 (by decide) (hk0) (fun _ h9 => h9) rfl (by decide +kernel) rfl rfl (Nat.le_of_ble_eq_true rfl) dX0_init_6 (fun H locs hP hD hS => ?_)
  have hP : va_P D vwCl [(q, .inr (0, [.int (nI 0), .null, .null, .null, .null, .null, .null]))] H := hP
  have hD : va_D A9 [(q, .inr (0, [.int (nI 0), .null, .null, .null, .null, .null, .null]))] := hD
  refine lv_aload_n hx hb dX0_init_9 rfl (lv_at hl 0 rfl) ?_
  refine lv_bipush (v := nI 16) hx hb dX0_init_10 (by decide) ?_
  refine va_newa (atype := .int) (ty := .int) (a0 := (16, .inl (fun _ => 0))) (N' := 16) hx hb (hts (.arrayClass .int) (by decide +kernel)) rfl hK hP hD hS hA (zaI _) (nI_n0' (by decide)) (nI_clamp (by decide)) (by decide) (Nat.le_of_ble_eq_true rfl) (Nat.le_of_ble_eq_true rfl) dX0_init_12 (fun q12 cA H hK9 hP hD hS => ?_)
  have e9 : cA = ty 0 := zRAi (hK9.2 2 _ rfl).2 (hK.2 0 _ rfl).2
  subst e9
  clear hK9
  have hP : va_P D vwCl [(q, .inr (0, [.int (nI 0), .null, .null, .null, .null, .null, .null])), (q12, .inl (ty 0, 16, .inl (fun _ => 0)))] H := hP
  have hD : va_D A9 [(q, .inr (0, [.int (nI 0), .null, .null, .null, .null, .null, .null])), (q12, .inl (ty 0, 16, .inl (fun _ => 0)))] := hD
  refine va_putF (D := D) (ci := 0) (v := .ref q12) (ty := .array .int) hx hb hts hinX0 tyX0 tyX0_ok nmX0 hown hK hP hD hS 0 rfl rfl 1 (by decide) (hk2) (fun _ h9 => h9) rfl hin9 rfl (by decide +kernel) rfl rfl (Nat.le_of_ble_eq_true rfl) dX0_init_14 (fun H locs hP hD hS => ?_)
  have hP : va_P D vwCl [(q, .inr (0, [.int (nI 0), .ref q12, .null, .null, .null, .null, .null])), (q12, .inl (ty 0, 16, .inl (fun _ => 0)))] H := hP
  have hD : va_D A9 [(q, .inr (0, [.int (nI 0), .ref q12, .null, .null, .null, .null, .null])), (q12, .inl (ty 0, 16, .inl (fun _ => 0)))] := hD
  refine lv_aload_n hx hb dX0_init_17 rfl (lv_at hl 0 rfl) ?_
  refine lv_bipush (v := nI 16) hx hb dX0_init_18 (by decide) ?_
  refine va_newa (atype := .int) (ty := .int) (a0 := (16, .inl (fun _ => 0))) (N' := 16) hx hb (hts (.arrayClass .int) (by decide +kernel)) rfl hK hP hD hS hA (zaI _) (nI_n0' (by decide)) (nI_clamp (by decide)) (by decide) (Nat.le_of_ble_eq_true rfl) (Nat.le_of_ble_eq_true rfl) dX0_init_20 (fun q20 cA H hK9 hP hD hS => ?_)
  have e9 : cA = ty 0 := zRAi (hK9.2 2 _ rfl).2 (hK.2 0 _ rfl).2
  subst e9
  clear hK9
  have hP : va_P D vwCl [(q, .inr (0, [.int (nI 0), .ref q12, .null, .null, .null, .null, .null])), (q12, .inl (ty 0, 16, .inl (fun _ => 0))), (q20, .inl (ty 0, 16, .inl (fun _ => 0)))] H := hP
  have hD : va_D A9 [(q, .inr (0, [.int (nI 0), .ref q12, .null, .null, .null, .null, .null])), (q12, .inl (ty 0, 16, .inl (fun _ => 0))), (q20, .inl (ty 0, 16, .inl (fun _ => 0)))] := hD
  refine va_putF (D := D) (ci := 0) (v := .ref q20) (ty := .array .int) hx hb hts hinX0 tyX0 tyX0_ok nmX0 hown hK hP hD hS 0 rfl rfl 2 (by decide) (hk3) (fun _ h9 => h9) rfl hin9 rfl (by decide +kernel) rfl rfl (Nat.le_of_ble_eq_true rfl) dX0_init_22 (fun H locs hP hD hS => ?_)
  have hP : va_P D vwCl [(q, .inr (0, [.int (nI 0), .ref q12, .ref q20, .null, .null, .null, .null])), (q12, .inl (ty 0, 16, .inl (fun _ => 0))), (q20, .inl (ty 0, 16, .inl (fun _ => 0)))] H := hP
  have hD : va_D A9 [(q, .inr (0, [.int (nI 0), .ref q12, .ref q20, .null, .null, .null, .null])), (q12, .inl (ty 0, 16, .inl (fun _ => 0))), (q20, .inl (ty 0, 16, .inl (fun _ => 0)))] := hD
  refine lv_aload_n hx hb dX0_init_25 rfl (lv_at hl 0 rfl) ?_
  refine lv_bipush (v := nI 16) hx hb dX0_init_26 (by decide) ?_
  refine va_newa (atype := .int) (ty := .int) (a0 := (16, .inl (fun _ => 0))) (N' := 16) hx hb (hts (.arrayClass .int) (by decide +kernel)) rfl hK hP hD hS hA (zaI _) (nI_n0' (by decide)) (nI_clamp (by decide)) (by decide) (Nat.le_of_ble_eq_true rfl) (Nat.le_of_ble_eq_true rfl) dX0_init_28 (fun q28 cA H hK9 hP hD hS => ?_)
  have e9 : cA = ty 0 := zRAi (hK9.2 2 _ rfl).2 (hK.2 0 _ rfl).2
  subst e9
  clear hK9
  have hP : va_P D vwCl [(q, .inr (0, [.int (nI 0), .ref q12, .ref q20, .null, .null, .null, .null])), (q12, .inl (ty 0, 16, .inl (fun _ => 0))), (q20, .inl (ty 0, 16, .inl (fun _ => 0))), (q28, .inl (ty 0, 16, .inl (fun _ => 0)))] H := hP
  have hD : va_D A9 [(q, .inr (0, [.int (nI 0), .ref q12, .ref q20, .null, .null, .null, .null])), (q12, .inl (ty 0, 16, .inl (fun _ => 0))), (q20, .inl (ty 0, 16, .inl (fun _ => 0))), (q28, .inl (ty 0, 16, .inl (fun _ => 0)))] := hD
  refine va_putF (D := D) (ci := 0) (v := .ref q28) (ty := .array .int) hx hb hts hinX0 tyX0 tyX0_ok nmX0 hown hK hP hD hS 0 rfl rfl 3 (by decide) (hk4) (fun _ h9 => h9) rfl hin9 rfl (by decide +kernel) rfl rfl (Nat.le_of_ble_eq_true rfl) dX0_init_30 (fun H locs hP hD hS => ?_)
  have hP : va_P D vwCl [(q, .inr (0, [.int (nI 0), .ref q12, .ref q20, .ref q28, .null, .null, .null])), (q12, .inl (ty 0, 16, .inl (fun _ => 0))), (q20, .inl (ty 0, 16, .inl (fun _ => 0))), (q28, .inl (ty 0, 16, .inl (fun _ => 0)))] H := hP
  have hD : va_D A9 [(q, .inr (0, [.int (nI 0), .ref q12, .ref q20, .ref q28, .null, .null, .null])), (q12, .inl (ty 0, 16, .inl (fun _ => 0))), (q20, .inl (ty 0, 16, .inl (fun _ => 0))), (q28, .inl (ty 0, 16, .inl (fun _ => 0)))] := hD
  refine lv_aload_n hx hb dX0_init_33 rfl (lv_at hl 0 rfl) ?_
  refine lv_bipush (v := nI 16) hx hb dX0_init_34 (by decide) ?_
  refine va_newa (atype := .int) (ty := .int) (a0 := (16, .inl (fun _ => 0))) (N' := 16) hx hb (hts (.arrayClass .int) (by decide +kernel)) rfl hK hP hD hS hA (zaI _) (nI_n0' (by decide)) (nI_clamp (by decide)) (by decide) (Nat.le_of_ble_eq_true rfl) (Nat.le_of_ble_eq_true rfl) dX0_init_36 (fun q36 cA H hK9 hP hD hS => ?_)
  have e9 : cA = ty 0 := zRAi (hK9.2 2 _ rfl).2 (hK.2 0 _ rfl).2
  subst e9
  clear hK9
  have hP : va_P D vwCl [(q, .inr (0, [.int (nI 0), .ref q12, .ref q20, .ref q28, .null, .null, .null])), (q12, .inl (ty 0, 16, .inl (fun _ => 0))), (q20, .inl (ty 0, 16, .inl (fun _ => 0))), (q28, .inl (ty 0, 16, .inl (fun _ => 0))), (q36, .inl (ty 0, 16, .inl (fun _ => 0)))] H := hP
  have hD : va_D A9 [(q, .inr (0, [.int (nI 0), .ref q12, .ref q20, .ref q28, .null, .null, .null])), (q12, .inl (ty 0, 16, .inl (fun _ => 0))), (q20, .inl (ty 0, 16, .inl (fun _ => 0))), (q28, .inl (ty 0, 16, .inl (fun _ => 0))), (q36, .inl (ty 0, 16, .inl (fun _ => 0)))] := hD
  refine va_putF (D := D) (ci := 0) (v := .ref q36) (ty := .array .int) hx hb hts hinX0 tyX0 tyX0_ok nmX0 hown hK hP hD hS 0 rfl rfl 4 (by decide) (hk5) (fun _ h9 => h9) rfl hin9 rfl (by decide +kernel) rfl rfl (Nat.le_of_ble_eq_true rfl) dX0_init_38 (fun H locs hP hD hS => ?_)
  have hP : va_P D vwCl [(q, .inr (0, [.int (nI 0), .ref q12, .ref q20, .ref q28, .ref q36, .null, .null])), (q12, .inl (ty 0, 16, .inl (fun _ => 0))), (q20, .inl (ty 0, 16, .inl (fun _ => 0))), (q28, .inl (ty 0, 16, .inl (fun _ => 0))), (q36, .inl (ty 0, 16, .inl (fun _ => 0)))] H := hP
  have hD : va_D A9 [(q, .inr (0, [.int (nI 0), .ref q12, .ref q20, .ref q28, .ref q36, .null, .null])), (q12, .inl (ty 0, 16, .inl (fun _ => 0))), (q20, .inl (ty 0, 16, .inl (fun _ => 0))), (q28, .inl (ty 0, 16, .inl (fun _ => 0))), (q36, .inl (ty 0, 16, .inl (fun _ => 0)))] := hD
  refine lv_aload_n hx hb dX0_init_41 rfl (lv_at hl 0 rfl) ?_
  refine lv_bipush (v := nI 16) hx hb dX0_init_42 (by decide) ?_
  refine va_newa (atype := .int) (ty := .int) (a0 := (16, .inl (fun _ => 0))) (N' := 16) hx hb (hts (.arrayClass .int) (by decide +kernel)) rfl hK hP hD hS hA (zaI _) (nI_n0' (by decide)) (nI_clamp (by decide)) (by decide) (Nat.le_of_ble_eq_true rfl) (Nat.le_of_ble_eq_true rfl) dX0_init_44 (fun q44 cA H hK9 hP hD hS => ?_)
  have e9 : cA = ty 0 := zRAi (hK9.2 2 _ rfl).2 (hK.2 0 _ rfl).2
  subst e9
  clear hK9
  have hP : va_P D vwCl [(q, .inr (0, [.int (nI 0), .ref q12, .ref q20, .ref q28, .ref q36, .null, .null])), (q12, .inl (ty 0, 16, .inl (fun _ => 0))), (q20, .inl (ty 0, 16, .inl (fun _ => 0))), (q28, .inl (ty 0, 16, .inl (fun _ => 0))), (q36, .inl (ty 0, 16, .inl (fun _ => 0))), (q44, .inl (ty 0, 16, .inl (fun _ => 0)))] H := hP
  have hD : va_D A9 [(q, .inr (0, [.int (nI 0), .ref q12, .ref q20, .ref q28, .ref q36, .null, .null])), (q12, .inl (ty 0, 16, .inl (fun _ => 0))), (q20, .inl (ty 0, 16, .inl (fun _ => 0))), (q28, .inl (ty 0, 16, .inl (fun _ => 0))), (q36, .inl (ty 0, 16, .inl (fun _ => 0))), (q44, .inl (ty 0, 16, .inl (fun _ => 0)))] := hD
  refine va_putF (D := D) (ci := 0) (v := .ref q44) (ty := .array .int) hx hb hts hinX0 tyX0 tyX0_ok nmX0 hown hK hP hD hS 0 rfl rfl 5 (by decide) (hk6) (fun _ h9 => h9) rfl hin9 rfl (by decide +kernel) rfl rfl (Nat.le_of_ble_eq_true rfl) dX0_init_46 (fun H locs hP hD hS => ?_)
  have hP : va_P D vwCl [(q, .inr (0, [.int (nI 0), .ref q12, .ref q20, .ref q28, .ref q36, .ref q44, .null])), (q12, .inl (ty 0, 16, .inl (fun _ => 0))), (q20, .inl (ty 0, 16, .inl (fun _ => 0))), (q28, .inl (ty 0, 16, .inl (fun _ => 0))), (q36, .inl (ty 0, 16, .inl (fun _ => 0))), (q44, .inl (ty 0, 16, .inl (fun _ => 0)))] H := hP
  have hD : va_D A9 [(q, .inr (0, [.int (nI 0), .ref q12, .ref q20, .ref q28, .ref q36, .ref q44, .null])), (q12, .inl (ty 0, 16, .inl (fun _ => 0))), (q20, .inl (ty 0, 16, .inl (fun _ => 0))), (q28, .inl (ty 0, 16, .inl (fun _ => 0))), (q36, .inl (ty 0, 16, .inl (fun _ => 0))), (q44, .inl (ty 0, 16, .inl (fun _ => 0)))] := hD
  refine lv_aload_n hx hb dX0_init_49 rfl (lv_at hl 0 rfl) ?_
  refine lv_bipush (v := nI 16) hx hb dX0_init_50 (by decide) ?_
  refine va_newa (atype := .int) (ty := .int) (a0 := (16, .inl (fun _ => 0))) (N' := 16) hx hb (hts (.arrayClass .int) (by decide +kernel)) rfl hK hP hD hS hA (zaI _) (nI_n0' (by decide)) (nI_clamp (by decide)) (by decide) (Nat.le_of_ble_eq_true rfl) (Nat.le_of_ble_eq_true rfl) dX0_init_52 (fun q52 cA H hK9 hP hD hS => ?_)
  have e9 : cA = ty 0 := zRAi (hK9.2 2 _ rfl).2 (hK.2 0 _ rfl).2
  subst e9
  clear hK9
  have hP : va_P D vwCl [(q, .inr (0, [.int (nI 0), .ref q12, .ref q20, .ref q28, .ref q36, .ref q44, .null])), (q12, .inl (ty 0, 16, .inl (fun _ => 0))), (q20, .inl (ty 0, 16, .inl (fun _ => 0))), (q28, .inl (ty 0, 16, .inl (fun _ => 0))), (q36, .inl (ty 0, 16, .inl (fun _ => 0))), (q44, .inl (ty 0, 16, .inl (fun _ => 0))), (q52, .inl (ty 0, 16, .inl (fun _ => 0)))] H := hP
  have hD : va_D A9 [(q, .inr (0, [.int (nI 0), .ref q12, .ref q20, .ref q28, .ref q36, .ref q44, .null])), (q12, .inl (ty 0, 16, .inl (fun _ => 0))), (q20, .inl (ty 0, 16, .inl (fun _ => 0))), (q28, .inl (ty 0, 16, .inl (fun _ => 0))), (q36, .inl (ty 0, 16, .inl (fun _ => 0))), (q44, .inl (ty 0, 16, .inl (fun _ => 0))), (q52, .inl (ty 0, 16, .inl (fun _ => 0)))] := hD
  refine va_putF (D := D) (ci := 0) (v := .ref q52) (ty := .array .int) hx hb hts hinX0 tyX0 tyX0_ok nmX0 hown hK hP hD hS 0 rfl rfl 6 (by decide) (hk7) (fun _ h9 => h9) rfl hin9 rfl (by decide +kernel) rfl rfl (Nat.le_of_ble_eq_true rfl) dX0_init_54 (fun H locs hP hD hS => ?_)
  have hP : va_P D vwCl [(q, .inr (0, [.int (nI 0), .ref q12, .ref q20, .ref q28, .ref q36, .ref q44, .ref q52])), (q12, .inl (ty 0, 16, .inl (fun _ => 0))), (q20, .inl (ty 0, 16, .inl (fun _ => 0))), (q28, .inl (ty 0, 16, .inl (fun _ => 0))), (q36, .inl (ty 0, 16, .inl (fun _ => 0))), (q44, .inl (ty 0, 16, .inl (fun _ => 0))), (q52, .inl (ty 0, 16, .inl (fun _ => 0)))] H := hP
  have hD : va_D A9 [(q, .inr (0, [.int (nI 0), .ref q12, .ref q20, .ref q28, .ref q36, .ref q44, .ref q52])), (q12, .inl (ty 0, 16, .inl (fun _ => 0))), (q20, .inl (ty 0, 16, .inl (fun _ => 0))), (q28, .inl (ty 0, 16, .inl (fun _ => 0))), (q36, .inl (ty 0, 16, .inl (fun _ => 0))), (q44, .inl (ty 0, 16, .inl (fun _ => 0))), (q52, .inl (ty 0, 16, .inl (fun _ => 0)))] := hD
  exact W.vret hx hb hr (fun t ht hW => ⟨⟨fun k => ([q12, q20, q28, q36, q44, q52] : List Nat).getD k 0, rfl, trivial, by rw [ht]; exact hP, hD⟩, hS.F ht⟩) hS.2.2 dX0_init_57
set_option maxHeartbeats 4000000 in
set_option maxRecDepth 100000 in
theorem c_X1_init (l : Launch) (D : va_G) (ty : Nat → ClassId) (q sz : Nat) : Met l yX1_init wsX1_init ({ frames := 1, cells := 4, slots := 1152, locals := 20 }) (va_Pc [.ref q] (wI D ty [(q, .inr (1, [.null, .null, .null, .null]))] (fun _ => True) sz)) (va_Qv (fun _ : Nat → Nat => True) (fun as t => va_P D vwCl [(q, .inr (1, [.ref (as 0), .ref (as 1), .ref (as 2), .ref (as 3)])), ((as 0), .inl (ty 0, 288, .inl (fun _ => 0))), ((as 1), .inl (ty 1, 288, .inl (fun _ => 0))), ((as 2), .inl (ty 0, 288, .inl (fun _ => 0))), ((as 3), .inl (ty 0, 288, .inl (fun _ => 0)))] t.heap ∧ va_D (va_A [(q, .inr (1, [.null, .null, .null, .null]))] sz) [(q, .inr (1, [.ref (as 0), .ref (as 1), .ref (as 2), .ref (as 3)])), ((as 0), .inl (ty 0, 288, .inl (fun _ => 0))), ((as 1), .inl (ty 1, 288, .inl (fun _ => 0))), ((as 2), .inl (ty 0, 288, .inl (fun _ => 0))), ((as 3), .inl (ty 0, 288, .inl (fun _ => 0)))]) (va_A [(q, .inr (1, [.null, .null, .null, .null]))] sz)) 4 1152 (va_A [(q, .inr (1, [.null, .null, .null, .null]))] sz) := by
  refine zMetI (cc := cX1_init) (maxL := 1) (ret := none) (by decide) rfl (Nat.le_of_ble_eq_true rfl) ?_
  intro p e s m below meth c hx hb hr hts hown hlocks hml hB hin9 ls hl
  obtain ⟨hP, hD0, hK, hN, hsz⟩ := hB
  subst hsz
  have hD := hD0.self (sz := s.heap.size)
  generalize hAe : va_A [(q, .inr (1, [.null, .null, .null, .null]))] s.heap.size = A9 at hD ⊢
  have hA : ∀ q : Nat, s.heap.size ≤ q → A9 q := fun q h => by rw [← hAe]; exact Or.inr h
  have hS : va_S A9 s.heap s.heap [] := va_S.rf
  have hl : lv_has ls 1 [(0, .ref q)] := hl
  have hk0 := hts (.fieldLink RX1 9 "DatamarketDesk$Harms" "own" "[I") (by decide +kernel)
  have hinX1 : ∀ w ∈ wsX10, w ∈ wsX1_init := by decide +kernel
  have hk2 := hts (.fieldLink RX1 15 "DatamarketDesk$Harms" "told" "[Z") (by decide +kernel)
  have hk3 := hts (.fieldLink RX1 19 "DatamarketDesk$Harms" "now" "[I") (by decide +kernel)
  have hk4 := hts (.fieldLink RX1 22 "DatamarketDesk$Harms" "trial" "[I") (by decide +kernel)
  refine lv_aload_n hx hb dX1_init_0 rfl (lv_at hl 0 rfl) ?_
  refine W.objInit hx hb hown (hts (.methodLink RX1 3 objectInit) (by decide +kernel)) (hts (.instanceMethod objectInit) (by decide +kernel)) (hts _ (List.mem_cons_of_mem _ (List.mem_append_left _ (List.mem_of_getElem? (i := 2) rfl)))) rfl (by rw [hml]; exact hl.1) rfl dX1_init_1 (Nat.le_of_ble_eq_true rfl) (Nat.le_of_ble_eq_true rfl) ?_
  refine W.eq (g2 := F0 m 4 ls []) rfl ?_
  refine lv_aload_n hx hb dX1_init_4 rfl (lv_at hl 0 rfl) ?_
  refine lv_sipush (v := nI 288) hx hb dX1_init_5 (by decide) ?_
  refine va_newa (atype := .int) (ty := .int) (a0 := (288, .inl (fun _ => 0))) (N' := 288) hx hb (hts (.arrayClass .int) (by decide +kernel)) rfl hK hP hD hS hA (zaI _) (nI_n0' (by decide)) (nI_clamp (by decide)) (by decide) (Nat.le_of_ble_eq_true rfl) (Nat.le_of_ble_eq_true rfl) dX1_init_8 (fun q8 cA H hK9 hP hD hS => ?_)
  have e9 : cA = ty 0 := zRAi (hK9.2 2 _ rfl).2 (hK.2 0 _ rfl).2
  subst e9
  clear hK9
  have hP : va_P D vwCl [(q, .inr (1, [.null, .null, .null, .null])), (q8, .inl (ty 0, 288, .inl (fun _ => 0)))] H := hP
  have hD : va_D A9 [(q, .inr (1, [.null, .null, .null, .null])), (q8, .inl (ty 0, 288, .inl (fun _ => 0)))] := hD
  refine va_putF (D := D) (ci := 1) (v := .ref q8) (ty := .array .int) hx hb hts hinX1 tyX1 tyX1_ok nmX1 hown hK hP hD hS 0 rfl rfl 0 (by decide) (hk0) (fun _ h9 => h9) rfl hin9 rfl (by decide +kernel) rfl rfl (Nat.le_of_ble_eq_true rfl) dX1_init_10 (fun H locs hP hD hS => ?_)
  have hP : va_P D vwCl [(q, .inr (1, [.ref q8, .null, .null, .null])), (q8, .inl (ty 0, 288, .inl (fun _ => 0)))] H := hP
  have hD : va_D A9 [(q, .inr (1, [.ref q8, .null, .null, .null])), (q8, .inl (ty 0, 288, .inl (fun _ => 0)))] := hD
  refine lv_aload_n hx hb dX1_init_13 rfl (lv_at hl 0 rfl) ?_
  refine lv_sipush (v := nI 288) hx hb dX1_init_14 (by decide) ?_
  refine va_newa (atype := .boolean) (ty := .boolean) (a0 := (288, .inl (fun _ => 0))) (N' := 288) hx hb (hts (.arrayClass .boolean) (by decide +kernel)) rfl hK hP hD hS hA (zaZ _) (nI_n0' (by decide)) (nI_clamp (by decide)) (by decide) (Nat.le_of_ble_eq_true rfl) (Nat.le_of_ble_eq_true rfl) dX1_init_17 (fun q17 cA H hK9 hP hD hS => ?_)
  have e9 : cA = ty 1 := zRAz (hK9.2 2 _ rfl).2 (hK.2 1 _ rfl).2
  subst e9
  clear hK9
  have hP : va_P D vwCl [(q, .inr (1, [.ref q8, .null, .null, .null])), (q8, .inl (ty 0, 288, .inl (fun _ => 0))), (q17, .inl (ty 1, 288, .inl (fun _ => 0)))] H := hP
  have hD : va_D A9 [(q, .inr (1, [.ref q8, .null, .null, .null])), (q8, .inl (ty 0, 288, .inl (fun _ => 0))), (q17, .inl (ty 1, 288, .inl (fun _ => 0)))] := hD
  refine va_putF (D := D) (ci := 1) (v := .ref q17) (ty := .array .boolean) hx hb hts hinX1 tyX1 tyX1_ok nmX1 hown hK hP hD hS 0 rfl rfl 1 (by decide) (hk2) (fun _ h9 => h9) rfl hin9 rfl (by decide +kernel) rfl rfl (Nat.le_of_ble_eq_true rfl) dX1_init_19 (fun H locs hP hD hS => ?_)
  have hP : va_P D vwCl [(q, .inr (1, [.ref q8, .ref q17, .null, .null])), (q8, .inl (ty 0, 288, .inl (fun _ => 0))), (q17, .inl (ty 1, 288, .inl (fun _ => 0)))] H := hP
  have hD : va_D A9 [(q, .inr (1, [.ref q8, .ref q17, .null, .null])), (q8, .inl (ty 0, 288, .inl (fun _ => 0))), (q17, .inl (ty 1, 288, .inl (fun _ => 0)))] := hD
  refine lv_aload_n hx hb dX1_init_22 rfl (lv_at hl 0 rfl) ?_
  refine lv_sipush (v := nI 288) hx hb dX1_init_23 (by decide) ?_
  refine va_newa (atype := .int) (ty := .int) (a0 := (288, .inl (fun _ => 0))) (N' := 288) hx hb (hts (.arrayClass .int) (by decide +kernel)) rfl hK hP hD hS hA (zaI _) (nI_n0' (by decide)) (nI_clamp (by decide)) (by decide) (Nat.le_of_ble_eq_true rfl) (Nat.le_of_ble_eq_true rfl) dX1_init_26 (fun q26 cA H hK9 hP hD hS => ?_)
  have e9 : cA = ty 0 := zRAi (hK9.2 2 _ rfl).2 (hK.2 0 _ rfl).2
  subst e9
  clear hK9
  have hP : va_P D vwCl [(q, .inr (1, [.ref q8, .ref q17, .null, .null])), (q8, .inl (ty 0, 288, .inl (fun _ => 0))), (q17, .inl (ty 1, 288, .inl (fun _ => 0))), (q26, .inl (ty 0, 288, .inl (fun _ => 0)))] H := hP
  have hD : va_D A9 [(q, .inr (1, [.ref q8, .ref q17, .null, .null])), (q8, .inl (ty 0, 288, .inl (fun _ => 0))), (q17, .inl (ty 1, 288, .inl (fun _ => 0))), (q26, .inl (ty 0, 288, .inl (fun _ => 0)))] := hD
  refine va_putF (D := D) (ci := 1) (v := .ref q26) (ty := .array .int) hx hb hts hinX1 tyX1 tyX1_ok nmX1 hown hK hP hD hS 0 rfl rfl 2 (by decide) (hk3) (fun _ h9 => h9) rfl hin9 rfl (by decide +kernel) rfl rfl (Nat.le_of_ble_eq_true rfl) dX1_init_28 (fun H locs hP hD hS => ?_)
  have hP : va_P D vwCl [(q, .inr (1, [.ref q8, .ref q17, .ref q26, .null])), (q8, .inl (ty 0, 288, .inl (fun _ => 0))), (q17, .inl (ty 1, 288, .inl (fun _ => 0))), (q26, .inl (ty 0, 288, .inl (fun _ => 0)))] H := hP
  have hD : va_D A9 [(q, .inr (1, [.ref q8, .ref q17, .ref q26, .null])), (q8, .inl (ty 0, 288, .inl (fun _ => 0))), (q17, .inl (ty 1, 288, .inl (fun _ => 0))), (q26, .inl (ty 0, 288, .inl (fun _ => 0)))] := hD
  refine lv_aload_n hx hb dX1_init_31 rfl (lv_at hl 0 rfl) ?_
  refine lv_sipush (v := nI 288) hx hb dX1_init_32 (by decide) ?_
  refine va_newa (atype := .int) (ty := .int) (a0 := (288, .inl (fun _ => 0))) (N' := 288) hx hb (hts (.arrayClass .int) (by decide +kernel)) rfl hK hP hD hS hA (zaI _) (nI_n0' (by decide)) (nI_clamp (by decide)) (by decide) (Nat.le_of_ble_eq_true rfl) (Nat.le_of_ble_eq_true rfl) dX1_init_35 (fun q35 cA H hK9 hP hD hS => ?_)
  have e9 : cA = ty 0 := zRAi (hK9.2 2 _ rfl).2 (hK.2 0 _ rfl).2
  subst e9
  clear hK9
  have hP : va_P D vwCl [(q, .inr (1, [.ref q8, .ref q17, .ref q26, .null])), (q8, .inl (ty 0, 288, .inl (fun _ => 0))), (q17, .inl (ty 1, 288, .inl (fun _ => 0))), (q26, .inl (ty 0, 288, .inl (fun _ => 0))), (q35, .inl (ty 0, 288, .inl (fun _ => 0)))] H := hP
  have hD : va_D A9 [(q, .inr (1, [.ref q8, .ref q17, .ref q26, .null])), (q8, .inl (ty 0, 288, .inl (fun _ => 0))), (q17, .inl (ty 1, 288, .inl (fun _ => 0))), (q26, .inl (ty 0, 288, .inl (fun _ => 0))), (q35, .inl (ty 0, 288, .inl (fun _ => 0)))] := hD
  refine va_putF (D := D) (ci := 1) (v := .ref q35) (ty := .array .int) hx hb hts hinX1 tyX1 tyX1_ok nmX1 hown hK hP hD hS 0 rfl rfl 3 (by decide) (hk4) (fun _ h9 => h9) rfl hin9 rfl (by decide +kernel) rfl rfl (Nat.le_of_ble_eq_true rfl) dX1_init_37 (fun H locs hP hD hS => ?_)
  have hP : va_P D vwCl [(q, .inr (1, [.ref q8, .ref q17, .ref q26, .ref q35])), (q8, .inl (ty 0, 288, .inl (fun _ => 0))), (q17, .inl (ty 1, 288, .inl (fun _ => 0))), (q26, .inl (ty 0, 288, .inl (fun _ => 0))), (q35, .inl (ty 0, 288, .inl (fun _ => 0)))] H := hP
  have hD : va_D A9 [(q, .inr (1, [.ref q8, .ref q17, .ref q26, .ref q35])), (q8, .inl (ty 0, 288, .inl (fun _ => 0))), (q17, .inl (ty 1, 288, .inl (fun _ => 0))), (q26, .inl (ty 0, 288, .inl (fun _ => 0))), (q35, .inl (ty 0, 288, .inl (fun _ => 0)))] := hD
  exact W.vret hx hb hr (fun t ht hW => ⟨⟨fun k => ([q8, q17, q26, q35] : List Nat).getD k 0, rfl, trivial, by rw [ht]; exact hP, hD⟩, hS.F ht⟩) hS.2.2 dX1_init_40
set_option maxHeartbeats 4000000 in
set_option maxRecDepth 100000 in
theorem c_X2_init (l : Launch) (D : va_G) (ty : Nat → ClassId) (q sz : Nat) : Met l yX2_init wsX2_init ({ frames := 1, cells := 7, slots := 708, locals := 20 }) (va_Pc [.ref q] (wI D ty [(q, .inr (2, [.int 0, .null, .null, .null, .int 0, .null, .null, .null, .null]))] (fun _ => True) sz)) (va_Qv (fun _ : Nat → Nat => True) (fun as t => va_P D vwCl [(q, .inr (2, [.int (nI 0), .ref (as 0), .ref (as 1), .ref (as 2), .int (nI 0), .ref (as 3), .ref (as 4), .ref (as 5), .ref (as 6)])), ((as 0), .inl (ty 0, 20, .inl (fun _ => 0))), ((as 1), .inl (ty 0, 20, .inl (fun _ => 0))), ((as 2), .inl (ty 0, 20, .inl (fun _ => 0))), ((as 3), .inl (ty 0, 120, .inl (fun _ => 0))), ((as 4), .inl (ty 0, 120, .inl (fun _ => 0))), ((as 5), .inl (ty 0, 120, .inl (fun _ => 0))), ((as 6), .inl (ty 1, 288, .inl (fun _ => 0)))] t.heap ∧ va_D (va_A [(q, .inr (2, [.int 0, .null, .null, .null, .int 0, .null, .null, .null, .null]))] sz) [(q, .inr (2, [.int (nI 0), .ref (as 0), .ref (as 1), .ref (as 2), .int (nI 0), .ref (as 3), .ref (as 4), .ref (as 5), .ref (as 6)])), ((as 0), .inl (ty 0, 20, .inl (fun _ => 0))), ((as 1), .inl (ty 0, 20, .inl (fun _ => 0))), ((as 2), .inl (ty 0, 20, .inl (fun _ => 0))), ((as 3), .inl (ty 0, 120, .inl (fun _ => 0))), ((as 4), .inl (ty 0, 120, .inl (fun _ => 0))), ((as 5), .inl (ty 0, 120, .inl (fun _ => 0))), ((as 6), .inl (ty 1, 288, .inl (fun _ => 0)))]) (va_A [(q, .inr (2, [.int 0, .null, .null, .null, .int 0, .null, .null, .null, .null]))] sz)) 7 708 (va_A [(q, .inr (2, [.int 0, .null, .null, .null, .int 0, .null, .null, .null, .null]))] sz) := by
  refine zMetI (cc := cX2_init) (maxL := 1) (ret := none) (by decide) rfl (Nat.le_of_ble_eq_true rfl) ?_
  intro p e s m below meth c hx hb hr hts hown hlocks hml hB hin9 ls hl
  obtain ⟨hP, hD0, hK, hN, hsz⟩ := hB
  subst hsz
  have hD := hD0.self (sz := s.heap.size)
  generalize hAe : va_A [(q, .inr (2, [.int 0, .null, .null, .null, .int 0, .null, .null, .null, .null]))] s.heap.size = A9 at hD ⊢
  have hA : ∀ q : Nat, s.heap.size ≤ q → A9 q := fun q h => by rw [← hAe]; exact Or.inr h
  have hS : va_S A9 s.heap s.heap [] := va_S.rf
  have hl : lv_has ls 1 [(0, .ref q)] := hl
  have hk0 := hts (.fieldLink RX2 9 "DatamarketDesk$Lineage" "sourceCount" "I") (by decide +kernel)
  have hinX2 : ∀ w ∈ wsX20, w ∈ wsX2_init := by decide +kernel
  have hk2 := hts (.fieldLink RX2 15 "DatamarketDesk$Lineage" "sourceChildren" "[I") (by decide +kernel)
  have hk3 := hts (.fieldLink RX2 19 "DatamarketDesk$Lineage" "sourceParents" "[I") (by decide +kernel)
  have hk4 := hts (.fieldLink RX2 22 "DatamarketDesk$Lineage" "sourceShares" "[I") (by decide +kernel)
  have hk5 := hts (.fieldLink RX2 25 "DatamarketDesk$Lineage" "linkCount" "I") (by decide +kernel)
  have hk6 := hts (.fieldLink RX2 28 "DatamarketDesk$Lineage" "linkChildren" "[I") (by decide +kernel)
  have hk7 := hts (.fieldLink RX2 31 "DatamarketDesk$Lineage" "linkParents" "[I") (by decide +kernel)
  have hk8 := hts (.fieldLink RX2 34 "DatamarketDesk$Lineage" "linkShares" "[I") (by decide +kernel)
  have hk9 := hts (.fieldLink RX2 37 "DatamarketDesk$Lineage" "reached" "[Z") (by decide +kernel)
  refine lv_aload_n hx hb dX2_init_0 rfl (lv_at hl 0 rfl) ?_
  refine W.objInit hx hb hown (hts (.methodLink RX2 3 objectInit) (by decide +kernel)) (hts (.instanceMethod objectInit) (by decide +kernel)) (hts _ (List.mem_cons_of_mem _ (List.mem_append_left _ (List.mem_of_getElem? (i := 2) rfl)))) rfl (by rw [hml]; exact hl.1) rfl dX2_init_1 (Nat.le_of_ble_eq_true rfl) (Nat.le_of_ble_eq_true rfl) ?_
  refine W.eq (g2 := F0 m 4 ls []) rfl ?_
  refine lv_aload_n hx hb dX2_init_4 rfl (lv_at hl 0 rfl) ?_
  refine lv_iconst (v := nI 0) hx hb dX2_init_5 (by decide) ?_
  refine va_put (D := D) (ci := 2) (v := .int (nI 0)) (ty := .int) hx hb hts hinX2 tyX2 tyX2_ok nmX2 hown hK hP hD hS 0 rfl rfl 0 (by decide) (hk0) (fun _ h9 => h9) rfl (by decide +kernel) rfl rfl (Nat.le_of_ble_eq_true rfl) dX2_init_6 (fun H locs hP hD hS => ?_)
  have hP : va_P D vwCl [(q, .inr (2, [.int (nI 0), .null, .null, .null, .int 0, .null, .null, .null, .null]))] H := hP
  have hD : va_D A9 [(q, .inr (2, [.int (nI 0), .null, .null, .null, .int 0, .null, .null, .null, .null]))] := hD
  refine lv_aload_n hx hb dX2_init_9 rfl (lv_at hl 0 rfl) ?_
  refine lv_bipush (v := nI 20) hx hb dX2_init_10 (by decide) ?_
  refine va_newa (atype := .int) (ty := .int) (a0 := (20, .inl (fun _ => 0))) (N' := 20) hx hb (hts (.arrayClass .int) (by decide +kernel)) rfl hK hP hD hS hA (zaI _) (nI_n0' (by decide)) (nI_clamp (by decide)) (by decide) (Nat.le_of_ble_eq_true rfl) (Nat.le_of_ble_eq_true rfl) dX2_init_12 (fun q12 cA H hK9 hP hD hS => ?_)
  have e9 : cA = ty 0 := zRAi (hK9.2 2 _ rfl).2 (hK.2 0 _ rfl).2
  subst e9
  clear hK9
  have hP : va_P D vwCl [(q, .inr (2, [.int (nI 0), .null, .null, .null, .int 0, .null, .null, .null, .null])), (q12, .inl (ty 0, 20, .inl (fun _ => 0)))] H := hP
  have hD : va_D A9 [(q, .inr (2, [.int (nI 0), .null, .null, .null, .int 0, .null, .null, .null, .null])), (q12, .inl (ty 0, 20, .inl (fun _ => 0)))] := hD
  refine va_putF (D := D) (ci := 2) (v := .ref q12) (ty := .array .int) hx hb hts hinX2 tyX2 tyX2_ok nmX2 hown hK hP hD hS 0 rfl rfl 1 (by decide) (hk2) (fun _ h9 => h9) rfl hin9 rfl (by decide +kernel) rfl rfl (Nat.le_of_ble_eq_true rfl) dX2_init_14 (fun H locs hP hD hS => ?_)
  have hP : va_P D vwCl [(q, .inr (2, [.int (nI 0), .ref q12, .null, .null, .int 0, .null, .null, .null, .null])), (q12, .inl (ty 0, 20, .inl (fun _ => 0)))] H := hP
  have hD : va_D A9 [(q, .inr (2, [.int (nI 0), .ref q12, .null, .null, .int 0, .null, .null, .null, .null])), (q12, .inl (ty 0, 20, .inl (fun _ => 0)))] := hD
  refine lv_aload_n hx hb dX2_init_17 rfl (lv_at hl 0 rfl) ?_
  refine lv_bipush (v := nI 20) hx hb dX2_init_18 (by decide) ?_
  refine va_newa (atype := .int) (ty := .int) (a0 := (20, .inl (fun _ => 0))) (N' := 20) hx hb (hts (.arrayClass .int) (by decide +kernel)) rfl hK hP hD hS hA (zaI _) (nI_n0' (by decide)) (nI_clamp (by decide)) (by decide) (Nat.le_of_ble_eq_true rfl) (Nat.le_of_ble_eq_true rfl) dX2_init_20 (fun q20 cA H hK9 hP hD hS => ?_)
  have e9 : cA = ty 0 := zRAi (hK9.2 2 _ rfl).2 (hK.2 0 _ rfl).2
  subst e9
  clear hK9
  have hP : va_P D vwCl [(q, .inr (2, [.int (nI 0), .ref q12, .null, .null, .int 0, .null, .null, .null, .null])), (q12, .inl (ty 0, 20, .inl (fun _ => 0))), (q20, .inl (ty 0, 20, .inl (fun _ => 0)))] H := hP
  have hD : va_D A9 [(q, .inr (2, [.int (nI 0), .ref q12, .null, .null, .int 0, .null, .null, .null, .null])), (q12, .inl (ty 0, 20, .inl (fun _ => 0))), (q20, .inl (ty 0, 20, .inl (fun _ => 0)))] := hD
  refine va_putF (D := D) (ci := 2) (v := .ref q20) (ty := .array .int) hx hb hts hinX2 tyX2 tyX2_ok nmX2 hown hK hP hD hS 0 rfl rfl 2 (by decide) (hk3) (fun _ h9 => h9) rfl hin9 rfl (by decide +kernel) rfl rfl (Nat.le_of_ble_eq_true rfl) dX2_init_22 (fun H locs hP hD hS => ?_)
  have hP : va_P D vwCl [(q, .inr (2, [.int (nI 0), .ref q12, .ref q20, .null, .int 0, .null, .null, .null, .null])), (q12, .inl (ty 0, 20, .inl (fun _ => 0))), (q20, .inl (ty 0, 20, .inl (fun _ => 0)))] H := hP
  have hD : va_D A9 [(q, .inr (2, [.int (nI 0), .ref q12, .ref q20, .null, .int 0, .null, .null, .null, .null])), (q12, .inl (ty 0, 20, .inl (fun _ => 0))), (q20, .inl (ty 0, 20, .inl (fun _ => 0)))] := hD
  refine lv_aload_n hx hb dX2_init_25 rfl (lv_at hl 0 rfl) ?_
  refine lv_bipush (v := nI 20) hx hb dX2_init_26 (by decide) ?_
  refine va_newa (atype := .int) (ty := .int) (a0 := (20, .inl (fun _ => 0))) (N' := 20) hx hb (hts (.arrayClass .int) (by decide +kernel)) rfl hK hP hD hS hA (zaI _) (nI_n0' (by decide)) (nI_clamp (by decide)) (by decide) (Nat.le_of_ble_eq_true rfl) (Nat.le_of_ble_eq_true rfl) dX2_init_28 (fun q28 cA H hK9 hP hD hS => ?_)
  have e9 : cA = ty 0 := zRAi (hK9.2 2 _ rfl).2 (hK.2 0 _ rfl).2
  subst e9
  clear hK9
  have hP : va_P D vwCl [(q, .inr (2, [.int (nI 0), .ref q12, .ref q20, .null, .int 0, .null, .null, .null, .null])), (q12, .inl (ty 0, 20, .inl (fun _ => 0))), (q20, .inl (ty 0, 20, .inl (fun _ => 0))), (q28, .inl (ty 0, 20, .inl (fun _ => 0)))] H := hP
  have hD : va_D A9 [(q, .inr (2, [.int (nI 0), .ref q12, .ref q20, .null, .int 0, .null, .null, .null, .null])), (q12, .inl (ty 0, 20, .inl (fun _ => 0))), (q20, .inl (ty 0, 20, .inl (fun _ => 0))), (q28, .inl (ty 0, 20, .inl (fun _ => 0)))] := hD
  refine va_putF (D := D) (ci := 2) (v := .ref q28) (ty := .array .int) hx hb hts hinX2 tyX2 tyX2_ok nmX2 hown hK hP hD hS 0 rfl rfl 3 (by decide) (hk4) (fun _ h9 => h9) rfl hin9 rfl (by decide +kernel) rfl rfl (Nat.le_of_ble_eq_true rfl) dX2_init_30 (fun H locs hP hD hS => ?_)
  have hP : va_P D vwCl [(q, .inr (2, [.int (nI 0), .ref q12, .ref q20, .ref q28, .int 0, .null, .null, .null, .null])), (q12, .inl (ty 0, 20, .inl (fun _ => 0))), (q20, .inl (ty 0, 20, .inl (fun _ => 0))), (q28, .inl (ty 0, 20, .inl (fun _ => 0)))] H := hP
  have hD : va_D A9 [(q, .inr (2, [.int (nI 0), .ref q12, .ref q20, .ref q28, .int 0, .null, .null, .null, .null])), (q12, .inl (ty 0, 20, .inl (fun _ => 0))), (q20, .inl (ty 0, 20, .inl (fun _ => 0))), (q28, .inl (ty 0, 20, .inl (fun _ => 0)))] := hD
  refine lv_aload_n hx hb dX2_init_33 rfl (lv_at hl 0 rfl) ?_
  refine lv_iconst (v := nI 0) hx hb dX2_init_34 (by decide) ?_
  refine va_put (D := D) (ci := 2) (v := .int (nI 0)) (ty := .int) hx hb hts hinX2 tyX2 tyX2_ok nmX2 hown hK hP hD hS 0 rfl rfl 4 (by decide) (hk5) (fun _ h9 => h9) rfl (by decide +kernel) rfl rfl (Nat.le_of_ble_eq_true rfl) dX2_init_35 (fun H locs hP hD hS => ?_)
  have hP : va_P D vwCl [(q, .inr (2, [.int (nI 0), .ref q12, .ref q20, .ref q28, .int (nI 0), .null, .null, .null, .null])), (q12, .inl (ty 0, 20, .inl (fun _ => 0))), (q20, .inl (ty 0, 20, .inl (fun _ => 0))), (q28, .inl (ty 0, 20, .inl (fun _ => 0)))] H := hP
  have hD : va_D A9 [(q, .inr (2, [.int (nI 0), .ref q12, .ref q20, .ref q28, .int (nI 0), .null, .null, .null, .null])), (q12, .inl (ty 0, 20, .inl (fun _ => 0))), (q20, .inl (ty 0, 20, .inl (fun _ => 0))), (q28, .inl (ty 0, 20, .inl (fun _ => 0)))] := hD
  refine lv_aload_n hx hb dX2_init_38 rfl (lv_at hl 0 rfl) ?_
  refine lv_bipush (v := nI 120) hx hb dX2_init_39 (by decide) ?_
  refine va_newa (atype := .int) (ty := .int) (a0 := (120, .inl (fun _ => 0))) (N' := 120) hx hb (hts (.arrayClass .int) (by decide +kernel)) rfl hK hP hD hS hA (zaI _) (nI_n0' (by decide)) (nI_clamp (by decide)) (by decide) (Nat.le_of_ble_eq_true rfl) (Nat.le_of_ble_eq_true rfl) dX2_init_41 (fun q41 cA H hK9 hP hD hS => ?_)
  have e9 : cA = ty 0 := zRAi (hK9.2 2 _ rfl).2 (hK.2 0 _ rfl).2
  subst e9
  clear hK9
  have hP : va_P D vwCl [(q, .inr (2, [.int (nI 0), .ref q12, .ref q20, .ref q28, .int (nI 0), .null, .null, .null, .null])), (q12, .inl (ty 0, 20, .inl (fun _ => 0))), (q20, .inl (ty 0, 20, .inl (fun _ => 0))), (q28, .inl (ty 0, 20, .inl (fun _ => 0))), (q41, .inl (ty 0, 120, .inl (fun _ => 0)))] H := hP
  have hD : va_D A9 [(q, .inr (2, [.int (nI 0), .ref q12, .ref q20, .ref q28, .int (nI 0), .null, .null, .null, .null])), (q12, .inl (ty 0, 20, .inl (fun _ => 0))), (q20, .inl (ty 0, 20, .inl (fun _ => 0))), (q28, .inl (ty 0, 20, .inl (fun _ => 0))), (q41, .inl (ty 0, 120, .inl (fun _ => 0)))] := hD
  refine va_putF (D := D) (ci := 2) (v := .ref q41) (ty := .array .int) hx hb hts hinX2 tyX2 tyX2_ok nmX2 hown hK hP hD hS 0 rfl rfl 5 (by decide) (hk6) (fun _ h9 => h9) rfl hin9 rfl (by decide +kernel) rfl rfl (Nat.le_of_ble_eq_true rfl) dX2_init_43 (fun H locs hP hD hS => ?_)
  have hP : va_P D vwCl [(q, .inr (2, [.int (nI 0), .ref q12, .ref q20, .ref q28, .int (nI 0), .ref q41, .null, .null, .null])), (q12, .inl (ty 0, 20, .inl (fun _ => 0))), (q20, .inl (ty 0, 20, .inl (fun _ => 0))), (q28, .inl (ty 0, 20, .inl (fun _ => 0))), (q41, .inl (ty 0, 120, .inl (fun _ => 0)))] H := hP
  have hD : va_D A9 [(q, .inr (2, [.int (nI 0), .ref q12, .ref q20, .ref q28, .int (nI 0), .ref q41, .null, .null, .null])), (q12, .inl (ty 0, 20, .inl (fun _ => 0))), (q20, .inl (ty 0, 20, .inl (fun _ => 0))), (q28, .inl (ty 0, 20, .inl (fun _ => 0))), (q41, .inl (ty 0, 120, .inl (fun _ => 0)))] := hD
  refine lv_aload_n hx hb dX2_init_46 rfl (lv_at hl 0 rfl) ?_
  refine lv_bipush (v := nI 120) hx hb dX2_init_47 (by decide) ?_
  refine va_newa (atype := .int) (ty := .int) (a0 := (120, .inl (fun _ => 0))) (N' := 120) hx hb (hts (.arrayClass .int) (by decide +kernel)) rfl hK hP hD hS hA (zaI _) (nI_n0' (by decide)) (nI_clamp (by decide)) (by decide) (Nat.le_of_ble_eq_true rfl) (Nat.le_of_ble_eq_true rfl) dX2_init_49 (fun q49 cA H hK9 hP hD hS => ?_)
  have e9 : cA = ty 0 := zRAi (hK9.2 2 _ rfl).2 (hK.2 0 _ rfl).2
  subst e9
  clear hK9
  have hP : va_P D vwCl [(q, .inr (2, [.int (nI 0), .ref q12, .ref q20, .ref q28, .int (nI 0), .ref q41, .null, .null, .null])), (q12, .inl (ty 0, 20, .inl (fun _ => 0))), (q20, .inl (ty 0, 20, .inl (fun _ => 0))), (q28, .inl (ty 0, 20, .inl (fun _ => 0))), (q41, .inl (ty 0, 120, .inl (fun _ => 0))), (q49, .inl (ty 0, 120, .inl (fun _ => 0)))] H := hP
  have hD : va_D A9 [(q, .inr (2, [.int (nI 0), .ref q12, .ref q20, .ref q28, .int (nI 0), .ref q41, .null, .null, .null])), (q12, .inl (ty 0, 20, .inl (fun _ => 0))), (q20, .inl (ty 0, 20, .inl (fun _ => 0))), (q28, .inl (ty 0, 20, .inl (fun _ => 0))), (q41, .inl (ty 0, 120, .inl (fun _ => 0))), (q49, .inl (ty 0, 120, .inl (fun _ => 0)))] := hD
  refine va_putF (D := D) (ci := 2) (v := .ref q49) (ty := .array .int) hx hb hts hinX2 tyX2 tyX2_ok nmX2 hown hK hP hD hS 0 rfl rfl 6 (by decide) (hk7) (fun _ h9 => h9) rfl hin9 rfl (by decide +kernel) rfl rfl (Nat.le_of_ble_eq_true rfl) dX2_init_51 (fun H locs hP hD hS => ?_)
  have hP : va_P D vwCl [(q, .inr (2, [.int (nI 0), .ref q12, .ref q20, .ref q28, .int (nI 0), .ref q41, .ref q49, .null, .null])), (q12, .inl (ty 0, 20, .inl (fun _ => 0))), (q20, .inl (ty 0, 20, .inl (fun _ => 0))), (q28, .inl (ty 0, 20, .inl (fun _ => 0))), (q41, .inl (ty 0, 120, .inl (fun _ => 0))), (q49, .inl (ty 0, 120, .inl (fun _ => 0)))] H := hP
  have hD : va_D A9 [(q, .inr (2, [.int (nI 0), .ref q12, .ref q20, .ref q28, .int (nI 0), .ref q41, .ref q49, .null, .null])), (q12, .inl (ty 0, 20, .inl (fun _ => 0))), (q20, .inl (ty 0, 20, .inl (fun _ => 0))), (q28, .inl (ty 0, 20, .inl (fun _ => 0))), (q41, .inl (ty 0, 120, .inl (fun _ => 0))), (q49, .inl (ty 0, 120, .inl (fun _ => 0)))] := hD
  refine lv_aload_n hx hb dX2_init_54 rfl (lv_at hl 0 rfl) ?_
  refine lv_bipush (v := nI 120) hx hb dX2_init_55 (by decide) ?_
  refine va_newa (atype := .int) (ty := .int) (a0 := (120, .inl (fun _ => 0))) (N' := 120) hx hb (hts (.arrayClass .int) (by decide +kernel)) rfl hK hP hD hS hA (zaI _) (nI_n0' (by decide)) (nI_clamp (by decide)) (by decide) (Nat.le_of_ble_eq_true rfl) (Nat.le_of_ble_eq_true rfl) dX2_init_57 (fun q57 cA H hK9 hP hD hS => ?_)
  have e9 : cA = ty 0 := zRAi (hK9.2 2 _ rfl).2 (hK.2 0 _ rfl).2
  subst e9
  clear hK9
  have hP : va_P D vwCl [(q, .inr (2, [.int (nI 0), .ref q12, .ref q20, .ref q28, .int (nI 0), .ref q41, .ref q49, .null, .null])), (q12, .inl (ty 0, 20, .inl (fun _ => 0))), (q20, .inl (ty 0, 20, .inl (fun _ => 0))), (q28, .inl (ty 0, 20, .inl (fun _ => 0))), (q41, .inl (ty 0, 120, .inl (fun _ => 0))), (q49, .inl (ty 0, 120, .inl (fun _ => 0))), (q57, .inl (ty 0, 120, .inl (fun _ => 0)))] H := hP
  have hD : va_D A9 [(q, .inr (2, [.int (nI 0), .ref q12, .ref q20, .ref q28, .int (nI 0), .ref q41, .ref q49, .null, .null])), (q12, .inl (ty 0, 20, .inl (fun _ => 0))), (q20, .inl (ty 0, 20, .inl (fun _ => 0))), (q28, .inl (ty 0, 20, .inl (fun _ => 0))), (q41, .inl (ty 0, 120, .inl (fun _ => 0))), (q49, .inl (ty 0, 120, .inl (fun _ => 0))), (q57, .inl (ty 0, 120, .inl (fun _ => 0)))] := hD
  refine va_putF (D := D) (ci := 2) (v := .ref q57) (ty := .array .int) hx hb hts hinX2 tyX2 tyX2_ok nmX2 hown hK hP hD hS 0 rfl rfl 7 (by decide) (hk8) (fun _ h9 => h9) rfl hin9 rfl (by decide +kernel) rfl rfl (Nat.le_of_ble_eq_true rfl) dX2_init_59 (fun H locs hP hD hS => ?_)
  have hP : va_P D vwCl [(q, .inr (2, [.int (nI 0), .ref q12, .ref q20, .ref q28, .int (nI 0), .ref q41, .ref q49, .ref q57, .null])), (q12, .inl (ty 0, 20, .inl (fun _ => 0))), (q20, .inl (ty 0, 20, .inl (fun _ => 0))), (q28, .inl (ty 0, 20, .inl (fun _ => 0))), (q41, .inl (ty 0, 120, .inl (fun _ => 0))), (q49, .inl (ty 0, 120, .inl (fun _ => 0))), (q57, .inl (ty 0, 120, .inl (fun _ => 0)))] H := hP
  have hD : va_D A9 [(q, .inr (2, [.int (nI 0), .ref q12, .ref q20, .ref q28, .int (nI 0), .ref q41, .ref q49, .ref q57, .null])), (q12, .inl (ty 0, 20, .inl (fun _ => 0))), (q20, .inl (ty 0, 20, .inl (fun _ => 0))), (q28, .inl (ty 0, 20, .inl (fun _ => 0))), (q41, .inl (ty 0, 120, .inl (fun _ => 0))), (q49, .inl (ty 0, 120, .inl (fun _ => 0))), (q57, .inl (ty 0, 120, .inl (fun _ => 0)))] := hD
  refine lv_aload_n hx hb dX2_init_62 rfl (lv_at hl 0 rfl) ?_
  refine lv_sipush (v := nI 288) hx hb dX2_init_63 (by decide) ?_
  refine va_newa (atype := .boolean) (ty := .boolean) (a0 := (288, .inl (fun _ => 0))) (N' := 288) hx hb (hts (.arrayClass .boolean) (by decide +kernel)) rfl hK hP hD hS hA (zaZ _) (nI_n0' (by decide)) (nI_clamp (by decide)) (by decide) (Nat.le_of_ble_eq_true rfl) (Nat.le_of_ble_eq_true rfl) dX2_init_66 (fun q66 cA H hK9 hP hD hS => ?_)
  have e9 : cA = ty 1 := zRAz (hK9.2 2 _ rfl).2 (hK.2 1 _ rfl).2
  subst e9
  clear hK9
  have hP : va_P D vwCl [(q, .inr (2, [.int (nI 0), .ref q12, .ref q20, .ref q28, .int (nI 0), .ref q41, .ref q49, .ref q57, .null])), (q12, .inl (ty 0, 20, .inl (fun _ => 0))), (q20, .inl (ty 0, 20, .inl (fun _ => 0))), (q28, .inl (ty 0, 20, .inl (fun _ => 0))), (q41, .inl (ty 0, 120, .inl (fun _ => 0))), (q49, .inl (ty 0, 120, .inl (fun _ => 0))), (q57, .inl (ty 0, 120, .inl (fun _ => 0))), (q66, .inl (ty 1, 288, .inl (fun _ => 0)))] H := hP
  have hD : va_D A9 [(q, .inr (2, [.int (nI 0), .ref q12, .ref q20, .ref q28, .int (nI 0), .ref q41, .ref q49, .ref q57, .null])), (q12, .inl (ty 0, 20, .inl (fun _ => 0))), (q20, .inl (ty 0, 20, .inl (fun _ => 0))), (q28, .inl (ty 0, 20, .inl (fun _ => 0))), (q41, .inl (ty 0, 120, .inl (fun _ => 0))), (q49, .inl (ty 0, 120, .inl (fun _ => 0))), (q57, .inl (ty 0, 120, .inl (fun _ => 0))), (q66, .inl (ty 1, 288, .inl (fun _ => 0)))] := hD
  refine va_putF (D := D) (ci := 2) (v := .ref q66) (ty := .array .boolean) hx hb hts hinX2 tyX2 tyX2_ok nmX2 hown hK hP hD hS 0 rfl rfl 8 (by decide) (hk9) (fun _ h9 => h9) rfl hin9 rfl (by decide +kernel) rfl rfl (Nat.le_of_ble_eq_true rfl) dX2_init_68 (fun H locs hP hD hS => ?_)
  have hP : va_P D vwCl [(q, .inr (2, [.int (nI 0), .ref q12, .ref q20, .ref q28, .int (nI 0), .ref q41, .ref q49, .ref q57, .ref q66])), (q12, .inl (ty 0, 20, .inl (fun _ => 0))), (q20, .inl (ty 0, 20, .inl (fun _ => 0))), (q28, .inl (ty 0, 20, .inl (fun _ => 0))), (q41, .inl (ty 0, 120, .inl (fun _ => 0))), (q49, .inl (ty 0, 120, .inl (fun _ => 0))), (q57, .inl (ty 0, 120, .inl (fun _ => 0))), (q66, .inl (ty 1, 288, .inl (fun _ => 0)))] H := hP
  have hD : va_D A9 [(q, .inr (2, [.int (nI 0), .ref q12, .ref q20, .ref q28, .int (nI 0), .ref q41, .ref q49, .ref q57, .ref q66])), (q12, .inl (ty 0, 20, .inl (fun _ => 0))), (q20, .inl (ty 0, 20, .inl (fun _ => 0))), (q28, .inl (ty 0, 20, .inl (fun _ => 0))), (q41, .inl (ty 0, 120, .inl (fun _ => 0))), (q49, .inl (ty 0, 120, .inl (fun _ => 0))), (q57, .inl (ty 0, 120, .inl (fun _ => 0))), (q66, .inl (ty 1, 288, .inl (fun _ => 0)))] := hD
  exact W.vret hx hb hr (fun t ht hW => ⟨⟨fun k => ([q12, q20, q28, q41, q49, q57, q66] : List Nat).getD k 0, rfl, trivial, by rw [ht]; exact hP, hD⟩, hS.F ht⟩) hS.2.2 dX2_init_71
set_option maxHeartbeats 4000000 in
set_option maxRecDepth 100000 in
theorem c_X3_init (l : Launch) (D : va_G) (ty : Nat → ClassId) (q sz : Nat) : Met l yX3_init wsX3_init ({ frames := 1, cells := 10, slots := 600, locals := 20 }) (va_Pc [.ref q] (wI D ty [(q, .inr (3, [.int 0, .null, .null, .null, .null, .null, .null, .null, .null, .null, .null]))] (fun _ => True) sz)) (va_Qv (fun _ : Nat → Nat => True) (fun as t => va_P D vwCl [(q, .inr (3, [.int (nI 0), .ref (as 0), .ref (as 1), .ref (as 2), .ref (as 3), .ref (as 4), .ref (as 5), .ref (as 6), .ref (as 7), .ref (as 8), .ref (as 9)])), ((as 0), .inl (ty 0, 40, .inl (fun _ => 0))), ((as 1), .inl (ty 0, 40, .inl (fun _ => 0))), ((as 2), .inl (ty 0, 40, .inl (fun _ => 0))), ((as 3), .inl (ty 0, 40, .inl (fun _ => 0))), ((as 4), .inl (ty 0, 40, .inl (fun _ => 0))), ((as 5), .inl (ty 0, 40, .inl (fun _ => 0))), ((as 6), .inl (ty 0, 40, .inl (fun _ => 0))), ((as 7), .inl (ty 0, 40, .inl (fun _ => 0))), ((as 8), .inl (ty 0, 40, .inl (fun _ => 0))), ((as 9), .inl (ty 0, 240, .inl (fun _ => 0)))] t.heap ∧ va_D (va_A [(q, .inr (3, [.int 0, .null, .null, .null, .null, .null, .null, .null, .null, .null, .null]))] sz) [(q, .inr (3, [.int (nI 0), .ref (as 0), .ref (as 1), .ref (as 2), .ref (as 3), .ref (as 4), .ref (as 5), .ref (as 6), .ref (as 7), .ref (as 8), .ref (as 9)])), ((as 0), .inl (ty 0, 40, .inl (fun _ => 0))), ((as 1), .inl (ty 0, 40, .inl (fun _ => 0))), ((as 2), .inl (ty 0, 40, .inl (fun _ => 0))), ((as 3), .inl (ty 0, 40, .inl (fun _ => 0))), ((as 4), .inl (ty 0, 40, .inl (fun _ => 0))), ((as 5), .inl (ty 0, 40, .inl (fun _ => 0))), ((as 6), .inl (ty 0, 40, .inl (fun _ => 0))), ((as 7), .inl (ty 0, 40, .inl (fun _ => 0))), ((as 8), .inl (ty 0, 40, .inl (fun _ => 0))), ((as 9), .inl (ty 0, 240, .inl (fun _ => 0)))]) (va_A [(q, .inr (3, [.int 0, .null, .null, .null, .null, .null, .null, .null, .null, .null, .null]))] sz)) 10 600 (va_A [(q, .inr (3, [.int 0, .null, .null, .null, .null, .null, .null, .null, .null, .null, .null]))] sz) := by
  refine zMetI (cc := cX3_init) (maxL := 1) (ret := none) (by decide) rfl (Nat.le_of_ble_eq_true rfl) ?_
  intro p e s m below meth c hx hb hr hts hown hlocks hml hB hin9 ls hl
  obtain ⟨hP, hD0, hK, hN, hsz⟩ := hB
  subst hsz
  have hD := hD0.self (sz := s.heap.size)
  generalize hAe : va_A [(q, .inr (3, [.int 0, .null, .null, .null, .null, .null, .null, .null, .null, .null, .null]))] s.heap.size = A9 at hD ⊢
  have hA : ∀ q : Nat, s.heap.size ≤ q → A9 q := fun q h => by rw [← hAe]; exact Or.inr h
  have hS : va_S A9 s.heap s.heap [] := va_S.rf
  have hl : lv_has ls 1 [(0, .ref q)] := hl
  have hk0 := hts (.fieldLink RX3 9 "DatamarketDesk$Reads" "count" "I") (by decide +kernel)
  have hinX3 : ∀ w ∈ wsX30, w ∈ wsX3_init := by decide +kernel
  have hk2 := hts (.fieldLink RX3 15 "DatamarketDesk$Reads" "readers" "[I") (by decide +kernel)
  have hk3 := hts (.fieldLink RX3 19 "DatamarketDesk$Reads" "sets" "[I") (by decide +kernel)
  have hk4 := hts (.fieldLink RX3 22 "DatamarketDesk$Reads" "versions" "[I") (by decide +kernel)
  have hk5 := hts (.fieldLink RX3 25 "DatamarketDesk$Reads" "fields" "[I") (by decide +kernel)
  have hk6 := hts (.fieldLink RX3 28 "DatamarketDesk$Reads" "rows" "[I") (by decide +kernel)
  have hk7 := hts (.fieldLink RX3 31 "DatamarketDesk$Reads" "purposes" "[I") (by decide +kernel)
  have hk8 := hts (.fieldLink RX3 34 "DatamarketDesk$Reads" "days" "[I") (by decide +kernel)
  have hk9 := hts (.fieldLink RX3 37 "DatamarketDesk$Reads" "tiers" "[I") (by decide +kernel)
  have hk10 := hts (.fieldLink RX3 40 "DatamarketDesk$Reads" "billed" "[I") (by decide +kernel)
  have hk11 := hts (.fieldLink RX3 43 "DatamarketDesk$Reads" "charges" "[I") (by decide +kernel)
  refine lv_aload_n hx hb dX3_init_0 rfl (lv_at hl 0 rfl) ?_
  refine W.objInit hx hb hown (hts (.methodLink RX3 3 objectInit) (by decide +kernel)) (hts (.instanceMethod objectInit) (by decide +kernel)) (hts _ (List.mem_cons_of_mem _ (List.mem_append_left _ (List.mem_of_getElem? (i := 2) rfl)))) rfl (by rw [hml]; exact hl.1) rfl dX3_init_1 (Nat.le_of_ble_eq_true rfl) (Nat.le_of_ble_eq_true rfl) ?_
  refine W.eq (g2 := F0 m 4 ls []) rfl ?_
  refine lv_aload_n hx hb dX3_init_4 rfl (lv_at hl 0 rfl) ?_
  refine lv_iconst (v := nI 0) hx hb dX3_init_5 (by decide) ?_
  refine va_put (D := D) (ci := 3) (v := .int (nI 0)) (ty := .int) hx hb hts hinX3 tyX3 tyX3_ok nmX3 hown hK hP hD hS 0 rfl rfl 0 (by decide) (hk0) (fun _ h9 => h9) rfl (by decide +kernel) rfl rfl (Nat.le_of_ble_eq_true rfl) dX3_init_6 (fun H locs hP hD hS => ?_)
  have hP : va_P D vwCl [(q, .inr (3, [.int (nI 0), .null, .null, .null, .null, .null, .null, .null, .null, .null, .null]))] H := hP
  have hD : va_D A9 [(q, .inr (3, [.int (nI 0), .null, .null, .null, .null, .null, .null, .null, .null, .null, .null]))] := hD
  refine lv_aload_n hx hb dX3_init_9 rfl (lv_at hl 0 rfl) ?_
  refine lv_bipush (v := nI 40) hx hb dX3_init_10 (by decide) ?_
  refine va_newa (atype := .int) (ty := .int) (a0 := (40, .inl (fun _ => 0))) (N' := 40) hx hb (hts (.arrayClass .int) (by decide +kernel)) rfl hK hP hD hS hA (zaI _) (nI_n0' (by decide)) (nI_clamp (by decide)) (by decide) (Nat.le_of_ble_eq_true rfl) (Nat.le_of_ble_eq_true rfl) dX3_init_12 (fun q12 cA H hK9 hP hD hS => ?_)
  have e9 : cA = ty 0 := zRAi (hK9.2 2 _ rfl).2 (hK.2 0 _ rfl).2
  subst e9
  clear hK9
  have hP : va_P D vwCl [(q, .inr (3, [.int (nI 0), .null, .null, .null, .null, .null, .null, .null, .null, .null, .null])), (q12, .inl (ty 0, 40, .inl (fun _ => 0)))] H := hP
  have hD : va_D A9 [(q, .inr (3, [.int (nI 0), .null, .null, .null, .null, .null, .null, .null, .null, .null, .null])), (q12, .inl (ty 0, 40, .inl (fun _ => 0)))] := hD
  refine va_putF (D := D) (ci := 3) (v := .ref q12) (ty := .array .int) hx hb hts hinX3 tyX3 tyX3_ok nmX3 hown hK hP hD hS 0 rfl rfl 1 (by decide) (hk2) (fun _ h9 => h9) rfl hin9 rfl (by decide +kernel) rfl rfl (Nat.le_of_ble_eq_true rfl) dX3_init_14 (fun H locs hP hD hS => ?_)
  have hP : va_P D vwCl [(q, .inr (3, [.int (nI 0), .ref q12, .null, .null, .null, .null, .null, .null, .null, .null, .null])), (q12, .inl (ty 0, 40, .inl (fun _ => 0)))] H := hP
  have hD : va_D A9 [(q, .inr (3, [.int (nI 0), .ref q12, .null, .null, .null, .null, .null, .null, .null, .null, .null])), (q12, .inl (ty 0, 40, .inl (fun _ => 0)))] := hD
  refine lv_aload_n hx hb dX3_init_17 rfl (lv_at hl 0 rfl) ?_
  refine lv_bipush (v := nI 40) hx hb dX3_init_18 (by decide) ?_
  refine va_newa (atype := .int) (ty := .int) (a0 := (40, .inl (fun _ => 0))) (N' := 40) hx hb (hts (.arrayClass .int) (by decide +kernel)) rfl hK hP hD hS hA (zaI _) (nI_n0' (by decide)) (nI_clamp (by decide)) (by decide) (Nat.le_of_ble_eq_true rfl) (Nat.le_of_ble_eq_true rfl) dX3_init_20 (fun q20 cA H hK9 hP hD hS => ?_)
  have e9 : cA = ty 0 := zRAi (hK9.2 2 _ rfl).2 (hK.2 0 _ rfl).2
  subst e9
  clear hK9
  have hP : va_P D vwCl [(q, .inr (3, [.int (nI 0), .ref q12, .null, .null, .null, .null, .null, .null, .null, .null, .null])), (q12, .inl (ty 0, 40, .inl (fun _ => 0))), (q20, .inl (ty 0, 40, .inl (fun _ => 0)))] H := hP
  have hD : va_D A9 [(q, .inr (3, [.int (nI 0), .ref q12, .null, .null, .null, .null, .null, .null, .null, .null, .null])), (q12, .inl (ty 0, 40, .inl (fun _ => 0))), (q20, .inl (ty 0, 40, .inl (fun _ => 0)))] := hD
  refine va_putF (D := D) (ci := 3) (v := .ref q20) (ty := .array .int) hx hb hts hinX3 tyX3 tyX3_ok nmX3 hown hK hP hD hS 0 rfl rfl 2 (by decide) (hk3) (fun _ h9 => h9) rfl hin9 rfl (by decide +kernel) rfl rfl (Nat.le_of_ble_eq_true rfl) dX3_init_22 (fun H locs hP hD hS => ?_)
  have hP : va_P D vwCl [(q, .inr (3, [.int (nI 0), .ref q12, .ref q20, .null, .null, .null, .null, .null, .null, .null, .null])), (q12, .inl (ty 0, 40, .inl (fun _ => 0))), (q20, .inl (ty 0, 40, .inl (fun _ => 0)))] H := hP
  have hD : va_D A9 [(q, .inr (3, [.int (nI 0), .ref q12, .ref q20, .null, .null, .null, .null, .null, .null, .null, .null])), (q12, .inl (ty 0, 40, .inl (fun _ => 0))), (q20, .inl (ty 0, 40, .inl (fun _ => 0)))] := hD
  refine lv_aload_n hx hb dX3_init_25 rfl (lv_at hl 0 rfl) ?_
  refine lv_bipush (v := nI 40) hx hb dX3_init_26 (by decide) ?_
  refine va_newa (atype := .int) (ty := .int) (a0 := (40, .inl (fun _ => 0))) (N' := 40) hx hb (hts (.arrayClass .int) (by decide +kernel)) rfl hK hP hD hS hA (zaI _) (nI_n0' (by decide)) (nI_clamp (by decide)) (by decide) (Nat.le_of_ble_eq_true rfl) (Nat.le_of_ble_eq_true rfl) dX3_init_28 (fun q28 cA H hK9 hP hD hS => ?_)
  have e9 : cA = ty 0 := zRAi (hK9.2 2 _ rfl).2 (hK.2 0 _ rfl).2
  subst e9
  clear hK9
  have hP : va_P D vwCl [(q, .inr (3, [.int (nI 0), .ref q12, .ref q20, .null, .null, .null, .null, .null, .null, .null, .null])), (q12, .inl (ty 0, 40, .inl (fun _ => 0))), (q20, .inl (ty 0, 40, .inl (fun _ => 0))), (q28, .inl (ty 0, 40, .inl (fun _ => 0)))] H := hP
  have hD : va_D A9 [(q, .inr (3, [.int (nI 0), .ref q12, .ref q20, .null, .null, .null, .null, .null, .null, .null, .null])), (q12, .inl (ty 0, 40, .inl (fun _ => 0))), (q20, .inl (ty 0, 40, .inl (fun _ => 0))), (q28, .inl (ty 0, 40, .inl (fun _ => 0)))] := hD
  refine va_putF (D := D) (ci := 3) (v := .ref q28) (ty := .array .int) hx hb hts hinX3 tyX3 tyX3_ok nmX3 hown hK hP hD hS 0 rfl rfl 3 (by decide) (hk4) (fun _ h9 => h9) rfl hin9 rfl (by decide +kernel) rfl rfl (Nat.le_of_ble_eq_true rfl) dX3_init_30 (fun H locs hP hD hS => ?_)
  have hP : va_P D vwCl [(q, .inr (3, [.int (nI 0), .ref q12, .ref q20, .ref q28, .null, .null, .null, .null, .null, .null, .null])), (q12, .inl (ty 0, 40, .inl (fun _ => 0))), (q20, .inl (ty 0, 40, .inl (fun _ => 0))), (q28, .inl (ty 0, 40, .inl (fun _ => 0)))] H := hP
  have hD : va_D A9 [(q, .inr (3, [.int (nI 0), .ref q12, .ref q20, .ref q28, .null, .null, .null, .null, .null, .null, .null])), (q12, .inl (ty 0, 40, .inl (fun _ => 0))), (q20, .inl (ty 0, 40, .inl (fun _ => 0))), (q28, .inl (ty 0, 40, .inl (fun _ => 0)))] := hD
  refine lv_aload_n hx hb dX3_init_33 rfl (lv_at hl 0 rfl) ?_
  refine lv_bipush (v := nI 40) hx hb dX3_init_34 (by decide) ?_
  refine va_newa (atype := .int) (ty := .int) (a0 := (40, .inl (fun _ => 0))) (N' := 40) hx hb (hts (.arrayClass .int) (by decide +kernel)) rfl hK hP hD hS hA (zaI _) (nI_n0' (by decide)) (nI_clamp (by decide)) (by decide) (Nat.le_of_ble_eq_true rfl) (Nat.le_of_ble_eq_true rfl) dX3_init_36 (fun q36 cA H hK9 hP hD hS => ?_)
  have e9 : cA = ty 0 := zRAi (hK9.2 2 _ rfl).2 (hK.2 0 _ rfl).2
  subst e9
  clear hK9
  have hP : va_P D vwCl [(q, .inr (3, [.int (nI 0), .ref q12, .ref q20, .ref q28, .null, .null, .null, .null, .null, .null, .null])), (q12, .inl (ty 0, 40, .inl (fun _ => 0))), (q20, .inl (ty 0, 40, .inl (fun _ => 0))), (q28, .inl (ty 0, 40, .inl (fun _ => 0))), (q36, .inl (ty 0, 40, .inl (fun _ => 0)))] H := hP
  have hD : va_D A9 [(q, .inr (3, [.int (nI 0), .ref q12, .ref q20, .ref q28, .null, .null, .null, .null, .null, .null, .null])), (q12, .inl (ty 0, 40, .inl (fun _ => 0))), (q20, .inl (ty 0, 40, .inl (fun _ => 0))), (q28, .inl (ty 0, 40, .inl (fun _ => 0))), (q36, .inl (ty 0, 40, .inl (fun _ => 0)))] := hD
  refine va_putF (D := D) (ci := 3) (v := .ref q36) (ty := .array .int) hx hb hts hinX3 tyX3 tyX3_ok nmX3 hown hK hP hD hS 0 rfl rfl 4 (by decide) (hk5) (fun _ h9 => h9) rfl hin9 rfl (by decide +kernel) rfl rfl (Nat.le_of_ble_eq_true rfl) dX3_init_38 (fun H locs hP hD hS => ?_)
  have hP : va_P D vwCl [(q, .inr (3, [.int (nI 0), .ref q12, .ref q20, .ref q28, .ref q36, .null, .null, .null, .null, .null, .null])), (q12, .inl (ty 0, 40, .inl (fun _ => 0))), (q20, .inl (ty 0, 40, .inl (fun _ => 0))), (q28, .inl (ty 0, 40, .inl (fun _ => 0))), (q36, .inl (ty 0, 40, .inl (fun _ => 0)))] H := hP
  have hD : va_D A9 [(q, .inr (3, [.int (nI 0), .ref q12, .ref q20, .ref q28, .ref q36, .null, .null, .null, .null, .null, .null])), (q12, .inl (ty 0, 40, .inl (fun _ => 0))), (q20, .inl (ty 0, 40, .inl (fun _ => 0))), (q28, .inl (ty 0, 40, .inl (fun _ => 0))), (q36, .inl (ty 0, 40, .inl (fun _ => 0)))] := hD
  refine lv_aload_n hx hb dX3_init_41 rfl (lv_at hl 0 rfl) ?_
  refine lv_bipush (v := nI 40) hx hb dX3_init_42 (by decide) ?_
  refine va_newa (atype := .int) (ty := .int) (a0 := (40, .inl (fun _ => 0))) (N' := 40) hx hb (hts (.arrayClass .int) (by decide +kernel)) rfl hK hP hD hS hA (zaI _) (nI_n0' (by decide)) (nI_clamp (by decide)) (by decide) (Nat.le_of_ble_eq_true rfl) (Nat.le_of_ble_eq_true rfl) dX3_init_44 (fun q44 cA H hK9 hP hD hS => ?_)
  have e9 : cA = ty 0 := zRAi (hK9.2 2 _ rfl).2 (hK.2 0 _ rfl).2
  subst e9
  clear hK9
  have hP : va_P D vwCl [(q, .inr (3, [.int (nI 0), .ref q12, .ref q20, .ref q28, .ref q36, .null, .null, .null, .null, .null, .null])), (q12, .inl (ty 0, 40, .inl (fun _ => 0))), (q20, .inl (ty 0, 40, .inl (fun _ => 0))), (q28, .inl (ty 0, 40, .inl (fun _ => 0))), (q36, .inl (ty 0, 40, .inl (fun _ => 0))), (q44, .inl (ty 0, 40, .inl (fun _ => 0)))] H := hP
  have hD : va_D A9 [(q, .inr (3, [.int (nI 0), .ref q12, .ref q20, .ref q28, .ref q36, .null, .null, .null, .null, .null, .null])), (q12, .inl (ty 0, 40, .inl (fun _ => 0))), (q20, .inl (ty 0, 40, .inl (fun _ => 0))), (q28, .inl (ty 0, 40, .inl (fun _ => 0))), (q36, .inl (ty 0, 40, .inl (fun _ => 0))), (q44, .inl (ty 0, 40, .inl (fun _ => 0)))] := hD
  refine va_putF (D := D) (ci := 3) (v := .ref q44) (ty := .array .int) hx hb hts hinX3 tyX3 tyX3_ok nmX3 hown hK hP hD hS 0 rfl rfl 5 (by decide) (hk6) (fun _ h9 => h9) rfl hin9 rfl (by decide +kernel) rfl rfl (Nat.le_of_ble_eq_true rfl) dX3_init_46 (fun H locs hP hD hS => ?_)
  have hP : va_P D vwCl [(q, .inr (3, [.int (nI 0), .ref q12, .ref q20, .ref q28, .ref q36, .ref q44, .null, .null, .null, .null, .null])), (q12, .inl (ty 0, 40, .inl (fun _ => 0))), (q20, .inl (ty 0, 40, .inl (fun _ => 0))), (q28, .inl (ty 0, 40, .inl (fun _ => 0))), (q36, .inl (ty 0, 40, .inl (fun _ => 0))), (q44, .inl (ty 0, 40, .inl (fun _ => 0)))] H := hP
  have hD : va_D A9 [(q, .inr (3, [.int (nI 0), .ref q12, .ref q20, .ref q28, .ref q36, .ref q44, .null, .null, .null, .null, .null])), (q12, .inl (ty 0, 40, .inl (fun _ => 0))), (q20, .inl (ty 0, 40, .inl (fun _ => 0))), (q28, .inl (ty 0, 40, .inl (fun _ => 0))), (q36, .inl (ty 0, 40, .inl (fun _ => 0))), (q44, .inl (ty 0, 40, .inl (fun _ => 0)))] := hD
  refine lv_aload_n hx hb dX3_init_49 rfl (lv_at hl 0 rfl) ?_
  refine lv_bipush (v := nI 40) hx hb dX3_init_50 (by decide) ?_
  refine va_newa (atype := .int) (ty := .int) (a0 := (40, .inl (fun _ => 0))) (N' := 40) hx hb (hts (.arrayClass .int) (by decide +kernel)) rfl hK hP hD hS hA (zaI _) (nI_n0' (by decide)) (nI_clamp (by decide)) (by decide) (Nat.le_of_ble_eq_true rfl) (Nat.le_of_ble_eq_true rfl) dX3_init_52 (fun q52 cA H hK9 hP hD hS => ?_)
  have e9 : cA = ty 0 := zRAi (hK9.2 2 _ rfl).2 (hK.2 0 _ rfl).2
  subst e9
  clear hK9
  have hP : va_P D vwCl [(q, .inr (3, [.int (nI 0), .ref q12, .ref q20, .ref q28, .ref q36, .ref q44, .null, .null, .null, .null, .null])), (q12, .inl (ty 0, 40, .inl (fun _ => 0))), (q20, .inl (ty 0, 40, .inl (fun _ => 0))), (q28, .inl (ty 0, 40, .inl (fun _ => 0))), (q36, .inl (ty 0, 40, .inl (fun _ => 0))), (q44, .inl (ty 0, 40, .inl (fun _ => 0))), (q52, .inl (ty 0, 40, .inl (fun _ => 0)))] H := hP
  have hD : va_D A9 [(q, .inr (3, [.int (nI 0), .ref q12, .ref q20, .ref q28, .ref q36, .ref q44, .null, .null, .null, .null, .null])), (q12, .inl (ty 0, 40, .inl (fun _ => 0))), (q20, .inl (ty 0, 40, .inl (fun _ => 0))), (q28, .inl (ty 0, 40, .inl (fun _ => 0))), (q36, .inl (ty 0, 40, .inl (fun _ => 0))), (q44, .inl (ty 0, 40, .inl (fun _ => 0))), (q52, .inl (ty 0, 40, .inl (fun _ => 0)))] := hD
  refine va_putF (D := D) (ci := 3) (v := .ref q52) (ty := .array .int) hx hb hts hinX3 tyX3 tyX3_ok nmX3 hown hK hP hD hS 0 rfl rfl 6 (by decide) (hk7) (fun _ h9 => h9) rfl hin9 rfl (by decide +kernel) rfl rfl (Nat.le_of_ble_eq_true rfl) dX3_init_54 (fun H locs hP hD hS => ?_)
  have hP : va_P D vwCl [(q, .inr (3, [.int (nI 0), .ref q12, .ref q20, .ref q28, .ref q36, .ref q44, .ref q52, .null, .null, .null, .null])), (q12, .inl (ty 0, 40, .inl (fun _ => 0))), (q20, .inl (ty 0, 40, .inl (fun _ => 0))), (q28, .inl (ty 0, 40, .inl (fun _ => 0))), (q36, .inl (ty 0, 40, .inl (fun _ => 0))), (q44, .inl (ty 0, 40, .inl (fun _ => 0))), (q52, .inl (ty 0, 40, .inl (fun _ => 0)))] H := hP
  have hD : va_D A9 [(q, .inr (3, [.int (nI 0), .ref q12, .ref q20, .ref q28, .ref q36, .ref q44, .ref q52, .null, .null, .null, .null])), (q12, .inl (ty 0, 40, .inl (fun _ => 0))), (q20, .inl (ty 0, 40, .inl (fun _ => 0))), (q28, .inl (ty 0, 40, .inl (fun _ => 0))), (q36, .inl (ty 0, 40, .inl (fun _ => 0))), (q44, .inl (ty 0, 40, .inl (fun _ => 0))), (q52, .inl (ty 0, 40, .inl (fun _ => 0)))] := hD
  refine lv_aload_n hx hb dX3_init_57 rfl (lv_at hl 0 rfl) ?_
  refine lv_bipush (v := nI 40) hx hb dX3_init_58 (by decide) ?_
  refine va_newa (atype := .int) (ty := .int) (a0 := (40, .inl (fun _ => 0))) (N' := 40) hx hb (hts (.arrayClass .int) (by decide +kernel)) rfl hK hP hD hS hA (zaI _) (nI_n0' (by decide)) (nI_clamp (by decide)) (by decide) (Nat.le_of_ble_eq_true rfl) (Nat.le_of_ble_eq_true rfl) dX3_init_60 (fun q60 cA H hK9 hP hD hS => ?_)
  have e9 : cA = ty 0 := zRAi (hK9.2 2 _ rfl).2 (hK.2 0 _ rfl).2
  subst e9
  clear hK9
  have hP : va_P D vwCl [(q, .inr (3, [.int (nI 0), .ref q12, .ref q20, .ref q28, .ref q36, .ref q44, .ref q52, .null, .null, .null, .null])), (q12, .inl (ty 0, 40, .inl (fun _ => 0))), (q20, .inl (ty 0, 40, .inl (fun _ => 0))), (q28, .inl (ty 0, 40, .inl (fun _ => 0))), (q36, .inl (ty 0, 40, .inl (fun _ => 0))), (q44, .inl (ty 0, 40, .inl (fun _ => 0))), (q52, .inl (ty 0, 40, .inl (fun _ => 0))), (q60, .inl (ty 0, 40, .inl (fun _ => 0)))] H := hP
  have hD : va_D A9 [(q, .inr (3, [.int (nI 0), .ref q12, .ref q20, .ref q28, .ref q36, .ref q44, .ref q52, .null, .null, .null, .null])), (q12, .inl (ty 0, 40, .inl (fun _ => 0))), (q20, .inl (ty 0, 40, .inl (fun _ => 0))), (q28, .inl (ty 0, 40, .inl (fun _ => 0))), (q36, .inl (ty 0, 40, .inl (fun _ => 0))), (q44, .inl (ty 0, 40, .inl (fun _ => 0))), (q52, .inl (ty 0, 40, .inl (fun _ => 0))), (q60, .inl (ty 0, 40, .inl (fun _ => 0)))] := hD
  refine va_putF (D := D) (ci := 3) (v := .ref q60) (ty := .array .int) hx hb hts hinX3 tyX3 tyX3_ok nmX3 hown hK hP hD hS 0 rfl rfl 7 (by decide) (hk8) (fun _ h9 => h9) rfl hin9 rfl (by decide +kernel) rfl rfl (Nat.le_of_ble_eq_true rfl) dX3_init_62 (fun H locs hP hD hS => ?_)
  have hP : va_P D vwCl [(q, .inr (3, [.int (nI 0), .ref q12, .ref q20, .ref q28, .ref q36, .ref q44, .ref q52, .ref q60, .null, .null, .null])), (q12, .inl (ty 0, 40, .inl (fun _ => 0))), (q20, .inl (ty 0, 40, .inl (fun _ => 0))), (q28, .inl (ty 0, 40, .inl (fun _ => 0))), (q36, .inl (ty 0, 40, .inl (fun _ => 0))), (q44, .inl (ty 0, 40, .inl (fun _ => 0))), (q52, .inl (ty 0, 40, .inl (fun _ => 0))), (q60, .inl (ty 0, 40, .inl (fun _ => 0)))] H := hP
  have hD : va_D A9 [(q, .inr (3, [.int (nI 0), .ref q12, .ref q20, .ref q28, .ref q36, .ref q44, .ref q52, .ref q60, .null, .null, .null])), (q12, .inl (ty 0, 40, .inl (fun _ => 0))), (q20, .inl (ty 0, 40, .inl (fun _ => 0))), (q28, .inl (ty 0, 40, .inl (fun _ => 0))), (q36, .inl (ty 0, 40, .inl (fun _ => 0))), (q44, .inl (ty 0, 40, .inl (fun _ => 0))), (q52, .inl (ty 0, 40, .inl (fun _ => 0))), (q60, .inl (ty 0, 40, .inl (fun _ => 0)))] := hD
  refine lv_aload_n hx hb dX3_init_65 rfl (lv_at hl 0 rfl) ?_
  refine lv_bipush (v := nI 40) hx hb dX3_init_66 (by decide) ?_
  refine va_newa (atype := .int) (ty := .int) (a0 := (40, .inl (fun _ => 0))) (N' := 40) hx hb (hts (.arrayClass .int) (by decide +kernel)) rfl hK hP hD hS hA (zaI _) (nI_n0' (by decide)) (nI_clamp (by decide)) (by decide) (Nat.le_of_ble_eq_true rfl) (Nat.le_of_ble_eq_true rfl) dX3_init_68 (fun q68 cA H hK9 hP hD hS => ?_)
  have e9 : cA = ty 0 := zRAi (hK9.2 2 _ rfl).2 (hK.2 0 _ rfl).2
  subst e9
  clear hK9
  have hP : va_P D vwCl [(q, .inr (3, [.int (nI 0), .ref q12, .ref q20, .ref q28, .ref q36, .ref q44, .ref q52, .ref q60, .null, .null, .null])), (q12, .inl (ty 0, 40, .inl (fun _ => 0))), (q20, .inl (ty 0, 40, .inl (fun _ => 0))), (q28, .inl (ty 0, 40, .inl (fun _ => 0))), (q36, .inl (ty 0, 40, .inl (fun _ => 0))), (q44, .inl (ty 0, 40, .inl (fun _ => 0))), (q52, .inl (ty 0, 40, .inl (fun _ => 0))), (q60, .inl (ty 0, 40, .inl (fun _ => 0))), (q68, .inl (ty 0, 40, .inl (fun _ => 0)))] H := hP
  have hD : va_D A9 [(q, .inr (3, [.int (nI 0), .ref q12, .ref q20, .ref q28, .ref q36, .ref q44, .ref q52, .ref q60, .null, .null, .null])), (q12, .inl (ty 0, 40, .inl (fun _ => 0))), (q20, .inl (ty 0, 40, .inl (fun _ => 0))), (q28, .inl (ty 0, 40, .inl (fun _ => 0))), (q36, .inl (ty 0, 40, .inl (fun _ => 0))), (q44, .inl (ty 0, 40, .inl (fun _ => 0))), (q52, .inl (ty 0, 40, .inl (fun _ => 0))), (q60, .inl (ty 0, 40, .inl (fun _ => 0))), (q68, .inl (ty 0, 40, .inl (fun _ => 0)))] := hD
  refine va_putF (D := D) (ci := 3) (v := .ref q68) (ty := .array .int) hx hb hts hinX3 tyX3 tyX3_ok nmX3 hown hK hP hD hS 0 rfl rfl 8 (by decide) (hk9) (fun _ h9 => h9) rfl hin9 rfl (by decide +kernel) rfl rfl (Nat.le_of_ble_eq_true rfl) dX3_init_70 (fun H locs hP hD hS => ?_)
  have hP : va_P D vwCl [(q, .inr (3, [.int (nI 0), .ref q12, .ref q20, .ref q28, .ref q36, .ref q44, .ref q52, .ref q60, .ref q68, .null, .null])), (q12, .inl (ty 0, 40, .inl (fun _ => 0))), (q20, .inl (ty 0, 40, .inl (fun _ => 0))), (q28, .inl (ty 0, 40, .inl (fun _ => 0))), (q36, .inl (ty 0, 40, .inl (fun _ => 0))), (q44, .inl (ty 0, 40, .inl (fun _ => 0))), (q52, .inl (ty 0, 40, .inl (fun _ => 0))), (q60, .inl (ty 0, 40, .inl (fun _ => 0))), (q68, .inl (ty 0, 40, .inl (fun _ => 0)))] H := hP
  have hD : va_D A9 [(q, .inr (3, [.int (nI 0), .ref q12, .ref q20, .ref q28, .ref q36, .ref q44, .ref q52, .ref q60, .ref q68, .null, .null])), (q12, .inl (ty 0, 40, .inl (fun _ => 0))), (q20, .inl (ty 0, 40, .inl (fun _ => 0))), (q28, .inl (ty 0, 40, .inl (fun _ => 0))), (q36, .inl (ty 0, 40, .inl (fun _ => 0))), (q44, .inl (ty 0, 40, .inl (fun _ => 0))), (q52, .inl (ty 0, 40, .inl (fun _ => 0))), (q60, .inl (ty 0, 40, .inl (fun _ => 0))), (q68, .inl (ty 0, 40, .inl (fun _ => 0)))] := hD
  refine lv_aload_n hx hb dX3_init_73 rfl (lv_at hl 0 rfl) ?_
  refine lv_bipush (v := nI 40) hx hb dX3_init_74 (by decide) ?_
  refine va_newa (atype := .int) (ty := .int) (a0 := (40, .inl (fun _ => 0))) (N' := 40) hx hb (hts (.arrayClass .int) (by decide +kernel)) rfl hK hP hD hS hA (zaI _) (nI_n0' (by decide)) (nI_clamp (by decide)) (by decide) (Nat.le_of_ble_eq_true rfl) (Nat.le_of_ble_eq_true rfl) dX3_init_76 (fun q76 cA H hK9 hP hD hS => ?_)
  have e9 : cA = ty 0 := zRAi (hK9.2 2 _ rfl).2 (hK.2 0 _ rfl).2
  subst e9
  clear hK9
  have hP : va_P D vwCl [(q, .inr (3, [.int (nI 0), .ref q12, .ref q20, .ref q28, .ref q36, .ref q44, .ref q52, .ref q60, .ref q68, .null, .null])), (q12, .inl (ty 0, 40, .inl (fun _ => 0))), (q20, .inl (ty 0, 40, .inl (fun _ => 0))), (q28, .inl (ty 0, 40, .inl (fun _ => 0))), (q36, .inl (ty 0, 40, .inl (fun _ => 0))), (q44, .inl (ty 0, 40, .inl (fun _ => 0))), (q52, .inl (ty 0, 40, .inl (fun _ => 0))), (q60, .inl (ty 0, 40, .inl (fun _ => 0))), (q68, .inl (ty 0, 40, .inl (fun _ => 0))), (q76, .inl (ty 0, 40, .inl (fun _ => 0)))] H := hP
  have hD : va_D A9 [(q, .inr (3, [.int (nI 0), .ref q12, .ref q20, .ref q28, .ref q36, .ref q44, .ref q52, .ref q60, .ref q68, .null, .null])), (q12, .inl (ty 0, 40, .inl (fun _ => 0))), (q20, .inl (ty 0, 40, .inl (fun _ => 0))), (q28, .inl (ty 0, 40, .inl (fun _ => 0))), (q36, .inl (ty 0, 40, .inl (fun _ => 0))), (q44, .inl (ty 0, 40, .inl (fun _ => 0))), (q52, .inl (ty 0, 40, .inl (fun _ => 0))), (q60, .inl (ty 0, 40, .inl (fun _ => 0))), (q68, .inl (ty 0, 40, .inl (fun _ => 0))), (q76, .inl (ty 0, 40, .inl (fun _ => 0)))] := hD
  refine va_putF (D := D) (ci := 3) (v := .ref q76) (ty := .array .int) hx hb hts hinX3 tyX3 tyX3_ok nmX3 hown hK hP hD hS 0 rfl rfl 9 (by decide) (hk10) (fun _ h9 => h9) rfl hin9 rfl (by decide +kernel) rfl rfl (Nat.le_of_ble_eq_true rfl) dX3_init_78 (fun H locs hP hD hS => ?_)
  have hP : va_P D vwCl [(q, .inr (3, [.int (nI 0), .ref q12, .ref q20, .ref q28, .ref q36, .ref q44, .ref q52, .ref q60, .ref q68, .ref q76, .null])), (q12, .inl (ty 0, 40, .inl (fun _ => 0))), (q20, .inl (ty 0, 40, .inl (fun _ => 0))), (q28, .inl (ty 0, 40, .inl (fun _ => 0))), (q36, .inl (ty 0, 40, .inl (fun _ => 0))), (q44, .inl (ty 0, 40, .inl (fun _ => 0))), (q52, .inl (ty 0, 40, .inl (fun _ => 0))), (q60, .inl (ty 0, 40, .inl (fun _ => 0))), (q68, .inl (ty 0, 40, .inl (fun _ => 0))), (q76, .inl (ty 0, 40, .inl (fun _ => 0)))] H := hP
  have hD : va_D A9 [(q, .inr (3, [.int (nI 0), .ref q12, .ref q20, .ref q28, .ref q36, .ref q44, .ref q52, .ref q60, .ref q68, .ref q76, .null])), (q12, .inl (ty 0, 40, .inl (fun _ => 0))), (q20, .inl (ty 0, 40, .inl (fun _ => 0))), (q28, .inl (ty 0, 40, .inl (fun _ => 0))), (q36, .inl (ty 0, 40, .inl (fun _ => 0))), (q44, .inl (ty 0, 40, .inl (fun _ => 0))), (q52, .inl (ty 0, 40, .inl (fun _ => 0))), (q60, .inl (ty 0, 40, .inl (fun _ => 0))), (q68, .inl (ty 0, 40, .inl (fun _ => 0))), (q76, .inl (ty 0, 40, .inl (fun _ => 0)))] := hD
  refine lv_aload_n hx hb dX3_init_81 rfl (lv_at hl 0 rfl) ?_
  refine lv_sipush (v := nI 240) hx hb dX3_init_82 (by decide) ?_
  refine va_newa (atype := .int) (ty := .int) (a0 := (240, .inl (fun _ => 0))) (N' := 240) hx hb (hts (.arrayClass .int) (by decide +kernel)) rfl hK hP hD hS hA (zaI _) (nI_n0' (by decide)) (nI_clamp (by decide)) (by decide) (Nat.le_of_ble_eq_true rfl) (Nat.le_of_ble_eq_true rfl) dX3_init_85 (fun q85 cA H hK9 hP hD hS => ?_)
  have e9 : cA = ty 0 := zRAi (hK9.2 2 _ rfl).2 (hK.2 0 _ rfl).2
  subst e9
  clear hK9
  have hP : va_P D vwCl [(q, .inr (3, [.int (nI 0), .ref q12, .ref q20, .ref q28, .ref q36, .ref q44, .ref q52, .ref q60, .ref q68, .ref q76, .null])), (q12, .inl (ty 0, 40, .inl (fun _ => 0))), (q20, .inl (ty 0, 40, .inl (fun _ => 0))), (q28, .inl (ty 0, 40, .inl (fun _ => 0))), (q36, .inl (ty 0, 40, .inl (fun _ => 0))), (q44, .inl (ty 0, 40, .inl (fun _ => 0))), (q52, .inl (ty 0, 40, .inl (fun _ => 0))), (q60, .inl (ty 0, 40, .inl (fun _ => 0))), (q68, .inl (ty 0, 40, .inl (fun _ => 0))), (q76, .inl (ty 0, 40, .inl (fun _ => 0))), (q85, .inl (ty 0, 240, .inl (fun _ => 0)))] H := hP
  have hD : va_D A9 [(q, .inr (3, [.int (nI 0), .ref q12, .ref q20, .ref q28, .ref q36, .ref q44, .ref q52, .ref q60, .ref q68, .ref q76, .null])), (q12, .inl (ty 0, 40, .inl (fun _ => 0))), (q20, .inl (ty 0, 40, .inl (fun _ => 0))), (q28, .inl (ty 0, 40, .inl (fun _ => 0))), (q36, .inl (ty 0, 40, .inl (fun _ => 0))), (q44, .inl (ty 0, 40, .inl (fun _ => 0))), (q52, .inl (ty 0, 40, .inl (fun _ => 0))), (q60, .inl (ty 0, 40, .inl (fun _ => 0))), (q68, .inl (ty 0, 40, .inl (fun _ => 0))), (q76, .inl (ty 0, 40, .inl (fun _ => 0))), (q85, .inl (ty 0, 240, .inl (fun _ => 0)))] := hD
  refine va_putF (D := D) (ci := 3) (v := .ref q85) (ty := .array .int) hx hb hts hinX3 tyX3 tyX3_ok nmX3 hown hK hP hD hS 0 rfl rfl 10 (by decide) (hk11) (fun _ h9 => h9) rfl hin9 rfl (by decide +kernel) rfl rfl (Nat.le_of_ble_eq_true rfl) dX3_init_87 (fun H locs hP hD hS => ?_)
  have hP : va_P D vwCl [(q, .inr (3, [.int (nI 0), .ref q12, .ref q20, .ref q28, .ref q36, .ref q44, .ref q52, .ref q60, .ref q68, .ref q76, .ref q85])), (q12, .inl (ty 0, 40, .inl (fun _ => 0))), (q20, .inl (ty 0, 40, .inl (fun _ => 0))), (q28, .inl (ty 0, 40, .inl (fun _ => 0))), (q36, .inl (ty 0, 40, .inl (fun _ => 0))), (q44, .inl (ty 0, 40, .inl (fun _ => 0))), (q52, .inl (ty 0, 40, .inl (fun _ => 0))), (q60, .inl (ty 0, 40, .inl (fun _ => 0))), (q68, .inl (ty 0, 40, .inl (fun _ => 0))), (q76, .inl (ty 0, 40, .inl (fun _ => 0))), (q85, .inl (ty 0, 240, .inl (fun _ => 0)))] H := hP
  have hD : va_D A9 [(q, .inr (3, [.int (nI 0), .ref q12, .ref q20, .ref q28, .ref q36, .ref q44, .ref q52, .ref q60, .ref q68, .ref q76, .ref q85])), (q12, .inl (ty 0, 40, .inl (fun _ => 0))), (q20, .inl (ty 0, 40, .inl (fun _ => 0))), (q28, .inl (ty 0, 40, .inl (fun _ => 0))), (q36, .inl (ty 0, 40, .inl (fun _ => 0))), (q44, .inl (ty 0, 40, .inl (fun _ => 0))), (q52, .inl (ty 0, 40, .inl (fun _ => 0))), (q60, .inl (ty 0, 40, .inl (fun _ => 0))), (q68, .inl (ty 0, 40, .inl (fun _ => 0))), (q76, .inl (ty 0, 40, .inl (fun _ => 0))), (q85, .inl (ty 0, 240, .inl (fun _ => 0)))] := hD
  exact W.vret hx hb hr (fun t ht hW => ⟨⟨fun k => ([q12, q20, q28, q36, q44, q52, q60, q68, q76, q85] : List Nat).getD k 0, rfl, trivial, by rw [ht]; exact hP, hD⟩, hS.F ht⟩) hS.2.2 dX3_init_90
set_option maxHeartbeats 4000000 in
set_option maxRecDepth 100000 in
theorem c_X4_init (l : Launch) (D : va_G) (ty : Nat → ClassId) (q sz : Nat) : Met l yX4_init wsX4_init ({ frames := 1, cells := 5, slots := 160, locals := 20 }) (va_Pc [.ref q] (wI D ty [(q, .inr (4, [.int 0, .null, .null, .null, .null, .null]))] (fun _ => True) sz)) (va_Qv (fun _ : Nat → Nat => True) (fun as t => va_P D vwCl [(q, .inr (4, [.int (nI 0), .ref (as 0), .ref (as 1), .ref (as 2), .ref (as 3), .ref (as 4)])), ((as 0), .inl (ty 0, 8, .inl (fun _ => 0))), ((as 1), .inl (ty 0, 8, .inl (fun _ => 0))), ((as 2), .inl (ty 0, 48, .inl (fun _ => 0))), ((as 3), .inl (ty 0, 48, .inl (fun _ => 0))), ((as 4), .inl (ty 0, 48, .inl (fun _ => 0)))] t.heap ∧ va_D (va_A [(q, .inr (4, [.int 0, .null, .null, .null, .null, .null]))] sz) [(q, .inr (4, [.int (nI 0), .ref (as 0), .ref (as 1), .ref (as 2), .ref (as 3), .ref (as 4)])), ((as 0), .inl (ty 0, 8, .inl (fun _ => 0))), ((as 1), .inl (ty 0, 8, .inl (fun _ => 0))), ((as 2), .inl (ty 0, 48, .inl (fun _ => 0))), ((as 3), .inl (ty 0, 48, .inl (fun _ => 0))), ((as 4), .inl (ty 0, 48, .inl (fun _ => 0)))]) (va_A [(q, .inr (4, [.int 0, .null, .null, .null, .null, .null]))] sz)) 5 160 (va_A [(q, .inr (4, [.int 0, .null, .null, .null, .null, .null]))] sz) := by
  refine zMetI (cc := cX4_init) (maxL := 1) (ret := none) (by decide) rfl (Nat.le_of_ble_eq_true rfl) ?_
  intro p e s m below meth c hx hb hr hts hown hlocks hml hB hin9 ls hl
  obtain ⟨hP, hD0, hK, hN, hsz⟩ := hB
  subst hsz
  have hD := hD0.self (sz := s.heap.size)
  generalize hAe : va_A [(q, .inr (4, [.int 0, .null, .null, .null, .null, .null]))] s.heap.size = A9 at hD ⊢
  have hA : ∀ q : Nat, s.heap.size ≤ q → A9 q := fun q h => by rw [← hAe]; exact Or.inr h
  have hS : va_S A9 s.heap s.heap [] := va_S.rf
  have hl : lv_has ls 1 [(0, .ref q)] := hl
  have hk0 := hts (.fieldLink RX4 9 "DatamarketDesk$Shelf" "setCount" "I") (by decide +kernel)
  have hinX4 : ∀ w ∈ wsX40, w ∈ wsX4_init := by decide +kernel
  have hk2 := hts (.fieldLink RX4 15 "DatamarketDesk$Shelf" "fields" "[I") (by decide +kernel)
  have hk3 := hts (.fieldLink RX4 19 "DatamarketDesk$Shelf" "versions" "[I") (by decide +kernel)
  have hk4 := hts (.fieldLink RX4 22 "DatamarketDesk$Shelf" "rows" "[I") (by decide +kernel)
  have hk5 := hts (.fieldLink RX4 25 "DatamarketDesk$Shelf" "prices" "[I") (by decide +kernel)
  have hk6 := hts (.fieldLink RX4 28 "DatamarketDesk$Shelf" "rules" "[I") (by decide +kernel)
  refine lv_aload_n hx hb dX4_init_0 rfl (lv_at hl 0 rfl) ?_
  refine W.objInit hx hb hown (hts (.methodLink RX4 3 objectInit) (by decide +kernel)) (hts (.instanceMethod objectInit) (by decide +kernel)) (hts _ (List.mem_cons_of_mem _ (List.mem_append_left _ (List.mem_of_getElem? (i := 2) rfl)))) rfl (by rw [hml]; exact hl.1) rfl dX4_init_1 (Nat.le_of_ble_eq_true rfl) (Nat.le_of_ble_eq_true rfl) ?_
  refine W.eq (g2 := F0 m 4 ls []) rfl ?_
  refine lv_aload_n hx hb dX4_init_4 rfl (lv_at hl 0 rfl) ?_
  refine lv_iconst (v := nI 0) hx hb dX4_init_5 (by decide) ?_
  refine va_put (D := D) (ci := 4) (v := .int (nI 0)) (ty := .int) hx hb hts hinX4 tyX4 tyX4_ok nmX4 hown hK hP hD hS 0 rfl rfl 0 (by decide) (hk0) (fun _ h9 => h9) rfl (by decide +kernel) rfl rfl (Nat.le_of_ble_eq_true rfl) dX4_init_6 (fun H locs hP hD hS => ?_)
  have hP : va_P D vwCl [(q, .inr (4, [.int (nI 0), .null, .null, .null, .null, .null]))] H := hP
  have hD : va_D A9 [(q, .inr (4, [.int (nI 0), .null, .null, .null, .null, .null]))] := hD
  refine lv_aload_n hx hb dX4_init_9 rfl (lv_at hl 0 rfl) ?_
  refine lv_bipush (v := nI 8) hx hb dX4_init_10 (by decide) ?_
  refine va_newa (atype := .int) (ty := .int) (a0 := (8, .inl (fun _ => 0))) (N' := 8) hx hb (hts (.arrayClass .int) (by decide +kernel)) rfl hK hP hD hS hA (zaI _) (nI_n0' (by decide)) (nI_clamp (by decide)) (by decide) (Nat.le_of_ble_eq_true rfl) (Nat.le_of_ble_eq_true rfl) dX4_init_12 (fun q12 cA H hK9 hP hD hS => ?_)
  have e9 : cA = ty 0 := zRAi (hK9.2 2 _ rfl).2 (hK.2 0 _ rfl).2
  subst e9
  clear hK9
  have hP : va_P D vwCl [(q, .inr (4, [.int (nI 0), .null, .null, .null, .null, .null])), (q12, .inl (ty 0, 8, .inl (fun _ => 0)))] H := hP
  have hD : va_D A9 [(q, .inr (4, [.int (nI 0), .null, .null, .null, .null, .null])), (q12, .inl (ty 0, 8, .inl (fun _ => 0)))] := hD
  refine va_putF (D := D) (ci := 4) (v := .ref q12) (ty := .array .int) hx hb hts hinX4 tyX4 tyX4_ok nmX4 hown hK hP hD hS 0 rfl rfl 1 (by decide) (hk2) (fun _ h9 => h9) rfl hin9 rfl (by decide +kernel) rfl rfl (Nat.le_of_ble_eq_true rfl) dX4_init_14 (fun H locs hP hD hS => ?_)
  have hP : va_P D vwCl [(q, .inr (4, [.int (nI 0), .ref q12, .null, .null, .null, .null])), (q12, .inl (ty 0, 8, .inl (fun _ => 0)))] H := hP
  have hD : va_D A9 [(q, .inr (4, [.int (nI 0), .ref q12, .null, .null, .null, .null])), (q12, .inl (ty 0, 8, .inl (fun _ => 0)))] := hD
  refine lv_aload_n hx hb dX4_init_17 rfl (lv_at hl 0 rfl) ?_
  refine lv_bipush (v := nI 8) hx hb dX4_init_18 (by decide) ?_
  refine va_newa (atype := .int) (ty := .int) (a0 := (8, .inl (fun _ => 0))) (N' := 8) hx hb (hts (.arrayClass .int) (by decide +kernel)) rfl hK hP hD hS hA (zaI _) (nI_n0' (by decide)) (nI_clamp (by decide)) (by decide) (Nat.le_of_ble_eq_true rfl) (Nat.le_of_ble_eq_true rfl) dX4_init_20 (fun q20 cA H hK9 hP hD hS => ?_)
  have e9 : cA = ty 0 := zRAi (hK9.2 2 _ rfl).2 (hK.2 0 _ rfl).2
  subst e9
  clear hK9
  have hP : va_P D vwCl [(q, .inr (4, [.int (nI 0), .ref q12, .null, .null, .null, .null])), (q12, .inl (ty 0, 8, .inl (fun _ => 0))), (q20, .inl (ty 0, 8, .inl (fun _ => 0)))] H := hP
  have hD : va_D A9 [(q, .inr (4, [.int (nI 0), .ref q12, .null, .null, .null, .null])), (q12, .inl (ty 0, 8, .inl (fun _ => 0))), (q20, .inl (ty 0, 8, .inl (fun _ => 0)))] := hD
  refine va_putF (D := D) (ci := 4) (v := .ref q20) (ty := .array .int) hx hb hts hinX4 tyX4 tyX4_ok nmX4 hown hK hP hD hS 0 rfl rfl 2 (by decide) (hk3) (fun _ h9 => h9) rfl hin9 rfl (by decide +kernel) rfl rfl (Nat.le_of_ble_eq_true rfl) dX4_init_22 (fun H locs hP hD hS => ?_)
  have hP : va_P D vwCl [(q, .inr (4, [.int (nI 0), .ref q12, .ref q20, .null, .null, .null])), (q12, .inl (ty 0, 8, .inl (fun _ => 0))), (q20, .inl (ty 0, 8, .inl (fun _ => 0)))] H := hP
  have hD : va_D A9 [(q, .inr (4, [.int (nI 0), .ref q12, .ref q20, .null, .null, .null])), (q12, .inl (ty 0, 8, .inl (fun _ => 0))), (q20, .inl (ty 0, 8, .inl (fun _ => 0)))] := hD
  refine lv_aload_n hx hb dX4_init_25 rfl (lv_at hl 0 rfl) ?_
  refine lv_bipush (v := nI 48) hx hb dX4_init_26 (by decide) ?_
  refine va_newa (atype := .int) (ty := .int) (a0 := (48, .inl (fun _ => 0))) (N' := 48) hx hb (hts (.arrayClass .int) (by decide +kernel)) rfl hK hP hD hS hA (zaI _) (nI_n0' (by decide)) (nI_clamp (by decide)) (by decide) (Nat.le_of_ble_eq_true rfl) (Nat.le_of_ble_eq_true rfl) dX4_init_28 (fun q28 cA H hK9 hP hD hS => ?_)
  have e9 : cA = ty 0 := zRAi (hK9.2 2 _ rfl).2 (hK.2 0 _ rfl).2
  subst e9
  clear hK9
  have hP : va_P D vwCl [(q, .inr (4, [.int (nI 0), .ref q12, .ref q20, .null, .null, .null])), (q12, .inl (ty 0, 8, .inl (fun _ => 0))), (q20, .inl (ty 0, 8, .inl (fun _ => 0))), (q28, .inl (ty 0, 48, .inl (fun _ => 0)))] H := hP
  have hD : va_D A9 [(q, .inr (4, [.int (nI 0), .ref q12, .ref q20, .null, .null, .null])), (q12, .inl (ty 0, 8, .inl (fun _ => 0))), (q20, .inl (ty 0, 8, .inl (fun _ => 0))), (q28, .inl (ty 0, 48, .inl (fun _ => 0)))] := hD
  refine va_putF (D := D) (ci := 4) (v := .ref q28) (ty := .array .int) hx hb hts hinX4 tyX4 tyX4_ok nmX4 hown hK hP hD hS 0 rfl rfl 3 (by decide) (hk4) (fun _ h9 => h9) rfl hin9 rfl (by decide +kernel) rfl rfl (Nat.le_of_ble_eq_true rfl) dX4_init_30 (fun H locs hP hD hS => ?_)
  have hP : va_P D vwCl [(q, .inr (4, [.int (nI 0), .ref q12, .ref q20, .ref q28, .null, .null])), (q12, .inl (ty 0, 8, .inl (fun _ => 0))), (q20, .inl (ty 0, 8, .inl (fun _ => 0))), (q28, .inl (ty 0, 48, .inl (fun _ => 0)))] H := hP
  have hD : va_D A9 [(q, .inr (4, [.int (nI 0), .ref q12, .ref q20, .ref q28, .null, .null])), (q12, .inl (ty 0, 8, .inl (fun _ => 0))), (q20, .inl (ty 0, 8, .inl (fun _ => 0))), (q28, .inl (ty 0, 48, .inl (fun _ => 0)))] := hD
  refine lv_aload_n hx hb dX4_init_33 rfl (lv_at hl 0 rfl) ?_
  refine lv_bipush (v := nI 48) hx hb dX4_init_34 (by decide) ?_
  refine va_newa (atype := .int) (ty := .int) (a0 := (48, .inl (fun _ => 0))) (N' := 48) hx hb (hts (.arrayClass .int) (by decide +kernel)) rfl hK hP hD hS hA (zaI _) (nI_n0' (by decide)) (nI_clamp (by decide)) (by decide) (Nat.le_of_ble_eq_true rfl) (Nat.le_of_ble_eq_true rfl) dX4_init_36 (fun q36 cA H hK9 hP hD hS => ?_)
  have e9 : cA = ty 0 := zRAi (hK9.2 2 _ rfl).2 (hK.2 0 _ rfl).2
  subst e9
  clear hK9
  have hP : va_P D vwCl [(q, .inr (4, [.int (nI 0), .ref q12, .ref q20, .ref q28, .null, .null])), (q12, .inl (ty 0, 8, .inl (fun _ => 0))), (q20, .inl (ty 0, 8, .inl (fun _ => 0))), (q28, .inl (ty 0, 48, .inl (fun _ => 0))), (q36, .inl (ty 0, 48, .inl (fun _ => 0)))] H := hP
  have hD : va_D A9 [(q, .inr (4, [.int (nI 0), .ref q12, .ref q20, .ref q28, .null, .null])), (q12, .inl (ty 0, 8, .inl (fun _ => 0))), (q20, .inl (ty 0, 8, .inl (fun _ => 0))), (q28, .inl (ty 0, 48, .inl (fun _ => 0))), (q36, .inl (ty 0, 48, .inl (fun _ => 0)))] := hD
  refine va_putF (D := D) (ci := 4) (v := .ref q36) (ty := .array .int) hx hb hts hinX4 tyX4 tyX4_ok nmX4 hown hK hP hD hS 0 rfl rfl 4 (by decide) (hk5) (fun _ h9 => h9) rfl hin9 rfl (by decide +kernel) rfl rfl (Nat.le_of_ble_eq_true rfl) dX4_init_38 (fun H locs hP hD hS => ?_)
  have hP : va_P D vwCl [(q, .inr (4, [.int (nI 0), .ref q12, .ref q20, .ref q28, .ref q36, .null])), (q12, .inl (ty 0, 8, .inl (fun _ => 0))), (q20, .inl (ty 0, 8, .inl (fun _ => 0))), (q28, .inl (ty 0, 48, .inl (fun _ => 0))), (q36, .inl (ty 0, 48, .inl (fun _ => 0)))] H := hP
  have hD : va_D A9 [(q, .inr (4, [.int (nI 0), .ref q12, .ref q20, .ref q28, .ref q36, .null])), (q12, .inl (ty 0, 8, .inl (fun _ => 0))), (q20, .inl (ty 0, 8, .inl (fun _ => 0))), (q28, .inl (ty 0, 48, .inl (fun _ => 0))), (q36, .inl (ty 0, 48, .inl (fun _ => 0)))] := hD
  refine lv_aload_n hx hb dX4_init_41 rfl (lv_at hl 0 rfl) ?_
  refine lv_bipush (v := nI 48) hx hb dX4_init_42 (by decide) ?_
  refine va_newa (atype := .int) (ty := .int) (a0 := (48, .inl (fun _ => 0))) (N' := 48) hx hb (hts (.arrayClass .int) (by decide +kernel)) rfl hK hP hD hS hA (zaI _) (nI_n0' (by decide)) (nI_clamp (by decide)) (by decide) (Nat.le_of_ble_eq_true rfl) (Nat.le_of_ble_eq_true rfl) dX4_init_44 (fun q44 cA H hK9 hP hD hS => ?_)
  have e9 : cA = ty 0 := zRAi (hK9.2 2 _ rfl).2 (hK.2 0 _ rfl).2
  subst e9
  clear hK9
  have hP : va_P D vwCl [(q, .inr (4, [.int (nI 0), .ref q12, .ref q20, .ref q28, .ref q36, .null])), (q12, .inl (ty 0, 8, .inl (fun _ => 0))), (q20, .inl (ty 0, 8, .inl (fun _ => 0))), (q28, .inl (ty 0, 48, .inl (fun _ => 0))), (q36, .inl (ty 0, 48, .inl (fun _ => 0))), (q44, .inl (ty 0, 48, .inl (fun _ => 0)))] H := hP
  have hD : va_D A9 [(q, .inr (4, [.int (nI 0), .ref q12, .ref q20, .ref q28, .ref q36, .null])), (q12, .inl (ty 0, 8, .inl (fun _ => 0))), (q20, .inl (ty 0, 8, .inl (fun _ => 0))), (q28, .inl (ty 0, 48, .inl (fun _ => 0))), (q36, .inl (ty 0, 48, .inl (fun _ => 0))), (q44, .inl (ty 0, 48, .inl (fun _ => 0)))] := hD
  refine va_putF (D := D) (ci := 4) (v := .ref q44) (ty := .array .int) hx hb hts hinX4 tyX4 tyX4_ok nmX4 hown hK hP hD hS 0 rfl rfl 5 (by decide) (hk6) (fun _ h9 => h9) rfl hin9 rfl (by decide +kernel) rfl rfl (Nat.le_of_ble_eq_true rfl) dX4_init_46 (fun H locs hP hD hS => ?_)
  have hP : va_P D vwCl [(q, .inr (4, [.int (nI 0), .ref q12, .ref q20, .ref q28, .ref q36, .ref q44])), (q12, .inl (ty 0, 8, .inl (fun _ => 0))), (q20, .inl (ty 0, 8, .inl (fun _ => 0))), (q28, .inl (ty 0, 48, .inl (fun _ => 0))), (q36, .inl (ty 0, 48, .inl (fun _ => 0))), (q44, .inl (ty 0, 48, .inl (fun _ => 0)))] H := hP
  have hD : va_D A9 [(q, .inr (4, [.int (nI 0), .ref q12, .ref q20, .ref q28, .ref q36, .ref q44])), (q12, .inl (ty 0, 8, .inl (fun _ => 0))), (q20, .inl (ty 0, 8, .inl (fun _ => 0))), (q28, .inl (ty 0, 48, .inl (fun _ => 0))), (q36, .inl (ty 0, 48, .inl (fun _ => 0))), (q44, .inl (ty 0, 48, .inl (fun _ => 0)))] := hD
  exact W.vret hx hb hr (fun t ht hW => ⟨⟨fun k => ([q12, q20, q28, q36, q44] : List Nat).getD k 0, rfl, trivial, by rw [ht]; exact hP, hD⟩, hS.F ht⟩) hS.2.2 dX4_init_49
