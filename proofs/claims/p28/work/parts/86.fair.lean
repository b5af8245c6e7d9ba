theorem lgc0 (x : Int64) : lg_cmp x x = nI 0 := by rw [nI_0]; simp [lg_cmp]
set_option maxHeartbeats 4000000 in
set_option maxRecDepth 100000 in
theorem c_L_isFair (l : Launch) (D : va_G) (ty : Nat → ClassId) (g : Nat → Nat → Int32) (ad : Nat → Nat) (n n4 n5 : Nat) (hp : pI g n n4 n5) : Met l yL_isFair wsL_isFair ({ frames := 7, cells := 0, slots := 0, locals := 173 }) (va_Pc [.ref (ad 0), .int (nI n)] (zI D ty g ad)) (vp_Si (fun v => v = nI 1)) 0 0 (fun _ => False) := by
  refine zMet (cc := cL_isFair) (maxL := 11) (ret := (some .boolean)) (by decide) rfl (Nat.le_of_ble_eq_true rfl) ?_
  intro p e s m below meth c hx hb hr hts hown hlocks hml hB ls hl
  obtain ⟨hP, hK, hN⟩ := hB
  have hn2 := hp.n2
  have hn5 := hp.n5b
  have h4b := hp.b4
  have h5b := hp.b5
  have hb1 := hp.chb n5 (Nat.le_refl _)
  have hb2 := hp.CRb
  have hl : lv_has ls 11 [(0, .ref (ad 0)), (1, .int (nI n))] := hl
  refine lv_aload_n hx hb dL_isFair_0 rfl (lv_at hl 0 rfl) ?_
  refine zcVl (As := []) (rest := []) ⟨hx, hb, hml, hown, hts⟩ (c_X5_digest l D ty g ad n (n - 1) (n - 1) n4 n5 hp.d) (cwV 0 hts gL_isFair_X5_digest rfl rfl rfl (by decide +kernel) ⟨Nat.le_of_ble_eq_true rfl, Nat.le_of_ble_eq_true rfl⟩) zI_blind (zI_pre hP hK hN) (va_recv hK hP (ci := 5) (q0 := 0) rfl rfl) rfl hl.1 rfl (Nat.le_of_ble_eq_true rfl) dL_isFair_1 ⟨Nat.le_of_ble_eq_true rfl, Nat.le_of_ble_eq_true rfl⟩ (fun r_1 hr_1 => ?_)
  subst hr_1
  refine lv_lstore_n (lv' := [(2, .long (digN g n n4 n5)), (0, .ref (ad 0)), (1, .int (nI n))]) hx hb dL_isFair_4 rfl hl (by decide) rfl (fun ls hl => ?_)
  refine lv_iconst (v := nI 0) hx hb dL_isFair_5 (by decide) ?_
  refine lv_istore (lv' := [(4, .int (nI 0)), (2, .long (digN g n n4 n5)), (0, .ref (ad 0)), (1, .int (nI n))]) hx hb dL_isFair_6 hl (by decide) rfl (fun ls hl => ?_)
  refine zloopP (τ := Unit) (fun i _ ls => lv_has ls 11 [(4, .int (nI i)), (0, .ref (ad 0)), (1, .int (nI n)), (2, .long (digN g n n4 n5))]) n ?_ 0 () ls (Nat.zero_le _) (lv_sub hl [0, 2, 3, 1] rfl)
  intro i _ ls hi_i hl ih_i
  have hl : lv_has ls 11 [(4, .int (nI i)), (0, .ref (ad 0)), (1, .int (nI n)), (2, .long (digN g n n4 n5))] := hl
  refine lv_iload hx hb dL_isFair_8 (lv_at hl 0 rfl) ?_
  refine lv_iload_n hx hb dL_isFair_10 rfl (lv_at hl 2 rfl) ?_
  refine lv_icmp_ge (tgt := 92) hx hb dL_isFair_11 (by decide) (fun c_2 => ?_) (fun c_2 => ?_)
  · have c_2 := zn_geT (a := i) (b := n) (by omega) (by omega) c_2
    refine lv_iconst (v := nI 0) hx hb dL_isFair_92 (by decide) ?_
    refine lv_istore (lv' := [(4, .int (nI 0)), (0, .ref (ad 0)), (1, .int (nI n)), (2, .long (digN g n n4 n5))]) hx hb dL_isFair_93 hl (by decide) rfl (fun ls hl => ?_)
    refine lv_iconst (v := nI 0) hx hb dL_isFair_95 (by decide) ?_
    refine lv_istore (lv' := [(5, .int (nI 0)), (4, .int (nI 0)), (0, .ref (ad 0)), (1, .int (nI n)), (2, .long (digN g n n4 n5))]) hx hb dL_isFair_96 hl (by decide) rfl (fun ls hl => ?_)
    refine lv_iconst (v := nI 0) hx hb dL_isFair_98 (by decide) ?_
    refine lv_istore (lv' := [(6, .int (nI 0)), (5, .int (nI 0)), (4, .int (nI 0)), (0, .ref (ad 0)), (1, .int (nI n)), (2, .long (digN g n n4 n5))]) hx hb dL_isFair_99 hl (by decide) rfl (fun ls hl => ?_)
    refine zloopP (τ := Unit) (fun k _ ls => lv_has ls 11 [(4, .int (nI (nS (chX g) k))), (5, .int (nI (CR g (hmN g n) k))), (6, .int (nI k)), (0, .ref (ad 0)), (1, .int (nI n)), (2, .long (digN g n n4 n5))]) n5 ?_ 0 () ls (Nat.zero_le _) (lv_sub hl [2, 1, 0, 3, 4, 5] rfl)
    intro k _ ls hi_k hl ih_k
    have hl : lv_has ls 11 [(4, .int (nI (nS (chX g) k))), (5, .int (nI (CR g (hmN g n) k))), (6, .int (nI k)), (0, .ref (ad 0)), (1, .int (nI n)), (2, .long (digN g n n4 n5))] := hl
    refine lv_iload hx hb dL_isFair_101 (lv_at hl 2 rfl) ?_
    refine lv_aload_n hx hb dL_isFair_103 rfl (lv_at hl 3 rfl) ?_
    refine lv_iconst (v := nI 4) hx hb dL_isFair_104 (by decide) ?_
    refine zcVi (As := [.int (nI 4)]) (rest := [.int (nI k)]) ⟨hx, hb, hml, hown, hts⟩ (c_X5_many l D ty g ad n (n - 1) (n - 1) n4 n5 hp.d 4 (by decide)) (cwV 1 hts gL_isFair_X5_many rfl rfl rfl (by decide +kernel) ⟨Nat.le_of_ble_eq_true rfl, Nat.le_of_ble_eq_true rfl⟩) zI_blind (zI_pre hP hK hN) (va_recv hK hP (ci := 5) (q0 := 0) rfl rfl) rfl hl.1 rfl (Nat.le_of_ble_eq_true rfl) dL_isFair_105 ⟨Nat.le_of_ble_eq_true rfl, Nat.le_of_ble_eq_true rfl⟩ (fun r_3 hr_3 => ?_)
    subst hr_3
    refine zeq (show manyN g n n5 4 = nI n5 from hp.e5) ?_
    refine lv_icmp_ge (tgt := 291) hx hb dL_isFair_108 (by decide) (fun c_4 => ?_) (fun c_4 => ?_)
    · have c_4 := zn_geT (a := k) (b := n5) (by omega) (by omega) c_4
      obtain rfl : n5 = k := by omega
      refine lv_iconst (v := nI 0) hx hb dL_isFair_291 (by decide) ?_
      refine lv_istore (lv' := [(6, .int (nI 0)), (4, .int (nI (nS (chX g) n5))), (5, .int (nI (CR g (hmN g n) n5))), (0, .ref (ad 0)), (1, .int (nI n)), (2, .long (digN g n n4 n5))]) hx hb dL_isFair_292 hl (by decide) rfl (fun ls hl => ?_)
      refine lv_iconst (v := nI 0) hx hb dL_isFair_294 (by decide) ?_
      refine lv_istore (lv' := [(7, .int (nI 0)), (6, .int (nI 0)), (4, .int (nI (nS (chX g) n5))), (5, .int (nI (CR g (hmN g n) n5))), (0, .ref (ad 0)), (1, .int (nI n)), (2, .long (digN g n n4 n5))]) hx hb dL_isFair_295 hl (by decide) rfl (fun ls hl => ?_)
      refine zloopP (τ := Unit) (fun R _ ls => lv_has ls 11 [(6, .int (sumN (fun z9 => sumN (fBil g (nI z9)) n5) R)), (7, .int (nI R)), (4, .int (nI (nS (chX g) n5))), (5, .int (nI (CR g (hmN g n) n5))), (0, .ref (ad 0)), (1, .int (nI n)), (2, .long (digN g n n4 n5))]) 6 ?_ 0 () ls (Nat.zero_le _) (lv_sub hl [1, 0, 2, 3, 4, 5, 6] rfl)
      intro R _ ls hi_R hl ih_R
      have hl : lv_has ls 11 [(6, .int (sumN (fun z9 => sumN (fBil g (nI z9)) n5) R)), (7, .int (nI R)), (4, .int (nI (nS (chX g) n5))), (5, .int (nI (CR g (hmN g n) n5))), (0, .ref (ad 0)), (1, .int (nI n)), (2, .long (digN g n n4 n5))] := hl
      refine lv_iload hx hb dL_isFair_297 (lv_at hl 1 rfl) ?_
      refine lv_bipush (v := nI 6) hx hb dL_isFair_299 (by decide) ?_
      refine lv_icmp_ge (tgt := 322) hx hb dL_isFair_301 (by decide) (fun c_5 => ?_) (fun c_5 => ?_)
      · have c_5 := zn_geT (a := R) (b := 6) (by omega) (by omega) c_5
        obtain rfl : R = 6 := by omega
        refine lv_iconst (v := nI 0) hx hb dL_isFair_322 (by decide) ?_
        refine lv_istore (lv' := [(7, .int (nI 0)), (6, .int (sumN (fun z9 => sumN (fBil g (nI z9)) n5) 6)), (4, .int (nI (nS (chX g) n5))), (5, .int (nI (CR g (hmN g n) n5))), (0, .ref (ad 0)), (1, .int (nI n)), (2, .long (digN g n n4 n5))]) hx hb dL_isFair_323 hl (by decide) rfl (fun ls hl => ?_)
        refine zloopP (τ := Unit) (fun c9 _ ls => lv_has ls 11 [(7, .int (nI c9)), (6, .int (sumN (fun z9 => sumN (fBil g (nI z9)) n5) 6)), (4, .int (nI (nS (chX g) n5))), (5, .int (nI (CR g (hmN g n) n5))), (0, .ref (ad 0)), (1, .int (nI n)), (2, .long (digN g n n4 n5))]) n4 ?_ 0 () ls (Nat.zero_le _) (lv_sub hl [0, 1, 2, 3, 4, 5, 6] rfl)
        intro c9 _ ls hi_c9 hl ih_c9
        have hl : lv_has ls 11 [(7, .int (nI c9)), (6, .int (sumN (fun z9 => sumN (fBil g (nI z9)) n5) 6)), (4, .int (nI (nS (chX g) n5))), (5, .int (nI (CR g (hmN g n) n5))), (0, .ref (ad 0)), (1, .int (nI n)), (2, .long (digN g n n4 n5))] := hl
        refine lv_iload hx hb dL_isFair_325 (lv_at hl 0 rfl) ?_
        refine lv_aload_n hx hb dL_isFair_327 rfl (lv_at hl 4 rfl) ?_
        refine lv_iconst (v := nI 3) hx hb dL_isFair_328 (by decide) ?_
        refine zcVi (As := [.int (nI 3)]) (rest := [.int (nI c9)]) ⟨hx, hb, hml, hown, hts⟩ (c_X5_many l D ty g ad n (n - 1) (n - 1) n4 n5 hp.d 3 (by decide)) (cwV 1 hts gL_isFair_X5_many rfl rfl rfl (by decide +kernel) ⟨Nat.le_of_ble_eq_true rfl, Nat.le_of_ble_eq_true rfl⟩) zI_blind (zI_pre hP hK hN) (va_recv hK hP (ci := 5) (q0 := 0) rfl rfl) rfl hl.1 rfl (Nat.le_of_ble_eq_true rfl) dL_isFair_329 ⟨Nat.le_of_ble_eq_true rfl, Nat.le_of_ble_eq_true rfl⟩ (fun r_6 hr_6 => ?_)
        subst hr_6
        refine zeq (show manyN g n n5 3 = nI n4 from hp.e4) ?_
        refine lv_icmp_ge (tgt := 357) hx hb dL_isFair_332 (by decide) (fun c_7 => ?_) (fun c_7 => ?_)
        · have c_7 := zn_geT (a := c9) (b := n4) (by omega) (by omega) c_7
          refine lv_aload_n hx hb dL_isFair_357 rfl (lv_at hl 4 rfl) ?_
          refine lv_iconst (v := nI 5) hx hb dL_isFair_358 (by decide) ?_
          refine zcVi (As := [.int (nI 5)]) (rest := []) ⟨hx, hb, hml, hown, hts⟩ (c_X5_many l D ty g ad n (n - 1) (n - 1) n4 n5 hp.d 5 (by decide)) (cwV 1 hts gL_isFair_X5_many rfl rfl rfl (by decide +kernel) ⟨Nat.le_of_ble_eq_true rfl, Nat.le_of_ble_eq_true rfl⟩) zI_blind (zI_pre hP hK hN) (va_recv hK hP (ci := 5) (q0 := 0) rfl rfl) rfl hl.1 rfl (Nat.le_of_ble_eq_true rfl) dL_isFair_359 ⟨Nat.le_of_ble_eq_true rfl, Nat.le_of_ble_eq_true rfl⟩ (fun r_8 hr_8 => ?_)
          subst hr_8
          refine zeq (show manyN g n n5 5 = nI (nS (chX g) n5) from hp.m5) ?_
          refine lv_iload hx hb dL_isFair_362 (lv_at hl 2 rfl) ?_
          refine lv_icmp_ne (tgt := 402) hx hb dL_isFair_364 (by decide) (fun c_9 => ?_) (fun c_9 => ?_)
          · have c_9 := zn_neT (a := (nS (chX g) n5)) (b := (nS (chX g) n5)) (by omega) (by omega) c_9
            omega
          · have c_9 := zn_neF (a := (nS (chX g) n5)) (b := (nS (chX g) n5)) (by omega) (by omega) c_9
            refine lv_aload_n hx hb dL_isFair_367 rfl (lv_at hl 4 rfl) ?_
            refine lv_bipush (v := nI 6) hx hb dL_isFair_368 (by decide) ?_
            refine zcVi (As := [.int (nI 6)]) (rest := []) ⟨hx, hb, hml, hown, hts⟩ (c_X5_many l D ty g ad n (n - 1) (n - 1) n4 n5 hp.d 6 (by decide)) (cwV 1 hts gL_isFair_X5_many rfl rfl rfl (by decide +kernel) ⟨Nat.le_of_ble_eq_true rfl, Nat.le_of_ble_eq_true rfl⟩) zI_blind (zI_pre hP hK hN) (va_recv hK hP (ci := 5) (q0 := 0) rfl rfl) rfl hl.1 rfl (Nat.le_of_ble_eq_true rfl) dL_isFair_370 ⟨Nat.le_of_ble_eq_true rfl, Nat.le_of_ble_eq_true rfl⟩ (fun r_10 hr_10 => ?_)
            subst hr_10
            refine zeq (show manyN g n n5 6 = nI (CR g (hmN g n) n5) from hp.m6) ?_
            refine lv_iload hx hb dL_isFair_373 (lv_at hl 3 rfl) ?_
            refine lv_icmp_ne (tgt := 402) hx hb dL_isFair_375 (by decide) (fun c_11 => ?_) (fun c_11 => ?_)
            · have c_11 := zn_neT (a := (CR g (hmN g n) n5)) (b := (CR g (hmN g n) n5)) (by omega) (by omega) c_11
              omega
            · have c_11 := zn_neF (a := (CR g (hmN g n) n5)) (b := (CR g (hmN g n) n5)) (by omega) (by omega) c_11
              refine lv_aload_n hx hb dL_isFair_378 rfl (lv_at hl 4 rfl) ?_
              refine lv_bipush (v := nI 7) hx hb dL_isFair_379 (by decide) ?_
              refine zcVi (As := [.int (nI 7)]) (rest := []) ⟨hx, hb, hml, hown, hts⟩ (c_X5_many l D ty g ad n (n - 1) (n - 1) n4 n5 hp.d 7 (by decide)) (cwV 1 hts gL_isFair_X5_many rfl rfl rfl (by decide +kernel) ⟨Nat.le_of_ble_eq_true rfl, Nat.le_of_ble_eq_true rfl⟩) zI_blind (zI_pre hP hK hN) (va_recv hK hP (ci := 5) (q0 := 0) rfl rfl) rfl hl.1 rfl (Nat.le_of_ble_eq_true rfl) dL_isFair_381 ⟨Nat.le_of_ble_eq_true rfl, Nat.le_of_ble_eq_true rfl⟩ (fun r_12 hr_12 => ?_)
              subst hr_12
              refine zeq (show manyN g n n5 7 = sumN (fun z9 => sumN (fBil g (nI z9)) n5) 6 from bil_sum hp) ?_
              refine lv_iload hx hb dL_isFair_384 (lv_at hl 1 rfl) ?_
              refine lv_icmp_ne (tgt := 402) hx hb dL_isFair_386 (by decide) (fun c_13 => ?_) (fun c_13 => ?_)
              · exact absurd rfl c_13
              · refine lv_aload_n hx hb dL_isFair_389 rfl (lv_at hl 4 rfl) ?_
                refine zcVl (As := []) (rest := []) ⟨hx, hb, hml, hown, hts⟩ (c_X5_digest l D ty g ad n (n - 1) (n - 1) n4 n5 hp.d) (cwV 0 hts gL_isFair_X5_digest rfl rfl rfl (by decide +kernel) ⟨Nat.le_of_ble_eq_true rfl, Nat.le_of_ble_eq_true rfl⟩) zI_blind (zI_pre hP hK hN) (va_recv hK hP (ci := 5) (q0 := 0) rfl rfl) rfl hl.1 rfl (Nat.le_of_ble_eq_true rfl) dL_isFair_390 ⟨Nat.le_of_ble_eq_true rfl, Nat.le_of_ble_eq_true rfl⟩ (fun r_14 hr_14 => ?_)
                subst hr_14
                refine lv_lload_n hx hb dL_isFair_393 rfl (lv_at hl 6 rfl) ?_
                refine W.lcmp hx hb dL_isFair_394 ?_
                refine zeq (lgc0 _) ?_
                refine lv_if_ne (tgt := 402) hx hb dL_isFair_395 (by decide) (fun c_15 => ?_) (fun c_15 => ?_)
                · have c_15 := zq_neT (x := 0) (by omega) c_15
                  omega
                · have c_15 := zq_neF (x := 0) (by omega) c_15
                  refine lv_iconst (v := nI 1) hx hb dL_isFair_398 (by decide) ?_
                  refine lv_goto (tgt := 403) hx hb dL_isFair_399 (by decide) ?_
                  exact W.zret (v := nI 1) hx hb hr rfl (fun t ht hW => ⟨_, rfl, rfl, ht⟩) (fun _ h => nomatch h) dL_isFair_403
        · have c_7 := zn_geF (a := c9) (b := n4) (by omega) (by omega) c_7
          refine lv_aload_n hx hb dL_isFair_335 rfl (lv_at hl 4 rfl) ?_
          refine lv_iload hx hb dL_isFair_336 (lv_at hl 0 rfl) ?_
          refine zcVi (As := [.int (nI c9)]) (rest := []) ⟨hx, hb, hml, hown, hts⟩ (c_X5_neededBy l D ty g ad n (n - 1) (n - 1) n4 n5 hp.d c9 (by omega)) (cwV 1 hts gL_isFair_X5_neededBy rfl rfl rfl (by decide +kernel) ⟨Nat.le_of_ble_eq_true rfl, Nat.le_of_ble_eq_true rfl⟩) zI_blind (zI_pre hP hK hN) (va_recv hK hP (ci := 5) (q0 := 0) rfl rfl) rfl hl.1 rfl (Nat.le_of_ble_eq_true rfl) dL_isFair_338 ⟨Nat.le_of_ble_eq_true rfl, Nat.le_of_ble_eq_true rfl⟩ (fun r_16 hr_16 => ?_)
          subst hr_16
          obtain ⟨k9, hk9, ek9⟩ := need_N g n4 c9 n5
          refine zeq ek9 ?_
          refine lv_aload_n hx hb dL_isFair_341 rfl (lv_at hl 4 rfl) ?_
          refine lv_iconst (v := nI 4) hx hb dL_isFair_342 (by decide) ?_
          refine zcVi (As := [.int (nI 4)]) (rest := [.int (nI k9)]) ⟨hx, hb, hml, hown, hts⟩ (c_X5_many l D ty g ad n (n - 1) (n - 1) n4 n5 hp.d 4 (by decide)) (cwV 1 hts gL_isFair_X5_many rfl rfl rfl (by decide +kernel) ⟨Nat.le_of_ble_eq_true rfl, Nat.le_of_ble_eq_true rfl⟩) zI_blind (zI_pre hP hK hN) (va_recv hK hP (ci := 5) (q0 := 0) rfl rfl) rfl hl.1 rfl (Nat.le_of_ble_eq_true rfl) dL_isFair_343 ⟨Nat.le_of_ble_eq_true rfl, Nat.le_of_ble_eq_true rfl⟩ (fun r_17 hr_17 => ?_)
          subst hr_17
          refine zeq (show manyN g n n5 4 = nI n5 from hp.e5) ?_
          refine lv_icmp_le (tgt := 351) hx hb dL_isFair_346 (by decide) (fun c_18 => ?_) (fun c_18 => ?_)
          · have c_18 := zn_leT (a := k9) (b := n5) (by omega) (by omega) c_18
            refine lv_iinc (v := nI (c9 + 1)) (lv' := [(7, .int (nI (c9 + 1))), (6, .int (sumN (fun z9 => sumN (fBil g (nI z9)) n5) 6)), (4, .int (nI (nS (chX g) n5))), (5, .int (nI (CR g (hmN g n) n5))), (0, .ref (ad 0)), (1, .int (nI n)), (2, .long (digN g n n4 n5))]) hx hb dL_isFair_351 hl (k := 0) rfl (nI_add c9 1) (by decide) rfl (fun ls hl => ?_)
            refine lv_goto (tgt := 325) hx hb dL_isFair_354 (by decide) ?_
            exact ih_c9 () ls (by omega) (show lv_has ls 11 [(7, .int (nI (c9 + 1))), (6, .int (sumN (fun z9 => sumN (fBil g (nI z9)) n5) 6)), (4, .int (nI (nS (chX g) n5))), (5, .int (nI (CR g (hmN g n) n5))), (0, .ref (ad 0)), (1, .int (nI n)), (2, .long (digN g n n4 n5))] from lv_sub hl [0, 1, 2, 3, 4, 5, 6] rfl)
          · have c_18 := zn_leF (a := k9) (b := n5) (by omega) (by omega) c_18
            omega
      · have c_5 := zn_geF (a := R) (b := 6) (by omega) (by omega) c_5
        refine lv_iload hx hb dL_isFair_304 (lv_at hl 0 rfl) ?_
        refine lv_aload_n hx hb dL_isFair_306 rfl (lv_at hl 4 rfl) ?_
        refine lv_iload hx hb dL_isFair_307 (lv_at hl 1 rfl) ?_
        refine lv_iconst (v := nI 4) hx hb dL_isFair_309 (by decide) ?_
        refine zcVi (As := [.int (nI R), .int (nI 4)]) (rest := [.int (sumN (fun z9 => sumN (fBil g (nI z9)) n5) R)]) ⟨hx, hb, hml, hown, hts⟩ (c_X5_ofReader l D ty g ad n (n - 1) (n - 1) n4 n5 hp.d R 4 (by omega) (by decide)) (cwV 2 hts gL_isFair_X5_ofReader rfl rfl rfl (by decide +kernel) ⟨Nat.le_of_ble_eq_true rfl, Nat.le_of_ble_eq_true rfl⟩) zI_blind (zI_pre hP hK hN) (va_recv hK hP (ci := 5) (q0 := 0) rfl rfl) rfl hl.1 rfl (Nat.le_of_ble_eq_true rfl) dL_isFair_310 ⟨Nat.le_of_ble_eq_true rfl, Nat.le_of_ble_eq_true rfl⟩ (fun r_19 hr_19 => ?_)
        subst hr_19
        refine zeq (show ofReaderN g n4 n5 R 4 = sumN (fBil g (nI R)) n5 from rfl) ?_
        refine lv_iadd hx hb dL_isFair_313 ?_
        refine lv_istore (lv' := [(6, .int ((sumN (fun z9 => sumN (fBil g (nI z9)) n5) R) + (sumN (fBil g (nI R)) n5))), (7, .int (nI R)), (4, .int (nI (nS (chX g) n5))), (5, .int (nI (CR g (hmN g n) n5))), (0, .ref (ad 0)), (1, .int (nI n)), (2, .long (digN g n n4 n5))]) hx hb dL_isFair_314 hl (by decide) rfl (fun ls hl => ?_)
        refine lv_iinc (v := nI (R + 1)) (lv' := [(7, .int (nI (R + 1))), (6, .int ((sumN (fun z9 => sumN (fBil g (nI z9)) n5) R) + (sumN (fBil g (nI R)) n5))), (4, .int (nI (nS (chX g) n5))), (5, .int (nI (CR g (hmN g n) n5))), (0, .ref (ad 0)), (1, .int (nI n)), (2, .long (digN g n n4 n5))]) hx hb dL_isFair_316 hl (k := 1) rfl (nI_add R 1) (by decide) rfl (fun ls hl => ?_)
        refine lv_goto (tgt := 297) hx hb dL_isFair_319 (by decide) ?_
        exact ih_R () ls (by omega) (show lv_has ls 11 [(6, .int (sumN (fun z9 => sumN (fBil g (nI z9)) n5) (R + 1))), (7, .int (nI (R + 1))), (4, .int (nI (nS (chX g) n5))), (5, .int (nI (CR g (hmN g n) n5))), (0, .ref (ad 0)), (1, .int (nI n)), (2, .long (digN g n n4 n5))] from lv_sub hl [1, 0, 2, 3, 4, 5, 6] rfl)
    · have c_4 := zn_geF (a := k) (b := n5) (by omega) (by omega) c_4
      have hk : k < n5 := by omega
      obtain ⟨r1, r2, r3, r4, ⟨r5, r6⟩, r7⟩ := hp.r hk
      have hk1 := hp.crle hk
      have q1 := r1.2
      have q3 := r3.2
      have q4 := r4.2
      have q5 := r5.2
      refine lv_aload_n hx hb dL_isFair_111 rfl (lv_at hl 3 rfl) ?_
      refine lv_iload hx hb dL_isFair_112 (lv_at hl 2 rfl) ?_
      refine lv_bipush (v := nI 8) hx hb dL_isFair_114 (by decide) ?_
      refine zcVi (As := [.int (nI k), .int (nI 8)]) (rest := []) ⟨hx, hb, hml, hown, hts⟩ (c_X5_ofRead l D ty g ad n (n - 1) (n - 1) n4 n5 hp.d k 8 (by omega) (by decide)) (cwV 2 hts gL_isFair_X5_ofRead rfl rfl rfl (by decide +kernel) ⟨Nat.le_of_ble_eq_true rfl, Nat.le_of_ble_eq_true rfl⟩) zI_blind (zI_pre hP hK hN) (va_recv hK hP (ci := 5) (q0 := 0) rfl rfl) rfl hl.1 rfl (Nat.le_of_ble_eq_true rfl) dL_isFair_116 ⟨Nat.le_of_ble_eq_true rfl, Nat.le_of_ble_eq_true rfl⟩ (fun r_20 hr_20 => ?_)
      subst hr_20
      refine zeq (show ofReadN g k 8 = nI (chX g k) from hp.ch hk) ?_
      refine lv_istore (lv' := [(7, .int (nI (chX g k))), (4, .int (nI (nS (chX g) k))), (5, .int (nI (CR g (hmN g n) k))), (6, .int (nI k)), (0, .ref (ad 0)), (1, .int (nI n)), (2, .long (digN g n n4 n5))]) hx hb dL_isFair_119 hl (by decide) rfl (fun ls hl => ?_)
      refine lv_aload_n hx hb dL_isFair_121 rfl (lv_at hl 4 rfl) ?_
      refine lv_iload hx hb dL_isFair_122 (lv_at hl 3 rfl) ?_
      refine lv_bipush (v := nI 9) hx hb dL_isFair_124 (by decide) ?_
      refine zcVi (As := [.int (nI k), .int (nI 9)]) (rest := []) ⟨hx, hb, hml, hown, hts⟩ (c_X5_ofRead l D ty g ad n (n - 1) (n - 1) n4 n5 hp.d k 9 (by omega) (by decide)) (cwV 2 hts gL_isFair_X5_ofRead rfl rfl rfl (by decide +kernel) ⟨Nat.le_of_ble_eq_true rfl, Nat.le_of_ble_eq_true rfl⟩) zI_blind (zI_pre hP hK hN) (va_recv hK hP (ci := 5) (q0 := 0) rfl rfl) rfl hl.1 rfl (Nat.le_of_ble_eq_true rfl) dL_isFair_126 ⟨Nat.le_of_ble_eq_true rfl, Nat.le_of_ble_eq_true rfl⟩ (fun r_21 hr_21 => ?_)
      subst hr_21
      refine zeq (show ofReadN g k 9 = nI (crX g (hmN g n) k) from hp.cr hk) ?_
      refine lv_istore (lv' := [(8, .int (nI (crX g (hmN g n) k))), (7, .int (nI (chX g k))), (4, .int (nI (nS (chX g) k))), (5, .int (nI (CR g (hmN g n) k))), (6, .int (nI k)), (0, .ref (ad 0)), (1, .int (nI n)), (2, .long (digN g n n4 n5))]) hx hb dL_isFair_129 hl (by decide) rfl (fun ls hl => ?_)
      refine lv_aload_n hx hb dL_isFair_131 rfl (lv_at hl 5 rfl) ?_
      refine lv_iload hx hb dL_isFair_132 (lv_at hl 4 rfl) ?_
      refine lv_iconst (v := nI 5) hx hb dL_isFair_134 (by decide) ?_
      refine zcVi (As := [.int (nI k), .int (nI 5)]) (rest := []) ⟨hx, hb, hml, hown, hts⟩ (c_X5_ofRead l D ty g ad n (n - 1) (n - 1) n4 n5 hp.d k 5 (by omega) (by decide)) (cwV 2 hts gL_isFair_X5_ofRead rfl rfl rfl (by decide +kernel) ⟨Nat.le_of_ble_eq_true rfl, Nat.le_of_ble_eq_true rfl⟩) zI_blind (zI_pre hP hK hN) (va_recv hK hP (ci := 5) (q0 := 0) rfl rfl) rfl hl.1 rfl (Nat.le_of_ble_eq_true rfl) dL_isFair_135 ⟨Nat.le_of_ble_eq_true rfl, Nat.le_of_ble_eq_true rfl⟩ (fun r_22 hr_22 => ?_)
      subst hr_22
      refine zeq (show ofReadN g k 5 = nI (cn (g 35 k)) from r4.1) ?_
      refine lv_istore (lv' := [(9, .int (nI (cn (g 35 k)))), (8, .int (nI (crX g (hmN g n) k))), (7, .int (nI (chX g k))), (4, .int (nI (nS (chX g) k))), (5, .int (nI (CR g (hmN g n) k))), (6, .int (nI k)), (0, .ref (ad 0)), (1, .int (nI n)), (2, .long (digN g n n4 n5))]) hx hb dL_isFair_138 hl (by decide) rfl (fun ls hl => ?_)
      refine lv_aload_n hx hb dL_isFair_140 rfl (lv_at hl 6 rfl) ?_
      refine lv_aload_n hx hb dL_isFair_141 rfl (lv_at hl 6 rfl) ?_
      refine lv_iload hx hb dL_isFair_142 (lv_at hl 5 rfl) ?_
      refine lv_iconst (v := nI 0) hx hb dL_isFair_144 (by decide) ?_
      refine zcVi (As := [.int (nI k), .int (nI 0)]) (rest := [.ref (ad 0)]) ⟨hx, hb, hml, hown, hts⟩ (c_X5_ofRead l D ty g ad n (n - 1) (n - 1) n4 n5 hp.d k 0 (by omega) (by decide)) (cwV 2 hts gL_isFair_X5_ofRead rfl rfl rfl (by decide +kernel) ⟨Nat.le_of_ble_eq_true rfl, Nat.le_of_ble_eq_true rfl⟩) zI_blind (zI_pre hP hK hN) (va_recv hK hP (ci := 5) (q0 := 0) rfl rfl) rfl hl.1 rfl (Nat.le_of_ble_eq_true rfl) dL_isFair_145 ⟨Nat.le_of_ble_eq_true rfl, Nat.le_of_ble_eq_true rfl⟩ (fun r_23 hr_23 => ?_)
      subst hr_23
      refine zeq (show ofReadN g k 0 = nI (cn (g 29 k)) from r1.1) ?_
      refine lv_aload_n hx hb dL_isFair_148 rfl (lv_at hl 6 rfl) ?_
      refine lv_iload hx hb dL_isFair_149 (lv_at hl 5 rfl) ?_
      refine lv_iconst (v := nI 1) hx hb dL_isFair_151 (by decide) ?_
      refine zcVi (As := [.int (nI k), .int (nI 1)]) (rest := [.int (nI (cn (g 29 k))), .ref (ad 0)]) ⟨hx, hb, hml, hown, hts⟩ (c_X5_ofRead l D ty g ad n (n - 1) (n - 1) n4 n5 hp.d k 1 (by omega) (by decide)) (cwV 2 hts gL_isFair_X5_ofRead rfl rfl rfl (by decide +kernel) ⟨Nat.le_of_ble_eq_true rfl, Nat.le_of_ble_eq_true rfl⟩) zI_blind (zI_pre hP hK hN) (va_recv hK hP (ci := 5) (q0 := 0) rfl rfl) rfl hl.1 rfl (Nat.le_of_ble_eq_true rfl) dL_isFair_152 ⟨Nat.le_of_ble_eq_true rfl, Nat.le_of_ble_eq_true rfl⟩ (fun r_24 hr_24 => ?_)
      subst hr_24
      refine zeq (show ofReadN g k 1 = nI (cn (g 30 k)) from (hp.rd hk).1.1) ?_
      refine lv_aload_n hx hb dL_isFair_155 rfl (lv_at hl 6 rfl) ?_
      refine lv_iload hx hb dL_isFair_156 (lv_at hl 5 rfl) ?_
      refine lv_bipush (v := nI 11) hx hb dL_isFair_158 (by decide) ?_
      refine zcVi (As := [.int (nI k), .int (nI 11)]) (rest := [.int (nI (cn (g 30 k))), .int (nI (cn (g 29 k))), .ref (ad 0)]) ⟨hx, hb, hml, hown, hts⟩ (c_X5_ofRead l D ty g ad n (n - 1) (n - 1) n4 n5 hp.d k 11 (by omega) (by decide)) (cwV 2 hts gL_isFair_X5_ofRead rfl rfl rfl (by decide +kernel) ⟨Nat.le_of_ble_eq_true rfl, Nat.le_of_ble_eq_true rfl⟩) zI_blind (zI_pre hP hK hN) (va_recv hK hP (ci := 5) (q0 := 0) rfl rfl) rfl hl.1 rfl (Nat.le_of_ble_eq_true rfl) dL_isFair_160 ⟨Nat.le_of_ble_eq_true rfl, Nat.le_of_ble_eq_true rfl⟩ (fun r_25 hr_25 => ?_)
      subst hr_25
      refine zeq (show ofReadN g k 11 = nI (cn (g 34 k)) from r3.1) ?_
      refine lv_iload hx hb dL_isFair_163 (lv_at hl 0 rfl) ?_
      refine zcVi (As := [.int (nI (cn (g 29 k))), .int (nI (cn (g 30 k))), .int (nI (cn (g 34 k))), .int (nI (cn (g 35 k)))]) (rest := []) ⟨hx, hb, hml, hown, hts⟩ (c_X5_covered l D ty g ad n (n - 1) (n - 1) n4 n5 hp.d (cn (g 29 k)) (cn (g 30 k)) (cn (g 34 k)) (by omega) (by omega) (by omega) (nI (cn (g 35 k))) (nI_pos (by omega)) (nI_nlt (by omega) (by decide))) (cwV 4 hts gL_isFair_X5_covered rfl rfl rfl (by decide +kernel) ⟨Nat.le_of_ble_eq_true rfl, Nat.le_of_ble_eq_true rfl⟩) zI_blind (zI_pre hP hK hN) (va_recv hK hP (ci := 5) (q0 := 0) rfl rfl) rfl hl.1 rfl (Nat.le_of_ble_eq_true rfl) dL_isFair_165 ⟨Nat.le_of_ble_eq_true rfl, Nat.le_of_ble_eq_true rfl⟩ (fun r_26 hr_26 => ?_)
      subst hr_26
      refine lv_istore (lv' := [(10, .int (orN (fOpen g (nI (cn (g 29 k))) (nI (cn (g 30 k))) (nI 1 <<< (nI (cn (g 34 k)) &&& 31)) (nI (cn (g 35 k))) (-1)) n4)), (9, .int (nI (cn (g 35 k)))), (8, .int (nI (crX g (hmN g n) k))), (7, .int (nI (chX g k))), (4, .int (nI (nS (chX g) k))), (5, .int (nI (CR g (hmN g n) k))), (6, .int (nI k)), (0, .ref (ad 0)), (1, .int (nI n)), (2, .long (digN g n n4 n5))]) hx hb dL_isFair_168 hl (by decide) rfl (fun ls hl => ?_)
      refine lv_iload hx hb dL_isFair_170 (lv_at hl 2 rfl) ?_
      refine lv_if_lt (tgt := 269) hx hb dL_isFair_172 (by decide) (fun c_27 => ?_) (fun c_27 => ?_)
      · have c_27 := zq_ltT (x := (crX g (hmN g n) k)) (by omega) c_27
        exact c_27.elim
      · have c_27 := zq_ltF (x := (crX g (hmN g n) k)) (by omega) c_27
        refine lv_iload hx hb dL_isFair_175 (lv_at hl 2 rfl) ?_
        refine lv_iload hx hb dL_isFair_177 (lv_at hl 3 rfl) ?_
        refine lv_icmp_gt (tgt := 269) hx hb dL_isFair_179 (by decide) (fun c_28 => ?_) (fun c_28 => ?_)
        · have c_28 := zn_gtT (a := (crX g (hmN g n) k)) (b := (chX g k)) (by omega) (by omega) c_28
          omega
        · have c_28 := zn_gtF (a := (crX g (hmN g n) k)) (b := (chX g k)) (by omega) (by omega) c_28
          refine lv_aload_n hx hb dL_isFair_182 rfl (lv_at hl 7 rfl) ?_
          refine lv_iload hx hb dL_isFair_183 (lv_at hl 6 rfl) ?_
          refine lv_iconst (v := nI 3) hx hb dL_isFair_185 (by decide) ?_
          refine zcVi (As := [.int (nI k), .int (nI 3)]) (rest := []) ⟨hx, hb, hml, hown, hts⟩ (c_X5_ofRead l D ty g ad n (n - 1) (n - 1) n4 n5 hp.d k 3 (by omega) (by decide)) (cwV 2 hts gL_isFair_X5_ofRead rfl rfl rfl (by decide +kernel) ⟨Nat.le_of_ble_eq_true rfl, Nat.le_of_ble_eq_true rfl⟩) zI_blind (zI_pre hP hK hN) (va_recv hK hP (ci := 5) (q0 := 0) rfl rfl) rfl hl.1 rfl (Nat.le_of_ble_eq_true rfl) dL_isFair_186 ⟨Nat.le_of_ble_eq_true rfl, Nat.le_of_ble_eq_true rfl⟩ (fun r_29 hr_29 => ?_)
          subst hr_29
          refine zeq (show ofReadN g k 3 = g 32 k from rfl) ?_
          refine lv_iload hx hb dL_isFair_189 (lv_at hl 0 rfl) ?_
          refine lv_iconst (v := -1) hx hb dL_isFair_191 (by decide) ?_
          refine lv_ixor hx hb dL_isFair_192 ?_
          refine lv_iand hx hb dL_isFair_193 ?_
          refine lv_if_ne (tgt := 269) hx hb dL_isFair_194 (by decide) (fun c_30 => ?_) (fun c_30 => ?_)
          · exact absurd r7 c_30
          · refine lv_aload_n hx hb dL_isFair_197 rfl (lv_at hl 7 rfl) ?_
            refine lv_iload hx hb dL_isFair_198 (lv_at hl 6 rfl) ?_
            refine lv_bipush (v := nI 6) hx hb dL_isFair_200 (by decide) ?_
            refine zcVi (As := [.int (nI k), .int (nI 6)]) (rest := []) ⟨hx, hb, hml, hown, hts⟩ (c_X5_ofRead l D ty g ad n (n - 1) (n - 1) n4 n5 hp.d k 6 (by omega) (by decide)) (cwV 2 hts gL_isFair_X5_ofRead rfl rfl rfl (by decide +kernel) ⟨Nat.le_of_ble_eq_true rfl, Nat.le_of_ble_eq_true rfl⟩) zI_blind (zI_pre hP hK hN) (va_recv hK hP (ci := 5) (q0 := 0) rfl rfl) rfl hl.1 rfl (Nat.le_of_ble_eq_true rfl) dL_isFair_202 ⟨Nat.le_of_ble_eq_true rfl, Nat.le_of_ble_eq_true rfl⟩ (fun r_31 hr_31 => ?_)
            subst hr_31
            refine zeq (show ofReadN g k 6 = g 33 k * bc (g 32 k) from rfl) ?_
            refine lv_aload_n hx hb dL_isFair_205 rfl (lv_at hl 7 rfl) ?_
            refine lv_iload hx hb dL_isFair_206 (lv_at hl 6 rfl) ?_
            refine lv_iconst (v := nI 4) hx hb dL_isFair_208 (by decide) ?_
            refine zcVi (As := [.int (nI k), .int (nI 4)]) (rest := [.int (g 33 k * bc (g 32 k))]) ⟨hx, hb, hml, hown, hts⟩ (c_X5_ofRead l D ty g ad n (n - 1) (n - 1) n4 n5 hp.d k 4 (by omega) (by decide)) (cwV 2 hts gL_isFair_X5_ofRead rfl rfl rfl (by decide +kernel) ⟨Nat.le_of_ble_eq_true rfl, Nat.le_of_ble_eq_true rfl⟩) zI_blind (zI_pre hP hK hN) (va_recv hK hP (ci := 5) (q0 := 0) rfl rfl) rfl hl.1 rfl (Nat.le_of_ble_eq_true rfl) dL_isFair_209 ⟨Nat.le_of_ble_eq_true rfl, Nat.le_of_ble_eq_true rfl⟩ (fun r_32 hr_32 => ?_)
            subst hr_32
            refine zeq (show ofReadN g k 4 = g 33 k from rfl) ?_
            refine lv_aload_n hx hb dL_isFair_212 rfl (lv_at hl 7 rfl) ?_
            refine lv_iload hx hb dL_isFair_213 (lv_at hl 6 rfl) ?_
            refine lv_iconst (v := nI 3) hx hb dL_isFair_215 (by decide) ?_
            refine zcVi (As := [.int (nI k), .int (nI 3)]) (rest := [.int (g 33 k), .int (g 33 k * bc (g 32 k))]) ⟨hx, hb, hml, hown, hts⟩ (c_X5_ofRead l D ty g ad n (n - 1) (n - 1) n4 n5 hp.d k 3 (by omega) (by decide)) (cwV 2 hts gL_isFair_X5_ofRead rfl rfl rfl (by decide +kernel) ⟨Nat.le_of_ble_eq_true rfl, Nat.le_of_ble_eq_true rfl⟩) zI_blind (zI_pre hP hK hN) (va_recv hK hP (ci := 5) (q0 := 0) rfl rfl) rfl hl.1 rfl (Nat.le_of_ble_eq_true rfl) dL_isFair_216 ⟨Nat.le_of_ble_eq_true rfl, Nat.le_of_ble_eq_true rfl⟩ (fun r_33 hr_33 => ?_)
            subst hr_33
            refine zeq (show ofReadN g k 3 = g 32 k from rfl) ?_
            refine zcSi (As := [.int (g 32 k)]) (rest := [.int (g 33 k), .int (g 33 k * bc (g 32 k))]) ⟨hx, hb, hml, hown, hts⟩ (c_J6_bitCount l _ (g 32 k)) (va_cwS 1 hts gL_isFair_J6_bitCount_0f7a4 rfl rfl rfl (by decide +kernel) ⟨Nat.le_of_ble_eq_true rfl, Nat.le_of_ble_eq_true rfl⟩) (B := fun _ => True) (fun _ _ _ _ _ => trivial) (fun _ _ _ => trivial) rfl hl.1 rfl (Nat.le_of_ble_eq_true rfl) dL_isFair_219 ⟨Nat.le_of_ble_eq_true rfl, Nat.le_of_ble_eq_true rfl⟩ (fun r_34 hr_34 => ?_)
            subst hr_34
            refine lv_imul hx hb dL_isFair_222 ?_
            refine lv_icmp_ne (tgt := 269) hx hb dL_isFair_223 (by decide) (fun c_35 => ?_) (fun c_35 => ?_)
            · exact absurd rfl c_35
            · refine lv_aload_n hx hb dL_isFair_226 rfl (lv_at hl 7 rfl) ?_
              refine lv_iload hx hb dL_isFair_227 (lv_at hl 6 rfl) ?_
              refine lv_bipush (v := nI 7) hx hb dL_isFair_229 (by decide) ?_
              refine zcVi (As := [.int (nI k), .int (nI 7)]) (rest := []) ⟨hx, hb, hml, hown, hts⟩ (c_X5_ofRead l D ty g ad n (n - 1) (n - 1) n4 n5 hp.d k 7 (by omega) (by decide)) (cwV 2 hts gL_isFair_X5_ofRead rfl rfl rfl (by decide +kernel) ⟨Nat.le_of_ble_eq_true rfl, Nat.le_of_ble_eq_true rfl⟩) zI_blind (zI_pre hP hK hN) (va_recv hK hP (ci := 5) (q0 := 0) rfl rfl) rfl hl.1 rfl (Nat.le_of_ble_eq_true rfl) dL_isFair_231 ⟨Nat.le_of_ble_eq_true rfl, Nat.le_of_ble_eq_true rfl⟩ (fun r_36 hr_36 => ?_)
              subst hr_36
              refine zeq (show ofReadN g k 7 = nI (cn (g 36 k)) from r5.1) ?_
              refine lv_iconst (v := nI 2) hx hb dL_isFair_234 (by decide) ?_
              refine lv_icmp_lt (tgt := 269) hx hb dL_isFair_235 (by decide) (fun c_37 => ?_) (fun c_37 => ?_)
              · have c_37 := zn_ltT (a := (cn (g 36 k))) (b := 2) (by omega) (by omega) c_37
                omega
              · have c_37 := zn_ltF (a := (cn (g 36 k))) (b := 2) (by omega) (by omega) c_37
                refine lv_aload_n hx hb dL_isFair_238 rfl (lv_at hl 7 rfl) ?_
                refine lv_iload hx hb dL_isFair_239 (lv_at hl 6 rfl) ?_
                refine lv_bipush (v := nI 7) hx hb dL_isFair_241 (by decide) ?_
                refine zcVi (As := [.int (nI k), .int (nI 7)]) (rest := []) ⟨hx, hb, hml, hown, hts⟩ (c_X5_ofRead l D ty g ad n (n - 1) (n - 1) n4 n5 hp.d k 7 (by omega) (by decide)) (cwV 2 hts gL_isFair_X5_ofRead rfl rfl rfl (by decide +kernel) ⟨Nat.le_of_ble_eq_true rfl, Nat.le_of_ble_eq_true rfl⟩) zI_blind (zI_pre hP hK hN) (va_recv hK hP (ci := 5) (q0 := 0) rfl rfl) rfl hl.1 rfl (Nat.le_of_ble_eq_true rfl) dL_isFair_243 ⟨Nat.le_of_ble_eq_true rfl, Nat.le_of_ble_eq_true rfl⟩ (fun r_38 hr_38 => ?_)
                subst hr_38
                refine zeq (show ofReadN g k 7 = nI (cn (g 36 k)) from r5.1) ?_
                refine lv_iconst (v := nI 4) hx hb dL_isFair_246 (by decide) ?_
                refine lv_icmp_gt (tgt := 269) hx hb dL_isFair_247 (by decide) (fun c_39 => ?_) (fun c_39 => ?_)
                · have c_39 := zn_gtT (a := (cn (g 36 k))) (b := 4) (by omega) (by omega) c_39
                  omega
                · have c_39 := zn_gtF (a := (cn (g 36 k))) (b := 4) (by omega) (by omega) c_39
                  refine lv_iload hx hb dL_isFair_250 (lv_at hl 6 rfl) ?_
                  refine lv_if_le (tgt := 271) hx hb dL_isFair_252 (by decide) (fun c_40 => ?_) (fun c_40 => ?_)
                  · have c_40 := zq_leT (x := k) (by omega) c_40
                    refine lv_iload hx hb dL_isFair_271 (lv_at hl 4 rfl) ?_
                    refine lv_iload hx hb dL_isFair_273 (lv_at hl 3 rfl) ?_
                    refine lv_iadd hx hb dL_isFair_275 ?_
                    refine zeq (nI_add (nS (chX g) k) (chX g k)) ?_
                    refine lv_istore (lv' := [(4, .int (nI ((nS (chX g) k) + (chX g k)))), (10, .int (orN (fOpen g (nI (cn (g 29 k))) (nI (cn (g 30 k))) (nI 1 <<< (nI (cn (g 34 k)) &&& 31)) (nI (cn (g 35 k))) (-1)) n4)), (9, .int (nI (cn (g 35 k)))), (8, .int (nI (crX g (hmN g n) k))), (7, .int (nI (chX g k))), (5, .int (nI (CR g (hmN g n) k))), (6, .int (nI k)), (0, .ref (ad 0)), (1, .int (nI n)), (2, .long (digN g n n4 n5))]) hx hb dL_isFair_276 hl (by decide) rfl (fun ls hl => ?_)
                    refine lv_iload hx hb dL_isFair_278 (lv_at hl 5 rfl) ?_
                    refine lv_iload hx hb dL_isFair_280 (lv_at hl 3 rfl) ?_
                    refine lv_iadd hx hb dL_isFair_282 ?_
                    refine zeq (nI_add (CR g (hmN g n) k) (crX g (hmN g n) k)) ?_
                    refine lv_istore (lv' := [(5, .int (nI ((CR g (hmN g n) k) + (crX g (hmN g n) k)))), (4, .int (nI ((nS (chX g) k) + (chX g k)))), (10, .int (orN (fOpen g (nI (cn (g 29 k))) (nI (cn (g 30 k))) (nI 1 <<< (nI (cn (g 34 k)) &&& 31)) (nI (cn (g 35 k))) (-1)) n4)), (9, .int (nI (cn (g 35 k)))), (8, .int (nI (crX g (hmN g n) k))), (7, .int (nI (chX g k))), (6, .int (nI k)), (0, .ref (ad 0)), (1, .int (nI n)), (2, .long (digN g n n4 n5))]) hx hb dL_isFair_283 hl (by decide) rfl (fun ls hl => ?_)
                    refine lv_iinc (v := nI (k + 1)) (lv' := [(6, .int (nI (k + 1))), (5, .int (nI ((CR g (hmN g n) k) + (crX g (hmN g n) k)))), (4, .int (nI ((nS (chX g) k) + (chX g k)))), (10, .int (orN (fOpen g (nI (cn (g 29 k))) (nI (cn (g 30 k))) (nI 1 <<< (nI (cn (g 34 k)) &&& 31)) (nI (cn (g 35 k))) (-1)) n4)), (9, .int (nI (cn (g 35 k)))), (8, .int (nI (crX g (hmN g n) k))), (7, .int (nI (chX g k))), (0, .ref (ad 0)), (1, .int (nI n)), (2, .long (digN g n n4 n5))]) hx hb dL_isFair_285 hl (k := 6) rfl (nI_add k 1) (by decide) rfl (fun ls hl => ?_)
                    refine lv_goto (tgt := 101) hx hb dL_isFair_288 (by decide) ?_
                    exact ih_k () ls (by omega) (show lv_has ls 11 [(4, .int (nI (nS (chX g) (k + 1)))), (5, .int (nI (CR g (hmN g n) (k + 1)))), (6, .int (nI (k + 1))), (0, .ref (ad 0)), (1, .int (nI n)), (2, .long (digN g n n4 n5))] from lv_sub hl [2, 1, 0, 7, 8, 9] rfl)
                  · have c_40 := zq_leF (x := k) (by omega) c_40
                    have q8 := hp.dm (r := k - 1) (by omega)
                    rw [show k - 1 + 1 = k by omega] at q8
                    have q9 := (hp.r (show k - 1 < n5 by omega)).2.2.2.1.2
                    refine lv_iload hx hb dL_isFair_255 (lv_at hl 1 rfl) ?_
                    refine lv_aload_n hx hb dL_isFair_257 rfl (lv_at hl 7 rfl) ?_
                    refine lv_iload hx hb dL_isFair_258 (lv_at hl 6 rfl) ?_
                    refine lv_iconst (v := nI 1) hx hb dL_isFair_260 (by decide) ?_
                    refine lv_isub hx hb dL_isFair_261 ?_
                    refine zeq (pk_sub (a := k) (b := 1) (by omega)) ?_
                    refine lv_iconst (v := nI 5) hx hb dL_isFair_262 (by decide) ?_
                    refine zcVi (As := [.int (nI (k - 1)), .int (nI 5)]) (rest := [.int (nI (cn (g 35 k)))]) ⟨hx, hb, hml, hown, hts⟩ (c_X5_ofRead l D ty g ad n (n - 1) (n - 1) n4 n5 hp.d (k - 1) 5 (by omega) (by decide)) (cwV 2 hts gL_isFair_X5_ofRead rfl rfl rfl (by decide +kernel) ⟨Nat.le_of_ble_eq_true rfl, Nat.le_of_ble_eq_true rfl⟩) zI_blind (zI_pre hP hK hN) (va_recv hK hP (ci := 5) (q0 := 0) rfl rfl) rfl hl.1 rfl (Nat.le_of_ble_eq_true rfl) dL_isFair_263 ⟨Nat.le_of_ble_eq_true rfl, Nat.le_of_ble_eq_true rfl⟩ (fun r_41 hr_41 => ?_)
                    subst hr_41
                    refine zeq (show ofReadN g (k - 1) 5 = nI (cn (g 35 (k - 1))) from (hp.r (show k - 1 < n5 by omega)).2.2.2.1.1) ?_
                    refine lv_icmp_ge (tgt := 271) hx hb dL_isFair_266 (by decide) (fun c_42 => ?_) (fun c_42 => ?_)
                    · have c_42 := zn_geT (a := (cn (g 35 k))) (b := (cn (g 35 (k - 1)))) (by omega) (by omega) c_42
                      refine lv_iload hx hb dL_isFair_271 (lv_at hl 4 rfl) ?_
                      refine lv_iload hx hb dL_isFair_273 (lv_at hl 3 rfl) ?_
                      refine lv_iadd hx hb dL_isFair_275 ?_
                      refine zeq (nI_add (nS (chX g) k) (chX g k)) ?_
                      refine lv_istore (lv' := [(4, .int (nI ((nS (chX g) k) + (chX g k)))), (10, .int (orN (fOpen g (nI (cn (g 29 k))) (nI (cn (g 30 k))) (nI 1 <<< (nI (cn (g 34 k)) &&& 31)) (nI (cn (g 35 k))) (-1)) n4)), (9, .int (nI (cn (g 35 k)))), (8, .int (nI (crX g (hmN g n) k))), (7, .int (nI (chX g k))), (5, .int (nI (CR g (hmN g n) k))), (6, .int (nI k)), (0, .ref (ad 0)), (1, .int (nI n)), (2, .long (digN g n n4 n5))]) hx hb dL_isFair_276 hl (by decide) rfl (fun ls hl => ?_)
                      refine lv_iload hx hb dL_isFair_278 (lv_at hl 5 rfl) ?_
                      refine lv_iload hx hb dL_isFair_280 (lv_at hl 3 rfl) ?_
                      refine lv_iadd hx hb dL_isFair_282 ?_
                      refine zeq (nI_add (CR g (hmN g n) k) (crX g (hmN g n) k)) ?_
                      refine lv_istore (lv' := [(5, .int (nI ((CR g (hmN g n) k) + (crX g (hmN g n) k)))), (4, .int (nI ((nS (chX g) k) + (chX g k)))), (10, .int (orN (fOpen g (nI (cn (g 29 k))) (nI (cn (g 30 k))) (nI 1 <<< (nI (cn (g 34 k)) &&& 31)) (nI (cn (g 35 k))) (-1)) n4)), (9, .int (nI (cn (g 35 k)))), (8, .int (nI (crX g (hmN g n) k))), (7, .int (nI (chX g k))), (6, .int (nI k)), (0, .ref (ad 0)), (1, .int (nI n)), (2, .long (digN g n n4 n5))]) hx hb dL_isFair_283 hl (by decide) rfl (fun ls hl => ?_)
                      refine lv_iinc (v := nI (k + 1)) (lv' := [(6, .int (nI (k + 1))), (5, .int (nI ((CR g (hmN g n) k) + (crX g (hmN g n) k)))), (4, .int (nI ((nS (chX g) k) + (chX g k)))), (10, .int (orN (fOpen g (nI (cn (g 29 k))) (nI (cn (g 30 k))) (nI 1 <<< (nI (cn (g 34 k)) &&& 31)) (nI (cn (g 35 k))) (-1)) n4)), (9, .int (nI (cn (g 35 k)))), (8, .int (nI (crX g (hmN g n) k))), (7, .int (nI (chX g k))), (0, .ref (ad 0)), (1, .int (nI n)), (2, .long (digN g n n4 n5))]) hx hb dL_isFair_285 hl (k := 6) rfl (nI_add k 1) (by decide) rfl (fun ls hl => ?_)
                      refine lv_goto (tgt := 101) hx hb dL_isFair_288 (by decide) ?_
                      exact ih_k () ls (by omega) (show lv_has ls 11 [(4, .int (nI (nS (chX g) (k + 1)))), (5, .int (nI (CR g (hmN g n) (k + 1)))), (6, .int (nI (k + 1))), (0, .ref (ad 0)), (1, .int (nI n)), (2, .long (digN g n n4 n5))] from lv_sub hl [2, 1, 0, 7, 8, 9] rfl)
                    · have c_42 := zn_geF (a := (cn (g 35 k))) (b := (cn (g 35 (k - 1)))) (by omega) (by omega) c_42
                      omega
  · have c_2 := zn_geF (a := i) (b := n) (by omega) (by omega) c_2
    refine lv_iconst (v := nI 0) hx hb dL_isFair_14 (by decide) ?_
    refine lv_istore (lv' := [(5, .int (nI 0)), (4, .int (nI i)), (0, .ref (ad 0)), (1, .int (nI n)), (2, .long (digN g n n4 n5))]) hx hb dL_isFair_15 hl (by decide) rfl (fun ls hl => ?_)
    refine zloopP (τ := Unit) (fun v _ ls => lv_has ls 11 [(5, .int (nI v)), (4, .int (nI i)), (0, .ref (ad 0)), (1, .int (nI n)), (2, .long (digN g n n4 n5))]) 1 ?_ 0 () ls (Nat.zero_le _) (lv_sub hl [0, 1, 2, 3, 4] rfl)
    intro v _ ls hi_v hl ih_v
    have hl : lv_has ls 11 [(5, .int (nI v)), (4, .int (nI i)), (0, .ref (ad 0)), (1, .int (nI n)), (2, .long (digN g n n4 n5))] := hl
    refine lv_iload hx hb dL_isFair_17 (lv_at hl 0 rfl) ?_
    refine lv_aload_n hx hb dL_isFair_19 rfl (lv_at hl 2 rfl) ?_
    refine lv_iload hx hb dL_isFair_20 (lv_at hl 1 rfl) ?_
    refine lv_iconst (v := nI 1) hx hb dL_isFair_22 (by decide) ?_
    refine zcVi (As := [.int (nI i), .int (nI 1)]) (rest := [.int (nI v)]) ⟨hx, hb, hml, hown, hts⟩ (c_X5_ofSet l D ty g ad n (n - 1) (n - 1) n4 n5 hp.d i 1 (by omega) (by decide)) (cwV 2 hts gL_isFair_X5_ofSet rfl rfl rfl (by decide +kernel) ⟨Nat.le_of_ble_eq_true rfl, Nat.le_of_ble_eq_true rfl⟩) zI_blind (zI_pre hP hK hN) (va_recv hK hP (ci := 5) (q0 := 0) rfl rfl) rfl hl.1 rfl (Nat.le_of_ble_eq_true rfl) dL_isFair_23 ⟨Nat.le_of_ble_eq_true rfl, Nat.le_of_ble_eq_true rfl⟩ (fun r_43 hr_43 => ?_)
    subst hr_43
    refine zeq (show ofSetN g n5 i 1 = nI 1 from hp.v8 (by omega)) ?_
    refine lv_icmp_ge (tgt := 86) hx hb dL_isFair_26 (by decide) (fun c_44 => ?_) (fun c_44 => ?_)
    · have c_44 := zn_geT (a := v) (b := 1) (by omega) (by omega) c_44
      refine lv_iinc (v := nI (i + 1)) (lv' := [(4, .int (nI (i + 1))), (5, .int (nI v)), (0, .ref (ad 0)), (1, .int (nI n)), (2, .long (digN g n n4 n5))]) hx hb dL_isFair_86 hl (k := 1) rfl (nI_add i 1) (by decide) rfl (fun ls hl => ?_)
      refine lv_goto (tgt := 8) hx hb dL_isFair_89 (by decide) ?_
      exact ih_i () ls (by omega) (show lv_has ls 11 [(4, .int (nI (i + 1))), (0, .ref (ad 0)), (1, .int (nI n)), (2, .long (digN g n n4 n5))] from lv_sub hl [0, 2, 3, 4] rfl)
    · have c_44 := zn_geF (a := v) (b := 1) (by omega) (by omega) c_44
      refine lv_iconst (v := nI 0) hx hb dL_isFair_29 (by decide) ?_
      refine lv_istore (lv' := [(6, .int (nI 0)), (5, .int (nI v)), (4, .int (nI i)), (0, .ref (ad 0)), (1, .int (nI n)), (2, .long (digN g n n4 n5))]) hx hb dL_isFair_30 hl (by decide) rfl (fun ls hl => ?_)
      refine zloopP (τ := Unit) (fun f _ ls => lv_has ls 11 [(6, .int (nI f)), (5, .int (nI v)), (4, .int (nI i)), (0, .ref (ad 0)), (1, .int (nI n)), (2, .long (digN g n n4 n5))]) (nF g i) ?_ 0 () ls (Nat.zero_le _) (lv_sub hl [0, 1, 2, 3, 4, 5] rfl)
      intro f _ ls hi_f hl ih_f
      have hl : lv_has ls 11 [(6, .int (nI f)), (5, .int (nI v)), (4, .int (nI i)), (0, .ref (ad 0)), (1, .int (nI n)), (2, .long (digN g n n4 n5))] := hl
      refine lv_iload hx hb dL_isFair_32 (lv_at hl 0 rfl) ?_
      have hf9 := (hp.f (show i < n by omega)).2.2
      refine lv_aload_n hx hb dL_isFair_34 rfl (lv_at hl 3 rfl) ?_
      refine lv_iload hx hb dL_isFair_35 (lv_at hl 2 rfl) ?_
      refine lv_iconst (v := nI 0) hx hb dL_isFair_37 (by decide) ?_
      refine zcVi (As := [.int (nI i), .int (nI 0)]) (rest := [.int (nI f)]) ⟨hx, hb, hml, hown, hts⟩ (c_X5_ofSet l D ty g ad n (n - 1) (n - 1) n4 n5 hp.d i 0 (by omega) (by decide)) (cwV 2 hts gL_isFair_X5_ofSet rfl rfl rfl (by decide +kernel) ⟨Nat.le_of_ble_eq_true rfl, Nat.le_of_ble_eq_true rfl⟩) zI_blind (zI_pre hP hK hN) (va_recv hK hP (ci := 5) (q0 := 0) rfl rfl) rfl hl.1 rfl (Nat.le_of_ble_eq_true rfl) dL_isFair_38 ⟨Nat.le_of_ble_eq_true rfl, Nat.le_of_ble_eq_true rfl⟩ (fun r_45 hr_45 => ?_)
      subst hr_45
      refine zeq (show ofSetN g n5 i 0 = nI (nF g i) from (hp.f (by omega)).1) ?_
      refine lv_icmp_ge (tgt := 80) hx hb dL_isFair_41 (by decide) (fun c_46 => ?_) (fun c_46 => ?_)
      · have c_46 := zn_geT (a := f) (b := (nF g i)) (by omega) (by omega) c_46
        refine lv_iinc (v := nI (v + 1)) (lv' := [(5, .int (nI (v + 1))), (6, .int (nI f)), (4, .int (nI i)), (0, .ref (ad 0)), (1, .int (nI n)), (2, .long (digN g n n4 n5))]) hx hb dL_isFair_80 hl (k := 1) rfl (nI_add v 1) (by decide) rfl (fun ls hl => ?_)
        refine lv_goto (tgt := 17) hx hb dL_isFair_83 (by decide) ?_
        exact ih_v () ls (by omega) (show lv_has ls 11 [(5, .int (nI (v + 1))), (4, .int (nI i)), (0, .ref (ad 0)), (1, .int (nI n)), (2, .long (digN g n n4 n5))] from lv_sub hl [0, 2, 3, 4, 5] rfl)
      · have c_46 := zn_geF (a := f) (b := (nF g i)) (by omega) (by omega) c_46
        have ht9 : plc i v f < 288 := by unfold plc; omega
        have hh9 := (hp.hm ht9).2
        refine lv_aload_n hx hb dL_isFair_44 rfl (lv_at hl 3 rfl) ?_
        refine lv_iload hx hb dL_isFair_45 (lv_at hl 2 rfl) ?_
        refine lv_iload hx hb dL_isFair_47 (lv_at hl 1 rfl) ?_
        refine lv_iload hx hb dL_isFair_49 (lv_at hl 0 rfl) ?_
        refine zcVi (As := [.int (nI i), .int (nI v), .int (nI f)]) (rest := []) ⟨hx, hb, hml, hown, hts⟩ (c_X5_harm l D ty g ad n (n - 1) (n - 1) n4 n5 hp.d i v f (by omega) (by rw [hp.v (by omega)]; omega) (by omega)) (cwV 3 hts gL_isFair_X5_harm rfl rfl rfl (by decide +kernel) ⟨Nat.le_of_ble_eq_true rfl, Nat.le_of_ble_eq_true rfl⟩) zI_blind (zI_pre hP hK hN) (va_recv hK hP (ci := 5) (q0 := 0) rfl rfl) rfl hl.1 rfl (Nat.le_of_ble_eq_true rfl) dL_isFair_51 ⟨Nat.le_of_ble_eq_true rfl, Nat.le_of_ble_eq_true rfl⟩ (fun r_47 hr_47 => ?_)
        subst hr_47
        refine zeq (show g 21 (plc i v f) = nI (hmN g n (plc i v f)) from (hp.hm ht9).1) ?_
        refine lv_if_lt (tgt := 72) hx hb dL_isFair_54 (by decide) (fun c_48 => ?_) (fun c_48 => ?_)
        · have c_48 := zq_ltT (x := (hmN g n (plc i v f))) (by omega) c_48
          exact c_48.elim
        · have c_48 := zq_ltF (x := (hmN g n (plc i v f))) (by omega) c_48
          refine lv_aload_n hx hb dL_isFair_57 rfl (lv_at hl 3 rfl) ?_
          refine lv_iload hx hb dL_isFair_58 (lv_at hl 2 rfl) ?_
          refine lv_iload hx hb dL_isFair_60 (lv_at hl 1 rfl) ?_
          refine lv_iload hx hb dL_isFair_62 (lv_at hl 0 rfl) ?_
          refine zcVi (As := [.int (nI i), .int (nI v), .int (nI f)]) (rest := []) ⟨hx, hb, hml, hown, hts⟩ (c_X5_harm l D ty g ad n (n - 1) (n - 1) n4 n5 hp.d i v f (by omega) (by rw [hp.v (by omega)]; omega) (by omega)) (cwV 3 hts gL_isFair_X5_harm rfl rfl rfl (by decide +kernel) ⟨Nat.le_of_ble_eq_true rfl, Nat.le_of_ble_eq_true rfl⟩) zI_blind (zI_pre hP hK hN) (va_recv hK hP (ci := 5) (q0 := 0) rfl rfl) rfl hl.1 rfl (Nat.le_of_ble_eq_true rfl) dL_isFair_64 ⟨Nat.le_of_ble_eq_true rfl, Nat.le_of_ble_eq_true rfl⟩ (fun r_49 hr_49 => ?_)
          subst hr_49
          refine zeq (show g 21 (plc i v f) = nI (hmN g n (plc i v f)) from (hp.hm ht9).1) ?_
          refine lv_bipush (v := nI 100) hx hb dL_isFair_67 (by decide) ?_
          refine lv_icmp_le (tgt := 74) hx hb dL_isFair_69 (by decide) (fun c_50 => ?_) (fun c_50 => ?_)
          · have c_50 := zn_leT (a := (hmN g n (plc i v f))) (b := 100) (by omega) (by omega) c_50
            refine lv_iinc (v := nI (f + 1)) (lv' := [(6, .int (nI (f + 1))), (5, .int (nI v)), (4, .int (nI i)), (0, .ref (ad 0)), (1, .int (nI n)), (2, .long (digN g n n4 n5))]) hx hb dL_isFair_74 hl (k := 0) rfl (nI_add f 1) (by decide) rfl (fun ls hl => ?_)
            refine lv_goto (tgt := 32) hx hb dL_isFair_77 (by decide) ?_
            exact ih_f () ls (by omega) (show lv_has ls 11 [(6, .int (nI (f + 1))), (5, .int (nI v)), (4, .int (nI i)), (0, .ref (ad 0)), (1, .int (nI n)), (2, .long (digN g n n4 n5))] from lv_sub hl [0, 1, 2, 3, 4, 5] rfl)
          · have c_50 := zn_leF (a := (hmN g n (plc i v f))) (b := 100) (by omega) (by omega) c_50
            omega
