set_option maxHeartbeats 4000000 in
set_option maxRecDepth 100000 in
theorem c_X3_moveTo (Ll : Launch) (D : va_G) (cI cL : ClassId) (w : Nat) (r : Nat) (z : Nat) (pl : Int32) (ins : Int32) (a : Int32) (b : Int32) (wk : Int32) (st : Int64) (ks : Int32) (o : Nat) (n : Nat) (f : Nat → Int32) (q : Nat) (h1 : z ≤ 1200) (h2 : n ≤ 1200) (h3 : q < 2 ^ 31) (hi : dw_I f n z ins pl a b) (sz : Nat) : Met Ll yX3_moveTo wsX3_moveTo { frames := 1, cells := 0, slots := 0, locals := 22 } (ds_P D cI cL [.ref w, .int (nI q)] [(w, .inr (3, [.ref r, .int (nI z), .int pl, .int ins, .int a, .int b, .int wk, .long st, .int ks])), (r, .inr (1, [.ref o, .int (nI n)])), (o, .inl (cI, 1200, .inl f))] sz) (ds_Qv D (fun (u : Int32 × Int32 × Int32 × Int32) => (q + z ≤ n ∧ u.1 = 1 ∧ u.2.1 = su_A f q z ∧ u.2.2.1 = su_B f q z ∧ u.2.2.2 = su_W f q z) ∨ (n < q + z ∧ u.1 = 0)) (fun u : Int32 × Int32 × Int32 × Int32 => [(w, .inr (3, [.ref r, .int (nI z), .int (nI q), .int u.1, .int u.2.1, .int u.2.2.1, .int u.2.2.2, .long st, .int 0])), (r, .inr (1, [.ref o, .int (nI n)])), (o, .inl (cI, 1200, .inl f))]) (va_A [(w, .inr (3, [.ref r, .int (nI z), .int pl, .int ins, .int a, .int b, .int wk, .long st, .int ks])), (r, .inr (1, [.ref o, .int (nI n)])), (o, .inl (cI, 1200, .inl f))] sz)) 0 0 (va_A [(w, .inr (3, [.ref r, .int (nI z), .int pl, .int ins, .int a, .int b, .int wk, .long st, .int ks])), (r, .inr (1, [.ref o, .int (nI n)])), (o, .inl (cI, 1200, .inl f))] sz) := by
  refine ds_enter (Qf := (fun A9 => ds_Qv D (fun (u : Int32 × Int32 × Int32 × Int32) => (q + z ≤ n ∧ u.1 = 1 ∧ u.2.1 = su_A f q z ∧ u.2.2.1 = su_B f q z ∧ u.2.2.2 = su_W f q z) ∨ (n < q + z ∧ u.1 = 0)) (fun u : Int32 × Int32 × Int32 × Int32 => [(w, .inr (3, [.ref r, .int (nI z), .int (nI q), .int u.1, .int u.2.1, .int u.2.2.1, .int u.2.2.2, .long st, .int 0])), (r, .inr (1, [.ref o, .int (nI n)])), (o, .inl (cI, 1200, .inl f))]) A9)) (cc := cX3_moveTo) (maxL := 3) (ret := none) (by decide) rfl (Nat.le_of_ble_eq_true rfl) ?_
  intro Pp Ee Ss Mm Aa Bb Me Cc hx hb hml hr ht hown hlk hnm A H locs hA hP hD hS hK ls hl
  have hl : lv_has ls 3 [(0, .ref w), (1, .int (nI q))] := hl
  change Ss.vm.findClass RX3 = some Mm.cls at hown
  by_cases hi0 : ins = 0
  ·
    subst hi0
    refine lv_aload_n hx hb dX3_moveTo_0 rfl (lv_at hl 0 rfl) ?_
    refine va_get (D := D) (ci := 3) (v := .int 0) (C := RX3) (T := TX3) (N := 9) hx hb ht inA_X3 hown hK.1 hP 0 rfl rfl 3 (by decide) (ht _ iw_235) (fun _ h9 => h9) rfl dX3_moveTo_1 ?_
    refine lv_if_eq (tgt := 21) hx hb dX3_moveTo_4 (by decide) (fun h => ?_) (fun h => ?_)
    ·
      refine lv_iconst (v := nI 0) hx hb dX3_moveTo_21 (by decide +kernel) ?_
      refine lv_istore_n (lv' := [(2, .int (nI 0)), (0, .ref w), (1, .int (nI q))]) hx hb dX3_moveTo_22 rfl hl (Nat.le_of_ble_eq_true rfl) rfl (fun ls hl => ?_)
      refine lv_aload_n hx hb dX3_moveTo_23 rfl (lv_at hl 1 rfl) ?_
      refine lv_iload_n hx hb dX3_moveTo_24 rfl (lv_at hl 2 rfl) ?_
      refine lv_aload_n hx hb dX3_moveTo_25 rfl (lv_at hl 1 rfl) ?_
      refine va_get (D := D) (ci := 3) (v := .ref r) (C := RX3) (T := TX3) (N := 9) hx hb ht inA_X3 hown hK.1 hP 0 rfl rfl 0 (by decide) (ht _ iw_232) (fun _ h9 => h9) rfl dX3_moveTo_26 ?_
      refine va_getN (D := D) (ci := 1) (v := .int (nI n)) (C := RX1) (T := TX1) (N := 2) hx hb ht inA_X1 hown hK.1 hP 1 rfl rfl 1 (by decide) (nfu_11 hK) (fun _ h9 => h9) rfl dX3_moveTo_29 ?_
      refine lv_aload_n hx hb dX3_moveTo_32 rfl (lv_at hl 1 rfl) ?_
      refine va_get (D := D) (ci := 3) (v := .int (nI z)) (C := RX3) (T := TX3) (N := 9) hx hb ht inA_X3 hown hK.1 hP 0 rfl rfl 1 (by decide) (ht _ iw_233) (fun _ h9 => h9) rfl dX3_moveTo_33 ?_
      refine lv_isub hx hb dX3_moveTo_36 ?_
      by_cases hc : q + z ≤ n
      ·
        refine lv_icmp_gt (tgt := 44) hx hb dX3_moveTo_37 (by decide) (fun h => ?_) (fun h => ?_)
        ·
          exact absurd ((ds_sublt (by omega) (by omega) (by omega)).mp h) (by omega)
        ·
          refine lv_iconst (v := nI 1) hx hb dX3_moveTo_40 (by decide +kernel) ?_
          refine lv_goto (tgt := 45) hx hb dX3_moveTo_41 (by decide) ?_
          refine va_put (D := D) (ci := 3) (v := .int (nI 1)) (ty := .boolean) (C := RX3) (T := TX3) (N := 9) hx hb ht inA_X3 tyX3 tyX3_ok nmX3 hown hK.1 hP hD hS 0 rfl rfl 3 (by decide) (ht _ iw_235) (fun _ h9 => h9) rfl (by decide +kernel) (by decide +kernel) (by decide +kernel) (Nat.le_of_ble_eq_true rfl) dX3_moveTo_45 (fun H locs hP hD hS => ?_)
          have hP : va_P D vwCl [(w, .inr (3, [.ref r, .int (nI z), .int pl, .int (nI 1), .int a, .int b, .int wk, .long st, .int ks])), (r, .inr (1, [.ref o, .int (nI n)])), (o, .inl (cI, 1200, .inl f))] H := hP
          have hD : va_D A [(w, .inr (3, [.ref r, .int (nI z), .int pl, .int (nI 1), .int a, .int b, .int wk, .long st, .int ks])), (r, .inr (1, [.ref o, .int (nI n)])), (o, .inl (cI, 1200, .inl f))] := hD
          refine lv_aload_n hx hb dX3_moveTo_48 rfl (lv_at hl 1 rfl) ?_
          refine va_get (D := D) (ci := 3) (v := .int (nI 1)) (C := RX3) (T := TX3) (N := 9) hx hb ht inA_X3 hown hK.1 hP 0 rfl rfl 3 (by decide) (ht _ iw_235) (fun _ h9 => h9) rfl dX3_moveTo_49 ?_
          refine lv_if_eq (tgt := 66) hx hb dX3_moveTo_52 (by decide) (fun h => ?_) (fun h => ?_)
          ·
            rw [← nI_0] at h
            have h : 1 = 0 := (nI_eq (a := 1) (b := 0) (by omega) (by omega)).mp h
            exact absurd h (by decide)
          ·
            rw [← nI_0] at h
            have h : ¬ 1 = 0 := fun z9 => h ((nI_eq (a := 1) (b := 0) (by omega) (by omega)).mpr z9)
            refine lv_iload_n hx hb dX3_moveTo_55 rfl (lv_at hl 0 rfl) ?_
            refine lv_if_eq (tgt := 66) hx hb dX3_moveTo_56 (by decide) (fun h => ?_) (fun h => ?_)
            ·
              rw [← nI_0] at h
              have h : 0 = 0 := (nI_eq (a := 0) (b := 0) (by omega) (by omega)).mp h
              refine lv_aload_n hx hb dX3_moveTo_66 rfl (lv_at hl 1 rfl) ?_
              refine va_get (D := D) (ci := 3) (v := .int (nI 1)) (C := RX3) (T := TX3) (N := 9) hx hb ht inA_X3 hown hK.1 hP 0 rfl rfl 3 (by decide) (ht _ iw_235) (fun _ h9 => h9) rfl dX3_moveTo_67 ?_
              refine lv_if_eq (tgt := 78) hx hb dX3_moveTo_70 (by decide) (fun h => ?_) (fun h => ?_)
              ·
                rw [← nI_0] at h
                have h : 1 = 0 := (nI_eq (a := 1) (b := 0) (by omega) (by omega)).mp h
                exact absurd h (by decide)
              ·
                rw [← nI_0] at h
                have h : ¬ 1 = 0 := fun z9 => h ((nI_eq (a := 1) (b := 0) (by omega) (by omega)).mpr z9)
                refine lv_aload_n hx hb dX3_moveTo_73 rfl (lv_at hl 1 rfl) ?_
                refine lv_iload_n hx hb dX3_moveTo_74 rfl (lv_at hl 2 rfl) ?_
                refine ds_callv (wc := [(w, .inr (3, [.ref r, .int (nI z), .int pl, .int (nI 1), .int a, .int b, .int wk, .long st, .int ks])), (r, .inr (1, [.ref o, .int (nI n)])), (o, .inl (cI, 1200, .inl f))]) (wr := []) (wo := (fun u2 : Unit => [(w, .inr (3, [.ref r, .int (nI z), .int pl, .int (nI 1), .int (su_A f q z), .int (su_B f q z), .int wk, .long st, .int ks])), (r, .inr (1, [.ref o, .int (nI n)])), (o, .inl (cI, 1200, .inl f))])) (wn := (fun u2 : Unit => [(w, .inr (3, [.ref r, .int (nI z), .int pl, .int (nI 1), .int (su_A f q z), .int (su_B f q z), .int wk, .long st, .int ks])), (r, .inr (1, [.ref o, .int (nI n)])), (o, .inl (cI, 1200, .inl f))])) (isC := [0, 1, 2]) (isR := []) hP hD hS hA ⟨rfl, rfl, by decide, by decide, by decide⟩ [0, 1, 2] (by decide) (fun _ => rfl) (fun hPc hDc => va_runV (As := [.int (nI q)]) (rest := []) ⟨hx, hb, hml, hown, ht⟩ (c_X3_sumAfresh Ll D cI cL w r z pl (nI 1) a b wk st ks o n f q (by omega) H.size) ⟨(callB_of 1 ht g_X3_sumAfresh rfl rfl rfl (ht _ iw_18) (ht _ iw_242) hd_X3_sumAfresh ⟨Nat.le_of_ble_eq_true rfl, Nat.le_of_ble_eq_true rfl⟩), (ht _ iw_243), (ht _ iw_244)⟩ (ds_pV hPc hDc hK (q0 := 0) rfl rfl) rfl rfl hl.1 rfl (lv_room (Nat.le_of_ble_eq_true rfl)) dX3_moveTo_75 ⟨Nat.le_of_ble_eq_true rfl, Nat.le_of_ble_eq_true rfl⟩) (fun u2 H locs hp3 hP hD hS => ?_)
                have hP : va_P D vwCl [(w, .inr (3, [.ref r, .int (nI z), .int pl, .int (nI 1), .int (su_A f q z), .int (su_B f q z), .int wk, .long st, .int ks])), (r, .inr (1, [.ref o, .int (nI n)])), (o, .inl (cI, 1200, .inl f))] H := hP
                have hD : va_D A [(w, .inr (3, [.ref r, .int (nI z), .int pl, .int (nI 1), .int (su_A f q z), .int (su_B f q z), .int wk, .long st, .int ks])), (r, .inr (1, [.ref o, .int (nI n)])), (o, .inl (cI, 1200, .inl f))] := hD
                have hp3 : True := hp3
                refine lv_aload_n hx hb dX3_moveTo_78 rfl (lv_at hl 1 rfl) ?_
                refine lv_aload_n hx hb dX3_moveTo_79 rfl (lv_at hl 1 rfl) ?_
                refine va_get (D := D) (ci := 3) (v := .int (su_A f q z)) (C := RX3) (T := TX3) (N := 9) hx hb ht inA_X3 hown hK.1 hP 0 rfl rfl 4 (by decide) (ht _ iw_245) (fun _ h9 => h9) rfl dX3_moveTo_80 ?_
                refine lv_aload_n hx hb dX3_moveTo_83 rfl (lv_at hl 1 rfl) ?_
                refine va_get (D := D) (ci := 3) (v := .int (su_B f q z)) (C := RX3) (T := TX3) (N := 9) hx hb ht inA_X3 hown hK.1 hP 0 rfl rfl 5 (by decide) (ht _ iw_246) (fun _ h9 => h9) rfl dX3_moveTo_84 ?_
                refine ds_calli (wc := []) (wr := [(w, .inr (3, [.ref r, .int (nI z), .int pl, .int (nI 1), .int (su_A f q z), .int (su_B f q z), .int wk, .long st, .int ks])), (r, .inr (1, [.ref o, .int (nI n)])), (o, .inl (cI, 1200, .inl f))]) (wo := (fun u5 : Unit => [])) (wn := (fun u5 : Unit => [(w, .inr (3, [.ref r, .int (nI z), .int pl, .int (nI 1), .int (su_A f q z), .int (su_B f q z), .int wk, .long st, .int ks])), (r, .inr (1, [.ref o, .int (nI n)])), (o, .inl (cI, 1200, .inl f))])) (isC := []) (isR := [0, 1, 2]) hP hD hS hA ⟨rfl, rfl, by decide, by decide, by decide⟩ [0, 1, 2] (by decide) (fun _ => rfl) (fun hPc hDc => va_runSN (As := [.int (su_A f q z), .int (su_B f q z)]) (rest := [.ref w]) ⟨hx, hb, hml, hown, ht⟩ (c_X1_joinWeak Ll D cI cL (su_A f q z) (su_B f q z)  H.size) ⟨(va_cnB 2 ht g_X1_joinWeak rfl rfl rfl (nmu_20 hK) (ht _ iw_6) hd_X1_joinWeak ⟨Nat.le_of_ble_eq_true rfl, Nat.le_of_ble_eq_true rfl⟩), (ht _ iw_211), trivial⟩ (ds_pS hPc hDc hK) rfl rfl hl.1 rfl (lv_room (Nat.le_of_ble_eq_true rfl)) dX3_moveTo_87 ⟨Nat.le_of_ble_eq_true rfl, Nat.le_of_ble_eq_true rfl⟩) (fun r4 u5 H locs hp6 hP hD hS => ?_)
                have hP : va_P D vwCl [(w, .inr (3, [.ref r, .int (nI z), .int pl, .int (nI 1), .int (su_A f q z), .int (su_B f q z), .int wk, .long st, .int ks])), (r, .inr (1, [.ref o, .int (nI n)])), (o, .inl (cI, 1200, .inl f))] H := hP
                have hD : va_D A [(w, .inr (3, [.ref r, .int (nI z), .int pl, .int (nI 1), .int (su_A f q z), .int (su_B f q z), .int wk, .long st, .int ks])), (r, .inr (1, [.ref o, .int (nI n)])), (o, .inl (cI, 1200, .inl f))] := hD
                have hp6 : r4 = su_J (su_A f q z) (su_B f q z) := hp6
                replace hp6 := Eq.symm hp6
                subst hp6
                refine va_put (D := D) (ci := 3) (v := .int (su_J (su_A f q z) (su_B f q z))) (ty := .int) (C := RX3) (T := TX3) (N := 9) hx hb ht inA_X3 tyX3 tyX3_ok nmX3 hown hK.1 hP hD hS 0 rfl rfl 6 (by decide) (ht _ iw_247) (fun _ h9 => h9) rfl (by decide +kernel) rfl rfl (Nat.le_of_ble_eq_true rfl) dX3_moveTo_90 (fun H locs hP hD hS => ?_)
                have hP : va_P D vwCl [(w, .inr (3, [.ref r, .int (nI z), .int pl, .int (nI 1), .int (su_A f q z), .int (su_B f q z), .int (su_J (su_A f q z) (su_B f q z)), .long st, .int ks])), (r, .inr (1, [.ref o, .int (nI n)])), (o, .inl (cI, 1200, .inl f))] H := hP
                have hD : va_D A [(w, .inr (3, [.ref r, .int (nI z), .int pl, .int (nI 1), .int (su_A f q z), .int (su_B f q z), .int (su_J (su_A f q z) (su_B f q z)), .long st, .int ks])), (r, .inr (1, [.ref o, .int (nI n)])), (o, .inl (cI, 1200, .inl f))] := hD
                refine lv_aload_n hx hb dX3_moveTo_93 rfl (lv_at hl 1 rfl) ?_
                refine lv_iload_n hx hb dX3_moveTo_94 rfl (lv_at hl 2 rfl) ?_
                refine va_put (D := D) (ci := 3) (v := .int (nI q)) (ty := .int) (C := RX3) (T := TX3) (N := 9) hx hb ht inA_X3 tyX3 tyX3_ok nmX3 hown hK.1 hP hD hS 0 rfl rfl 2 (by decide) (ht _ iw_234) (fun _ h9 => h9) rfl (by decide +kernel) rfl rfl (Nat.le_of_ble_eq_true rfl) dX3_moveTo_95 (fun H locs hP hD hS => ?_)
                have hP : va_P D vwCl [(w, .inr (3, [.ref r, .int (nI z), .int (nI q), .int (nI 1), .int (su_A f q z), .int (su_B f q z), .int (su_J (su_A f q z) (su_B f q z)), .long st, .int ks])), (r, .inr (1, [.ref o, .int (nI n)])), (o, .inl (cI, 1200, .inl f))] H := hP
                have hD : va_D A [(w, .inr (3, [.ref r, .int (nI z), .int (nI q), .int (nI 1), .int (su_A f q z), .int (su_B f q z), .int (su_J (su_A f q z) (su_B f q z)), .long st, .int ks])), (r, .inr (1, [.ref o, .int (nI n)])), (o, .inl (cI, 1200, .inl f))] := hD
                refine lv_aload_n hx hb dX3_moveTo_98 rfl (lv_at hl 1 rfl) ?_
                refine lv_iconst (v := nI 0) hx hb dX3_moveTo_99 (by decide +kernel) ?_
                refine va_put (D := D) (ci := 3) (v := .int (nI 0)) (ty := .boolean) (C := RX3) (T := TX3) (N := 9) hx hb ht inA_X3 tyX3 tyX3_ok nmX3 hown hK.1 hP hD hS 0 rfl rfl 8 (by decide) (ht _ iw_236) (fun _ h9 => h9) rfl (by decide +kernel) (by decide +kernel) (by decide +kernel) (Nat.le_of_ble_eq_true rfl) dX3_moveTo_100 (fun H locs hP hD hS => ?_)
                have hP : va_P D vwCl [(w, .inr (3, [.ref r, .int (nI z), .int (nI q), .int (nI 1), .int (su_A f q z), .int (su_B f q z), .int (su_J (su_A f q z) (su_B f q z)), .long st, .int (nI 0)])), (r, .inr (1, [.ref o, .int (nI n)])), (o, .inl (cI, 1200, .inl f))] H := hP
                have hD : va_D A [(w, .inr (3, [.ref r, .int (nI z), .int (nI q), .int (nI 1), .int (su_A f q z), .int (su_B f q z), .int (su_J (su_A f q z) (su_B f q z)), .long st, .int (nI 0)])), (r, .inr (1, [.ref o, .int (nI n)])), (o, .inl (cI, 1200, .inl f))] := hD
                exact ds_vret hx hb hr hlk (nI 1, su_A f q z, su_B f q z, su_W f q z) (Or.inl ⟨hc, rfl, rfl, rfl, rfl⟩) hP hD hS (Nat.le_of_ble_eq_true rfl) (Nat.le_of_ble_eq_true rfl) dX3_moveTo_103
            ·
              rw [← nI_0] at h
              have h : ¬ 0 = 0 := fun z9 => h ((nI_eq (a := 0) (b := 0) (by omega) (by omega)).mpr z9)
              exact absurd rfl h
      ·
        refine lv_icmp_gt (tgt := 44) hx hb dX3_moveTo_37 (by decide) (fun h => ?_) (fun h => ?_)
        ·
          refine lv_iconst (v := nI 0) hx hb dX3_moveTo_44 (by decide +kernel) ?_
          refine va_put (D := D) (ci := 3) (v := .int (nI 0)) (ty := .boolean) (C := RX3) (T := TX3) (N := 9) hx hb ht inA_X3 tyX3 tyX3_ok nmX3 hown hK.1 hP hD hS 0 rfl rfl 3 (by decide) (ht _ iw_235) (fun _ h9 => h9) rfl (by decide +kernel) (by decide +kernel) (by decide +kernel) (Nat.le_of_ble_eq_true rfl) dX3_moveTo_45 (fun H locs hP hD hS => ?_)
          have hP : va_P D vwCl [(w, .inr (3, [.ref r, .int (nI z), .int pl, .int (nI 0), .int a, .int b, .int wk, .long st, .int ks])), (r, .inr (1, [.ref o, .int (nI n)])), (o, .inl (cI, 1200, .inl f))] H := hP
          have hD : va_D A [(w, .inr (3, [.ref r, .int (nI z), .int pl, .int (nI 0), .int a, .int b, .int wk, .long st, .int ks])), (r, .inr (1, [.ref o, .int (nI n)])), (o, .inl (cI, 1200, .inl f))] := hD
          refine lv_aload_n hx hb dX3_moveTo_48 rfl (lv_at hl 1 rfl) ?_
          refine va_get (D := D) (ci := 3) (v := .int (nI 0)) (C := RX3) (T := TX3) (N := 9) hx hb ht inA_X3 hown hK.1 hP 0 rfl rfl 3 (by decide) (ht _ iw_235) (fun _ h9 => h9) rfl dX3_moveTo_49 ?_
          refine lv_if_eq (tgt := 66) hx hb dX3_moveTo_52 (by decide) (fun h => ?_) (fun h => ?_)
          ·
            rw [← nI_0] at h
            have h : 0 = 0 := (nI_eq (a := 0) (b := 0) (by omega) (by omega)).mp h
            refine lv_aload_n hx hb dX3_moveTo_66 rfl (lv_at hl 1 rfl) ?_
            refine va_get (D := D) (ci := 3) (v := .int (nI 0)) (C := RX3) (T := TX3) (N := 9) hx hb ht inA_X3 hown hK.1 hP 0 rfl rfl 3 (by decide) (ht _ iw_235) (fun _ h9 => h9) rfl dX3_moveTo_67 ?_
            refine lv_if_eq (tgt := 78) hx hb dX3_moveTo_70 (by decide) (fun h => ?_) (fun h => ?_)
            ·
              rw [← nI_0] at h
              have h : 0 = 0 := (nI_eq (a := 0) (b := 0) (by omega) (by omega)).mp h
              refine lv_aload_n hx hb dX3_moveTo_78 rfl (lv_at hl 1 rfl) ?_
              refine lv_aload_n hx hb dX3_moveTo_79 rfl (lv_at hl 1 rfl) ?_
              refine va_get (D := D) (ci := 3) (v := .int a) (C := RX3) (T := TX3) (N := 9) hx hb ht inA_X3 hown hK.1 hP 0 rfl rfl 4 (by decide) (ht _ iw_245) (fun _ h9 => h9) rfl dX3_moveTo_80 ?_
              refine lv_aload_n hx hb dX3_moveTo_83 rfl (lv_at hl 1 rfl) ?_
              refine va_get (D := D) (ci := 3) (v := .int b) (C := RX3) (T := TX3) (N := 9) hx hb ht inA_X3 hown hK.1 hP 0 rfl rfl 5 (by decide) (ht _ iw_246) (fun _ h9 => h9) rfl dX3_moveTo_84 ?_
              refine ds_calli (wc := []) (wr := [(w, .inr (3, [.ref r, .int (nI z), .int pl, .int (nI 0), .int a, .int b, .int wk, .long st, .int ks])), (r, .inr (1, [.ref o, .int (nI n)])), (o, .inl (cI, 1200, .inl f))]) (wo := (fun u8 : Unit => [])) (wn := (fun u8 : Unit => [(w, .inr (3, [.ref r, .int (nI z), .int pl, .int (nI 0), .int a, .int b, .int wk, .long st, .int ks])), (r, .inr (1, [.ref o, .int (nI n)])), (o, .inl (cI, 1200, .inl f))])) (isC := []) (isR := [0, 1, 2]) hP hD hS hA ⟨rfl, rfl, by decide, by decide, by decide⟩ [0, 1, 2] (by decide) (fun _ => rfl) (fun hPc hDc => va_runSN (As := [.int a, .int b]) (rest := [.ref w]) ⟨hx, hb, hml, hown, ht⟩ (c_X1_joinWeak Ll D cI cL a b  H.size) ⟨(va_cnB 2 ht g_X1_joinWeak rfl rfl rfl (nmu_20 hK) (ht _ iw_6) hd_X1_joinWeak ⟨Nat.le_of_ble_eq_true rfl, Nat.le_of_ble_eq_true rfl⟩), (ht _ iw_211), trivial⟩ (ds_pS hPc hDc hK) rfl rfl hl.1 rfl (lv_room (Nat.le_of_ble_eq_true rfl)) dX3_moveTo_87 ⟨Nat.le_of_ble_eq_true rfl, Nat.le_of_ble_eq_true rfl⟩) (fun r7 u8 H locs hp9 hP hD hS => ?_)
              have hP : va_P D vwCl [(w, .inr (3, [.ref r, .int (nI z), .int pl, .int (nI 0), .int a, .int b, .int wk, .long st, .int ks])), (r, .inr (1, [.ref o, .int (nI n)])), (o, .inl (cI, 1200, .inl f))] H := hP
              have hD : va_D A [(w, .inr (3, [.ref r, .int (nI z), .int pl, .int (nI 0), .int a, .int b, .int wk, .long st, .int ks])), (r, .inr (1, [.ref o, .int (nI n)])), (o, .inl (cI, 1200, .inl f))] := hD
              have hp9 : r7 = su_J a b := hp9
              replace hp9 := Eq.symm hp9
              subst hp9
              refine va_put (D := D) (ci := 3) (v := .int (su_J a b)) (ty := .int) (C := RX3) (T := TX3) (N := 9) hx hb ht inA_X3 tyX3 tyX3_ok nmX3 hown hK.1 hP hD hS 0 rfl rfl 6 (by decide) (ht _ iw_247) (fun _ h9 => h9) rfl (by decide +kernel) rfl rfl (Nat.le_of_ble_eq_true rfl) dX3_moveTo_90 (fun H locs hP hD hS => ?_)
              have hP : va_P D vwCl [(w, .inr (3, [.ref r, .int (nI z), .int pl, .int (nI 0), .int a, .int b, .int (su_J a b), .long st, .int ks])), (r, .inr (1, [.ref o, .int (nI n)])), (o, .inl (cI, 1200, .inl f))] H := hP
              have hD : va_D A [(w, .inr (3, [.ref r, .int (nI z), .int pl, .int (nI 0), .int a, .int b, .int (su_J a b), .long st, .int ks])), (r, .inr (1, [.ref o, .int (nI n)])), (o, .inl (cI, 1200, .inl f))] := hD
              refine lv_aload_n hx hb dX3_moveTo_93 rfl (lv_at hl 1 rfl) ?_
              refine lv_iload_n hx hb dX3_moveTo_94 rfl (lv_at hl 2 rfl) ?_
              refine va_put (D := D) (ci := 3) (v := .int (nI q)) (ty := .int) (C := RX3) (T := TX3) (N := 9) hx hb ht inA_X3 tyX3 tyX3_ok nmX3 hown hK.1 hP hD hS 0 rfl rfl 2 (by decide) (ht _ iw_234) (fun _ h9 => h9) rfl (by decide +kernel) rfl rfl (Nat.le_of_ble_eq_true rfl) dX3_moveTo_95 (fun H locs hP hD hS => ?_)
              have hP : va_P D vwCl [(w, .inr (3, [.ref r, .int (nI z), .int (nI q), .int (nI 0), .int a, .int b, .int (su_J a b), .long st, .int ks])), (r, .inr (1, [.ref o, .int (nI n)])), (o, .inl (cI, 1200, .inl f))] H := hP
              have hD : va_D A [(w, .inr (3, [.ref r, .int (nI z), .int (nI q), .int (nI 0), .int a, .int b, .int (su_J a b), .long st, .int ks])), (r, .inr (1, [.ref o, .int (nI n)])), (o, .inl (cI, 1200, .inl f))] := hD
              refine lv_aload_n hx hb dX3_moveTo_98 rfl (lv_at hl 1 rfl) ?_
              refine lv_iconst (v := nI 0) hx hb dX3_moveTo_99 (by decide +kernel) ?_
              refine va_put (D := D) (ci := 3) (v := .int (nI 0)) (ty := .boolean) (C := RX3) (T := TX3) (N := 9) hx hb ht inA_X3 tyX3 tyX3_ok nmX3 hown hK.1 hP hD hS 0 rfl rfl 8 (by decide) (ht _ iw_236) (fun _ h9 => h9) rfl (by decide +kernel) (by decide +kernel) (by decide +kernel) (Nat.le_of_ble_eq_true rfl) dX3_moveTo_100 (fun H locs hP hD hS => ?_)
              have hP : va_P D vwCl [(w, .inr (3, [.ref r, .int (nI z), .int (nI q), .int (nI 0), .int a, .int b, .int (su_J a b), .long st, .int (nI 0)])), (r, .inr (1, [.ref o, .int (nI n)])), (o, .inl (cI, 1200, .inl f))] H := hP
              have hD : va_D A [(w, .inr (3, [.ref r, .int (nI z), .int (nI q), .int (nI 0), .int a, .int b, .int (su_J a b), .long st, .int (nI 0)])), (r, .inr (1, [.ref o, .int (nI n)])), (o, .inl (cI, 1200, .inl f))] := hD
              exact ds_vret hx hb hr hlk (nI 0, a, b, su_J (a) (b)) (Or.inr ⟨by omega, rfl⟩) hP hD hS (Nat.le_of_ble_eq_true rfl) (Nat.le_of_ble_eq_true rfl) dX3_moveTo_103
            ·
              rw [← nI_0] at h
              have h : ¬ 0 = 0 := fun z9 => h ((nI_eq (a := 0) (b := 0) (by omega) (by omega)).mpr z9)
              exact absurd rfl h
          ·
            rw [← nI_0] at h
            have h : ¬ 0 = 0 := fun z9 => h ((nI_eq (a := 0) (b := 0) (by omega) (by omega)).mpr z9)
            exact absurd rfl h
        ·
          exact absurd ((ds_sublt (by omega) (by omega) (by omega)).mpr (by omega)) h
    ·
      exact absurd rfl h
  ·
    obtain ⟨e1, q0, e2, hq, e3, e4⟩ := hi.resolve_left hi0
    subst e1 e2 e3 e4
    refine lv_aload_n hx hb dX3_moveTo_0 rfl (lv_at hl 0 rfl) ?_
    refine va_get (D := D) (ci := 3) (v := .int 1) (C := RX3) (T := TX3) (N := 9) hx hb ht inA_X3 hown hK.1 hP 0 rfl rfl 3 (by decide) (ht _ iw_235) (fun _ h9 => h9) rfl dX3_moveTo_1 ?_
    refine lv_if_eq (tgt := 21) hx hb dX3_moveTo_4 (by decide) (fun h => ?_) (fun h => ?_)
    ·
      exact absurd h (by decide)
    ·
      refine lv_iload_n hx hb dX3_moveTo_7 rfl (lv_at hl 1 rfl) ?_
      refine lv_aload_n hx hb dX3_moveTo_8 rfl (lv_at hl 0 rfl) ?_
      refine va_get (D := D) (ci := 3) (v := .int (nI q0)) (C := RX3) (T := TX3) (N := 9) hx hb ht inA_X3 hown hK.1 hP 0 rfl rfl 2 (by decide) (ht _ iw_234) (fun _ h9 => h9) rfl dX3_moveTo_9 ?_
      refine lv_iconst (v := nI 1) hx hb dX3_moveTo_12 (by decide +kernel) ?_
      refine lv_iadd hx hb dX3_moveTo_13 ?_
      refine ds_top (z := nI (q0 + 1)) (nI_add _ _) ?_
      refine lv_icmp_ne (tgt := 21) hx hb dX3_moveTo_14 (by decide) (fun h => ?_) (fun h => ?_)
      ·
        have h : ¬ q = (q0 + 1) := fun z9 => h ((nI_eq (a := q) (b := (q0 + 1)) (by omega) (by omega)).mpr z9)
        refine lv_iconst (v := nI 0) hx hb dX3_moveTo_21 (by decide +kernel) ?_
        refine lv_istore_n (lv' := [(2, .int (nI 0)), (0, .ref w), (1, .int (nI q))]) hx hb dX3_moveTo_22 rfl hl (Nat.le_of_ble_eq_true rfl) rfl (fun ls hl => ?_)
        refine lv_aload_n hx hb dX3_moveTo_23 rfl (lv_at hl 1 rfl) ?_
        refine lv_iload_n hx hb dX3_moveTo_24 rfl (lv_at hl 2 rfl) ?_
        refine lv_aload_n hx hb dX3_moveTo_25 rfl (lv_at hl 1 rfl) ?_
        refine va_get (D := D) (ci := 3) (v := .ref r) (C := RX3) (T := TX3) (N := 9) hx hb ht inA_X3 hown hK.1 hP 0 rfl rfl 0 (by decide) (ht _ iw_232) (fun _ h9 => h9) rfl dX3_moveTo_26 ?_
        refine va_getN (D := D) (ci := 1) (v := .int (nI n)) (C := RX1) (T := TX1) (N := 2) hx hb ht inA_X1 hown hK.1 hP 1 rfl rfl 1 (by decide) (nfu_11 hK) (fun _ h9 => h9) rfl dX3_moveTo_29 ?_
        refine lv_aload_n hx hb dX3_moveTo_32 rfl (lv_at hl 1 rfl) ?_
        refine va_get (D := D) (ci := 3) (v := .int (nI z)) (C := RX3) (T := TX3) (N := 9) hx hb ht inA_X3 hown hK.1 hP 0 rfl rfl 1 (by decide) (ht _ iw_233) (fun _ h9 => h9) rfl dX3_moveTo_33 ?_
        refine lv_isub hx hb dX3_moveTo_36 ?_
        by_cases hc : q + z ≤ n
        ·
          refine lv_icmp_gt (tgt := 44) hx hb dX3_moveTo_37 (by decide) (fun h => ?_) (fun h => ?_)
          ·
            exact absurd ((ds_sublt (by omega) (by omega) (by omega)).mp h) (by omega)
          ·
            refine lv_iconst (v := nI 1) hx hb dX3_moveTo_40 (by decide +kernel) ?_
            refine lv_goto (tgt := 45) hx hb dX3_moveTo_41 (by decide) ?_
            refine va_put (D := D) (ci := 3) (v := .int (nI 1)) (ty := .boolean) (C := RX3) (T := TX3) (N := 9) hx hb ht inA_X3 tyX3 tyX3_ok nmX3 hown hK.1 hP hD hS 0 rfl rfl 3 (by decide) (ht _ iw_235) (fun _ h9 => h9) rfl (by decide +kernel) (by decide +kernel) (by decide +kernel) (Nat.le_of_ble_eq_true rfl) dX3_moveTo_45 (fun H locs hP hD hS => ?_)
            have hP : va_P D vwCl [(w, .inr (3, [.ref r, .int (nI z), .int (nI q0), .int (nI 1), .int (su_A f q0 z), .int (su_B f q0 z), .int wk, .long st, .int ks])), (r, .inr (1, [.ref o, .int (nI n)])), (o, .inl (cI, 1200, .inl f))] H := hP
            have hD : va_D A [(w, .inr (3, [.ref r, .int (nI z), .int (nI q0), .int (nI 1), .int (su_A f q0 z), .int (su_B f q0 z), .int wk, .long st, .int ks])), (r, .inr (1, [.ref o, .int (nI n)])), (o, .inl (cI, 1200, .inl f))] := hD
            refine lv_aload_n hx hb dX3_moveTo_48 rfl (lv_at hl 1 rfl) ?_
            refine va_get (D := D) (ci := 3) (v := .int (nI 1)) (C := RX3) (T := TX3) (N := 9) hx hb ht inA_X3 hown hK.1 hP 0 rfl rfl 3 (by decide) (ht _ iw_235) (fun _ h9 => h9) rfl dX3_moveTo_49 ?_
            refine lv_if_eq (tgt := 66) hx hb dX3_moveTo_52 (by decide) (fun h => ?_) (fun h => ?_)
            ·
              rw [← nI_0] at h
              have h : 1 = 0 := (nI_eq (a := 1) (b := 0) (by omega) (by omega)).mp h
              exact absurd h (by decide)
            ·
              rw [← nI_0] at h
              have h : ¬ 1 = 0 := fun z9 => h ((nI_eq (a := 1) (b := 0) (by omega) (by omega)).mpr z9)
              refine lv_iload_n hx hb dX3_moveTo_55 rfl (lv_at hl 0 rfl) ?_
              refine lv_if_eq (tgt := 66) hx hb dX3_moveTo_56 (by decide) (fun h => ?_) (fun h => ?_)
              ·
                rw [← nI_0] at h
                have h : 0 = 0 := (nI_eq (a := 0) (b := 0) (by omega) (by omega)).mp h
                refine lv_aload_n hx hb dX3_moveTo_66 rfl (lv_at hl 1 rfl) ?_
                refine va_get (D := D) (ci := 3) (v := .int (nI 1)) (C := RX3) (T := TX3) (N := 9) hx hb ht inA_X3 hown hK.1 hP 0 rfl rfl 3 (by decide) (ht _ iw_235) (fun _ h9 => h9) rfl dX3_moveTo_67 ?_
                refine lv_if_eq (tgt := 78) hx hb dX3_moveTo_70 (by decide) (fun h => ?_) (fun h => ?_)
                ·
                  rw [← nI_0] at h
                  have h : 1 = 0 := (nI_eq (a := 1) (b := 0) (by omega) (by omega)).mp h
                  exact absurd h (by decide)
                ·
                  rw [← nI_0] at h
                  have h : ¬ 1 = 0 := fun z9 => h ((nI_eq (a := 1) (b := 0) (by omega) (by omega)).mpr z9)
                  refine lv_aload_n hx hb dX3_moveTo_73 rfl (lv_at hl 1 rfl) ?_
                  refine lv_iload_n hx hb dX3_moveTo_74 rfl (lv_at hl 2 rfl) ?_
                  refine ds_callv (wc := [(w, .inr (3, [.ref r, .int (nI z), .int (nI q0), .int (nI 1), .int (su_A f q0 z), .int (su_B f q0 z), .int wk, .long st, .int ks])), (r, .inr (1, [.ref o, .int (nI n)])), (o, .inl (cI, 1200, .inl f))]) (wr := []) (wo := (fun u11 : Unit => [(w, .inr (3, [.ref r, .int (nI z), .int (nI q0), .int (nI 1), .int (su_A f q z), .int (su_B f q z), .int wk, .long st, .int ks])), (r, .inr (1, [.ref o, .int (nI n)])), (o, .inl (cI, 1200, .inl f))])) (wn := (fun u11 : Unit => [(w, .inr (3, [.ref r, .int (nI z), .int (nI q0), .int (nI 1), .int (su_A f q z), .int (su_B f q z), .int wk, .long st, .int ks])), (r, .inr (1, [.ref o, .int (nI n)])), (o, .inl (cI, 1200, .inl f))])) (isC := [0, 1, 2]) (isR := []) hP hD hS hA ⟨rfl, rfl, by decide, by decide, by decide⟩ [0, 1, 2] (by decide) (fun _ => rfl) (fun hPc hDc => va_runV (As := [.int (nI q)]) (rest := []) ⟨hx, hb, hml, hown, ht⟩ (c_X3_sumAfresh Ll D cI cL w r z (nI q0) (nI 1) (su_A f q0 z) (su_B f q0 z) wk st ks o n f q (by omega) H.size) ⟨(callB_of 1 ht g_X3_sumAfresh rfl rfl rfl (ht _ iw_18) (ht _ iw_242) hd_X3_sumAfresh ⟨Nat.le_of_ble_eq_true rfl, Nat.le_of_ble_eq_true rfl⟩), (ht _ iw_243), (ht _ iw_244)⟩ (ds_pV hPc hDc hK (q0 := 0) rfl rfl) rfl rfl hl.1 rfl (lv_room (Nat.le_of_ble_eq_true rfl)) dX3_moveTo_75 ⟨Nat.le_of_ble_eq_true rfl, Nat.le_of_ble_eq_true rfl⟩) (fun u11 H locs hp12 hP hD hS => ?_)
                  have hP : va_P D vwCl [(w, .inr (3, [.ref r, .int (nI z), .int (nI q0), .int (nI 1), .int (su_A f q z), .int (su_B f q z), .int wk, .long st, .int ks])), (r, .inr (1, [.ref o, .int (nI n)])), (o, .inl (cI, 1200, .inl f))] H := hP
                  have hD : va_D A [(w, .inr (3, [.ref r, .int (nI z), .int (nI q0), .int (nI 1), .int (su_A f q z), .int (su_B f q z), .int wk, .long st, .int ks])), (r, .inr (1, [.ref o, .int (nI n)])), (o, .inl (cI, 1200, .inl f))] := hD
                  have hp12 : True := hp12
                  refine lv_aload_n hx hb dX3_moveTo_78 rfl (lv_at hl 1 rfl) ?_
                  refine lv_aload_n hx hb dX3_moveTo_79 rfl (lv_at hl 1 rfl) ?_
                  refine va_get (D := D) (ci := 3) (v := .int (su_A f q z)) (C := RX3) (T := TX3) (N := 9) hx hb ht inA_X3 hown hK.1 hP 0 rfl rfl 4 (by decide) (ht _ iw_245) (fun _ h9 => h9) rfl dX3_moveTo_80 ?_
                  refine lv_aload_n hx hb dX3_moveTo_83 rfl (lv_at hl 1 rfl) ?_
                  refine va_get (D := D) (ci := 3) (v := .int (su_B f q z)) (C := RX3) (T := TX3) (N := 9) hx hb ht inA_X3 hown hK.1 hP 0 rfl rfl 5 (by decide) (ht _ iw_246) (fun _ h9 => h9) rfl dX3_moveTo_84 ?_
                  refine ds_calli (wc := []) (wr := [(w, .inr (3, [.ref r, .int (nI z), .int (nI q0), .int (nI 1), .int (su_A f q z), .int (su_B f q z), .int wk, .long st, .int ks])), (r, .inr (1, [.ref o, .int (nI n)])), (o, .inl (cI, 1200, .inl f))]) (wo := (fun u14 : Unit => [])) (wn := (fun u14 : Unit => [(w, .inr (3, [.ref r, .int (nI z), .int (nI q0), .int (nI 1), .int (su_A f q z), .int (su_B f q z), .int wk, .long st, .int ks])), (r, .inr (1, [.ref o, .int (nI n)])), (o, .inl (cI, 1200, .inl f))])) (isC := []) (isR := [0, 1, 2]) hP hD hS hA ⟨rfl, rfl, by decide, by decide, by decide⟩ [0, 1, 2] (by decide) (fun _ => rfl) (fun hPc hDc => va_runSN (As := [.int (su_A f q z), .int (su_B f q z)]) (rest := [.ref w]) ⟨hx, hb, hml, hown, ht⟩ (c_X1_joinWeak Ll D cI cL (su_A f q z) (su_B f q z)  H.size) ⟨(va_cnB 2 ht g_X1_joinWeak rfl rfl rfl (nmu_20 hK) (ht _ iw_6) hd_X1_joinWeak ⟨Nat.le_of_ble_eq_true rfl, Nat.le_of_ble_eq_true rfl⟩), (ht _ iw_211), trivial⟩ (ds_pS hPc hDc hK) rfl rfl hl.1 rfl (lv_room (Nat.le_of_ble_eq_true rfl)) dX3_moveTo_87 ⟨Nat.le_of_ble_eq_true rfl, Nat.le_of_ble_eq_true rfl⟩) (fun r13 u14 H locs hp15 hP hD hS => ?_)
                  have hP : va_P D vwCl [(w, .inr (3, [.ref r, .int (nI z), .int (nI q0), .int (nI 1), .int (su_A f q z), .int (su_B f q z), .int wk, .long st, .int ks])), (r, .inr (1, [.ref o, .int (nI n)])), (o, .inl (cI, 1200, .inl f))] H := hP
                  have hD : va_D A [(w, .inr (3, [.ref r, .int (nI z), .int (nI q0), .int (nI 1), .int (su_A f q z), .int (su_B f q z), .int wk, .long st, .int ks])), (r, .inr (1, [.ref o, .int (nI n)])), (o, .inl (cI, 1200, .inl f))] := hD
                  have hp15 : r13 = su_J (su_A f q z) (su_B f q z) := hp15
                  replace hp15 := Eq.symm hp15
                  subst hp15
                  refine va_put (D := D) (ci := 3) (v := .int (su_J (su_A f q z) (su_B f q z))) (ty := .int) (C := RX3) (T := TX3) (N := 9) hx hb ht inA_X3 tyX3 tyX3_ok nmX3 hown hK.1 hP hD hS 0 rfl rfl 6 (by decide) (ht _ iw_247) (fun _ h9 => h9) rfl (by decide +kernel) rfl rfl (Nat.le_of_ble_eq_true rfl) dX3_moveTo_90 (fun H locs hP hD hS => ?_)
                  have hP : va_P D vwCl [(w, .inr (3, [.ref r, .int (nI z), .int (nI q0), .int (nI 1), .int (su_A f q z), .int (su_B f q z), .int (su_J (su_A f q z) (su_B f q z)), .long st, .int ks])), (r, .inr (1, [.ref o, .int (nI n)])), (o, .inl (cI, 1200, .inl f))] H := hP
                  have hD : va_D A [(w, .inr (3, [.ref r, .int (nI z), .int (nI q0), .int (nI 1), .int (su_A f q z), .int (su_B f q z), .int (su_J (su_A f q z) (su_B f q z)), .long st, .int ks])), (r, .inr (1, [.ref o, .int (nI n)])), (o, .inl (cI, 1200, .inl f))] := hD
                  refine lv_aload_n hx hb dX3_moveTo_93 rfl (lv_at hl 1 rfl) ?_
                  refine lv_iload_n hx hb dX3_moveTo_94 rfl (lv_at hl 2 rfl) ?_
                  refine va_put (D := D) (ci := 3) (v := .int (nI q)) (ty := .int) (C := RX3) (T := TX3) (N := 9) hx hb ht inA_X3 tyX3 tyX3_ok nmX3 hown hK.1 hP hD hS 0 rfl rfl 2 (by decide) (ht _ iw_234) (fun _ h9 => h9) rfl (by decide +kernel) rfl rfl (Nat.le_of_ble_eq_true rfl) dX3_moveTo_95 (fun H locs hP hD hS => ?_)
                  have hP : va_P D vwCl [(w, .inr (3, [.ref r, .int (nI z), .int (nI q), .int (nI 1), .int (su_A f q z), .int (su_B f q z), .int (su_J (su_A f q z) (su_B f q z)), .long st, .int ks])), (r, .inr (1, [.ref o, .int (nI n)])), (o, .inl (cI, 1200, .inl f))] H := hP
                  have hD : va_D A [(w, .inr (3, [.ref r, .int (nI z), .int (nI q), .int (nI 1), .int (su_A f q z), .int (su_B f q z), .int (su_J (su_A f q z) (su_B f q z)), .long st, .int ks])), (r, .inr (1, [.ref o, .int (nI n)])), (o, .inl (cI, 1200, .inl f))] := hD
                  refine lv_aload_n hx hb dX3_moveTo_98 rfl (lv_at hl 1 rfl) ?_
                  refine lv_iconst (v := nI 0) hx hb dX3_moveTo_99 (by decide +kernel) ?_
                  refine va_put (D := D) (ci := 3) (v := .int (nI 0)) (ty := .boolean) (C := RX3) (T := TX3) (N := 9) hx hb ht inA_X3 tyX3 tyX3_ok nmX3 hown hK.1 hP hD hS 0 rfl rfl 8 (by decide) (ht _ iw_236) (fun _ h9 => h9) rfl (by decide +kernel) (by decide +kernel) (by decide +kernel) (Nat.le_of_ble_eq_true rfl) dX3_moveTo_100 (fun H locs hP hD hS => ?_)
                  have hP : va_P D vwCl [(w, .inr (3, [.ref r, .int (nI z), .int (nI q), .int (nI 1), .int (su_A f q z), .int (su_B f q z), .int (su_J (su_A f q z) (su_B f q z)), .long st, .int (nI 0)])), (r, .inr (1, [.ref o, .int (nI n)])), (o, .inl (cI, 1200, .inl f))] H := hP
                  have hD : va_D A [(w, .inr (3, [.ref r, .int (nI z), .int (nI q), .int (nI 1), .int (su_A f q z), .int (su_B f q z), .int (su_J (su_A f q z) (su_B f q z)), .long st, .int (nI 0)])), (r, .inr (1, [.ref o, .int (nI n)])), (o, .inl (cI, 1200, .inl f))] := hD
                  exact ds_vret hx hb hr hlk (nI 1, su_A f q z, su_B f q z, su_W f q z) (Or.inl ⟨hc, rfl, rfl, rfl, rfl⟩) hP hD hS (Nat.le_of_ble_eq_true rfl) (Nat.le_of_ble_eq_true rfl) dX3_moveTo_103
              ·
                rw [← nI_0] at h
                have h : ¬ 0 = 0 := fun z9 => h ((nI_eq (a := 0) (b := 0) (by omega) (by omega)).mpr z9)
                exact absurd rfl h
        ·
          refine lv_icmp_gt (tgt := 44) hx hb dX3_moveTo_37 (by decide) (fun h => ?_) (fun h => ?_)
          ·
            refine lv_iconst (v := nI 0) hx hb dX3_moveTo_44 (by decide +kernel) ?_
            refine va_put (D := D) (ci := 3) (v := .int (nI 0)) (ty := .boolean) (C := RX3) (T := TX3) (N := 9) hx hb ht inA_X3 tyX3 tyX3_ok nmX3 hown hK.1 hP hD hS 0 rfl rfl 3 (by decide) (ht _ iw_235) (fun _ h9 => h9) rfl (by decide +kernel) (by decide +kernel) (by decide +kernel) (Nat.le_of_ble_eq_true rfl) dX3_moveTo_45 (fun H locs hP hD hS => ?_)
            have hP : va_P D vwCl [(w, .inr (3, [.ref r, .int (nI z), .int (nI q0), .int (nI 0), .int (su_A f q0 z), .int (su_B f q0 z), .int wk, .long st, .int ks])), (r, .inr (1, [.ref o, .int (nI n)])), (o, .inl (cI, 1200, .inl f))] H := hP
            have hD : va_D A [(w, .inr (3, [.ref r, .int (nI z), .int (nI q0), .int (nI 0), .int (su_A f q0 z), .int (su_B f q0 z), .int wk, .long st, .int ks])), (r, .inr (1, [.ref o, .int (nI n)])), (o, .inl (cI, 1200, .inl f))] := hD
            refine lv_aload_n hx hb dX3_moveTo_48 rfl (lv_at hl 1 rfl) ?_
            refine va_get (D := D) (ci := 3) (v := .int (nI 0)) (C := RX3) (T := TX3) (N := 9) hx hb ht inA_X3 hown hK.1 hP 0 rfl rfl 3 (by decide) (ht _ iw_235) (fun _ h9 => h9) rfl dX3_moveTo_49 ?_
            refine lv_if_eq (tgt := 66) hx hb dX3_moveTo_52 (by decide) (fun h => ?_) (fun h => ?_)
            ·
              rw [← nI_0] at h
              have h : 0 = 0 := (nI_eq (a := 0) (b := 0) (by omega) (by omega)).mp h
              refine lv_aload_n hx hb dX3_moveTo_66 rfl (lv_at hl 1 rfl) ?_
              refine va_get (D := D) (ci := 3) (v := .int (nI 0)) (C := RX3) (T := TX3) (N := 9) hx hb ht inA_X3 hown hK.1 hP 0 rfl rfl 3 (by decide) (ht _ iw_235) (fun _ h9 => h9) rfl dX3_moveTo_67 ?_
              refine lv_if_eq (tgt := 78) hx hb dX3_moveTo_70 (by decide) (fun h => ?_) (fun h => ?_)
              ·
                rw [← nI_0] at h
                have h : 0 = 0 := (nI_eq (a := 0) (b := 0) (by omega) (by omega)).mp h
                refine lv_aload_n hx hb dX3_moveTo_78 rfl (lv_at hl 1 rfl) ?_
                refine lv_aload_n hx hb dX3_moveTo_79 rfl (lv_at hl 1 rfl) ?_
                refine va_get (D := D) (ci := 3) (v := .int (su_A f q0 z)) (C := RX3) (T := TX3) (N := 9) hx hb ht inA_X3 hown hK.1 hP 0 rfl rfl 4 (by decide) (ht _ iw_245) (fun _ h9 => h9) rfl dX3_moveTo_80 ?_
                refine lv_aload_n hx hb dX3_moveTo_83 rfl (lv_at hl 1 rfl) ?_
                refine va_get (D := D) (ci := 3) (v := .int (su_B f q0 z)) (C := RX3) (T := TX3) (N := 9) hx hb ht inA_X3 hown hK.1 hP 0 rfl rfl 5 (by decide) (ht _ iw_246) (fun _ h9 => h9) rfl dX3_moveTo_84 ?_
                refine ds_calli (wc := []) (wr := [(w, .inr (3, [.ref r, .int (nI z), .int (nI q0), .int (nI 0), .int (su_A f q0 z), .int (su_B f q0 z), .int wk, .long st, .int ks])), (r, .inr (1, [.ref o, .int (nI n)])), (o, .inl (cI, 1200, .inl f))]) (wo := (fun u17 : Unit => [])) (wn := (fun u17 : Unit => [(w, .inr (3, [.ref r, .int (nI z), .int (nI q0), .int (nI 0), .int (su_A f q0 z), .int (su_B f q0 z), .int wk, .long st, .int ks])), (r, .inr (1, [.ref o, .int (nI n)])), (o, .inl (cI, 1200, .inl f))])) (isC := []) (isR := [0, 1, 2]) hP hD hS hA ⟨rfl, rfl, by decide, by decide, by decide⟩ [0, 1, 2] (by decide) (fun _ => rfl) (fun hPc hDc => va_runSN (As := [.int (su_A f q0 z), .int (su_B f q0 z)]) (rest := [.ref w]) ⟨hx, hb, hml, hown, ht⟩ (c_X1_joinWeak Ll D cI cL (su_A f q0 z) (su_B f q0 z)  H.size) ⟨(va_cnB 2 ht g_X1_joinWeak rfl rfl rfl (nmu_20 hK) (ht _ iw_6) hd_X1_joinWeak ⟨Nat.le_of_ble_eq_true rfl, Nat.le_of_ble_eq_true rfl⟩), (ht _ iw_211), trivial⟩ (ds_pS hPc hDc hK) rfl rfl hl.1 rfl (lv_room (Nat.le_of_ble_eq_true rfl)) dX3_moveTo_87 ⟨Nat.le_of_ble_eq_true rfl, Nat.le_of_ble_eq_true rfl⟩) (fun r16 u17 H locs hp18 hP hD hS => ?_)
                have hP : va_P D vwCl [(w, .inr (3, [.ref r, .int (nI z), .int (nI q0), .int (nI 0), .int (su_A f q0 z), .int (su_B f q0 z), .int wk, .long st, .int ks])), (r, .inr (1, [.ref o, .int (nI n)])), (o, .inl (cI, 1200, .inl f))] H := hP
                have hD : va_D A [(w, .inr (3, [.ref r, .int (nI z), .int (nI q0), .int (nI 0), .int (su_A f q0 z), .int (su_B f q0 z), .int wk, .long st, .int ks])), (r, .inr (1, [.ref o, .int (nI n)])), (o, .inl (cI, 1200, .inl f))] := hD
                have hp18 : r16 = su_J (su_A f q0 z) (su_B f q0 z) := hp18
                replace hp18 := Eq.symm hp18
                subst hp18
                refine va_put (D := D) (ci := 3) (v := .int (su_J (su_A f q0 z) (su_B f q0 z))) (ty := .int) (C := RX3) (T := TX3) (N := 9) hx hb ht inA_X3 tyX3 tyX3_ok nmX3 hown hK.1 hP hD hS 0 rfl rfl 6 (by decide) (ht _ iw_247) (fun _ h9 => h9) rfl (by decide +kernel) rfl rfl (Nat.le_of_ble_eq_true rfl) dX3_moveTo_90 (fun H locs hP hD hS => ?_)
                have hP : va_P D vwCl [(w, .inr (3, [.ref r, .int (nI z), .int (nI q0), .int (nI 0), .int (su_A f q0 z), .int (su_B f q0 z), .int (su_J (su_A f q0 z) (su_B f q0 z)), .long st, .int ks])), (r, .inr (1, [.ref o, .int (nI n)])), (o, .inl (cI, 1200, .inl f))] H := hP
                have hD : va_D A [(w, .inr (3, [.ref r, .int (nI z), .int (nI q0), .int (nI 0), .int (su_A f q0 z), .int (su_B f q0 z), .int (su_J (su_A f q0 z) (su_B f q0 z)), .long st, .int ks])), (r, .inr (1, [.ref o, .int (nI n)])), (o, .inl (cI, 1200, .inl f))] := hD
                refine lv_aload_n hx hb dX3_moveTo_93 rfl (lv_at hl 1 rfl) ?_
                refine lv_iload_n hx hb dX3_moveTo_94 rfl (lv_at hl 2 rfl) ?_
                refine va_put (D := D) (ci := 3) (v := .int (nI q)) (ty := .int) (C := RX3) (T := TX3) (N := 9) hx hb ht inA_X3 tyX3 tyX3_ok nmX3 hown hK.1 hP hD hS 0 rfl rfl 2 (by decide) (ht _ iw_234) (fun _ h9 => h9) rfl (by decide +kernel) rfl rfl (Nat.le_of_ble_eq_true rfl) dX3_moveTo_95 (fun H locs hP hD hS => ?_)
                have hP : va_P D vwCl [(w, .inr (3, [.ref r, .int (nI z), .int (nI q), .int (nI 0), .int (su_A f q0 z), .int (su_B f q0 z), .int (su_J (su_A f q0 z) (su_B f q0 z)), .long st, .int ks])), (r, .inr (1, [.ref o, .int (nI n)])), (o, .inl (cI, 1200, .inl f))] H := hP
                have hD : va_D A [(w, .inr (3, [.ref r, .int (nI z), .int (nI q), .int (nI 0), .int (su_A f q0 z), .int (su_B f q0 z), .int (su_J (su_A f q0 z) (su_B f q0 z)), .long st, .int ks])), (r, .inr (1, [.ref o, .int (nI n)])), (o, .inl (cI, 1200, .inl f))] := hD
                refine lv_aload_n hx hb dX3_moveTo_98 rfl (lv_at hl 1 rfl) ?_
                refine lv_iconst (v := nI 0) hx hb dX3_moveTo_99 (by decide +kernel) ?_
                refine va_put (D := D) (ci := 3) (v := .int (nI 0)) (ty := .boolean) (C := RX3) (T := TX3) (N := 9) hx hb ht inA_X3 tyX3 tyX3_ok nmX3 hown hK.1 hP hD hS 0 rfl rfl 8 (by decide) (ht _ iw_236) (fun _ h9 => h9) rfl (by decide +kernel) (by decide +kernel) (by decide +kernel) (Nat.le_of_ble_eq_true rfl) dX3_moveTo_100 (fun H locs hP hD hS => ?_)
                have hP : va_P D vwCl [(w, .inr (3, [.ref r, .int (nI z), .int (nI q), .int (nI 0), .int (su_A f q0 z), .int (su_B f q0 z), .int (su_J (su_A f q0 z) (su_B f q0 z)), .long st, .int (nI 0)])), (r, .inr (1, [.ref o, .int (nI n)])), (o, .inl (cI, 1200, .inl f))] H := hP
                have hD : va_D A [(w, .inr (3, [.ref r, .int (nI z), .int (nI q), .int (nI 0), .int (su_A f q0 z), .int (su_B f q0 z), .int (su_J (su_A f q0 z) (su_B f q0 z)), .long st, .int (nI 0)])), (r, .inr (1, [.ref o, .int (nI n)])), (o, .inl (cI, 1200, .inl f))] := hD
                exact ds_vret hx hb hr hlk (nI 0, (su_A f q0 z), (su_B f q0 z), su_J ((su_A f q0 z)) ((su_B f q0 z))) (Or.inr ⟨by omega, rfl⟩) hP hD hS (Nat.le_of_ble_eq_true rfl) (Nat.le_of_ble_eq_true rfl) dX3_moveTo_103
              ·
                rw [← nI_0] at h
                have h : ¬ 0 = 0 := fun z9 => h ((nI_eq (a := 0) (b := 0) (by omega) (by omega)).mpr z9)
                exact absurd rfl h
            ·
              rw [← nI_0] at h
              have h : ¬ 0 = 0 := fun z9 => h ((nI_eq (a := 0) (b := 0) (by omega) (by omega)).mpr z9)
              exact absurd rfl h
          ·
            exact absurd ((ds_sublt (by omega) (by omega) (by omega)).mpr (by omega)) h
      ·
        have h : q = (q0 + 1) := (nI_eq (a := q) (b := (q0 + 1)) (by omega) (by omega)).mp h
        subst h
        refine lv_iconst (v := nI 1) hx hb dX3_moveTo_17 (by decide +kernel) ?_
        refine lv_goto (tgt := 22) hx hb dX3_moveTo_18 (by decide) ?_
        refine lv_istore_n (lv' := [(2, .int (nI 1)), (0, .ref w), (1, .int (nI (q0 + 1)))]) hx hb dX3_moveTo_22 rfl hl (Nat.le_of_ble_eq_true rfl) rfl (fun ls hl => ?_)
        refine lv_aload_n hx hb dX3_moveTo_23 rfl (lv_at hl 1 rfl) ?_
        refine lv_iload_n hx hb dX3_moveTo_24 rfl (lv_at hl 2 rfl) ?_
        refine lv_aload_n hx hb dX3_moveTo_25 rfl (lv_at hl 1 rfl) ?_
        refine va_get (D := D) (ci := 3) (v := .ref r) (C := RX3) (T := TX3) (N := 9) hx hb ht inA_X3 hown hK.1 hP 0 rfl rfl 0 (by decide) (ht _ iw_232) (fun _ h9 => h9) rfl dX3_moveTo_26 ?_
        refine va_getN (D := D) (ci := 1) (v := .int (nI n)) (C := RX1) (T := TX1) (N := 2) hx hb ht inA_X1 hown hK.1 hP 1 rfl rfl 1 (by decide) (nfu_11 hK) (fun _ h9 => h9) rfl dX3_moveTo_29 ?_
        refine lv_aload_n hx hb dX3_moveTo_32 rfl (lv_at hl 1 rfl) ?_
        refine va_get (D := D) (ci := 3) (v := .int (nI z)) (C := RX3) (T := TX3) (N := 9) hx hb ht inA_X3 hown hK.1 hP 0 rfl rfl 1 (by decide) (ht _ iw_233) (fun _ h9 => h9) rfl dX3_moveTo_33 ?_
        refine lv_isub hx hb dX3_moveTo_36 ?_
        by_cases hc : q0 + 1 + z ≤ n
        ·
          refine lv_icmp_gt (tgt := 44) hx hb dX3_moveTo_37 (by decide) (fun h => ?_) (fun h => ?_)
          ·
            exact absurd ((ds_sublt (by omega) (by omega) (by omega)).mp h) (by omega)
          ·
            refine lv_iconst (v := nI 1) hx hb dX3_moveTo_40 (by decide +kernel) ?_
            refine lv_goto (tgt := 45) hx hb dX3_moveTo_41 (by decide) ?_
            refine va_put (D := D) (ci := 3) (v := .int (nI 1)) (ty := .boolean) (C := RX3) (T := TX3) (N := 9) hx hb ht inA_X3 tyX3 tyX3_ok nmX3 hown hK.1 hP hD hS 0 rfl rfl 3 (by decide) (ht _ iw_235) (fun _ h9 => h9) rfl (by decide +kernel) (by decide +kernel) (by decide +kernel) (Nat.le_of_ble_eq_true rfl) dX3_moveTo_45 (fun H locs hP hD hS => ?_)
            have hP : va_P D vwCl [(w, .inr (3, [.ref r, .int (nI z), .int (nI q0), .int (nI 1), .int (su_A f q0 z), .int (su_B f q0 z), .int wk, .long st, .int ks])), (r, .inr (1, [.ref o, .int (nI n)])), (o, .inl (cI, 1200, .inl f))] H := hP
            have hD : va_D A [(w, .inr (3, [.ref r, .int (nI z), .int (nI q0), .int (nI 1), .int (su_A f q0 z), .int (su_B f q0 z), .int wk, .long st, .int ks])), (r, .inr (1, [.ref o, .int (nI n)])), (o, .inl (cI, 1200, .inl f))] := hD
            refine lv_aload_n hx hb dX3_moveTo_48 rfl (lv_at hl 1 rfl) ?_
            refine va_get (D := D) (ci := 3) (v := .int (nI 1)) (C := RX3) (T := TX3) (N := 9) hx hb ht inA_X3 hown hK.1 hP 0 rfl rfl 3 (by decide) (ht _ iw_235) (fun _ h9 => h9) rfl dX3_moveTo_49 ?_
            refine lv_if_eq (tgt := 66) hx hb dX3_moveTo_52 (by decide) (fun h => ?_) (fun h => ?_)
            ·
              rw [← nI_0] at h
              have h : 1 = 0 := (nI_eq (a := 1) (b := 0) (by omega) (by omega)).mp h
              exact absurd h (by decide)
            ·
              rw [← nI_0] at h
              have h : ¬ 1 = 0 := fun z9 => h ((nI_eq (a := 1) (b := 0) (by omega) (by omega)).mpr z9)
              refine lv_iload_n hx hb dX3_moveTo_55 rfl (lv_at hl 0 rfl) ?_
              refine lv_if_eq (tgt := 66) hx hb dX3_moveTo_56 (by decide) (fun h => ?_) (fun h => ?_)
              ·
                rw [← nI_0] at h
                have h : 1 = 0 := (nI_eq (a := 1) (b := 0) (by omega) (by omega)).mp h
                exact absurd h (by decide)
              ·
                rw [← nI_0] at h
                have h : ¬ 1 = 0 := fun z9 => h ((nI_eq (a := 1) (b := 0) (by omega) (by omega)).mpr z9)
                refine lv_aload_n hx hb dX3_moveTo_59 rfl (lv_at hl 1 rfl) ?_
                refine ds_callv (wc := [(w, .inr (3, [.ref r, .int (nI z), .int (nI q0), .int (nI 1), .int (su_A f q0 z), .int (su_B f q0 z), .int wk, .long st, .int ks])), (r, .inr (1, [.ref o, .int (nI n)])), (o, .inl (cI, 1200, .inl f))]) (wr := []) (wo := (fun u20 : Unit => [(w, .inr (3, [.ref r, .int (nI z), .int (nI q0), .int (nI 1), .int (su_A f (q0 + 1) z), .int (su_B f (q0 + 1) z), .int wk, .long st, .int ks])), (r, .inr (1, [.ref o, .int (nI n)])), (o, .inl (cI, 1200, .inl f))])) (wn := (fun u20 : Unit => [(w, .inr (3, [.ref r, .int (nI z), .int (nI q0), .int (nI 1), .int (su_A f (q0 + 1) z), .int (su_B f (q0 + 1) z), .int wk, .long st, .int ks])), (r, .inr (1, [.ref o, .int (nI n)])), (o, .inl (cI, 1200, .inl f))])) (isC := [0, 1, 2]) (isR := []) hP hD hS hA ⟨rfl, rfl, by decide, by decide, by decide⟩ [0, 1, 2] (by decide) (fun _ => rfl) (fun hPc hDc => va_runV (As := []) (rest := []) ⟨hx, hb, hml, hown, ht⟩ (c_X3_roll Ll D cI cL w r z q0 (nI 1) wk st ks o n f (by omega) H.size) ⟨(callB_of 0 ht g_X3_roll rfl rfl rfl (ht _ iw_18) (ht _ iw_239) hd_X3_roll ⟨Nat.le_of_ble_eq_true rfl, Nat.le_of_ble_eq_true rfl⟩), (ht _ iw_240), (ht _ iw_241)⟩ (ds_pV hPc hDc hK (q0 := 0) rfl rfl) rfl rfl hl.1 rfl (lv_room (Nat.le_of_ble_eq_true rfl)) dX3_moveTo_60 ⟨Nat.le_of_ble_eq_true rfl, Nat.le_of_ble_eq_true rfl⟩) (fun u20 H locs hp21 hP hD hS => ?_)
                have hP : va_P D vwCl [(w, .inr (3, [.ref r, .int (nI z), .int (nI q0), .int (nI 1), .int (su_A f (q0 + 1) z), .int (su_B f (q0 + 1) z), .int wk, .long st, .int ks])), (r, .inr (1, [.ref o, .int (nI n)])), (o, .inl (cI, 1200, .inl f))] H := hP
                have hD : va_D A [(w, .inr (3, [.ref r, .int (nI z), .int (nI q0), .int (nI 1), .int (su_A f (q0 + 1) z), .int (su_B f (q0 + 1) z), .int wk, .long st, .int ks])), (r, .inr (1, [.ref o, .int (nI n)])), (o, .inl (cI, 1200, .inl f))] := hD
                have hp21 : True := hp21
                refine lv_goto (tgt := 78) hx hb dX3_moveTo_63 (by decide) ?_
                refine lv_aload_n hx hb dX3_moveTo_78 rfl (lv_at hl 1 rfl) ?_
                refine lv_aload_n hx hb dX3_moveTo_79 rfl (lv_at hl 1 rfl) ?_
                refine va_get (D := D) (ci := 3) (v := .int (su_A f (q0 + 1) z)) (C := RX3) (T := TX3) (N := 9) hx hb ht inA_X3 hown hK.1 hP 0 rfl rfl 4 (by decide) (ht _ iw_245) (fun _ h9 => h9) rfl dX3_moveTo_80 ?_
                refine lv_aload_n hx hb dX3_moveTo_83 rfl (lv_at hl 1 rfl) ?_
                refine va_get (D := D) (ci := 3) (v := .int (su_B f (q0 + 1) z)) (C := RX3) (T := TX3) (N := 9) hx hb ht inA_X3 hown hK.1 hP 0 rfl rfl 5 (by decide) (ht _ iw_246) (fun _ h9 => h9) rfl dX3_moveTo_84 ?_
                refine ds_calli (wc := []) (wr := [(w, .inr (3, [.ref r, .int (nI z), .int (nI q0), .int (nI 1), .int (su_A f (q0 + 1) z), .int (su_B f (q0 + 1) z), .int wk, .long st, .int ks])), (r, .inr (1, [.ref o, .int (nI n)])), (o, .inl (cI, 1200, .inl f))]) (wo := (fun u23 : Unit => [])) (wn := (fun u23 : Unit => [(w, .inr (3, [.ref r, .int (nI z), .int (nI q0), .int (nI 1), .int (su_A f (q0 + 1) z), .int (su_B f (q0 + 1) z), .int wk, .long st, .int ks])), (r, .inr (1, [.ref o, .int (nI n)])), (o, .inl (cI, 1200, .inl f))])) (isC := []) (isR := [0, 1, 2]) hP hD hS hA ⟨rfl, rfl, by decide, by decide, by decide⟩ [0, 1, 2] (by decide) (fun _ => rfl) (fun hPc hDc => va_runSN (As := [.int (su_A f (q0 + 1) z), .int (su_B f (q0 + 1) z)]) (rest := [.ref w]) ⟨hx, hb, hml, hown, ht⟩ (c_X1_joinWeak Ll D cI cL (su_A f (q0 + 1) z) (su_B f (q0 + 1) z)  H.size) ⟨(va_cnB 2 ht g_X1_joinWeak rfl rfl rfl (nmu_20 hK) (ht _ iw_6) hd_X1_joinWeak ⟨Nat.le_of_ble_eq_true rfl, Nat.le_of_ble_eq_true rfl⟩), (ht _ iw_211), trivial⟩ (ds_pS hPc hDc hK) rfl rfl hl.1 rfl (lv_room (Nat.le_of_ble_eq_true rfl)) dX3_moveTo_87 ⟨Nat.le_of_ble_eq_true rfl, Nat.le_of_ble_eq_true rfl⟩) (fun r22 u23 H locs hp24 hP hD hS => ?_)
                have hP : va_P D vwCl [(w, .inr (3, [.ref r, .int (nI z), .int (nI q0), .int (nI 1), .int (su_A f (q0 + 1) z), .int (su_B f (q0 + 1) z), .int wk, .long st, .int ks])), (r, .inr (1, [.ref o, .int (nI n)])), (o, .inl (cI, 1200, .inl f))] H := hP
                have hD : va_D A [(w, .inr (3, [.ref r, .int (nI z), .int (nI q0), .int (nI 1), .int (su_A f (q0 + 1) z), .int (su_B f (q0 + 1) z), .int wk, .long st, .int ks])), (r, .inr (1, [.ref o, .int (nI n)])), (o, .inl (cI, 1200, .inl f))] := hD
                have hp24 : r22 = su_J (su_A f (q0 + 1) z) (su_B f (q0 + 1) z) := hp24
                replace hp24 := Eq.symm hp24
                subst hp24
                refine va_put (D := D) (ci := 3) (v := .int (su_J (su_A f (q0 + 1) z) (su_B f (q0 + 1) z))) (ty := .int) (C := RX3) (T := TX3) (N := 9) hx hb ht inA_X3 tyX3 tyX3_ok nmX3 hown hK.1 hP hD hS 0 rfl rfl 6 (by decide) (ht _ iw_247) (fun _ h9 => h9) rfl (by decide +kernel) rfl rfl (Nat.le_of_ble_eq_true rfl) dX3_moveTo_90 (fun H locs hP hD hS => ?_)
                have hP : va_P D vwCl [(w, .inr (3, [.ref r, .int (nI z), .int (nI q0), .int (nI 1), .int (su_A f (q0 + 1) z), .int (su_B f (q0 + 1) z), .int (su_J (su_A f (q0 + 1) z) (su_B f (q0 + 1) z)), .long st, .int ks])), (r, .inr (1, [.ref o, .int (nI n)])), (o, .inl (cI, 1200, .inl f))] H := hP
                have hD : va_D A [(w, .inr (3, [.ref r, .int (nI z), .int (nI q0), .int (nI 1), .int (su_A f (q0 + 1) z), .int (su_B f (q0 + 1) z), .int (su_J (su_A f (q0 + 1) z) (su_B f (q0 + 1) z)), .long st, .int ks])), (r, .inr (1, [.ref o, .int (nI n)])), (o, .inl (cI, 1200, .inl f))] := hD
                refine lv_aload_n hx hb dX3_moveTo_93 rfl (lv_at hl 1 rfl) ?_
                refine lv_iload_n hx hb dX3_moveTo_94 rfl (lv_at hl 2 rfl) ?_
                refine va_put (D := D) (ci := 3) (v := .int (nI (q0 + 1))) (ty := .int) (C := RX3) (T := TX3) (N := 9) hx hb ht inA_X3 tyX3 tyX3_ok nmX3 hown hK.1 hP hD hS 0 rfl rfl 2 (by decide) (ht _ iw_234) (fun _ h9 => h9) rfl (by decide +kernel) rfl rfl (Nat.le_of_ble_eq_true rfl) dX3_moveTo_95 (fun H locs hP hD hS => ?_)
                have hP : va_P D vwCl [(w, .inr (3, [.ref r, .int (nI z), .int (nI (q0 + 1)), .int (nI 1), .int (su_A f (q0 + 1) z), .int (su_B f (q0 + 1) z), .int (su_J (su_A f (q0 + 1) z) (su_B f (q0 + 1) z)), .long st, .int ks])), (r, .inr (1, [.ref o, .int (nI n)])), (o, .inl (cI, 1200, .inl f))] H := hP
                have hD : va_D A [(w, .inr (3, [.ref r, .int (nI z), .int (nI (q0 + 1)), .int (nI 1), .int (su_A f (q0 + 1) z), .int (su_B f (q0 + 1) z), .int (su_J (su_A f (q0 + 1) z) (su_B f (q0 + 1) z)), .long st, .int ks])), (r, .inr (1, [.ref o, .int (nI n)])), (o, .inl (cI, 1200, .inl f))] := hD
                refine lv_aload_n hx hb dX3_moveTo_98 rfl (lv_at hl 1 rfl) ?_
                refine lv_iconst (v := nI 0) hx hb dX3_moveTo_99 (by decide +kernel) ?_
                refine va_put (D := D) (ci := 3) (v := .int (nI 0)) (ty := .boolean) (C := RX3) (T := TX3) (N := 9) hx hb ht inA_X3 tyX3 tyX3_ok nmX3 hown hK.1 hP hD hS 0 rfl rfl 8 (by decide) (ht _ iw_236) (fun _ h9 => h9) rfl (by decide +kernel) (by decide +kernel) (by decide +kernel) (Nat.le_of_ble_eq_true rfl) dX3_moveTo_100 (fun H locs hP hD hS => ?_)
                have hP : va_P D vwCl [(w, .inr (3, [.ref r, .int (nI z), .int (nI (q0 + 1)), .int (nI 1), .int (su_A f (q0 + 1) z), .int (su_B f (q0 + 1) z), .int (su_J (su_A f (q0 + 1) z) (su_B f (q0 + 1) z)), .long st, .int (nI 0)])), (r, .inr (1, [.ref o, .int (nI n)])), (o, .inl (cI, 1200, .inl f))] H := hP
                have hD : va_D A [(w, .inr (3, [.ref r, .int (nI z), .int (nI (q0 + 1)), .int (nI 1), .int (su_A f (q0 + 1) z), .int (su_B f (q0 + 1) z), .int (su_J (su_A f (q0 + 1) z) (su_B f (q0 + 1) z)), .long st, .int (nI 0)])), (r, .inr (1, [.ref o, .int (nI n)])), (o, .inl (cI, 1200, .inl f))] := hD
                exact ds_vret hx hb hr hlk (nI 1, su_A f (q0 + 1) z, su_B f (q0 + 1) z, su_W f (q0 + 1) z) (Or.inl ⟨hc, rfl, rfl, rfl, rfl⟩) hP hD hS (Nat.le_of_ble_eq_true rfl) (Nat.le_of_ble_eq_true rfl) dX3_moveTo_103
        ·
          refine lv_icmp_gt (tgt := 44) hx hb dX3_moveTo_37 (by decide) (fun h => ?_) (fun h => ?_)
          ·
            refine lv_iconst (v := nI 0) hx hb dX3_moveTo_44 (by decide +kernel) ?_
            refine va_put (D := D) (ci := 3) (v := .int (nI 0)) (ty := .boolean) (C := RX3) (T := TX3) (N := 9) hx hb ht inA_X3 tyX3 tyX3_ok nmX3 hown hK.1 hP hD hS 0 rfl rfl 3 (by decide) (ht _ iw_235) (fun _ h9 => h9) rfl (by decide +kernel) (by decide +kernel) (by decide +kernel) (Nat.le_of_ble_eq_true rfl) dX3_moveTo_45 (fun H locs hP hD hS => ?_)
            have hP : va_P D vwCl [(w, .inr (3, [.ref r, .int (nI z), .int (nI q0), .int (nI 0), .int (su_A f q0 z), .int (su_B f q0 z), .int wk, .long st, .int ks])), (r, .inr (1, [.ref o, .int (nI n)])), (o, .inl (cI, 1200, .inl f))] H := hP
            have hD : va_D A [(w, .inr (3, [.ref r, .int (nI z), .int (nI q0), .int (nI 0), .int (su_A f q0 z), .int (su_B f q0 z), .int wk, .long st, .int ks])), (r, .inr (1, [.ref o, .int (nI n)])), (o, .inl (cI, 1200, .inl f))] := hD
            refine lv_aload_n hx hb dX3_moveTo_48 rfl (lv_at hl 1 rfl) ?_
            refine va_get (D := D) (ci := 3) (v := .int (nI 0)) (C := RX3) (T := TX3) (N := 9) hx hb ht inA_X3 hown hK.1 hP 0 rfl rfl 3 (by decide) (ht _ iw_235) (fun _ h9 => h9) rfl dX3_moveTo_49 ?_
            refine lv_if_eq (tgt := 66) hx hb dX3_moveTo_52 (by decide) (fun h => ?_) (fun h => ?_)
            ·
              rw [← nI_0] at h
              have h : 0 = 0 := (nI_eq (a := 0) (b := 0) (by omega) (by omega)).mp h
              refine lv_aload_n hx hb dX3_moveTo_66 rfl (lv_at hl 1 rfl) ?_
              refine va_get (D := D) (ci := 3) (v := .int (nI 0)) (C := RX3) (T := TX3) (N := 9) hx hb ht inA_X3 hown hK.1 hP 0 rfl rfl 3 (by decide) (ht _ iw_235) (fun _ h9 => h9) rfl dX3_moveTo_67 ?_
              refine lv_if_eq (tgt := 78) hx hb dX3_moveTo_70 (by decide) (fun h => ?_) (fun h => ?_)
              ·
                rw [← nI_0] at h
                have h : 0 = 0 := (nI_eq (a := 0) (b := 0) (by omega) (by omega)).mp h
                refine lv_aload_n hx hb dX3_moveTo_78 rfl (lv_at hl 1 rfl) ?_
                refine lv_aload_n hx hb dX3_moveTo_79 rfl (lv_at hl 1 rfl) ?_
                refine va_get (D := D) (ci := 3) (v := .int (su_A f q0 z)) (C := RX3) (T := TX3) (N := 9) hx hb ht inA_X3 hown hK.1 hP 0 rfl rfl 4 (by decide) (ht _ iw_245) (fun _ h9 => h9) rfl dX3_moveTo_80 ?_
                refine lv_aload_n hx hb dX3_moveTo_83 rfl (lv_at hl 1 rfl) ?_
                refine va_get (D := D) (ci := 3) (v := .int (su_B f q0 z)) (C := RX3) (T := TX3) (N := 9) hx hb ht inA_X3 hown hK.1 hP 0 rfl rfl 5 (by decide) (ht _ iw_246) (fun _ h9 => h9) rfl dX3_moveTo_84 ?_
                refine ds_calli (wc := []) (wr := [(w, .inr (3, [.ref r, .int (nI z), .int (nI q0), .int (nI 0), .int (su_A f q0 z), .int (su_B f q0 z), .int wk, .long st, .int ks])), (r, .inr (1, [.ref o, .int (nI n)])), (o, .inl (cI, 1200, .inl f))]) (wo := (fun u26 : Unit => [])) (wn := (fun u26 : Unit => [(w, .inr (3, [.ref r, .int (nI z), .int (nI q0), .int (nI 0), .int (su_A f q0 z), .int (su_B f q0 z), .int wk, .long st, .int ks])), (r, .inr (1, [.ref o, .int (nI n)])), (o, .inl (cI, 1200, .inl f))])) (isC := []) (isR := [0, 1, 2]) hP hD hS hA ⟨rfl, rfl, by decide, by decide, by decide⟩ [0, 1, 2] (by decide) (fun _ => rfl) (fun hPc hDc => va_runSN (As := [.int (su_A f q0 z), .int (su_B f q0 z)]) (rest := [.ref w]) ⟨hx, hb, hml, hown, ht⟩ (c_X1_joinWeak Ll D cI cL (su_A f q0 z) (su_B f q0 z)  H.size) ⟨(va_cnB 2 ht g_X1_joinWeak rfl rfl rfl (nmu_20 hK) (ht _ iw_6) hd_X1_joinWeak ⟨Nat.le_of_ble_eq_true rfl, Nat.le_of_ble_eq_true rfl⟩), (ht _ iw_211), trivial⟩ (ds_pS hPc hDc hK) rfl rfl hl.1 rfl (lv_room (Nat.le_of_ble_eq_true rfl)) dX3_moveTo_87 ⟨Nat.le_of_ble_eq_true rfl, Nat.le_of_ble_eq_true rfl⟩) (fun r25 u26 H locs hp27 hP hD hS => ?_)
                have hP : va_P D vwCl [(w, .inr (3, [.ref r, .int (nI z), .int (nI q0), .int (nI 0), .int (su_A f q0 z), .int (su_B f q0 z), .int wk, .long st, .int ks])), (r, .inr (1, [.ref o, .int (nI n)])), (o, .inl (cI, 1200, .inl f))] H := hP
                have hD : va_D A [(w, .inr (3, [.ref r, .int (nI z), .int (nI q0), .int (nI 0), .int (su_A f q0 z), .int (su_B f q0 z), .int wk, .long st, .int ks])), (r, .inr (1, [.ref o, .int (nI n)])), (o, .inl (cI, 1200, .inl f))] := hD
                have hp27 : r25 = su_J (su_A f q0 z) (su_B f q0 z) := hp27
                replace hp27 := Eq.symm hp27
                subst hp27
                refine va_put (D := D) (ci := 3) (v := .int (su_J (su_A f q0 z) (su_B f q0 z))) (ty := .int) (C := RX3) (T := TX3) (N := 9) hx hb ht inA_X3 tyX3 tyX3_ok nmX3 hown hK.1 hP hD hS 0 rfl rfl 6 (by decide) (ht _ iw_247) (fun _ h9 => h9) rfl (by decide +kernel) rfl rfl (Nat.le_of_ble_eq_true rfl) dX3_moveTo_90 (fun H locs hP hD hS => ?_)
                have hP : va_P D vwCl [(w, .inr (3, [.ref r, .int (nI z), .int (nI q0), .int (nI 0), .int (su_A f q0 z), .int (su_B f q0 z), .int (su_J (su_A f q0 z) (su_B f q0 z)), .long st, .int ks])), (r, .inr (1, [.ref o, .int (nI n)])), (o, .inl (cI, 1200, .inl f))] H := hP
                have hD : va_D A [(w, .inr (3, [.ref r, .int (nI z), .int (nI q0), .int (nI 0), .int (su_A f q0 z), .int (su_B f q0 z), .int (su_J (su_A f q0 z) (su_B f q0 z)), .long st, .int ks])), (r, .inr (1, [.ref o, .int (nI n)])), (o, .inl (cI, 1200, .inl f))] := hD
                refine lv_aload_n hx hb dX3_moveTo_93 rfl (lv_at hl 1 rfl) ?_
                refine lv_iload_n hx hb dX3_moveTo_94 rfl (lv_at hl 2 rfl) ?_
                refine va_put (D := D) (ci := 3) (v := .int (nI (q0 + 1))) (ty := .int) (C := RX3) (T := TX3) (N := 9) hx hb ht inA_X3 tyX3 tyX3_ok nmX3 hown hK.1 hP hD hS 0 rfl rfl 2 (by decide) (ht _ iw_234) (fun _ h9 => h9) rfl (by decide +kernel) rfl rfl (Nat.le_of_ble_eq_true rfl) dX3_moveTo_95 (fun H locs hP hD hS => ?_)
                have hP : va_P D vwCl [(w, .inr (3, [.ref r, .int (nI z), .int (nI (q0 + 1)), .int (nI 0), .int (su_A f q0 z), .int (su_B f q0 z), .int (su_J (su_A f q0 z) (su_B f q0 z)), .long st, .int ks])), (r, .inr (1, [.ref o, .int (nI n)])), (o, .inl (cI, 1200, .inl f))] H := hP
                have hD : va_D A [(w, .inr (3, [.ref r, .int (nI z), .int (nI (q0 + 1)), .int (nI 0), .int (su_A f q0 z), .int (su_B f q0 z), .int (su_J (su_A f q0 z) (su_B f q0 z)), .long st, .int ks])), (r, .inr (1, [.ref o, .int (nI n)])), (o, .inl (cI, 1200, .inl f))] := hD
                refine lv_aload_n hx hb dX3_moveTo_98 rfl (lv_at hl 1 rfl) ?_
                refine lv_iconst (v := nI 0) hx hb dX3_moveTo_99 (by decide +kernel) ?_
                refine va_put (D := D) (ci := 3) (v := .int (nI 0)) (ty := .boolean) (C := RX3) (T := TX3) (N := 9) hx hb ht inA_X3 tyX3 tyX3_ok nmX3 hown hK.1 hP hD hS 0 rfl rfl 8 (by decide) (ht _ iw_236) (fun _ h9 => h9) rfl (by decide +kernel) (by decide +kernel) (by decide +kernel) (Nat.le_of_ble_eq_true rfl) dX3_moveTo_100 (fun H locs hP hD hS => ?_)
                have hP : va_P D vwCl [(w, .inr (3, [.ref r, .int (nI z), .int (nI (q0 + 1)), .int (nI 0), .int (su_A f q0 z), .int (su_B f q0 z), .int (su_J (su_A f q0 z) (su_B f q0 z)), .long st, .int (nI 0)])), (r, .inr (1, [.ref o, .int (nI n)])), (o, .inl (cI, 1200, .inl f))] H := hP
                have hD : va_D A [(w, .inr (3, [.ref r, .int (nI z), .int (nI (q0 + 1)), .int (nI 0), .int (su_A f q0 z), .int (su_B f q0 z), .int (su_J (su_A f q0 z) (su_B f q0 z)), .long st, .int (nI 0)])), (r, .inr (1, [.ref o, .int (nI n)])), (o, .inl (cI, 1200, .inl f))] := hD
                exact ds_vret hx hb hr hlk (nI 0, (su_A f q0 z), (su_B f q0 z), su_J ((su_A f q0 z)) ((su_B f q0 z))) (Or.inr ⟨by omega, rfl⟩) hP hD hS (Nat.le_of_ble_eq_true rfl) (Nat.le_of_ble_eq_true rfl) dX3_moveTo_103
              ·
                rw [← nI_0] at h
                have h : ¬ 0 = 0 := fun z9 => h ((nI_eq (a := 0) (b := 0) (by omega) (by omega)).mpr z9)
                exact absurd rfl h
            ·
              rw [← nI_0] at h
              have h : ¬ 0 = 0 := fun z9 => h ((nI_eq (a := 0) (b := 0) (by omega) (by omega)).mpr z9)
              exact absurd rfl h
          ·
            exact absurd ((ds_sublt (by omega) (by omega) (by omega)).mpr (by omega)) h
