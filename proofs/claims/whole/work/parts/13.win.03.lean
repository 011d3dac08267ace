set_option maxHeartbeats 4000000 in
set_option maxRecDepth 100000 in
theorem c_X3_roll (Ll : Launch) (D : va_G) (cI cL : ClassId) (w : Nat) (r : Nat) (z : Nat) (q : Nat) (ins : Int32) (wk : Int32) (st : Int64) (ks : Int32) (o : Nat) (n : Nat) (f : Nat → Int32) (h1 : q + z < 1200) (sz : Nat) : Met Ll yX3_roll wsX3_roll { frames := 0, cells := 0, slots := 0, locals := 0 } (ds_P D cI cL [.ref w] [(w, .inr (3, [.ref r, .int (nI z), .int (nI q), .int ins, .int (su_A f q z), .int (su_B f q z), .int wk, .long st, .int ks])), (r, .inr (1, [.ref o, .int (nI n)])), (o, .inl (cI, 1200, .inl f))] sz) (ds_Qv D (fun (u : Unit) => True) (fun u : Unit => [(w, .inr (3, [.ref r, .int (nI z), .int (nI q), .int ins, .int (su_A f (q + 1) z), .int (su_B f (q + 1) z), .int wk, .long st, .int ks])), (r, .inr (1, [.ref o, .int (nI n)])), (o, .inl (cI, 1200, .inl f))]) (va_A [(w, .inr (3, [.ref r, .int (nI z), .int (nI q), .int ins, .int (su_A f q z), .int (su_B f q z), .int wk, .long st, .int ks])), (r, .inr (1, [.ref o, .int (nI n)])), (o, .inl (cI, 1200, .inl f))] sz)) 0 0 (va_A [(w, .inr (3, [.ref r, .int (nI z), .int (nI q), .int ins, .int (su_A f q z), .int (su_B f q z), .int wk, .long st, .int ks])), (r, .inr (1, [.ref o, .int (nI n)])), (o, .inl (cI, 1200, .inl f))] sz) := by
  refine ds_enter (Qf := (fun A9 => ds_Qv D (fun (u : Unit) => True) (fun u : Unit => [(w, .inr (3, [.ref r, .int (nI z), .int (nI q), .int ins, .int (su_A f (q + 1) z), .int (su_B f (q + 1) z), .int wk, .long st, .int ks])), (r, .inr (1, [.ref o, .int (nI n)])), (o, .inl (cI, 1200, .inl f))]) A9)) (cc := cX3_roll) (maxL := 3) (ret := none) (by decide) rfl (Nat.le_of_ble_eq_true rfl) ?_
  intro Pp Ee Ss Mm Aa Bb Me Cc hx hb hml hr ht hown hlk hnm A H locs hA hP hD hS hK ls hl
  have hl : lv_has ls 3 [(0, .ref w)] := hl
  change Ss.vm.findClass RX3 = some Mm.cls at hown
  refine lv_aload_n hx hb dX3_roll_0 rfl (lv_at hl 0 rfl) ?_
  refine va_get (D := D) (ci := 3) (v := .ref r) (C := RX3) (T := TX3) (N := 9) hx hb ht inA_X3 hown hK.1 hP 0 rfl rfl 0 (by decide) (ht _ iw_232) (fun _ h9 => h9) rfl dX3_roll_1 ?_
  refine va_getN (D := D) (ci := 1) (v := .ref o) (C := RX1) (T := TX1) (N := 2) hx hb ht inA_X1 hown hK.1 hP 1 rfl rfl 0 (by decide) (nfu_12 hK) (fun _ h9 => h9) rfl dX3_roll_4 ?_
  refine lv_aload_n hx hb dX3_roll_7 rfl (lv_at hl 0 rfl) ?_
  refine va_get (D := D) (ci := 3) (v := .int (nI q)) (C := RX3) (T := TX3) (N := 9) hx hb ht inA_X3 hown hK.1 hP 0 rfl rfl 2 (by decide) (ht _ iw_234) (fun _ h9 => h9) rfl dX3_roll_8 ?_
  refine ds_iald (k := q) hx hb hK hP 2 rfl (by omega) (by omega) dX3_roll_11 ?_
  refine lv_istore_n (lv' := [(1, .int (f q)), (0, .ref w)]) hx hb dX3_roll_12 rfl hl (Nat.le_of_ble_eq_true rfl) rfl (fun ls hl => ?_)
  refine lv_aload_n hx hb dX3_roll_13 rfl (lv_at hl 1 rfl) ?_
  refine va_get (D := D) (ci := 3) (v := .ref r) (C := RX3) (T := TX3) (N := 9) hx hb ht inA_X3 hown hK.1 hP 0 rfl rfl 0 (by decide) (ht _ iw_232) (fun _ h9 => h9) rfl dX3_roll_14 ?_
  refine va_getN (D := D) (ci := 1) (v := .ref o) (C := RX1) (T := TX1) (N := 2) hx hb ht inA_X1 hown hK.1 hP 1 rfl rfl 0 (by decide) (nfu_12 hK) (fun _ h9 => h9) rfl dX3_roll_17 ?_
  refine lv_aload_n hx hb dX3_roll_20 rfl (lv_at hl 1 rfl) ?_
  refine va_get (D := D) (ci := 3) (v := .int (nI q)) (C := RX3) (T := TX3) (N := 9) hx hb ht inA_X3 hown hK.1 hP 0 rfl rfl 2 (by decide) (ht _ iw_234) (fun _ h9 => h9) rfl dX3_roll_21 ?_
  refine lv_aload_n hx hb dX3_roll_24 rfl (lv_at hl 1 rfl) ?_
  refine va_get (D := D) (ci := 3) (v := .int (nI z)) (C := RX3) (T := TX3) (N := 9) hx hb ht inA_X3 hown hK.1 hP 0 rfl rfl 1 (by decide) (ht _ iw_233) (fun _ h9 => h9) rfl dX3_roll_25 ?_
  refine lv_iadd hx hb dX3_roll_28 ?_
  refine ds_top (z := nI (q + z)) (nI_add _ _) ?_
  refine ds_iald (k := q + z) hx hb hK hP 2 rfl (by omega) (by omega) dX3_roll_29 ?_
  refine lv_istore_n (lv' := [(2, .int (f (q + z))), (1, .int (f q)), (0, .ref w)]) hx hb dX3_roll_30 rfl hl (Nat.le_of_ble_eq_true rfl) rfl (fun ls hl => ?_)
  refine lv_aload_n hx hb dX3_roll_31 rfl (lv_at hl 2 rfl) ?_
  refine lv_dup hx hb dX3_roll_32 rfl ?_
  refine va_get (D := D) (ci := 3) (v := .int (su_A f q z)) (C := RX3) (T := TX3) (N := 9) hx hb ht inA_X3 hown hK.1 hP 0 rfl rfl 4 (by decide) (ht _ iw_245) (fun _ h9 => h9) rfl dX3_roll_33 ?_
  refine lv_iload_n hx hb dX3_roll_36 rfl (lv_at hl 0 rfl) ?_
  refine lv_iload_n hx hb dX3_roll_37 rfl (lv_at hl 1 rfl) ?_
  refine lv_isub hx hb dX3_roll_38 ?_
  refine lv_iadd hx hb dX3_roll_39 ?_
  refine va_put (D := D) (ci := 3) (v := .int ((su_A f q z) + ((f (q + z)) - (f q)))) (ty := .int) (C := RX3) (T := TX3) (N := 9) hx hb ht inA_X3 tyX3 tyX3_ok nmX3 hown hK.1 hP hD hS 0 rfl rfl 4 (by decide) (ht _ iw_245) (fun _ h9 => h9) rfl (by decide +kernel) rfl rfl (Nat.le_of_ble_eq_true rfl) dX3_roll_40 (fun H locs hP hD hS => ?_)
  have hP : va_P D vwCl [(w, .inr (3, [.ref r, .int (nI z), .int (nI q), .int ins, .int ((su_A f q z) + ((f (q + z)) - (f q))), .int (su_B f q z), .int wk, .long st, .int ks])), (r, .inr (1, [.ref o, .int (nI n)])), (o, .inl (cI, 1200, .inl f))] H := hP
  have hD : va_D A [(w, .inr (3, [.ref r, .int (nI z), .int (nI q), .int ins, .int ((su_A f q z) + ((f (q + z)) - (f q))), .int (su_B f q z), .int wk, .long st, .int ks])), (r, .inr (1, [.ref o, .int (nI n)])), (o, .inl (cI, 1200, .inl f))] := hD
  refine lv_aload_n hx hb dX3_roll_43 rfl (lv_at hl 2 rfl) ?_
  refine lv_dup hx hb dX3_roll_44 rfl ?_
  refine va_get (D := D) (ci := 3) (v := .int (su_B f q z)) (C := RX3) (T := TX3) (N := 9) hx hb ht inA_X3 hown hK.1 hP 0 rfl rfl 5 (by decide) (ht _ iw_246) (fun _ h9 => h9) rfl dX3_roll_45 ?_
  refine lv_aload_n hx hb dX3_roll_48 rfl (lv_at hl 2 rfl) ?_
  refine va_get (D := D) (ci := 3) (v := .int ((su_A f q z) + ((f (q + z)) - (f q)))) (C := RX3) (T := TX3) (N := 9) hx hb ht inA_X3 hown hK.1 hP 0 rfl rfl 4 (by decide) (ht _ iw_245) (fun _ h9 => h9) rfl dX3_roll_49 ?_
  refine lv_aload_n hx hb dX3_roll_52 rfl (lv_at hl 2 rfl) ?_
  refine va_get (D := D) (ci := 3) (v := .int (nI z)) (C := RX3) (T := TX3) (N := 9) hx hb ht inA_X3 hown hK.1 hP 0 rfl rfl 1 (by decide) (ht _ iw_233) (fun _ h9 => h9) rfl dX3_roll_53 ?_
  refine lv_iload_n hx hb dX3_roll_56 rfl (lv_at hl 1 rfl) ?_
  refine lv_imul hx hb dX3_roll_57 ?_
  refine lv_isub hx hb dX3_roll_58 ?_
  refine lv_iadd hx hb dX3_roll_59 ?_
  refine va_put (D := D) (ci := 3) (v := .int ((su_B f q z) + (((su_A f q z) + ((f (q + z)) - (f q))) - ((nI z) * (f q))))) (ty := .int) (C := RX3) (T := TX3) (N := 9) hx hb ht inA_X3 tyX3 tyX3_ok nmX3 hown hK.1 hP hD hS 0 rfl rfl 5 (by decide) (ht _ iw_246) (fun _ h9 => h9) rfl (by decide +kernel) rfl rfl (Nat.le_of_ble_eq_true rfl) dX3_roll_60 (fun H locs hP hD hS => ?_)
  have hP : va_P D vwCl [(w, .inr (3, [.ref r, .int (nI z), .int (nI q), .int ins, .int ((su_A f q z) + ((f (q + z)) - (f q))), .int ((su_B f q z) + (((su_A f q z) + ((f (q + z)) - (f q))) - ((nI z) * (f q)))), .int wk, .long st, .int ks])), (r, .inr (1, [.ref o, .int (nI n)])), (o, .inl (cI, 1200, .inl f))] H := hP
  have hD : va_D A [(w, .inr (3, [.ref r, .int (nI z), .int (nI q), .int ins, .int ((su_A f q z) + ((f (q + z)) - (f q))), .int ((su_B f q z) + (((su_A f q z) + ((f (q + z)) - (f q))) - ((nI z) * (f q)))), .int wk, .long st, .int ks])), (r, .inr (1, [.ref o, .int (nI n)])), (o, .inl (cI, 1200, .inl f))] := hD
  have hP : va_P D vwCl [(w, .inr (3, [.ref r, .int (nI z), .int (nI q), .int ins, .int (su_A f (q + 1) z), .int (su_B f (q + 1) z), .int wk, .long st, .int ks])), (r, .inr (1, [.ref o, .int (nI n)])), (o, .inl (cI, 1200, .inl f))] H := by rw [su_B_roll, su_A_roll]; exact hP
  have hD : va_D A [(w, .inr (3, [.ref r, .int (nI z), .int (nI q), .int ins, .int (su_A f (q + 1) z), .int (su_B f (q + 1) z), .int wk, .long st, .int ks])), (r, .inr (1, [.ref o, .int (nI n)])), (o, .inl (cI, 1200, .inl f))] := by rw [su_B_roll, su_A_roll]; exact hD
  exact ds_vret hx hb hr hlk () trivial hP hD hS (Nat.le_of_ble_eq_true rfl) (Nat.le_of_ble_eq_true rfl) dX3_roll_63
set_option maxHeartbeats 4000000 in
set_option maxRecDepth 100000 in
theorem c_X3_strongSumHere (Ll : Launch) (D : va_G) (cI cL : ClassId) (w : Nat) (r : Nat) (z : Nat) (q : Nat) (ins : Int32) (a : Int32) (b : Int32) (wk : Int32) (st : Int64) (ks : Int32) (o : Nat) (n : Nat) (f : Nat → Int32) (h1 : q + z ≤ 1200) (hk : dw_S f z q ks st) (sz : Nat) : Met Ll yX3_strongSumHere wsX3_strongSumHere { frames := 1, cells := 0, slots := 0, locals := 25 } (ds_P D cI cL [.ref w] [(w, .inr (3, [.ref r, .int (nI z), .int (nI q), .int ins, .int a, .int b, .int wk, .long st, .int ks])), (r, .inr (1, [.ref o, .int (nI n)])), (o, .inl (cI, 1200, .inl f))] sz) (ds_Ql D (fun (r : Int64) (u : Unit) => r = su_S f q z) (fun u : Unit => [(w, .inr (3, [.ref r, .int (nI z), .int (nI q), .int ins, .int a, .int b, .int wk, .long (su_S f q z), .int 1])), (r, .inr (1, [.ref o, .int (nI n)])), (o, .inl (cI, 1200, .inl f))]) (va_A [(w, .inr (3, [.ref r, .int (nI z), .int (nI q), .int ins, .int a, .int b, .int wk, .long st, .int ks])), (r, .inr (1, [.ref o, .int (nI n)])), (o, .inl (cI, 1200, .inl f))] sz)) 0 0 (va_A [(w, .inr (3, [.ref r, .int (nI z), .int (nI q), .int ins, .int a, .int b, .int wk, .long st, .int ks])), (r, .inr (1, [.ref o, .int (nI n)])), (o, .inl (cI, 1200, .inl f))] sz) := by
  refine ds_enter (Qf := (fun A9 => ds_Ql D (fun (r : Int64) (u : Unit) => r = su_S f q z) (fun u : Unit => [(w, .inr (3, [.ref r, .int (nI z), .int (nI q), .int ins, .int a, .int b, .int wk, .long (su_S f q z), .int 1])), (r, .inr (1, [.ref o, .int (nI n)])), (o, .inl (cI, 1200, .inl f))]) A9)) (cc := cX3_strongSumHere) (maxL := 1) (ret := (some .long)) (by decide) rfl (Nat.le_of_ble_eq_true rfl) ?_
  intro Pp Ee Ss Mm Aa Bb Me Cc hx hb hml hr ht hown hlk hnm A H locs hA hP hD hS hK ls hl
  have hl : lv_has ls 1 [(0, .ref w)] := hl
  change Ss.vm.findClass RX3 = some Mm.cls at hown
  by_cases hk0 : ks = 0
  ·
    subst hk0
    refine lv_aload_n hx hb dX3_strongSumHere_0 rfl (lv_at hl 0 rfl) ?_
    refine va_get (D := D) (ci := 3) (v := .int 0) (C := RX3) (T := TX3) (N := 9) hx hb ht inA_X3 hown hK.1 hP 0 rfl rfl 8 (by decide) (ht _ iw_236) (fun _ h9 => h9) rfl dX3_strongSumHere_1 ?_
    refine lv_if_ne (tgt := 31) hx hb dX3_strongSumHere_4 (by decide) (fun h => ?_) (fun h => ?_)
    ·
      exact absurd rfl h
    ·
      refine lv_aload_n hx hb dX3_strongSumHere_7 rfl (lv_at hl 0 rfl) ?_
      refine lv_aload_n hx hb dX3_strongSumHere_8 rfl (lv_at hl 0 rfl) ?_
      refine va_get (D := D) (ci := 3) (v := .ref r) (C := RX3) (T := TX3) (N := 9) hx hb ht inA_X3 hown hK.1 hP 0 rfl rfl 0 (by decide) (ht _ iw_232) (fun _ h9 => h9) rfl dX3_strongSumHere_9 ?_
      refine lv_aload_n hx hb dX3_strongSumHere_12 rfl (lv_at hl 0 rfl) ?_
      refine va_get (D := D) (ci := 3) (v := .int (nI q)) (C := RX3) (T := TX3) (N := 9) hx hb ht inA_X3 hown hK.1 hP 0 rfl rfl 2 (by decide) (ht _ iw_234) (fun _ h9 => h9) rfl dX3_strongSumHere_13 ?_
      refine lv_aload_n hx hb dX3_strongSumHere_16 rfl (lv_at hl 0 rfl) ?_
      refine va_get (D := D) (ci := 3) (v := .int (nI z)) (C := RX3) (T := TX3) (N := 9) hx hb ht inA_X3 hown hK.1 hP 0 rfl rfl 1 (by decide) (ht _ iw_233) (fun _ h9 => h9) rfl dX3_strongSumHere_17 ?_
      refine ds_calll (wc := [(r, .inr (1, [.ref o, .int (nI n)])), (o, .inl (cI, 1200, .inl f))]) (wr := [(w, .inr (3, [.ref r, .int (nI z), .int (nI q), .int ins, .int a, .int b, .int wk, .long st, .int 0]))]) (wo := (fun u2 : Unit => [(r, .inr (1, [.ref o, .int (nI n)])), (o, .inl (cI, 1200, .inl f))])) (wn := (fun u2 : Unit => [(w, .inr (3, [.ref r, .int (nI z), .int (nI q), .int ins, .int a, .int b, .int wk, .long st, .int 0])), (r, .inr (1, [.ref o, .int (nI n)])), (o, .inl (cI, 1200, .inl f))])) (isC := [1, 2]) (isR := [0]) hP hD hS hA ⟨rfl, rfl, by decide, by decide, by decide⟩ [0, 1, 2] (by decide) (fun _ => rfl) (fun hPc hDc => va_runVN (As := [.int (nI q), .int (nI z)]) (rest := [.ref w]) ⟨hx, hb, hml, hown, ht⟩ (c_X1_strongSum Ll D cI cL r o n f q z (by omega) H.size) ⟨(va_cnB 2 ht g_X1_strongSum rfl rfl rfl (nmu_21 hK) (ht _ iw_6) hd_X1_strongSum ⟨Nat.le_of_ble_eq_true rfl, Nat.le_of_ble_eq_true rfl⟩), (ht _ iw_56), (ht _ iw_57)⟩ (ds_pV hPc hDc hK (q0 := 0) rfl rfl) rfl rfl hl.1 rfl (lv_room (Nat.le_of_ble_eq_true rfl)) dX3_strongSumHere_20 ⟨Nat.le_of_ble_eq_true rfl, Nat.le_of_ble_eq_true rfl⟩) (fun r1 u2 H locs hp3 hP hD hS => ?_)
      have hP : va_P D vwCl [(w, .inr (3, [.ref r, .int (nI z), .int (nI q), .int ins, .int a, .int b, .int wk, .long st, .int 0])), (r, .inr (1, [.ref o, .int (nI n)])), (o, .inl (cI, 1200, .inl f))] H := hP
      have hD : va_D A [(w, .inr (3, [.ref r, .int (nI z), .int (nI q), .int ins, .int a, .int b, .int wk, .long st, .int 0])), (r, .inr (1, [.ref o, .int (nI n)])), (o, .inl (cI, 1200, .inl f))] := hD
      have hp3 : r1 = su_S f q z := hp3
      replace hp3 := Eq.symm hp3
      subst hp3
      refine va_put (D := D) (ci := 3) (v := .long (su_S f q z)) (ty := .long) (C := RX3) (T := TX3) (N := 9) hx hb ht inA_X3 tyX3 tyX3_ok nmX3 hown hK.1 hP hD hS 0 rfl rfl 7 (by decide) (ht _ iw_255) (fun _ h9 => h9) rfl (by decide +kernel) rfl rfl (Nat.le_of_ble_eq_true rfl) dX3_strongSumHere_23 (fun H locs hP hD hS => ?_)
      have hP : va_P D vwCl [(w, .inr (3, [.ref r, .int (nI z), .int (nI q), .int ins, .int a, .int b, .int wk, .long (su_S f q z), .int 0])), (r, .inr (1, [.ref o, .int (nI n)])), (o, .inl (cI, 1200, .inl f))] H := hP
      have hD : va_D A [(w, .inr (3, [.ref r, .int (nI z), .int (nI q), .int ins, .int a, .int b, .int wk, .long (su_S f q z), .int 0])), (r, .inr (1, [.ref o, .int (nI n)])), (o, .inl (cI, 1200, .inl f))] := hD
      refine lv_aload_n hx hb dX3_strongSumHere_26 rfl (lv_at hl 0 rfl) ?_
      refine lv_iconst (v := nI 1) hx hb dX3_strongSumHere_27 (by decide +kernel) ?_
      refine va_put (D := D) (ci := 3) (v := .int (nI 1)) (ty := .boolean) (C := RX3) (T := TX3) (N := 9) hx hb ht inA_X3 tyX3 tyX3_ok nmX3 hown hK.1 hP hD hS 0 rfl rfl 8 (by decide) (ht _ iw_236) (fun _ h9 => h9) rfl (by decide +kernel) (by decide +kernel) (by decide +kernel) (Nat.le_of_ble_eq_true rfl) dX3_strongSumHere_28 (fun H locs hP hD hS => ?_)
      have hP : va_P D vwCl [(w, .inr (3, [.ref r, .int (nI z), .int (nI q), .int ins, .int a, .int b, .int wk, .long (su_S f q z), .int (nI 1)])), (r, .inr (1, [.ref o, .int (nI n)])), (o, .inl (cI, 1200, .inl f))] H := hP
      have hD : va_D A [(w, .inr (3, [.ref r, .int (nI z), .int (nI q), .int ins, .int a, .int b, .int wk, .long (su_S f q z), .int (nI 1)])), (r, .inr (1, [.ref o, .int (nI n)])), (o, .inl (cI, 1200, .inl f))] := hD
      refine lv_aload_n hx hb dX3_strongSumHere_31 rfl (lv_at hl 0 rfl) ?_
      refine va_get (D := D) (ci := 3) (v := .long (su_S f q z)) (C := RX3) (T := TX3) (N := 9) hx hb ht inA_X3 hown hK.1 hP 0 rfl rfl 7 (by decide) (ht _ iw_255) (fun _ h9 => h9) rfl dX3_strongSumHere_32 ?_
      exact ds_lret hx hb hr hlk () rfl hP hD hS (Nat.le_of_ble_eq_true rfl) (Nat.le_of_ble_eq_true rfl) dX3_strongSumHere_35
  ·
    have hk1 := hk.resolve_left hk0
    obtain ⟨e1, e2⟩ := hk1
    subst e1 e2
    refine lv_aload_n hx hb dX3_strongSumHere_0 rfl (lv_at hl 0 rfl) ?_
    refine va_get (D := D) (ci := 3) (v := .int 1) (C := RX3) (T := TX3) (N := 9) hx hb ht inA_X3 hown hK.1 hP 0 rfl rfl 8 (by decide) (ht _ iw_236) (fun _ h9 => h9) rfl dX3_strongSumHere_1 ?_
    refine lv_if_ne (tgt := 31) hx hb dX3_strongSumHere_4 (by decide) (fun h => ?_) (fun h => ?_)
    ·
      refine lv_aload_n hx hb dX3_strongSumHere_31 rfl (lv_at hl 0 rfl) ?_
      refine va_get (D := D) (ci := 3) (v := .long (su_S f q z)) (C := RX3) (T := TX3) (N := 9) hx hb ht inA_X3 hown hK.1 hP 0 rfl rfl 7 (by decide) (ht _ iw_255) (fun _ h9 => h9) rfl dX3_strongSumHere_32 ?_
      exact ds_lret hx hb hr hlk () rfl hP hD hS (Nat.le_of_ble_eq_true rfl) (Nat.le_of_ble_eq_true rfl) dX3_strongSumHere_35
    ·
      exact absurd h (by decide)
