set_option maxHeartbeats 4000000 in
set_option maxRecDepth 100000 in
theorem c_X3_sumAfresh (Ll : Launch) (D : va_G) (cI cL : ClassId) (w : Nat) (r : Nat) (z : Nat) (pl : Int32) (ins : Int32) (a : Int32) (b : Int32) (wk : Int32) (st : Int64) (ks : Int32) (o : Nat) (n : Nat) (f : Nat → Int32) (q : Nat) (h1 : q + z ≤ 1200) (sz : Nat) : Met Ll yX3_sumAfresh wsX3_sumAfresh { frames := 0, cells := 0, slots := 0, locals := 0 } (ds_P D cI cL [.ref w, .int (nI q)] [(w, .inr (3, [.ref r, .int (nI z), .int pl, .int ins, .int a, .int b, .int wk, .long st, .int ks])), (r, .inr (1, [.ref o, .int (nI n)])), (o, .inl (cI, 1200, .inl f))] sz) (ds_Qv D (fun (u : Unit) => True) (fun u : Unit => [(w, .inr (3, [.ref r, .int (nI z), .int pl, .int ins, .int (su_A f q z), .int (su_B f q z), .int wk, .long st, .int ks])), (r, .inr (1, [.ref o, .int (nI n)])), (o, .inl (cI, 1200, .inl f))]) (va_A [(w, .inr (3, [.ref r, .int (nI z), .int pl, .int ins, .int a, .int b, .int wk, .long st, .int ks])), (r, .inr (1, [.ref o, .int (nI n)])), (o, .inl (cI, 1200, .inl f))] sz)) 0 0 (va_A [(w, .inr (3, [.ref r, .int (nI z), .int pl, .int ins, .int a, .int b, .int wk, .long st, .int ks])), (r, .inr (1, [.ref o, .int (nI n)])), (o, .inl (cI, 1200, .inl f))] sz) := by
  refine ds_enter (Qf := (fun A9 => ds_Qv D (fun (u : Unit) => True) (fun u : Unit => [(w, .inr (3, [.ref r, .int (nI z), .int pl, .int ins, .int (su_A f q z), .int (su_B f q z), .int wk, .long st, .int ks])), (r, .inr (1, [.ref o, .int (nI n)])), (o, .inl (cI, 1200, .inl f))]) A9)) (cc := cX3_sumAfresh) (maxL := 3) (ret := none) (by decide) rfl (Nat.le_of_ble_eq_true rfl) ?_
  intro Pp Ee Ss Mm Aa Bb Me Cc hx hb hml hr ht hown hlk hnm A H locs hA hP hD hS hK ls hl
  have hl : lv_has ls 3 [(0, .ref w), (1, .int (nI q))] := hl
  change Ss.vm.findClass RX3 = some Mm.cls at hown
  refine lv_aload_n hx hb dX3_sumAfresh_0 rfl (lv_at hl 0 rfl) ?_
  refine lv_iconst (v := nI 0) hx hb dX3_sumAfresh_1 (by decide +kernel) ?_
  refine va_put (D := D) (ci := 3) (v := .int (nI 0)) (ty := .int) (C := RX3) (T := TX3) (N := 9) hx hb ht inA_X3 tyX3 tyX3_ok nmX3 hown hK.1 hP hD hS 0 rfl rfl 4 (by decide) (ht _ iw_245) (fun _ h9 => h9) rfl (by decide +kernel) rfl rfl (Nat.le_of_ble_eq_true rfl) dX3_sumAfresh_2 (fun H locs hP hD hS => ?_)
  have hP : va_P D vwCl [(w, .inr (3, [.ref r, .int (nI z), .int pl, .int ins, .int (nI 0), .int b, .int wk, .long st, .int ks])), (r, .inr (1, [.ref o, .int (nI n)])), (o, .inl (cI, 1200, .inl f))] H := hP
  have hD : va_D A [(w, .inr (3, [.ref r, .int (nI z), .int pl, .int ins, .int (nI 0), .int b, .int wk, .long st, .int ks])), (r, .inr (1, [.ref o, .int (nI n)])), (o, .inl (cI, 1200, .inl f))] := hD
  refine lv_aload_n hx hb dX3_sumAfresh_5 rfl (lv_at hl 0 rfl) ?_
  refine lv_iconst (v := nI 0) hx hb dX3_sumAfresh_6 (by decide +kernel) ?_
  refine va_put (D := D) (ci := 3) (v := .int (nI 0)) (ty := .int) (C := RX3) (T := TX3) (N := 9) hx hb ht inA_X3 tyX3 tyX3_ok nmX3 hown hK.1 hP hD hS 0 rfl rfl 5 (by decide) (ht _ iw_246) (fun _ h9 => h9) rfl (by decide +kernel) rfl rfl (Nat.le_of_ble_eq_true rfl) dX3_sumAfresh_7 (fun H locs hP hD hS => ?_)
  have hP : va_P D vwCl [(w, .inr (3, [.ref r, .int (nI z), .int pl, .int ins, .int (nI 0), .int (nI 0), .int wk, .long st, .int ks])), (r, .inr (1, [.ref o, .int (nI n)])), (o, .inl (cI, 1200, .inl f))] H := hP
  have hD : va_D A [(w, .inr (3, [.ref r, .int (nI z), .int pl, .int ins, .int (nI 0), .int (nI 0), .int wk, .long st, .int ks])), (r, .inr (1, [.ref o, .int (nI n)])), (o, .inl (cI, 1200, .inl f))] := hD
  refine lv_iconst (v := nI 0) hx hb dX3_sumAfresh_10 (by decide +kernel) ?_
  refine lv_istore_n (lv' := [(2, .int (nI 0)), (0, .ref w), (1, .int (nI q))]) hx hb dX3_sumAfresh_11 rfl hl (Nat.le_of_ble_eq_true rfl) rfl (fun ls hl => ?_)
  have loop1 : ∀ (k2 : Nat) (i : Nat) (H : Heap) (locs : List Loc) (ls : Array Slot), (i ≤ z) → z - i < k2 → va_P D vwCl [(w, .inr (3, [.ref r, .int (nI z), .int pl, .int ins, .int (su_A f q i), .int (su_B f q i), .int wk, .long st, .int ks])), (r, .inr (1, [.ref o, .int (nI n)])), (o, .inl (cI, 1200, .inl f))] H → va_D A [(w, .inr (3, [.ref r, .int (nI z), .int pl, .int ins, .int (su_A f q i), .int (su_B f q i), .int wk, .long st, .int ks])), (r, .inr (1, [.ref o, .int (nI n)])), (o, .inl (cI, 1200, .inl f))] → va_S A Ss.heap H locs → lv_has ls 3 [(0, .ref w), (1, .int (nI q)), (2, .int (nI i))] → W Pp Ll Ee { frames := 0, cells := 0, slots := 0, locals := 0 } Ss Mm Aa Bb Me Cc H locs 0 0 (MQ Bb (ds_Qv D (fun (u : Unit) => True) (fun u : Unit => [(w, .inr (3, [.ref r, .int (nI z), .int pl, .int ins, .int (su_A f q z), .int (su_B f q z), .int wk, .long st, .int ks])), (r, .inr (1, [.ref o, .int (nI n)])), (o, .inl (cI, 1200, .inl f))]) A) Aa Ss 0 0 A) (F0 Mm 12 ls []) := by
    intro k2
    induction k2 with
    | zero => intro i H locs ls hi hm4; exact absurd hm4 (Nat.not_lt_zero _)
    | succ k2 ih3 =>
      intro i H locs ls hi hm4 hP hD hS hl
      refine lv_iload_n hx hb dX3_sumAfresh_12 rfl (lv_at hl 2 rfl) ?_
      refine lv_aload_n hx hb dX3_sumAfresh_13 rfl (lv_at hl 0 rfl) ?_
      refine va_get (D := D) (ci := 3) (v := .int (nI z)) (C := RX3) (T := TX3) (N := 9) hx hb ht inA_X3 hown hK.1 hP 0 rfl rfl 1 (by decide) (ht _ iw_233) (fun _ h9 => h9) rfl dX3_sumAfresh_14 ?_
      refine lv_icmp_ge (tgt := 59) hx hb dX3_sumAfresh_17 (by decide) (fun h => ?_) (fun h => ?_)
      ·
        have h : z ≤ i := (nI_leI (a := z) (b := i) (by omega) (by omega)).mp h
        have e9 : z = i := (by omega)
        subst e9
        exact ds_vret hx hb hr hlk () trivial hP hD hS (Nat.le_of_ble_eq_true rfl) (Nat.le_of_ble_eq_true rfl) dX3_sumAfresh_59
      ·
        have h : ¬ z ≤ i := fun z9 => h ((nI_leI (a := z) (b := i) (by omega) (by omega)).mpr z9)
        refine lv_aload_n hx hb dX3_sumAfresh_20 rfl (lv_at hl 0 rfl) ?_
        refine lv_dup hx hb dX3_sumAfresh_21 rfl ?_
        refine va_get (D := D) (ci := 3) (v := .int (su_A f q i)) (C := RX3) (T := TX3) (N := 9) hx hb ht inA_X3 hown hK.1 hP 0 rfl rfl 4 (by decide) (ht _ iw_245) (fun _ h9 => h9) rfl dX3_sumAfresh_22 ?_
        refine lv_aload_n hx hb dX3_sumAfresh_25 rfl (lv_at hl 0 rfl) ?_
        refine va_get (D := D) (ci := 3) (v := .ref r) (C := RX3) (T := TX3) (N := 9) hx hb ht inA_X3 hown hK.1 hP 0 rfl rfl 0 (by decide) (ht _ iw_232) (fun _ h9 => h9) rfl dX3_sumAfresh_26 ?_
        refine va_getN (D := D) (ci := 1) (v := .ref o) (C := RX1) (T := TX1) (N := 2) hx hb ht inA_X1 hown hK.1 hP 1 rfl rfl 0 (by decide) (nfu_12 hK) (fun _ h9 => h9) rfl dX3_sumAfresh_29 ?_
        refine lv_iload_n hx hb dX3_sumAfresh_32 rfl (lv_at hl 1 rfl) ?_
        refine lv_iload_n hx hb dX3_sumAfresh_33 rfl (lv_at hl 2 rfl) ?_
        refine lv_iadd hx hb dX3_sumAfresh_34 ?_
        refine ds_top (z := nI (q + i)) (nI_add _ _) ?_
        refine ds_iald (k := q + i) hx hb hK hP 2 rfl (by omega) (by omega) dX3_sumAfresh_35 ?_
        refine lv_iadd hx hb dX3_sumAfresh_36 ?_
        refine va_put (D := D) (ci := 3) (v := .int ((su_A f q i) + (f (q + i)))) (ty := .int) (C := RX3) (T := TX3) (N := 9) hx hb ht inA_X3 tyX3 tyX3_ok nmX3 hown hK.1 hP hD hS 0 rfl rfl 4 (by decide) (ht _ iw_245) (fun _ h9 => h9) rfl (by decide +kernel) rfl rfl (Nat.le_of_ble_eq_true rfl) dX3_sumAfresh_37 (fun H locs hP hD hS => ?_)
        have hP : va_P D vwCl [(w, .inr (3, [.ref r, .int (nI z), .int pl, .int ins, .int ((su_A f q i) + (f (q + i))), .int (su_B f q i), .int wk, .long st, .int ks])), (r, .inr (1, [.ref o, .int (nI n)])), (o, .inl (cI, 1200, .inl f))] H := hP
        have hD : va_D A [(w, .inr (3, [.ref r, .int (nI z), .int pl, .int ins, .int ((su_A f q i) + (f (q + i))), .int (su_B f q i), .int wk, .long st, .int ks])), (r, .inr (1, [.ref o, .int (nI n)])), (o, .inl (cI, 1200, .inl f))] := hD
        refine lv_aload_n hx hb dX3_sumAfresh_40 rfl (lv_at hl 0 rfl) ?_
        refine lv_dup hx hb dX3_sumAfresh_41 rfl ?_
        refine va_get (D := D) (ci := 3) (v := .int (su_B f q i)) (C := RX3) (T := TX3) (N := 9) hx hb ht inA_X3 hown hK.1 hP 0 rfl rfl 5 (by decide) (ht _ iw_246) (fun _ h9 => h9) rfl dX3_sumAfresh_42 ?_
        refine lv_aload_n hx hb dX3_sumAfresh_45 rfl (lv_at hl 0 rfl) ?_
        refine va_get (D := D) (ci := 3) (v := .int ((su_A f q i) + (f (q + i)))) (C := RX3) (T := TX3) (N := 9) hx hb ht inA_X3 hown hK.1 hP 0 rfl rfl 4 (by decide) (ht _ iw_245) (fun _ h9 => h9) rfl dX3_sumAfresh_46 ?_
        refine lv_iadd hx hb dX3_sumAfresh_49 ?_
        refine va_put (D := D) (ci := 3) (v := .int ((su_B f q i) + ((su_A f q i) + (f (q + i))))) (ty := .int) (C := RX3) (T := TX3) (N := 9) hx hb ht inA_X3 tyX3 tyX3_ok nmX3 hown hK.1 hP hD hS 0 rfl rfl 5 (by decide) (ht _ iw_246) (fun _ h9 => h9) rfl (by decide +kernel) rfl rfl (Nat.le_of_ble_eq_true rfl) dX3_sumAfresh_50 (fun H locs hP hD hS => ?_)
        have hP : va_P D vwCl [(w, .inr (3, [.ref r, .int (nI z), .int pl, .int ins, .int ((su_A f q i) + (f (q + i))), .int ((su_B f q i) + ((su_A f q i) + (f (q + i)))), .int wk, .long st, .int ks])), (r, .inr (1, [.ref o, .int (nI n)])), (o, .inl (cI, 1200, .inl f))] H := hP
        have hD : va_D A [(w, .inr (3, [.ref r, .int (nI z), .int pl, .int ins, .int ((su_A f q i) + (f (q + i))), .int ((su_B f q i) + ((su_A f q i) + (f (q + i)))), .int wk, .long st, .int ks])), (r, .inr (1, [.ref o, .int (nI n)])), (o, .inl (cI, 1200, .inl f))] := hD
        refine lv_iinc (k := 2) (v := nI (i + 1)) (lv' := [(2, .int (nI (i + 1))), (0, .ref w), (1, .int (nI q))]) hx hb dX3_sumAfresh_53 hl rfl (by rw [nI_succ]; rfl) (Nat.le_of_ble_eq_true rfl) rfl (fun ls hl => ?_)
        refine lv_goto (tgt := 12) hx hb dX3_sumAfresh_56 (by decide) ?_
        exact ih3 (i + 1) H locs ls (by omega) (by omega) hP hD hS (lv_sub hl [1, 2, 0] rfl)
  exact loop1 _ 0 H locs ls (Nat.zero_le _) (Nat.lt_succ_self _) hP hD hS (lv_sub hl [1, 2, 0] rfl)
