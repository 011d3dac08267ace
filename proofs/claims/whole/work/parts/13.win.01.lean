set_option maxHeartbeats 4000000 in
set_option maxRecDepth 100000 in
theorem c_X3_init (Ll : Launch) (D : va_G) (cI cL : ClassId) (w : Nat) (r : Nat) (sz : Nat) : Met Ll yX3_init wsX3_init { frames := 1, cells := 0, slots := 0, locals := 20 } (ds_P D cI cL [.ref w, .ref r] [(w, .inr (3, [.null, .int 0, .int 0, .int 0, .int 0, .int 0, .int 0, .long 0, .int 0]))] sz) (ds_Qv D (fun (u : Unit) => True) (fun u : Unit => [(w, .inr (3, [.ref r, .int (nI 0), .int (-1), .int 0, .int 0, .int 0, .int 0, .long 0, .int 0]))]) (va_A [(w, .inr (3, [.null, .int 0, .int 0, .int 0, .int 0, .int 0, .int 0, .long 0, .int 0]))] sz)) 0 0 (va_A [(w, .inr (3, [.null, .int 0, .int 0, .int 0, .int 0, .int 0, .int 0, .long 0, .int 0]))] sz) := by
  refine ds_enter (Qf := (fun A9 => ds_Qv D (fun (u : Unit) => True) (fun u : Unit => [(w, .inr (3, [.ref r, .int (nI 0), .int (-1), .int 0, .int 0, .int 0, .int 0, .long 0, .int 0]))]) A9)) (cc := cX3_init) (maxL := 2) (ret := none) (by decide) rfl (Nat.le_of_ble_eq_true rfl) ?_
  intro Pp Ee Ss Mm Aa Bb Me Cc hx hb hml hr ht hown hlk hnm A H locs hA hP hD hS hK ls hl
  have hl : lv_has ls 2 [(0, .ref w), (1, .ref r)] := hl
  change Ss.vm.findClass RX3 = some Mm.cls at hown
  refine lv_aload_n hx hb dX3_init_0 rfl (lv_at hl 0 rfl) ?_
  refine W.objInit hx hb hown (ht _ iw_231) (ht _ iw_2) (ht _ iw_3) rfl (by rw [hml]; exact hl.1) rfl dX3_init_1 (Nat.le_of_ble_eq_true rfl) (Nat.le_of_ble_eq_true rfl) ?_
  refine W.eq (g2 := F0 Mm 4 ls []) rfl ?_
  refine lv_aload_n hx hb dX3_init_4 rfl (lv_at hl 0 rfl) ?_
  refine lv_aload_n hx hb dX3_init_5 rfl (lv_at hl 1 rfl) ?_
  refine va_putF (D := D) (ci := 3) (v := .ref r) (ty := (.object "DeltaDesk$Row")) (C := RX3) (T := TX3) (N := 9) hx hb ht inA_X3 tyX3 tyX3_ok nmX3 hown hK.1 hP hD hS 0 rfl rfl 0 (by decide) (ht _ iw_232) (fun _ h9 => h9) rfl hnm rfl (by decide +kernel) rfl rfl (Nat.le_of_ble_eq_true rfl) dX3_init_6 (fun H locs hP hD hS => ?_)
  have hP : va_P D vwCl [(w, .inr (3, [.ref r, .int 0, .int 0, .int 0, .int 0, .int 0, .int 0, .long 0, .int 0]))] H := hP
  have hD : va_D A [(w, .inr (3, [.ref r, .int 0, .int 0, .int 0, .int 0, .int 0, .int 0, .long 0, .int 0]))] := hD
  refine lv_aload_n hx hb dX3_init_9 rfl (lv_at hl 0 rfl) ?_
  refine lv_iconst (v := nI 0) hx hb dX3_init_10 (by decide +kernel) ?_
  refine va_put (D := D) (ci := 3) (v := .int (nI 0)) (ty := .int) (C := RX3) (T := TX3) (N := 9) hx hb ht inA_X3 tyX3 tyX3_ok nmX3 hown hK.1 hP hD hS 0 rfl rfl 1 (by decide) (ht _ iw_233) (fun _ h9 => h9) rfl (by decide +kernel) rfl rfl (Nat.le_of_ble_eq_true rfl) dX3_init_11 (fun H locs hP hD hS => ?_)
  have hP : va_P D vwCl [(w, .inr (3, [.ref r, .int (nI 0), .int 0, .int 0, .int 0, .int 0, .int 0, .long 0, .int 0]))] H := hP
  have hD : va_D A [(w, .inr (3, [.ref r, .int (nI 0), .int 0, .int 0, .int 0, .int 0, .int 0, .long 0, .int 0]))] := hD
  refine lv_aload_n hx hb dX3_init_14 rfl (lv_at hl 0 rfl) ?_
  refine lv_iconst (v := -1) hx hb dX3_init_15 (by decide +kernel) ?_
  refine va_put (D := D) (ci := 3) (v := .int (-1)) (ty := .int) (C := RX3) (T := TX3) (N := 9) hx hb ht inA_X3 tyX3 tyX3_ok nmX3 hown hK.1 hP hD hS 0 rfl rfl 2 (by decide) (ht _ iw_234) (fun _ h9 => h9) rfl (by decide +kernel) rfl rfl (Nat.le_of_ble_eq_true rfl) dX3_init_16 (fun H locs hP hD hS => ?_)
  have hP : va_P D vwCl [(w, .inr (3, [.ref r, .int (nI 0), .int (-1), .int 0, .int 0, .int 0, .int 0, .long 0, .int 0]))] H := hP
  have hD : va_D A [(w, .inr (3, [.ref r, .int (nI 0), .int (-1), .int 0, .int 0, .int 0, .int 0, .long 0, .int 0]))] := hD
  refine lv_aload_n hx hb dX3_init_19 rfl (lv_at hl 0 rfl) ?_
  refine lv_iconst (v := nI 0) hx hb dX3_init_20 (by decide +kernel) ?_
  refine va_put (D := D) (ci := 3) (v := .int (nI 0)) (ty := .boolean) (C := RX3) (T := TX3) (N := 9) hx hb ht inA_X3 tyX3 tyX3_ok nmX3 hown hK.1 hP hD hS 0 rfl rfl 3 (by decide) (ht _ iw_235) (fun _ h9 => h9) rfl (by decide +kernel) (by decide +kernel) (by decide +kernel) (Nat.le_of_ble_eq_true rfl) dX3_init_21 (fun H locs hP hD hS => ?_)
  have hP : va_P D vwCl [(w, .inr (3, [.ref r, .int (nI 0), .int (-1), .int (nI 0), .int 0, .int 0, .int 0, .long 0, .int 0]))] H := hP
  have hD : va_D A [(w, .inr (3, [.ref r, .int (nI 0), .int (-1), .int (nI 0), .int 0, .int 0, .int 0, .long 0, .int 0]))] := hD
  refine lv_aload_n hx hb dX3_init_24 rfl (lv_at hl 0 rfl) ?_
  refine lv_iconst (v := nI 0) hx hb dX3_init_25 (by decide +kernel) ?_
  refine va_put (D := D) (ci := 3) (v := .int (nI 0)) (ty := .boolean) (C := RX3) (T := TX3) (N := 9) hx hb ht inA_X3 tyX3 tyX3_ok nmX3 hown hK.1 hP hD hS 0 rfl rfl 8 (by decide) (ht _ iw_236) (fun _ h9 => h9) rfl (by decide +kernel) (by decide +kernel) (by decide +kernel) (Nat.le_of_ble_eq_true rfl) dX3_init_26 (fun H locs hP hD hS => ?_)
  have hP : va_P D vwCl [(w, .inr (3, [.ref r, .int (nI 0), .int (-1), .int (nI 0), .int 0, .int 0, .int 0, .long 0, .int (nI 0)]))] H := hP
  have hD : va_D A [(w, .inr (3, [.ref r, .int (nI 0), .int (-1), .int (nI 0), .int 0, .int 0, .int 0, .long 0, .int (nI 0)]))] := hD
  exact ds_vret hx hb hr hlk () trivial hP hD hS (Nat.le_of_ble_eq_true rfl) (Nat.le_of_ble_eq_true rfl) dX3_init_29
set_option maxHeartbeats 4000000 in
set_option maxRecDepth 100000 in
theorem c_X3_open (Ll : Launch) (D : va_G) (cI cL : ClassId) (w : Nat) (r : Nat) (z : Nat) (pl : Int32) (ins : Int32) (a : Int32) (b : Int32) (wk : Int32) (st : Int64) (ks : Int32) (k : Nat) (sz : Nat) : Met Ll yX3_open wsX3_open { frames := 0, cells := 0, slots := 0, locals := 0 } (ds_P D cI cL [.ref w, .int (nI k)] [(w, .inr (3, [.ref r, .int (nI z), .int pl, .int ins, .int a, .int b, .int wk, .long st, .int ks]))] sz) (ds_Qv D (fun (u : Unit) => True) (fun u : Unit => [(w, .inr (3, [.ref r, .int (nI k), .int (-1), .int 0, .int a, .int b, .int wk, .long st, .int 0]))]) (va_A [(w, .inr (3, [.ref r, .int (nI z), .int pl, .int ins, .int a, .int b, .int wk, .long st, .int ks]))] sz)) 0 0 (va_A [(w, .inr (3, [.ref r, .int (nI z), .int pl, .int ins, .int a, .int b, .int wk, .long st, .int ks]))] sz) := by
  refine ds_enter (Qf := (fun A9 => ds_Qv D (fun (u : Unit) => True) (fun u : Unit => [(w, .inr (3, [.ref r, .int (nI k), .int (-1), .int 0, .int a, .int b, .int wk, .long st, .int 0]))]) A9)) (cc := cX3_open) (maxL := 2) (ret := none) (by decide) rfl (Nat.le_of_ble_eq_true rfl) ?_
  intro Pp Ee Ss Mm Aa Bb Me Cc hx hb hml hr ht hown hlk hnm A H locs hA hP hD hS hK ls hl
  have hl : lv_has ls 2 [(0, .ref w), (1, .int (nI k))] := hl
  change Ss.vm.findClass RX3 = some Mm.cls at hown
  refine lv_aload_n hx hb dX3_open_0 rfl (lv_at hl 0 rfl) ?_
  refine lv_iload_n hx hb dX3_open_1 rfl (lv_at hl 1 rfl) ?_
  refine va_put (D := D) (ci := 3) (v := .int (nI k)) (ty := .int) (C := RX3) (T := TX3) (N := 9) hx hb ht inA_X3 tyX3 tyX3_ok nmX3 hown hK.1 hP hD hS 0 rfl rfl 1 (by decide) (ht _ iw_233) (fun _ h9 => h9) rfl (by decide +kernel) rfl rfl (Nat.le_of_ble_eq_true rfl) dX3_open_2 (fun H locs hP hD hS => ?_)
  have hP : va_P D vwCl [(w, .inr (3, [.ref r, .int (nI k), .int pl, .int ins, .int a, .int b, .int wk, .long st, .int ks]))] H := hP
  have hD : va_D A [(w, .inr (3, [.ref r, .int (nI k), .int pl, .int ins, .int a, .int b, .int wk, .long st, .int ks]))] := hD
  refine lv_aload_n hx hb dX3_open_5 rfl (lv_at hl 0 rfl) ?_
  refine lv_iconst (v := -1) hx hb dX3_open_6 (by decide +kernel) ?_
  refine va_put (D := D) (ci := 3) (v := .int (-1)) (ty := .int) (C := RX3) (T := TX3) (N := 9) hx hb ht inA_X3 tyX3 tyX3_ok nmX3 hown hK.1 hP hD hS 0 rfl rfl 2 (by decide) (ht _ iw_234) (fun _ h9 => h9) rfl (by decide +kernel) rfl rfl (Nat.le_of_ble_eq_true rfl) dX3_open_7 (fun H locs hP hD hS => ?_)
  have hP : va_P D vwCl [(w, .inr (3, [.ref r, .int (nI k), .int (-1), .int ins, .int a, .int b, .int wk, .long st, .int ks]))] H := hP
  have hD : va_D A [(w, .inr (3, [.ref r, .int (nI k), .int (-1), .int ins, .int a, .int b, .int wk, .long st, .int ks]))] := hD
  refine lv_aload_n hx hb dX3_open_10 rfl (lv_at hl 0 rfl) ?_
  refine lv_iconst (v := nI 0) hx hb dX3_open_11 (by decide +kernel) ?_
  refine va_put (D := D) (ci := 3) (v := .int (nI 0)) (ty := .boolean) (C := RX3) (T := TX3) (N := 9) hx hb ht inA_X3 tyX3 tyX3_ok nmX3 hown hK.1 hP hD hS 0 rfl rfl 3 (by decide) (ht _ iw_235) (fun _ h9 => h9) rfl (by decide +kernel) (by decide +kernel) (by decide +kernel) (Nat.le_of_ble_eq_true rfl) dX3_open_12 (fun H locs hP hD hS => ?_)
  have hP : va_P D vwCl [(w, .inr (3, [.ref r, .int (nI k), .int (-1), .int (nI 0), .int a, .int b, .int wk, .long st, .int ks]))] H := hP
  have hD : va_D A [(w, .inr (3, [.ref r, .int (nI k), .int (-1), .int (nI 0), .int a, .int b, .int wk, .long st, .int ks]))] := hD
  refine lv_aload_n hx hb dX3_open_15 rfl (lv_at hl 0 rfl) ?_
  refine lv_iconst (v := nI 0) hx hb dX3_open_16 (by decide +kernel) ?_
  refine va_put (D := D) (ci := 3) (v := .int (nI 0)) (ty := .boolean) (C := RX3) (T := TX3) (N := 9) hx hb ht inA_X3 tyX3 tyX3_ok nmX3 hown hK.1 hP hD hS 0 rfl rfl 8 (by decide) (ht _ iw_236) (fun _ h9 => h9) rfl (by decide +kernel) (by decide +kernel) (by decide +kernel) (Nat.le_of_ble_eq_true rfl) dX3_open_17 (fun H locs hP hD hS => ?_)
  have hP : va_P D vwCl [(w, .inr (3, [.ref r, .int (nI k), .int (-1), .int (nI 0), .int a, .int b, .int wk, .long st, .int (nI 0)]))] H := hP
  have hD : va_D A [(w, .inr (3, [.ref r, .int (nI k), .int (-1), .int (nI 0), .int a, .int b, .int wk, .long st, .int (nI 0)]))] := hD
  exact ds_vret hx hb hr hlk () trivial hP hD hS (Nat.le_of_ble_eq_true rfl) (Nat.le_of_ble_eq_true rfl) dX3_open_20
