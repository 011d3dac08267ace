set_option maxHeartbeats 4000000 in
set_option maxRecDepth 100000 in
theorem c_X2_init (Ll : Launch) (D : va_G) (cI cL : ClassId) (t : Nat) (sz : Nat) : Met Ll yX2_init wsX2_init { frames := 1, cells := 3, slots := 3600, locals := 20 } (ds_P D cI cL [.ref t] [(t, .inr (2, [.null, .null, .null, .int 0]))] sz) (ds_Qv D (fun (u : Nat × Nat × Nat) => True) (fun u : Nat × Nat × Nat => [(t, .inr (2, [.ref u.1, .ref u.2.1, .ref u.2.2, .int (nI 0)])), (u.1, .inl (cI, 1200, .inl (fun _ => 0))), (u.2.1, .inl (cI, 1200, .inl (fun _ => 0))), (u.2.2, .inl (cI, 1200, .inl (fun _ => 0)))]) (va_A [(t, .inr (2, [.null, .null, .null, .int 0]))] sz)) 3 3600 (va_A [(t, .inr (2, [.null, .null, .null, .int 0]))] sz) := by
  refine ds_enter (Qf := (fun A9 => ds_Qv D (fun (u : Nat × Nat × Nat) => True) (fun u : Nat × Nat × Nat => [(t, .inr (2, [.ref u.1, .ref u.2.1, .ref u.2.2, .int (nI 0)])), (u.1, .inl (cI, 1200, .inl (fun _ => 0))), (u.2.1, .inl (cI, 1200, .inl (fun _ => 0))), (u.2.2, .inl (cI, 1200, .inl (fun _ => 0)))]) A9)) (cc := cX2_init) (maxL := 1) (ret := none) (by decide) rfl (Nat.le_of_ble_eq_true rfl) ?_
  intro Pp Ee Ss Mm Aa Bb Me Cc hx hb hml hr ht hown hlk hnm A H locs hA hP hD hS hK ls hl
  have hl : lv_has ls 1 [(0, .ref t)] := hl
  change Ss.vm.findClass RX2 = some Mm.cls at hown
  refine lv_aload_n hx hb dX2_init_0 rfl (lv_at hl 0 rfl) ?_
  refine W.objInit hx hb hown (ht _ iw_219) (ht _ iw_2) (ht _ iw_3) rfl (by rw [hml]; exact hl.1) rfl dX2_init_1 (Nat.le_of_ble_eq_true rfl) (Nat.le_of_ble_eq_true rfl) ?_
  refine W.eq (g2 := F0 Mm 4 ls []) rfl ?_
  refine lv_aload_n hx hb dX2_init_4 rfl (lv_at hl 0 rfl) ?_
  refine lv_sipush (v := nI 1200) hx hb dX2_init_5 (by decide +kernel) ?_
  refine va_newa (atype := .int) (a0 := (1200, .inl (fun _ => 0))) (N' := 1200) hx hb (ht _ iw_121) rfl hK.1 hP hD hS hA (fun _ => rfl) (by decide) (by decide) (by decide) (Nat.le_of_ble_eq_true rfl) (Nat.le_of_ble_eq_true rfl) dX2_init_8 (fun q1 cA9 H hK9 hP hD hS => ?_)
  have e9 := Eq.symm (ds_cI hK9)
  subst e9
  have hP : va_P D vwCl [(t, .inr (2, [.null, .null, .null, .int 0])), (q1, .inl (cI, 1200, .inl (fun _ => 0)))] H := hP
  have hD : va_D A [(t, .inr (2, [.null, .null, .null, .int 0])), (q1, .inl (cI, 1200, .inl (fun _ => 0)))] := hD
  refine va_putF (D := D) (ci := 2) (v := .ref q1) (ty := (.array .int)) (C := RX2) (T := TX2) (N := 4) hx hb ht inA_X2 tyX2 tyX2_ok nmX2 hown hK.1 hP hD hS 0 rfl rfl 0 (by decide) (ht _ iw_220) (fun _ h9 => h9) rfl hnm rfl (by decide +kernel) rfl rfl (Nat.le_of_ble_eq_true rfl) dX2_init_10 (fun H locs hP hD hS => ?_)
  have hP : va_P D vwCl [(t, .inr (2, [.ref q1, .null, .null, .int 0])), (q1, .inl (cI, 1200, .inl (fun _ => 0)))] H := hP
  have hD : va_D A [(t, .inr (2, [.ref q1, .null, .null, .int 0])), (q1, .inl (cI, 1200, .inl (fun _ => 0)))] := hD
  refine lv_aload_n hx hb dX2_init_13 rfl (lv_at hl 0 rfl) ?_
  refine lv_sipush (v := nI 1200) hx hb dX2_init_14 (by decide +kernel) ?_
  refine va_newa (atype := .int) (a0 := (1200, .inl (fun _ => 0))) (N' := 1200) hx hb (ht _ iw_121) rfl hK.1 hP hD hS hA (fun _ => rfl) (by decide) (by decide) (by decide) (Nat.le_of_ble_eq_true rfl) (Nat.le_of_ble_eq_true rfl) dX2_init_17 (fun q2 cA9 H hK9 hP hD hS => ?_)
  have e9 := Eq.symm (ds_cI hK9)
  subst e9
  have hP : va_P D vwCl [(t, .inr (2, [.ref q1, .null, .null, .int 0])), (q1, .inl (cI, 1200, .inl (fun _ => 0))), (q2, .inl (cI, 1200, .inl (fun _ => 0)))] H := hP
  have hD : va_D A [(t, .inr (2, [.ref q1, .null, .null, .int 0])), (q1, .inl (cI, 1200, .inl (fun _ => 0))), (q2, .inl (cI, 1200, .inl (fun _ => 0)))] := hD
  refine va_putF (D := D) (ci := 2) (v := .ref q2) (ty := (.array .int)) (C := RX2) (T := TX2) (N := 4) hx hb ht inA_X2 tyX2 tyX2_ok nmX2 hown hK.1 hP hD hS 0 rfl rfl 1 (by decide) (ht _ iw_221) (fun _ h9 => h9) rfl hnm rfl (by decide +kernel) rfl rfl (Nat.le_of_ble_eq_true rfl) dX2_init_19 (fun H locs hP hD hS => ?_)
  have hP : va_P D vwCl [(t, .inr (2, [.ref q1, .ref q2, .null, .int 0])), (q1, .inl (cI, 1200, .inl (fun _ => 0))), (q2, .inl (cI, 1200, .inl (fun _ => 0)))] H := hP
  have hD : va_D A [(t, .inr (2, [.ref q1, .ref q2, .null, .int 0])), (q1, .inl (cI, 1200, .inl (fun _ => 0))), (q2, .inl (cI, 1200, .inl (fun _ => 0)))] := hD
  refine lv_aload_n hx hb dX2_init_22 rfl (lv_at hl 0 rfl) ?_
  refine lv_sipush (v := nI 1200) hx hb dX2_init_23 (by decide +kernel) ?_
  refine va_newa (atype := .int) (a0 := (1200, .inl (fun _ => 0))) (N' := 1200) hx hb (ht _ iw_121) rfl hK.1 hP hD hS hA (fun _ => rfl) (by decide) (by decide) (by decide) (Nat.le_of_ble_eq_true rfl) (Nat.le_of_ble_eq_true rfl) dX2_init_26 (fun q3 cA9 H hK9 hP hD hS => ?_)
  have e9 := Eq.symm (ds_cI hK9)
  subst e9
  have hP : va_P D vwCl [(t, .inr (2, [.ref q1, .ref q2, .null, .int 0])), (q1, .inl (cI, 1200, .inl (fun _ => 0))), (q2, .inl (cI, 1200, .inl (fun _ => 0))), (q3, .inl (cI, 1200, .inl (fun _ => 0)))] H := hP
  have hD : va_D A [(t, .inr (2, [.ref q1, .ref q2, .null, .int 0])), (q1, .inl (cI, 1200, .inl (fun _ => 0))), (q2, .inl (cI, 1200, .inl (fun _ => 0))), (q3, .inl (cI, 1200, .inl (fun _ => 0)))] := hD
  refine va_putF (D := D) (ci := 2) (v := .ref q3) (ty := (.array .int)) (C := RX2) (T := TX2) (N := 4) hx hb ht inA_X2 tyX2 tyX2_ok nmX2 hown hK.1 hP hD hS 0 rfl rfl 2 (by decide) (ht _ iw_222) (fun _ h9 => h9) rfl hnm rfl (by decide +kernel) rfl rfl (Nat.le_of_ble_eq_true rfl) dX2_init_28 (fun H locs hP hD hS => ?_)
  have hP : va_P D vwCl [(t, .inr (2, [.ref q1, .ref q2, .ref q3, .int 0])), (q1, .inl (cI, 1200, .inl (fun _ => 0))), (q2, .inl (cI, 1200, .inl (fun _ => 0))), (q3, .inl (cI, 1200, .inl (fun _ => 0)))] H := hP
  have hD : va_D A [(t, .inr (2, [.ref q1, .ref q2, .ref q3, .int 0])), (q1, .inl (cI, 1200, .inl (fun _ => 0))), (q2, .inl (cI, 1200, .inl (fun _ => 0))), (q3, .inl (cI, 1200, .inl (fun _ => 0)))] := hD
  refine lv_aload_n hx hb dX2_init_31 rfl (lv_at hl 0 rfl) ?_
  refine lv_iconst (v := nI 0) hx hb dX2_init_32 (by decide +kernel) ?_
  refine va_put (D := D) (ci := 2) (v := .int (nI 0)) (ty := .int) (C := RX2) (T := TX2) (N := 4) hx hb ht inA_X2 tyX2 tyX2_ok nmX2 hown hK.1 hP hD hS 0 rfl rfl 3 (by decide) (ht _ iw_223) (fun _ h9 => h9) rfl (by decide +kernel) rfl rfl (Nat.le_of_ble_eq_true rfl) dX2_init_33 (fun H locs hP hD hS => ?_)
  have hP : va_P D vwCl [(t, .inr (2, [.ref q1, .ref q2, .ref q3, .int (nI 0)])), (q1, .inl (cI, 1200, .inl (fun _ => 0))), (q2, .inl (cI, 1200, .inl (fun _ => 0))), (q3, .inl (cI, 1200, .inl (fun _ => 0)))] H := hP
  have hD : va_D A [(t, .inr (2, [.ref q1, .ref q2, .ref q3, .int (nI 0)])), (q1, .inl (cI, 1200, .inl (fun _ => 0))), (q2, .inl (cI, 1200, .inl (fun _ => 0))), (q3, .inl (cI, 1200, .inl (fun _ => 0)))] := hD
  exact ds_vret hx hb hr hlk (q1, q2, q3) trivial hP hD hS (Nat.le_of_ble_eq_true rfl) (Nat.le_of_ble_eq_true rfl) dX2_init_36
set_option maxHeartbeats 4000000 in
set_option maxRecDepth 100000 in
theorem c_X2_clear (Ll : Launch) (D : va_G) (cI cL : ClassId) (t : Nat) (k : Nat) (f : Nat) (l : Nat) (c : Nat) (fk : Nat → Int32) (ff : Nat → Int32) (fl : Nat → Int32) (sz : Nat) : Met Ll yX2_clear wsX2_clear { frames := 0, cells := 0, slots := 0, locals := 0 } (ds_P D cI cL [.ref t] [(t, .inr (2, [.ref k, .ref f, .ref l, .int (nI c)])), (k, .inl (cI, 1200, .inl fk)), (f, .inl (cI, 1200, .inl ff)), (l, .inl (cI, 1200, .inl fl))] sz) (ds_Qv D (fun (u : Unit) => True) (fun u : Unit => [(t, .inr (2, [.ref k, .ref f, .ref l, .int (nI 0)])), (k, .inl (cI, 1200, .inl fk)), (f, .inl (cI, 1200, .inl ff)), (l, .inl (cI, 1200, .inl fl))]) (va_A [(t, .inr (2, [.ref k, .ref f, .ref l, .int (nI c)])), (k, .inl (cI, 1200, .inl fk)), (f, .inl (cI, 1200, .inl ff)), (l, .inl (cI, 1200, .inl fl))] sz)) 0 0 (va_A [(t, .inr (2, [.ref k, .ref f, .ref l, .int (nI c)])), (k, .inl (cI, 1200, .inl fk)), (f, .inl (cI, 1200, .inl ff)), (l, .inl (cI, 1200, .inl fl))] sz) := by
  refine ds_enter (Qf := (fun A9 => ds_Qv D (fun (u : Unit) => True) (fun u : Unit => [(t, .inr (2, [.ref k, .ref f, .ref l, .int (nI 0)])), (k, .inl (cI, 1200, .inl fk)), (f, .inl (cI, 1200, .inl ff)), (l, .inl (cI, 1200, .inl fl))]) A9)) (cc := cX2_clear) (maxL := 1) (ret := none) (by decide) rfl (Nat.le_of_ble_eq_true rfl) ?_
  intro Pp Ee Ss Mm Aa Bb Me Cc hx hb hml hr ht hown hlk hnm A H locs hA hP hD hS hK ls hl
  have hl : lv_has ls 1 [(0, .ref t)] := hl
  change Ss.vm.findClass RX2 = some Mm.cls at hown
  refine lv_aload_n hx hb dX2_clear_0 rfl (lv_at hl 0 rfl) ?_
  refine lv_iconst (v := nI 0) hx hb dX2_clear_1 (by decide +kernel) ?_
  refine va_put (D := D) (ci := 2) (v := .int (nI 0)) (ty := .int) (C := RX2) (T := TX2) (N := 4) hx hb ht inA_X2 tyX2 tyX2_ok nmX2 hown hK.1 hP hD hS 0 rfl rfl 3 (by decide) (ht _ iw_223) (fun _ h9 => h9) rfl (by decide +kernel) rfl rfl (Nat.le_of_ble_eq_true rfl) dX2_clear_2 (fun H locs hP hD hS => ?_)
  have hP : va_P D vwCl [(t, .inr (2, [.ref k, .ref f, .ref l, .int (nI 0)])), (k, .inl (cI, 1200, .inl fk)), (f, .inl (cI, 1200, .inl ff)), (l, .inl (cI, 1200, .inl fl))] H := hP
  have hD : va_D A [(t, .inr (2, [.ref k, .ref f, .ref l, .int (nI 0)])), (k, .inl (cI, 1200, .inl fk)), (f, .inl (cI, 1200, .inl ff)), (l, .inl (cI, 1200, .inl fl))] := hD
  exact ds_vret hx hb hr hlk () trivial hP hD hS (Nat.le_of_ble_eq_true rfl) (Nat.le_of_ble_eq_true rfl) dX2_clear_5
set_option maxHeartbeats 4000000 in
set_option maxRecDepth 100000 in
theorem c_X2_goesOn (Ll : Launch) (D : va_G) (cI cL : ClassId) (t : Nat) (k : Nat) (f : Nat) (l : Nat) (c : Nat) (fk : Nat → Int32) (ff : Nat → Int32) (fl : Nat → Int32) (kd : Int32) (nb : Int32) (h1 : c ≤ 1200) (sz : Nat) : Met Ll yX2_goesOn wsX2_goesOn { frames := 0, cells := 0, slots := 0, locals := 0 } (ds_P D cI cL [.ref t, .int kd, .int nb] [(t, .inr (2, [.ref k, .ref f, .ref l, .int (nI c)])), (k, .inl (cI, 1200, .inl fk)), (f, .inl (cI, 1200, .inl ff)), (l, .inl (cI, 1200, .inl fl))] sz) (ds_Qi D (fun (r : Int32) (u : Unit) => r = if 0 < c ∧ fk (c - 1) = kd ∧ ff (c - 1) + fl (c - 1) = nb then 1 else 0) (fun u : Unit => [(t, .inr (2, [.ref k, .ref f, .ref l, .int (nI c)])), (k, .inl (cI, 1200, .inl fk)), (f, .inl (cI, 1200, .inl ff)), (l, .inl (cI, 1200, .inl fl))]) (va_A [(t, .inr (2, [.ref k, .ref f, .ref l, .int (nI c)])), (k, .inl (cI, 1200, .inl fk)), (f, .inl (cI, 1200, .inl ff)), (l, .inl (cI, 1200, .inl fl))] sz)) 0 0 (va_A [(t, .inr (2, [.ref k, .ref f, .ref l, .int (nI c)])), (k, .inl (cI, 1200, .inl fk)), (f, .inl (cI, 1200, .inl ff)), (l, .inl (cI, 1200, .inl fl))] sz) := by
  refine ds_enter (Qf := (fun A9 => ds_Qi D (fun (r : Int32) (u : Unit) => r = if 0 < c ∧ fk (c - 1) = kd ∧ ff (c - 1) + fl (c - 1) = nb then 1 else 0) (fun u : Unit => [(t, .inr (2, [.ref k, .ref f, .ref l, .int (nI c)])), (k, .inl (cI, 1200, .inl fk)), (f, .inl (cI, 1200, .inl ff)), (l, .inl (cI, 1200, .inl fl))]) A9)) (cc := cX2_goesOn) (maxL := 3) (ret := (some .boolean)) (by decide) rfl (Nat.le_of_ble_eq_true rfl) ?_
  intro Pp Ee Ss Mm Aa Bb Me Cc hx hb hml hr ht hown hlk hnm A H locs hA hP hD hS hK ls hl
  have hl : lv_has ls 3 [(0, .ref t), (1, .int kd), (2, .int nb)] := hl
  change Ss.vm.findClass RX2 = some Mm.cls at hown
  refine lv_aload_n hx hb dX2_goesOn_0 rfl (lv_at hl 0 rfl) ?_
  refine va_get (D := D) (ci := 2) (v := .int (nI c)) (C := RX2) (T := TX2) (N := 4) hx hb ht inA_X2 hown hK.1 hP 0 rfl rfl 3 (by decide) (ht _ iw_223) (fun _ h9 => h9) rfl dX2_goesOn_1 ?_
  refine lv_if_le (tgt := 53) hx hb dX2_goesOn_4 (by decide) (fun ha => ?_) (fun ha => ?_)
  ·
    rw [← nI_0] at ha
    have ha : c ≤ 0 := (nI_leI (a := c) (b := 0) (by omega) (by omega)).mp ha
    refine lv_iconst (v := nI 0) hx hb dX2_goesOn_53 (by decide +kernel) ?_
    exact ds_iret hx hb hr hlk (by decide +kernel) () (if_neg (fun z => by omega)).symm hP hD hS (Nat.le_of_ble_eq_true rfl) (Nat.le_of_ble_eq_true rfl) dX2_goesOn_54
  ·
    rw [← nI_0] at ha
    have ha : ¬ c ≤ 0 := fun z9 => ha ((nI_leI (a := c) (b := 0) (by omega) (by omega)).mpr z9)
    have ha : 0 < c := by omega
    refine lv_aload_n hx hb dX2_goesOn_7 rfl (lv_at hl 0 rfl) ?_
    refine va_get (D := D) (ci := 2) (v := .ref k) (C := RX2) (T := TX2) (N := 4) hx hb ht inA_X2 hown hK.1 hP 0 rfl rfl 0 (by decide) (ht _ iw_220) (fun _ h9 => h9) rfl dX2_goesOn_8 ?_
    refine lv_aload_n hx hb dX2_goesOn_11 rfl (lv_at hl 0 rfl) ?_
    refine va_get (D := D) (ci := 2) (v := .int (nI c)) (C := RX2) (T := TX2) (N := 4) hx hb ht inA_X2 hown hK.1 hP 0 rfl rfl 3 (by decide) (ht _ iw_223) (fun _ h9 => h9) rfl dX2_goesOn_12 ?_
    refine lv_iconst (v := nI 1) hx hb dX2_goesOn_15 (by decide +kernel) ?_
    refine lv_isub hx hb dX2_goesOn_16 ?_
    refine ds_top (z := nI (c - 1)) (pk_sub (by omega)) ?_
    refine ds_iald (k := c - 1) hx hb hK hP 1 rfl (by omega) (by omega) dX2_goesOn_17 ?_
    refine lv_iload_n hx hb dX2_goesOn_18 rfl (lv_at hl 1 rfl) ?_
    refine lv_icmp_ne (tgt := 53) hx hb dX2_goesOn_19 (by decide) (fun hb9 => ?_) (fun hb9 => ?_)
    ·
      refine lv_iconst (v := nI 0) hx hb dX2_goesOn_53 (by decide +kernel) ?_
      exact ds_iret hx hb hr hlk (by decide +kernel) () (if_neg (fun z => hb9 z.2.1)).symm hP hD hS (Nat.le_of_ble_eq_true rfl) (Nat.le_of_ble_eq_true rfl) dX2_goesOn_54
    ·
      refine lv_aload_n hx hb dX2_goesOn_22 rfl (lv_at hl 0 rfl) ?_
      refine va_get (D := D) (ci := 2) (v := .ref f) (C := RX2) (T := TX2) (N := 4) hx hb ht inA_X2 hown hK.1 hP 0 rfl rfl 1 (by decide) (ht _ iw_221) (fun _ h9 => h9) rfl dX2_goesOn_23 ?_
      refine lv_aload_n hx hb dX2_goesOn_26 rfl (lv_at hl 0 rfl) ?_
      refine va_get (D := D) (ci := 2) (v := .int (nI c)) (C := RX2) (T := TX2) (N := 4) hx hb ht inA_X2 hown hK.1 hP 0 rfl rfl 3 (by decide) (ht _ iw_223) (fun _ h9 => h9) rfl dX2_goesOn_27 ?_
      refine lv_iconst (v := nI 1) hx hb dX2_goesOn_30 (by decide +kernel) ?_
      refine lv_isub hx hb dX2_goesOn_31 ?_
      refine ds_top (z := nI (c - 1)) (pk_sub (by omega)) ?_
      refine ds_iald (k := c - 1) hx hb hK hP 2 rfl (by omega) (by omega) dX2_goesOn_32 ?_
      refine lv_aload_n hx hb dX2_goesOn_33 rfl (lv_at hl 0 rfl) ?_
      refine va_get (D := D) (ci := 2) (v := .ref l) (C := RX2) (T := TX2) (N := 4) hx hb ht inA_X2 hown hK.1 hP 0 rfl rfl 2 (by decide) (ht _ iw_222) (fun _ h9 => h9) rfl dX2_goesOn_34 ?_
      refine lv_aload_n hx hb dX2_goesOn_37 rfl (lv_at hl 0 rfl) ?_
      refine va_get (D := D) (ci := 2) (v := .int (nI c)) (C := RX2) (T := TX2) (N := 4) hx hb ht inA_X2 hown hK.1 hP 0 rfl rfl 3 (by decide) (ht _ iw_223) (fun _ h9 => h9) rfl dX2_goesOn_38 ?_
      refine lv_iconst (v := nI 1) hx hb dX2_goesOn_41 (by decide +kernel) ?_
      refine lv_isub hx hb dX2_goesOn_42 ?_
      refine ds_top (z := nI (c - 1)) (pk_sub (by omega)) ?_
      refine ds_iald (k := c - 1) hx hb hK hP 3 rfl (by omega) (by omega) dX2_goesOn_43 ?_
      refine lv_iadd hx hb dX2_goesOn_44 ?_
      refine lv_iload_n hx hb dX2_goesOn_45 rfl (lv_at hl 2 rfl) ?_
      refine lv_icmp_ne (tgt := 53) hx hb dX2_goesOn_46 (by decide) (fun hc => ?_) (fun hc => ?_)
      ·
        refine lv_iconst (v := nI 0) hx hb dX2_goesOn_53 (by decide +kernel) ?_
        exact ds_iret hx hb hr hlk (by decide +kernel) () (if_neg (fun z => hc z.2.2)).symm hP hD hS (Nat.le_of_ble_eq_true rfl) (Nat.le_of_ble_eq_true rfl) dX2_goesOn_54
      ·
        refine lv_iconst (v := nI 1) hx hb dX2_goesOn_49 (by decide +kernel) ?_
        refine lv_goto (tgt := 54) hx hb dX2_goesOn_50 (by decide) ?_
        exact ds_iret hx hb hr hlk (by decide +kernel) () (if_pos ⟨ha, hb9, hc⟩).symm hP hD hS (Nat.le_of_ble_eq_true rfl) (Nat.le_of_ble_eq_true rfl) dX2_goesOn_54
