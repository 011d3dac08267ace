set_option maxHeartbeats 4000000 in
set_option maxRecDepth 100000 in
theorem c_X0_start (Ll : Launch) (D : va_G) (cI cL : ClassId) (b : Nat) (r : Nat) (w : Nat) (t : Nat) (us : Nat) (lsz : Nat) (ct : Nat) (k : Nat) (sz : Nat) : Met Ll yX0_start wsX0_start { frames := 0, cells := 0, slots := 0, locals := 0 } (ds_P D cI cL [.ref b, .int (nI k)] [(b, .inr (0, [.ref r, .ref w, .ref t, .int (nI us), .int (nI lsz), .int (nI ct)]))] sz) (ds_Qi D (fun (r : Int32) (u : Unit) => r = nI (k * us)) (fun u : Unit => [(b, .inr (0, [.ref r, .ref w, .ref t, .int (nI us), .int (nI lsz), .int (nI ct)]))]) (va_A [(b, .inr (0, [.ref r, .ref w, .ref t, .int (nI us), .int (nI lsz), .int (nI ct)]))] sz)) 0 0 (va_A [(b, .inr (0, [.ref r, .ref w, .ref t, .int (nI us), .int (nI lsz), .int (nI ct)]))] sz) := by
  refine ds_enter (Qf := (fun A9 => ds_Qi D (fun (r : Int32) (u : Unit) => r = nI (k * us)) (fun u : Unit => [(b, .inr (0, [.ref r, .ref w, .ref t, .int (nI us), .int (nI lsz), .int (nI ct)]))]) A9)) (cc := cX0_start) (maxL := 2) (ret := (some .int)) (by decide) rfl (Nat.le_of_ble_eq_true rfl) ?_
  intro Pp Ee Ss Mm Aa Bb Me Cc hx hb hml hr ht hown hlk hnm A H locs hA hP hD hS hK ls hl
  have hl : lv_has ls 2 [(0, .ref b), (1, .int (nI k))] := hl
  change Ss.vm.findClass RX0 = some Mm.cls at hown
  refine lv_iload_n hx hb dX0_start_0 rfl (lv_at hl 1 rfl) ?_
  refine lv_aload_n hx hb dX0_start_1 rfl (lv_at hl 0 rfl) ?_
  refine va_get (D := D) (ci := 0) (v := .int (nI us)) (C := RX0) (T := TX0) (N := 6) hx hb ht inA_X0 hown hK.1 hP 0 rfl rfl 3 (by decide) (ht _ iw_193) (fun _ h9 => h9) rfl dX0_start_2 ?_
  refine lv_imul hx hb dX0_start_5 ?_
  refine ds_top (z := nI (k * us)) (pk_mul _ _) ?_
  exact ds_iret hx hb hr hlk rfl () rfl hP hD hS (Nat.le_of_ble_eq_true rfl) (Nat.le_of_ble_eq_true rfl) dX0_start_6
set_option maxHeartbeats 4000000 in
set_option maxRecDepth 100000 in
theorem c_X0_length (Ll : Launch) (D : va_G) (cI cL : ClassId) (b : Nat) (r : Nat) (w : Nat) (t : Nat) (us : Nat) (lsz : Nat) (ct : Nat) (k : Nat) (h1 : k < ct) (h2 : ct ≤ 300) (sz : Nat) : Met Ll yX0_length wsX0_length { frames := 0, cells := 0, slots := 0, locals := 0 } (ds_P D cI cL [.ref b, .int (nI k)] [(b, .inr (0, [.ref r, .ref w, .ref t, .int (nI us), .int (nI lsz), .int (nI ct)]))] sz) (ds_Qi D (fun (r : Int32) (u : Unit) => r = nI (if k + 1 = ct then lsz else us)) (fun u : Unit => [(b, .inr (0, [.ref r, .ref w, .ref t, .int (nI us), .int (nI lsz), .int (nI ct)]))]) (va_A [(b, .inr (0, [.ref r, .ref w, .ref t, .int (nI us), .int (nI lsz), .int (nI ct)]))] sz)) 0 0 (va_A [(b, .inr (0, [.ref r, .ref w, .ref t, .int (nI us), .int (nI lsz), .int (nI ct)]))] sz) := by
  refine ds_enter (Qf := (fun A9 => ds_Qi D (fun (r : Int32) (u : Unit) => r = nI (if k + 1 = ct then lsz else us)) (fun u : Unit => [(b, .inr (0, [.ref r, .ref w, .ref t, .int (nI us), .int (nI lsz), .int (nI ct)]))]) A9)) (cc := cX0_length) (maxL := 2) (ret := (some .int)) (by decide) rfl (Nat.le_of_ble_eq_true rfl) ?_
  intro Pp Ee Ss Mm Aa Bb Me Cc hx hb hml hr ht hown hlk hnm A H locs hA hP hD hS hK ls hl
  have hl : lv_has ls 2 [(0, .ref b), (1, .int (nI k))] := hl
  change Ss.vm.findClass RX0 = some Mm.cls at hown
  refine lv_iload_n hx hb dX0_length_0 rfl (lv_at hl 1 rfl) ?_
  refine lv_aload_n hx hb dX0_length_1 rfl (lv_at hl 0 rfl) ?_
  refine va_get (D := D) (ci := 0) (v := .int (nI ct)) (C := RX0) (T := TX0) (N := 6) hx hb ht inA_X0 hown hK.1 hP 0 rfl rfl 5 (by decide) (ht _ iw_195) (fun _ h9 => h9) rfl dX0_length_2 ?_
  refine lv_iconst (v := nI 1) hx hb dX0_length_5 (by decide +kernel) ?_
  refine lv_isub hx hb dX0_length_6 ?_
  refine ds_top (z := nI (ct - 1)) (pk_sub (by omega)) ?_
  refine lv_icmp_ne (tgt := 17) hx hb dX0_length_7 (by decide) (fun h => ?_) (fun h => ?_)
  ·
    have h : ¬ k = (ct - 1) := fun z9 => h ((nI_eq (a := k) (b := (ct - 1)) (by omega) (by omega)).mpr z9)
    refine lv_aload_n hx hb dX0_length_17 rfl (lv_at hl 0 rfl) ?_
    refine va_get (D := D) (ci := 0) (v := .int (nI us)) (C := RX0) (T := TX0) (N := 6) hx hb ht inA_X0 hown hK.1 hP 0 rfl rfl 3 (by decide) (ht _ iw_193) (fun _ h9 => h9) rfl dX0_length_18 ?_
    exact ds_iret hx hb hr hlk rfl () (by rw [if_neg (by omega)]) hP hD hS (Nat.le_of_ble_eq_true rfl) (Nat.le_of_ble_eq_true rfl) dX0_length_21
  ·
    have h : k = (ct - 1) := (nI_eq (a := k) (b := (ct - 1)) (by omega) (by omega)).mp h
    refine lv_aload_n hx hb dX0_length_10 rfl (lv_at hl 0 rfl) ?_
    refine va_get (D := D) (ci := 0) (v := .int (nI lsz)) (C := RX0) (T := TX0) (N := 6) hx hb ht inA_X0 hown hK.1 hP 0 rfl rfl 4 (by decide) (ht _ iw_194) (fun _ h9 => h9) rfl dX0_length_11 ?_
    refine lv_goto (tgt := 21) hx hb dX0_length_14 (by decide) ?_
    exact ds_iret hx hb hr hlk rfl () (by rw [if_pos (by omega)]) hP hD hS (Nat.le_of_ble_eq_true rfl) (Nat.le_of_ble_eq_true rfl) dX0_length_21
set_option maxHeartbeats 4000000 in
set_option maxRecDepth 100000 in
theorem c_X4_blockCount (Ll : Launch) (D : va_G) (cI cL : ClassId) (n : Nat) (k : Nat) (h1 : n ≤ 1200) (h2 : 4 ≤ k) (h3 : k ≤ 256) (sz : Nat) : Met Ll yX4_blockCount wsX4_blockCount { frames := 0, cells := 0, slots := 0, locals := 0 } (ds_P D cI cL [.int (nI n), .int (nI k)] [] sz) (ds_Qi D (fun (r : Int32) (u : Unit) => r = nI (bn n k)) (fun u : Unit => []) (va_A [] sz)) 0 0 (va_A [] sz) := by
  refine ds_enter (Qf := (fun A9 => ds_Qi D (fun (r : Int32) (u : Unit) => r = nI (bn n k)) (fun u : Unit => []) A9)) (cc := cX4_blockCount) (maxL := 2) (ret := (some .int)) (by decide) rfl (Nat.le_of_ble_eq_true rfl) ?_
  intro Pp Ee Ss Mm Aa Bb Me Cc hx hb hml hr ht hown hlk hnm A H locs hA hP hD hS hK ls hl
  have hl : lv_has ls 2 [(0, .int (nI n)), (1, .int (nI k))] := hl
  change Ss.vm.findClass RX4 = some Mm.cls at hown
  refine lv_iload_n hx hb dX4_blockCount_0 rfl (lv_at hl 0 rfl) ?_
  refine lv_iload_n hx hb dX4_blockCount_1 rfl (lv_at hl 1 rfl) ?_
  refine lv_iadd hx hb dX4_blockCount_2 ?_
  refine ds_top (z := nI (n + k)) (nI_add _ _) ?_
  refine lv_iconst (v := nI 1) hx hb dX4_blockCount_3 (by decide +kernel) ?_
  refine lv_isub hx hb dX4_blockCount_4 ?_
  refine ds_top (z := nI (n + k - 1)) (pk_sub (by omega)) ?_
  refine lv_iload_n hx hb dX4_blockCount_5 rfl (lv_at hl 1 rfl) ?_
  refine lv_idiv hx hb dX4_blockCount_6 (fun z => by rw [← nI_0] at z; have := (nI_eq (by omega) (by omega)).mp z; omega) ?_
  refine ds_top (z := nI ((n + k - 1) / k)) (pk_div (by omega) (by omega) (by omega)) ?_
  exact ds_iret hx hb hr hlk rfl () rfl hP hD hS (Nat.le_of_ble_eq_true rfl) (Nat.le_of_ble_eq_true rfl) dX4_blockCount_7
set_option maxHeartbeats 4000000 in
set_option maxRecDepth 100000 in
theorem c_X0_init (Ll : Launch) (D : va_G) (cI cL : ClassId) (b : Nat) (r : Nat) (sz : Nat) : Met Ll yX0_init wsX0_init { frames := 1, cells := 2, slots := 600, locals := 20 } (ds_P D cI cL [.ref b, .ref r] [(b, .inr (0, [.null, .null, .null, .int 0, .int 0, .int 0]))] sz) (ds_Qv D (fun (u : Nat × Nat) => True) (fun u : Nat × Nat => [(b, .inr (0, [.ref r, .ref u.1, .ref u.2, .int (nI 4), .int (nI 0), .int (nI 0)])), (u.1, .inl (cI, 300, .inl (fun _ => 0))), (u.2, .inl (cL, 300, .inr (.inl (fun _ => 0))))]) (va_A [(b, .inr (0, [.null, .null, .null, .int 0, .int 0, .int 0]))] sz)) 2 600 (va_A [(b, .inr (0, [.null, .null, .null, .int 0, .int 0, .int 0]))] sz) := by
  refine ds_enter (Qf := (fun A9 => ds_Qv D (fun (u : Nat × Nat) => True) (fun u : Nat × Nat => [(b, .inr (0, [.ref r, .ref u.1, .ref u.2, .int (nI 4), .int (nI 0), .int (nI 0)])), (u.1, .inl (cI, 300, .inl (fun _ => 0))), (u.2, .inl (cL, 300, .inr (.inl (fun _ => 0))))]) A9)) (cc := cX0_init) (maxL := 2) (ret := none) (by decide) rfl (Nat.le_of_ble_eq_true rfl) ?_
  intro Pp Ee Ss Mm Aa Bb Me Cc hx hb hml hr ht hown hlk hnm A H locs hA hP hD hS hK ls hl
  have hl : lv_has ls 2 [(0, .ref b), (1, .ref r)] := hl
  change Ss.vm.findClass RX0 = some Mm.cls at hown
  refine lv_aload_n hx hb dX0_init_0 rfl (lv_at hl 0 rfl) ?_
  refine W.objInit hx hb hown (ht _ iw_188) (ht _ iw_2) (ht _ iw_3) rfl (by rw [hml]; exact hl.1) rfl dX0_init_1 (Nat.le_of_ble_eq_true rfl) (Nat.le_of_ble_eq_true rfl) ?_
  refine W.eq (g2 := F0 Mm 4 ls []) rfl ?_
  refine lv_aload_n hx hb dX0_init_4 rfl (lv_at hl 0 rfl) ?_
  refine lv_aload_n hx hb dX0_init_5 rfl (lv_at hl 1 rfl) ?_
  refine va_putF (D := D) (ci := 0) (v := .ref r) (ty := (.object "DeltaDesk$Row")) (C := RX0) (T := TX0) (N := 6) hx hb ht inA_X0 tyX0 tyX0_ok nmX0 hown hK.1 hP hD hS 0 rfl rfl 0 (by decide) (ht _ iw_189) (fun _ h9 => h9) rfl hnm rfl (by decide +kernel) rfl rfl (Nat.le_of_ble_eq_true rfl) dX0_init_6 (fun H locs hP hD hS => ?_)
  have hP : va_P D vwCl [(b, .inr (0, [.ref r, .null, .null, .int 0, .int 0, .int 0]))] H := hP
  have hD : va_D A [(b, .inr (0, [.ref r, .null, .null, .int 0, .int 0, .int 0]))] := hD
  refine lv_aload_n hx hb dX0_init_9 rfl (lv_at hl 0 rfl) ?_
  refine lv_sipush (v := nI 300) hx hb dX0_init_10 (by decide +kernel) ?_
  refine va_newa (atype := .int) (a0 := (300, .inl (fun _ => 0))) (N' := 300) hx hb (ht _ iw_121) rfl hK.1 hP hD hS hA (fun _ => rfl) (by decide) (by decide) (by decide) (Nat.le_of_ble_eq_true rfl) (Nat.le_of_ble_eq_true rfl) dX0_init_13 (fun q1 cA9 H hK9 hP hD hS => ?_)
  have e9 := Eq.symm (ds_cI hK9)
  subst e9
  have hP : va_P D vwCl [(b, .inr (0, [.ref r, .null, .null, .int 0, .int 0, .int 0])), (q1, .inl (cI, 300, .inl (fun _ => 0)))] H := hP
  have hD : va_D A [(b, .inr (0, [.ref r, .null, .null, .int 0, .int 0, .int 0])), (q1, .inl (cI, 300, .inl (fun _ => 0)))] := hD
  refine va_putF (D := D) (ci := 0) (v := .ref q1) (ty := (.array .int)) (C := RX0) (T := TX0) (N := 6) hx hb ht inA_X0 tyX0 tyX0_ok nmX0 hown hK.1 hP hD hS 0 rfl rfl 1 (by decide) (ht _ iw_190) (fun _ h9 => h9) rfl hnm rfl (by decide +kernel) rfl rfl (Nat.le_of_ble_eq_true rfl) dX0_init_15 (fun H locs hP hD hS => ?_)
  have hP : va_P D vwCl [(b, .inr (0, [.ref r, .ref q1, .null, .int 0, .int 0, .int 0])), (q1, .inl (cI, 300, .inl (fun _ => 0)))] H := hP
  have hD : va_D A [(b, .inr (0, [.ref r, .ref q1, .null, .int 0, .int 0, .int 0])), (q1, .inl (cI, 300, .inl (fun _ => 0)))] := hD
  refine lv_aload_n hx hb dX0_init_18 rfl (lv_at hl 0 rfl) ?_
  refine lv_sipush (v := nI 300) hx hb dX0_init_19 (by decide +kernel) ?_
  refine va_newa (atype := .long) (a0 := (300, .inr (.inl (fun _ => 0)))) (N' := 300) hx hb (ht _ iw_191) rfl hK.1 hP hD hS hA (fun _ => rfl) (by decide) (by decide) (by decide) (Nat.le_of_ble_eq_true rfl) (Nat.le_of_ble_eq_true rfl) dX0_init_22 (fun q2 cA9 H hK9 hP hD hS => ?_)
  have e9 := Eq.symm (ds_cL hK9)
  subst e9
  have hP : va_P D vwCl [(b, .inr (0, [.ref r, .ref q1, .null, .int 0, .int 0, .int 0])), (q1, .inl (cI, 300, .inl (fun _ => 0))), (q2, .inl (cL, 300, .inr (.inl (fun _ => 0))))] H := hP
  have hD : va_D A [(b, .inr (0, [.ref r, .ref q1, .null, .int 0, .int 0, .int 0])), (q1, .inl (cI, 300, .inl (fun _ => 0))), (q2, .inl (cL, 300, .inr (.inl (fun _ => 0))))] := hD
  refine va_putF (D := D) (ci := 0) (v := .ref q2) (ty := (.array .long)) (C := RX0) (T := TX0) (N := 6) hx hb ht inA_X0 tyX0 tyX0_ok nmX0 hown hK.1 hP hD hS 0 rfl rfl 2 (by decide) (ht _ iw_192) (fun _ h9 => h9) rfl hnm rfl (by decide +kernel) rfl rfl (Nat.le_of_ble_eq_true rfl) dX0_init_24 (fun H locs hP hD hS => ?_)
  have hP : va_P D vwCl [(b, .inr (0, [.ref r, .ref q1, .ref q2, .int 0, .int 0, .int 0])), (q1, .inl (cI, 300, .inl (fun _ => 0))), (q2, .inl (cL, 300, .inr (.inl (fun _ => 0))))] H := hP
  have hD : va_D A [(b, .inr (0, [.ref r, .ref q1, .ref q2, .int 0, .int 0, .int 0])), (q1, .inl (cI, 300, .inl (fun _ => 0))), (q2, .inl (cL, 300, .inr (.inl (fun _ => 0))))] := hD
  refine lv_aload_n hx hb dX0_init_27 rfl (lv_at hl 0 rfl) ?_
  refine lv_iconst (v := nI 4) hx hb dX0_init_28 (by decide +kernel) ?_
  refine va_put (D := D) (ci := 0) (v := .int (nI 4)) (ty := .int) (C := RX0) (T := TX0) (N := 6) hx hb ht inA_X0 tyX0 tyX0_ok nmX0 hown hK.1 hP hD hS 0 rfl rfl 3 (by decide) (ht _ iw_193) (fun _ h9 => h9) rfl (by decide +kernel) rfl rfl (Nat.le_of_ble_eq_true rfl) dX0_init_29 (fun H locs hP hD hS => ?_)
  have hP : va_P D vwCl [(b, .inr (0, [.ref r, .ref q1, .ref q2, .int (nI 4), .int 0, .int 0])), (q1, .inl (cI, 300, .inl (fun _ => 0))), (q2, .inl (cL, 300, .inr (.inl (fun _ => 0))))] H := hP
  have hD : va_D A [(b, .inr (0, [.ref r, .ref q1, .ref q2, .int (nI 4), .int 0, .int 0])), (q1, .inl (cI, 300, .inl (fun _ => 0))), (q2, .inl (cL, 300, .inr (.inl (fun _ => 0))))] := hD
  refine lv_aload_n hx hb dX0_init_32 rfl (lv_at hl 0 rfl) ?_
  refine lv_iconst (v := nI 0) hx hb dX0_init_33 (by decide +kernel) ?_
  refine va_put (D := D) (ci := 0) (v := .int (nI 0)) (ty := .int) (C := RX0) (T := TX0) (N := 6) hx hb ht inA_X0 tyX0 tyX0_ok nmX0 hown hK.1 hP hD hS 0 rfl rfl 4 (by decide) (ht _ iw_194) (fun _ h9 => h9) rfl (by decide +kernel) rfl rfl (Nat.le_of_ble_eq_true rfl) dX0_init_34 (fun H locs hP hD hS => ?_)
  have hP : va_P D vwCl [(b, .inr (0, [.ref r, .ref q1, .ref q2, .int (nI 4), .int (nI 0), .int 0])), (q1, .inl (cI, 300, .inl (fun _ => 0))), (q2, .inl (cL, 300, .inr (.inl (fun _ => 0))))] H := hP
  have hD : va_D A [(b, .inr (0, [.ref r, .ref q1, .ref q2, .int (nI 4), .int (nI 0), .int 0])), (q1, .inl (cI, 300, .inl (fun _ => 0))), (q2, .inl (cL, 300, .inr (.inl (fun _ => 0))))] := hD
  refine lv_aload_n hx hb dX0_init_37 rfl (lv_at hl 0 rfl) ?_
  refine lv_iconst (v := nI 0) hx hb dX0_init_38 (by decide +kernel) ?_
  refine va_put (D := D) (ci := 0) (v := .int (nI 0)) (ty := .int) (C := RX0) (T := TX0) (N := 6) hx hb ht inA_X0 tyX0 tyX0_ok nmX0 hown hK.1 hP hD hS 0 rfl rfl 5 (by decide) (ht _ iw_195) (fun _ h9 => h9) rfl (by decide +kernel) rfl rfl (Nat.le_of_ble_eq_true rfl) dX0_init_39 (fun H locs hP hD hS => ?_)
  have hP : va_P D vwCl [(b, .inr (0, [.ref r, .ref q1, .ref q2, .int (nI 4), .int (nI 0), .int (nI 0)])), (q1, .inl (cI, 300, .inl (fun _ => 0))), (q2, .inl (cL, 300, .inr (.inl (fun _ => 0))))] H := hP
  have hD : va_D A [(b, .inr (0, [.ref r, .ref q1, .ref q2, .int (nI 4), .int (nI 0), .int (nI 0)])), (q1, .inl (cI, 300, .inl (fun _ => 0))), (q2, .inl (cL, 300, .inr (.inl (fun _ => 0))))] := hD
  exact ds_vret hx hb hr hlk (q1, q2) trivial hP hD hS (Nat.le_of_ble_eq_true rfl) (Nat.le_of_ble_eq_true rfl) dX0_init_42
