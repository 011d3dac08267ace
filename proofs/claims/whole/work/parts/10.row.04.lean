set_option maxHeartbeats 4000000 in
set_option maxRecDepth 100000 in
theorem c_X1_append (Ll : Launch) (D : va_G) (cI cL : ClassId) (r : Nat) (o : Nat) (n : Nat) (f : Nat → Int32) (r2 : Nat) (o2 : Nat) (n2 : Nat) (g : Nat → Int32) (p : Nat) (k : Nat) (h1 : p + k ≤ 1200) (h2 : n + k ≤ 1200) (sz : Nat) : Met Ll yX1_append wsX1_append { frames := 1, cells := 0, slots := 0, locals := 26 } (ds_P D cI cL [.ref r, .ref r2, .int (nI p), .int (nI k)] [(r, .inr (1, [.ref o, .int (nI n)])), (o, .inl (cI, 1200, .inl f)), (r2, .inr (1, [.ref o2, .int (nI n2)])), (o2, .inl (cI, 1200, .inl g))] sz) (ds_Qv D (fun (u : Unit) => True) (fun u : Unit => [(r, .inr (1, [.ref o, .int (nI (n + k))])), (o, .inl (cI, 1200, .inl (va_cpy g f p n k))), (r2, .inr (1, [.ref o2, .int (nI n2)])), (o2, .inl (cI, 1200, .inl g))]) (va_A [(r, .inr (1, [.ref o, .int (nI n)])), (o, .inl (cI, 1200, .inl f)), (r2, .inr (1, [.ref o2, .int (nI n2)])), (o2, .inl (cI, 1200, .inl g))] sz)) 0 0 (va_A [(r, .inr (1, [.ref o, .int (nI n)])), (o, .inl (cI, 1200, .inl f)), (r2, .inr (1, [.ref o2, .int (nI n2)])), (o2, .inl (cI, 1200, .inl g))] sz) := by
  refine ds_enter (Qf := (fun A9 => ds_Qv D (fun (u : Unit) => True) (fun u : Unit => [(r, .inr (1, [.ref o, .int (nI (n + k))])), (o, .inl (cI, 1200, .inl (va_cpy g f p n k))), (r2, .inr (1, [.ref o2, .int (nI n2)])), (o2, .inl (cI, 1200, .inl g))]) A9)) (cc := cX1_append) (maxL := 4) (ret := none) (by decide) rfl (Nat.le_of_ble_eq_true rfl) ?_
  intro Pp Ee Ss Mm Aa Bb Me Cc hx hb hml hr ht hown hlk hnm A H locs hA hP hD hS hK ls hl
  have hl : lv_has ls 4 [(0, .ref r), (1, .ref r2), (2, .int (nI p)), (3, .int (nI k))] := hl
  change Ss.vm.findClass RX1 = some Mm.cls at hown
  refine lv_aload_n hx hb dX1_append_0 rfl (lv_at hl 1 rfl) ?_
  refine va_get (D := D) (ci := 1) (v := .ref o2) (C := RX1) (T := TX1) (N := 2) hx hb ht inA_X1 hown hK.1 hP 2 rfl rfl 0 (by decide) (ht _ iw_203) (fun _ h9 => h9) rfl dX1_append_1 ?_
  refine lv_iload_n hx hb dX1_append_4 rfl (lv_at hl 2 rfl) ?_
  refine lv_aload_n hx hb dX1_append_5 rfl (lv_at hl 0 rfl) ?_
  refine va_get (D := D) (ci := 1) (v := .ref o) (C := RX1) (T := TX1) (N := 2) hx hb ht inA_X1 hown hK.1 hP 0 rfl rfl 0 (by decide) (ht _ iw_203) (fun _ h9 => h9) rfl dX1_append_6 ?_
  refine lv_aload_n hx hb dX1_append_9 rfl (lv_at hl 0 rfl) ?_
  refine va_get (D := D) (ci := 1) (v := .int (nI n)) (C := RX1) (T := TX1) (N := 2) hx hb ht inA_X1 hown hK.1 hP 0 rfl rfl 1 (by decide) (ht _ iw_204) (fun _ h9 => h9) rfl dX1_append_10 ?_
  refine lv_iload_n hx hb dX1_append_13 rfl (lv_at hl 3 rfl) ?_
  refine ds_copyi (sp := p) (dp := n) (n := k) hx hb (by rw [hml]; exact hl.1.symm) hown (ht _ iw_208) (ht _ iw_48) (ht _ iw_49) (ht _ iw_50) hK hP hD hS 3 1 rfl rfl (by omega) (by omega) (by omega) (Nat.le_of_ble_eq_true rfl) (Nat.le_of_ble_eq_true rfl) dX1_append_14 (fun H locs hP hD hS => ?_)
  have hP : va_P D vwCl [(r, .inr (1, [.ref o, .int (nI n)])), (o, .inl (cI, 1200, .inl (va_cpy g f p n k))), (r2, .inr (1, [.ref o2, .int (nI n2)])), (o2, .inl (cI, 1200, .inl g))] H := hP
  have hD : va_D A [(r, .inr (1, [.ref o, .int (nI n)])), (o, .inl (cI, 1200, .inl (va_cpy g f p n k))), (r2, .inr (1, [.ref o2, .int (nI n2)])), (o2, .inl (cI, 1200, .inl g))] := hD
  refine lv_aload_n hx hb dX1_append_17 rfl (lv_at hl 0 rfl) ?_
  refine lv_dup hx hb dX1_append_18 rfl ?_
  refine va_get (D := D) (ci := 1) (v := .int (nI n)) (C := RX1) (T := TX1) (N := 2) hx hb ht inA_X1 hown hK.1 hP 0 rfl rfl 1 (by decide) (ht _ iw_204) (fun _ h9 => h9) rfl dX1_append_19 ?_
  refine lv_iload_n hx hb dX1_append_22 rfl (lv_at hl 3 rfl) ?_
  refine lv_iadd hx hb dX1_append_23 ?_
  refine ds_top (z := nI (n + k)) (nI_add _ _) ?_
  refine va_put (D := D) (ci := 1) (v := .int (nI (n + k))) (ty := .int) (C := RX1) (T := TX1) (N := 2) hx hb ht inA_X1 tyX1 tyX1_ok nmX1 hown hK.1 hP hD hS 0 rfl rfl 1 (by decide) (ht _ iw_204) (fun _ h9 => h9) rfl (by decide +kernel) rfl rfl (Nat.le_of_ble_eq_true rfl) dX1_append_24 (fun H locs hP hD hS => ?_)
  have hP : va_P D vwCl [(r, .inr (1, [.ref o, .int (nI (n + k))])), (o, .inl (cI, 1200, .inl (va_cpy g f p n k))), (r2, .inr (1, [.ref o2, .int (nI n2)])), (o2, .inl (cI, 1200, .inl g))] H := hP
  have hD : va_D A [(r, .inr (1, [.ref o, .int (nI (n + k))])), (o, .inl (cI, 1200, .inl (va_cpy g f p n k))), (r2, .inr (1, [.ref o2, .int (nI n2)])), (o2, .inl (cI, 1200, .inl g))] := hD
  exact ds_vret hx hb hr hlk () trivial hP hD hS (Nat.le_of_ble_eq_true rfl) (Nat.le_of_ble_eq_true rfl) dX1_append_27
set_option maxHeartbeats 4000000 in
set_option maxRecDepth 100000 in
theorem c_X1_init (Ll : Launch) (D : va_G) (cI cL : ClassId) (r : Nat) (sz : Nat) : Met Ll yX1_init wsX1_init { frames := 1, cells := 1, slots := 1200, locals := 20 } (ds_P D cI cL [.ref r] [(r, .inr (1, [.null, .int 0]))] sz) (ds_Qv D (fun (u : Nat) => True) (fun u : Nat => [(r, .inr (1, [.ref u, .int (nI 0)])), (u, .inl (cI, 1200, .inl (fun _ => 0)))]) (va_A [(r, .inr (1, [.null, .int 0]))] sz)) 1 1200 (va_A [(r, .inr (1, [.null, .int 0]))] sz) := by
  refine ds_enter (Qf := (fun A9 => ds_Qv D (fun (u : Nat) => True) (fun u : Nat => [(r, .inr (1, [.ref u, .int (nI 0)])), (u, .inl (cI, 1200, .inl (fun _ => 0)))]) A9)) (cc := cX1_init) (maxL := 1) (ret := none) (by decide) rfl (Nat.le_of_ble_eq_true rfl) ?_
  intro Pp Ee Ss Mm Aa Bb Me Cc hx hb hml hr ht hown hlk hnm A H locs hA hP hD hS hK ls hl
  have hl : lv_has ls 1 [(0, .ref r)] := hl
  change Ss.vm.findClass RX1 = some Mm.cls at hown
  refine lv_aload_n hx hb dX1_init_0 rfl (lv_at hl 0 rfl) ?_
  refine W.objInit hx hb hown (ht _ iw_202) (ht _ iw_2) (ht _ iw_3) rfl (by rw [hml]; exact hl.1) rfl dX1_init_1 (Nat.le_of_ble_eq_true rfl) (Nat.le_of_ble_eq_true rfl) ?_
  refine W.eq (g2 := F0 Mm 4 ls []) rfl ?_
  refine lv_aload_n hx hb dX1_init_4 rfl (lv_at hl 0 rfl) ?_
  refine lv_sipush (v := nI 1200) hx hb dX1_init_5 (by decide +kernel) ?_
  refine va_newa (atype := .int) (a0 := (1200, .inl (fun _ => 0))) (N' := 1200) hx hb (ht _ iw_121) rfl hK.1 hP hD hS hA (fun _ => rfl) (by decide) (by decide) (by decide) (Nat.le_of_ble_eq_true rfl) (Nat.le_of_ble_eq_true rfl) dX1_init_8 (fun q1 cA9 H hK9 hP hD hS => ?_)
  have e9 := Eq.symm (ds_cI hK9)
  subst e9
  have hP : va_P D vwCl [(r, .inr (1, [.null, .int 0])), (q1, .inl (cI, 1200, .inl (fun _ => 0)))] H := hP
  have hD : va_D A [(r, .inr (1, [.null, .int 0])), (q1, .inl (cI, 1200, .inl (fun _ => 0)))] := hD
  refine va_putF (D := D) (ci := 1) (v := .ref q1) (ty := (.array .int)) (C := RX1) (T := TX1) (N := 2) hx hb ht inA_X1 tyX1 tyX1_ok nmX1 hown hK.1 hP hD hS 0 rfl rfl 0 (by decide) (ht _ iw_203) (fun _ h9 => h9) rfl hnm rfl (by decide +kernel) rfl rfl (Nat.le_of_ble_eq_true rfl) dX1_init_10 (fun H locs hP hD hS => ?_)
  have hP : va_P D vwCl [(r, .inr (1, [.ref q1, .int 0])), (q1, .inl (cI, 1200, .inl (fun _ => 0)))] H := hP
  have hD : va_D A [(r, .inr (1, [.ref q1, .int 0])), (q1, .inl (cI, 1200, .inl (fun _ => 0)))] := hD
  refine lv_aload_n hx hb dX1_init_13 rfl (lv_at hl 0 rfl) ?_
  refine lv_iconst (v := nI 0) hx hb dX1_init_14 (by decide +kernel) ?_
  refine va_put (D := D) (ci := 1) (v := .int (nI 0)) (ty := .int) (C := RX1) (T := TX1) (N := 2) hx hb ht inA_X1 tyX1 tyX1_ok nmX1 hown hK.1 hP hD hS 0 rfl rfl 1 (by decide) (ht _ iw_204) (fun _ h9 => h9) rfl (by decide +kernel) rfl rfl (Nat.le_of_ble_eq_true rfl) dX1_init_15 (fun H locs hP hD hS => ?_)
  have hP : va_P D vwCl [(r, .inr (1, [.ref q1, .int (nI 0)])), (q1, .inl (cI, 1200, .inl (fun _ => 0)))] H := hP
  have hD : va_D A [(r, .inr (1, [.ref q1, .int (nI 0)])), (q1, .inl (cI, 1200, .inl (fun _ => 0)))] := hD
  exact ds_vret hx hb hr hlk q1 trivial hP hD hS (Nat.le_of_ble_eq_true rfl) (Nat.le_of_ble_eq_true rfl) dX1_init_18
