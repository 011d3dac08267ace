set_option maxHeartbeats 4000000 in
set_option maxRecDepth 100000 in
theorem c_X2_add (Ll : Launch) (D : va_G) (cI cL : ClassId) (t : Nat) (k : Nat) (f : Nat) (l : Nat) (c : Nat) (fk : Nat → Int32) (ff : Nat → Int32) (fl : Nat → Int32) (kd : Int32) (nb : Int32) (h1 : c < 1200) (sz : Nat) : Met Ll yX2_add wsX2_add { frames := 1, cells := 0, slots := 0, locals := 22 } (ds_P D cI cL [.ref t, .int kd, .int nb] [(t, .inr (2, [.ref k, .ref f, .ref l, .int (nI c)])), (k, .inl (cI, 1200, .inl fk)), (f, .inl (cI, 1200, .inl ff)), (l, .inl (cI, 1200, .inl fl))] sz) (ds_Qv D (fun (u : (Nat → Int32) × (Nat → Int32) × (Nat → Int32) × Nat) => u = tk_add fk ff fl c kd nb) (fun u : (Nat → Int32) × (Nat → Int32) × (Nat → Int32) × Nat => [(t, .inr (2, [.ref k, .ref f, .ref l, .int (nI u.2.2.2)])), (k, .inl (cI, 1200, .inl u.1)), (f, .inl (cI, 1200, .inl u.2.1)), (l, .inl (cI, 1200, .inl u.2.2.1))]) (va_A [(t, .inr (2, [.ref k, .ref f, .ref l, .int (nI c)])), (k, .inl (cI, 1200, .inl fk)), (f, .inl (cI, 1200, .inl ff)), (l, .inl (cI, 1200, .inl fl))] sz)) 0 0 (va_A [(t, .inr (2, [.ref k, .ref f, .ref l, .int (nI c)])), (k, .inl (cI, 1200, .inl fk)), (f, .inl (cI, 1200, .inl ff)), (l, .inl (cI, 1200, .inl fl))] sz) := by
  refine ds_enter (Qf := (fun A9 => ds_Qv D (fun (u : (Nat → Int32) × (Nat → Int32) × (Nat → Int32) × Nat) => u = tk_add fk ff fl c kd nb) (fun u : (Nat → Int32) × (Nat → Int32) × (Nat → Int32) × Nat => [(t, .inr (2, [.ref k, .ref f, .ref l, .int (nI u.2.2.2)])), (k, .inl (cI, 1200, .inl u.1)), (f, .inl (cI, 1200, .inl u.2.1)), (l, .inl (cI, 1200, .inl u.2.2.1))]) A9)) (cc := cX2_add) (maxL := 3) (ret := none) (by decide) rfl (Nat.le_of_ble_eq_true rfl) ?_
  intro Pp Ee Ss Mm Aa Bb Me Cc hx hb hml hr ht hown hlk hnm A H locs hA hP hD hS hK ls hl
  have hl : lv_has ls 3 [(0, .ref t), (1, .int kd), (2, .int nb)] := hl
  change Ss.vm.findClass RX2 = some Mm.cls at hown
  refine lv_aload_n hx hb dX2_add_0 rfl (lv_at hl 0 rfl) ?_
  refine lv_iload_n hx hb dX2_add_1 rfl (lv_at hl 1 rfl) ?_
  refine lv_iload_n hx hb dX2_add_2 rfl (lv_at hl 2 rfl) ?_
  refine ds_calli (wc := [(t, .inr (2, [.ref k, .ref f, .ref l, .int (nI c)])), (k, .inl (cI, 1200, .inl fk)), (f, .inl (cI, 1200, .inl ff)), (l, .inl (cI, 1200, .inl fl))]) (wr := []) (wo := (fun u2 : Unit => [(t, .inr (2, [.ref k, .ref f, .ref l, .int (nI c)])), (k, .inl (cI, 1200, .inl fk)), (f, .inl (cI, 1200, .inl ff)), (l, .inl (cI, 1200, .inl fl))])) (wn := (fun u2 : Unit => [(t, .inr (2, [.ref k, .ref f, .ref l, .int (nI c)])), (k, .inl (cI, 1200, .inl fk)), (f, .inl (cI, 1200, .inl ff)), (l, .inl (cI, 1200, .inl fl))])) (isC := [0, 1, 2, 3]) (isR := []) hP hD hS hA ⟨rfl, rfl, by decide, by decide, by decide⟩ [0, 1, 2, 3] (by decide) (fun _ => rfl) (fun hPc hDc => va_runV (As := [.int kd, .int nb]) (rest := []) ⟨hx, hb, hml, hown, ht⟩ (c_X2_goesOn Ll D cI cL t k f l c fk ff fl kd nb (by omega) H.size) ⟨(callB_of 2 ht g_X2_goesOn rfl rfl rfl (ht _ iw_24) (ht _ iw_226) hd_X2_goesOn ⟨Nat.le_of_ble_eq_true rfl, Nat.le_of_ble_eq_true rfl⟩), (ht _ iw_227), (ht _ iw_228)⟩ (ds_pV hPc hDc hK (q0 := 0) rfl rfl) rfl rfl hl.1 rfl (lv_room (Nat.le_of_ble_eq_true rfl)) dX2_add_3 ⟨Nat.le_of_ble_eq_true rfl, Nat.le_of_ble_eq_true rfl⟩) (fun r1 u2 H locs hp3 hP hD hS => ?_)
  have hP : va_P D vwCl [(t, .inr (2, [.ref k, .ref f, .ref l, .int (nI c)])), (k, .inl (cI, 1200, .inl fk)), (f, .inl (cI, 1200, .inl ff)), (l, .inl (cI, 1200, .inl fl))] H := hP
  have hD : va_D A [(t, .inr (2, [.ref k, .ref f, .ref l, .int (nI c)])), (k, .inl (cI, 1200, .inl fk)), (f, .inl (cI, 1200, .inl ff)), (l, .inl (cI, 1200, .inl fl))] := hD
  have hp3 : r1 = if 0 < c ∧ fk (c - 1) = kd ∧ ff (c - 1) + fl (c - 1) = nb then 1 else 0 := hp3
  replace hp3 := Eq.symm hp3
  subst hp3
  by_cases hg : 0 < c ∧ fk (c - 1) = kd ∧ ff (c - 1) + fl (c - 1) = nb
  ·
    refine ds_top (z := 1) (if_pos hg) ?_
    refine lv_if_eq (tgt := 27) hx hb dX2_add_6 (by decide) (fun h => ?_) (fun h => ?_)
    ·
      exact absurd h (by decide)
    ·
      refine lv_aload_n hx hb dX2_add_9 rfl (lv_at hl 0 rfl) ?_
      refine va_get (D := D) (ci := 2) (v := .ref l) (C := RX2) (T := TX2) (N := 4) hx hb ht inA_X2 hown hK.1 hP 0 rfl rfl 2 (by decide) (ht _ iw_222) (fun _ h9 => h9) rfl dX2_add_10 ?_
      refine lv_aload_n hx hb dX2_add_13 rfl (lv_at hl 0 rfl) ?_
      refine va_get (D := D) (ci := 2) (v := .int (nI c)) (C := RX2) (T := TX2) (N := 4) hx hb ht inA_X2 hown hK.1 hP 0 rfl rfl 3 (by decide) (ht _ iw_223) (fun _ h9 => h9) rfl dX2_add_14 ?_
      refine lv_iconst (v := nI 1) hx hb dX2_add_17 (by decide +kernel) ?_
      refine lv_isub hx hb dX2_add_18 ?_
      refine ds_top (z := nI (c - 1)) (pk_sub (by omega)) ?_
      refine lv_dup2_11 hx hb dX2_add_19 rfl rfl ?_
      refine ds_iald (k := c - 1) hx hb hK hP 3 rfl (by omega) (by omega) dX2_add_20 ?_
      refine lv_iconst (v := nI 1) hx hb dX2_add_21 (by decide +kernel) ?_
      refine lv_iadd hx hb dX2_add_22 ?_
      refine ds_iast (k := c - 1) hx hb hK hP hD hS 3 rfl (by omega) (by omega) dX2_add_23 (fun H locs hP hD hS => ?_)
      have hP : va_P D vwCl [(t, .inr (2, [.ref k, .ref f, .ref l, .int (nI c)])), (k, .inl (cI, 1200, .inl fk)), (f, .inl (cI, 1200, .inl ff)), (l, .inl (cI, 1200, .inl (upd fl (c - 1) ((fl (c - 1)) + (nI 1)))))] H := hP
      have hD : va_D A [(t, .inr (2, [.ref k, .ref f, .ref l, .int (nI c)])), (k, .inl (cI, 1200, .inl fk)), (f, .inl (cI, 1200, .inl ff)), (l, .inl (cI, 1200, .inl (upd fl (c - 1) ((fl (c - 1)) + (nI 1)))))] := hD
      refine lv_goto (tgt := 67) hx hb dX2_add_24 (by decide) ?_
      exact ds_vret hx hb hr hlk (fk, ff, upd fl (c - 1) (fl (c - 1) + nI 1), c) (by unfold tk_add; exact (if_pos hg).symm) hP hD hS (Nat.le_of_ble_eq_true rfl) (Nat.le_of_ble_eq_true rfl) dX2_add_67
  ·
    refine ds_top (z := 0) (if_neg hg) ?_
    refine lv_if_eq (tgt := 27) hx hb dX2_add_6 (by decide) (fun h => ?_) (fun h => ?_)
    ·
      refine lv_aload_n hx hb dX2_add_27 rfl (lv_at hl 0 rfl) ?_
      refine va_get (D := D) (ci := 2) (v := .ref k) (C := RX2) (T := TX2) (N := 4) hx hb ht inA_X2 hown hK.1 hP 0 rfl rfl 0 (by decide) (ht _ iw_220) (fun _ h9 => h9) rfl dX2_add_28 ?_
      refine lv_aload_n hx hb dX2_add_31 rfl (lv_at hl 0 rfl) ?_
      refine va_get (D := D) (ci := 2) (v := .int (nI c)) (C := RX2) (T := TX2) (N := 4) hx hb ht inA_X2 hown hK.1 hP 0 rfl rfl 3 (by decide) (ht _ iw_223) (fun _ h9 => h9) rfl dX2_add_32 ?_
      refine lv_iload_n hx hb dX2_add_35 rfl (lv_at hl 1 rfl) ?_
      refine ds_iast (k := c) hx hb hK hP hD hS 1 rfl (by omega) (by omega) dX2_add_36 (fun H locs hP hD hS => ?_)
      have hP : va_P D vwCl [(t, .inr (2, [.ref k, .ref f, .ref l, .int (nI c)])), (k, .inl (cI, 1200, .inl (upd fk c kd))), (f, .inl (cI, 1200, .inl ff)), (l, .inl (cI, 1200, .inl fl))] H := hP
      have hD : va_D A [(t, .inr (2, [.ref k, .ref f, .ref l, .int (nI c)])), (k, .inl (cI, 1200, .inl (upd fk c kd))), (f, .inl (cI, 1200, .inl ff)), (l, .inl (cI, 1200, .inl fl))] := hD
      refine lv_aload_n hx hb dX2_add_37 rfl (lv_at hl 0 rfl) ?_
      refine va_get (D := D) (ci := 2) (v := .ref f) (C := RX2) (T := TX2) (N := 4) hx hb ht inA_X2 hown hK.1 hP 0 rfl rfl 1 (by decide) (ht _ iw_221) (fun _ h9 => h9) rfl dX2_add_38 ?_
      refine lv_aload_n hx hb dX2_add_41 rfl (lv_at hl 0 rfl) ?_
      refine va_get (D := D) (ci := 2) (v := .int (nI c)) (C := RX2) (T := TX2) (N := 4) hx hb ht inA_X2 hown hK.1 hP 0 rfl rfl 3 (by decide) (ht _ iw_223) (fun _ h9 => h9) rfl dX2_add_42 ?_
      refine lv_iload_n hx hb dX2_add_45 rfl (lv_at hl 2 rfl) ?_
      refine ds_iast (k := c) hx hb hK hP hD hS 2 rfl (by omega) (by omega) dX2_add_46 (fun H locs hP hD hS => ?_)
      have hP : va_P D vwCl [(t, .inr (2, [.ref k, .ref f, .ref l, .int (nI c)])), (k, .inl (cI, 1200, .inl (upd fk c kd))), (f, .inl (cI, 1200, .inl (upd ff c nb))), (l, .inl (cI, 1200, .inl fl))] H := hP
      have hD : va_D A [(t, .inr (2, [.ref k, .ref f, .ref l, .int (nI c)])), (k, .inl (cI, 1200, .inl (upd fk c kd))), (f, .inl (cI, 1200, .inl (upd ff c nb))), (l, .inl (cI, 1200, .inl fl))] := hD
      refine lv_aload_n hx hb dX2_add_47 rfl (lv_at hl 0 rfl) ?_
      refine va_get (D := D) (ci := 2) (v := .ref l) (C := RX2) (T := TX2) (N := 4) hx hb ht inA_X2 hown hK.1 hP 0 rfl rfl 2 (by decide) (ht _ iw_222) (fun _ h9 => h9) rfl dX2_add_48 ?_
      refine lv_aload_n hx hb dX2_add_51 rfl (lv_at hl 0 rfl) ?_
      refine va_get (D := D) (ci := 2) (v := .int (nI c)) (C := RX2) (T := TX2) (N := 4) hx hb ht inA_X2 hown hK.1 hP 0 rfl rfl 3 (by decide) (ht _ iw_223) (fun _ h9 => h9) rfl dX2_add_52 ?_
      refine lv_iconst (v := nI 1) hx hb dX2_add_55 (by decide +kernel) ?_
      refine ds_iast (k := c) hx hb hK hP hD hS 3 rfl (by omega) (by omega) dX2_add_56 (fun H locs hP hD hS => ?_)
      have hP : va_P D vwCl [(t, .inr (2, [.ref k, .ref f, .ref l, .int (nI c)])), (k, .inl (cI, 1200, .inl (upd fk c kd))), (f, .inl (cI, 1200, .inl (upd ff c nb))), (l, .inl (cI, 1200, .inl (upd fl c (nI 1))))] H := hP
      have hD : va_D A [(t, .inr (2, [.ref k, .ref f, .ref l, .int (nI c)])), (k, .inl (cI, 1200, .inl (upd fk c kd))), (f, .inl (cI, 1200, .inl (upd ff c nb))), (l, .inl (cI, 1200, .inl (upd fl c (nI 1))))] := hD
      refine lv_aload_n hx hb dX2_add_57 rfl (lv_at hl 0 rfl) ?_
      refine lv_dup hx hb dX2_add_58 rfl ?_
      refine va_get (D := D) (ci := 2) (v := .int (nI c)) (C := RX2) (T := TX2) (N := 4) hx hb ht inA_X2 hown hK.1 hP 0 rfl rfl 3 (by decide) (ht _ iw_223) (fun _ h9 => h9) rfl dX2_add_59 ?_
      refine lv_iconst (v := nI 1) hx hb dX2_add_62 (by decide +kernel) ?_
      refine lv_iadd hx hb dX2_add_63 ?_
      refine ds_top (z := nI (c + 1)) (nI_add _ _) ?_
      refine va_put (D := D) (ci := 2) (v := .int (nI (c + 1))) (ty := .int) (C := RX2) (T := TX2) (N := 4) hx hb ht inA_X2 tyX2 tyX2_ok nmX2 hown hK.1 hP hD hS 0 rfl rfl 3 (by decide) (ht _ iw_223) (fun _ h9 => h9) rfl (by decide +kernel) rfl rfl (Nat.le_of_ble_eq_true rfl) dX2_add_64 (fun H locs hP hD hS => ?_)
      have hP : va_P D vwCl [(t, .inr (2, [.ref k, .ref f, .ref l, .int (nI (c + 1))])), (k, .inl (cI, 1200, .inl (upd fk c kd))), (f, .inl (cI, 1200, .inl (upd ff c nb))), (l, .inl (cI, 1200, .inl (upd fl c (nI 1))))] H := hP
      have hD : va_D A [(t, .inr (2, [.ref k, .ref f, .ref l, .int (nI (c + 1))])), (k, .inl (cI, 1200, .inl (upd fk c kd))), (f, .inl (cI, 1200, .inl (upd ff c nb))), (l, .inl (cI, 1200, .inl (upd fl c (nI 1))))] := hD
      exact ds_vret hx hb hr hlk (upd fk c kd, upd ff c nb, upd fl c (nI 1), c + 1) (by unfold tk_add; exact (if_neg hg).symm) hP hD hS (Nat.le_of_ble_eq_true rfl) (Nat.le_of_ble_eq_true rfl) dX2_add_67
    ·
      exact absurd rfl h
