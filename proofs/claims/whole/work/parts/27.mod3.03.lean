set_option maxHeartbeats 4000000 in
set_option maxRecDepth 100000 in
theorem c_X5_sent (Ll : Launch) (D : va_G) (cI cL : ClassId) (mo : Nat) (aO : Nat) (aT : Nat) (aM : Nat) (aZ : Nat) (aY : Nat) (aK : Nat) (aF : Nat) (aL : Nat) (er : Int32) (c : Nat) (isd : Int32) (wd : Int32) (gk : Nat → Int32) (gf : Nat → Int32) (gl : Nat → Int32) (fk : Nat → Int32) (ff : Nat → Int32) (fl : Nat → Int32) (hT : mT c fk ff fl gk gf gl) (sz : Nat) : Met Ll yX5_sent wsX5_sent { frames := 0, cells := 0, slots := 0, locals := 0 } (ds_P D cI cL [.ref mo] [(mo, .inr (5, [.int er, .ref aO, .ref aT, .ref aM, .ref aZ, .ref aY, .ref aK, .ref aF, .ref aL, .int (nI c), .int isd, .int wd])), (aK, .inl (cI, 1200, .inl gk)), (aF, .inl (cI, 1200, .inl gf)), (aL, .inl (cI, 1200, .inl gl))] sz) (ds_Qi D (fun (r : Int32) (u : Unit) => r = snt fk fl c) (fun u : Unit => [(mo, .inr (5, [.int (nI 0), .ref aO, .ref aT, .ref aM, .ref aZ, .ref aY, .ref aK, .ref aF, .ref aL, .int (nI c), .int isd, .int wd])), (aK, .inl (cI, 1200, .inl gk)), (aF, .inl (cI, 1200, .inl gf)), (aL, .inl (cI, 1200, .inl gl))]) (va_A [(mo, .inr (5, [.int er, .ref aO, .ref aT, .ref aM, .ref aZ, .ref aY, .ref aK, .ref aF, .ref aL, .int (nI c), .int isd, .int wd])), (aK, .inl (cI, 1200, .inl gk)), (aF, .inl (cI, 1200, .inl gf)), (aL, .inl (cI, 1200, .inl gl))] sz)) 0 0 (va_A [(mo, .inr (5, [.int er, .ref aO, .ref aT, .ref aM, .ref aZ, .ref aY, .ref aK, .ref aF, .ref aL, .int (nI c), .int isd, .int wd])), (aK, .inl (cI, 1200, .inl gk)), (aF, .inl (cI, 1200, .inl gf)), (aL, .inl (cI, 1200, .inl gl))] sz) := by
  refine ds_enter (Qf := (fun A9 => ds_Qi D (fun (r : Int32) (u : Unit) => r = snt fk fl c) (fun u : Unit => [(mo, .inr (5, [.int (nI 0), .ref aO, .ref aT, .ref aM, .ref aZ, .ref aY, .ref aK, .ref aF, .ref aL, .int (nI c), .int isd, .int wd])), (aK, .inl (cI, 1200, .inl gk)), (aF, .inl (cI, 1200, .inl gf)), (aL, .inl (cI, 1200, .inl gl))]) A9)) (cc := cX5_sent) (maxL := 3) (ret := (some .int)) (by decide) rfl (Nat.le_of_ble_eq_true rfl) ?_
  intro Pp Ee Ss Mm Aa Bb Me Cc hx hb hml hr ht hown hlk hnm A H locs hA hP hD hS hK ls hl
  have hl : lv_has ls 3 [(0, .ref mo)] := hl
  change Ss.vm.findClass RX5 = some Mm.cls at hown
  have hc1 := hT.1
  refine lv_aload_n hx hb dX5_sent_0 rfl (lv_at hl 0 rfl) ?_
  refine lv_iconst (v := nI 0) hx hb dX5_sent_1 (by decide +kernel) ?_
  refine va_put (D := D) (ci := 5) (v := .int (nI 0)) (ty := .int) (C := RX5) (T := TX5) (N := 12) hx hb ht inA_X5 tyX5 tyX5_ok nmX5 hown hK.1 hP hD hS 0 rfl rfl 0 (by decide) (ht _ iw_131) (fun _ h9 => h9) rfl (by decide +kernel) rfl rfl (Nat.le_of_ble_eq_true rfl) dX5_sent_2 (fun H locs hP hD hS => ?_)
  have hP : va_P D vwCl [(mo, .inr (5, [.int (nI 0), .ref aO, .ref aT, .ref aM, .ref aZ, .ref aY, .ref aK, .ref aF, .ref aL, .int (nI c), .int isd, .int wd])), (aK, .inl (cI, 1200, .inl gk)), (aF, .inl (cI, 1200, .inl gf)), (aL, .inl (cI, 1200, .inl gl))] H := hP
  have hD : va_D A [(mo, .inr (5, [.int (nI 0), .ref aO, .ref aT, .ref aM, .ref aZ, .ref aY, .ref aK, .ref aF, .ref aL, .int (nI c), .int isd, .int wd])), (aK, .inl (cI, 1200, .inl gk)), (aF, .inl (cI, 1200, .inl gf)), (aL, .inl (cI, 1200, .inl gl))] := hD
  refine lv_iconst (v := nI 0) hx hb dX5_sent_5 (by decide +kernel) ?_
  refine lv_istore_n (lv' := [(1, .int (nI 0)), (0, .ref mo)]) hx hb dX5_sent_6 rfl hl (Nat.le_of_ble_eq_true rfl) rfl (fun ls hl => ?_)
  refine lv_iconst (v := nI 0) hx hb dX5_sent_7 (by decide +kernel) ?_
  refine lv_istore_n (lv' := [(2, .int (nI 0)), (1, .int (nI 0)), (0, .ref mo)]) hx hb dX5_sent_8 rfl hl (Nat.le_of_ble_eq_true rfl) rfl (fun ls hl => ?_)
  have loop1 : ∀ (k2 : Nat) (i : Nat) (H : Heap) (locs : List Loc) (ls : Array Slot), (i ≤ c) → c - i < k2 → va_P D vwCl [(mo, .inr (5, [.int (nI 0), .ref aO, .ref aT, .ref aM, .ref aZ, .ref aY, .ref aK, .ref aF, .ref aL, .int (nI c), .int isd, .int wd])), (aK, .inl (cI, 1200, .inl gk)), (aF, .inl (cI, 1200, .inl gf)), (aL, .inl (cI, 1200, .inl gl))] H → va_D A [(mo, .inr (5, [.int (nI 0), .ref aO, .ref aT, .ref aM, .ref aZ, .ref aY, .ref aK, .ref aF, .ref aL, .int (nI c), .int isd, .int wd])), (aK, .inl (cI, 1200, .inl gk)), (aF, .inl (cI, 1200, .inl gf)), (aL, .inl (cI, 1200, .inl gl))] → va_S A Ss.heap H locs → lv_has ls 3 [(0, .ref mo), (1, .int (snt fk fl i)), (2, .int (nI i))] → W Pp Ll Ee { frames := 0, cells := 0, slots := 0, locals := 0 } Ss Mm Aa Bb Me Cc H locs 0 0 (MQ Bb (ds_Qi D (fun (r : Int32) (u : Unit) => r = snt fk fl c) (fun u : Unit => [(mo, .inr (5, [.int (nI 0), .ref aO, .ref aT, .ref aM, .ref aZ, .ref aY, .ref aK, .ref aF, .ref aL, .int (nI c), .int isd, .int wd])), (aK, .inl (cI, 1200, .inl gk)), (aF, .inl (cI, 1200, .inl gf)), (aL, .inl (cI, 1200, .inl gl))]) A) Aa Ss 0 0 A) (F0 Mm 9 ls []) := by
    intro k2
    induction k2 with
    | zero => intro i H locs ls hi hm4; exact absurd hm4 (Nat.not_lt_zero _)
    | succ k2 ih3 =>
      intro i H locs ls hi hm4 hP hD hS hl
      refine lv_iload_n hx hb dX5_sent_9 rfl (lv_at hl 2 rfl) ?_
      refine lv_aload_n hx hb dX5_sent_10 rfl (lv_at hl 0 rfl) ?_
      refine va_get (D := D) (ci := 5) (v := .int (nI c)) (C := RX5) (T := TX5) (N := 12) hx hb ht inA_X5 hown hK.1 hP 0 rfl rfl 9 (by decide) (ht _ iw_180) (fun _ h9 => h9) rfl dX5_sent_11 ?_
      refine lv_icmp_ge (tgt := 47) hx hb dX5_sent_14 (by decide) (fun h => ?_) (fun h => ?_)
      ·
        have h : c ≤ i := (nI_leI (a := c) (b := i) (by omega) (by omega)).mp h
        have e9 : c = i := (by omega)
        subst e9
        refine lv_iload_n hx hb dX5_sent_47 rfl (lv_at hl 1 rfl) ?_
        exact ds_iret hx hb hr hlk rfl () rfl hP hD hS (Nat.le_of_ble_eq_true rfl) (Nat.le_of_ble_eq_true rfl) dX5_sent_48
      ·
        have h : ¬ c ≤ i := fun z9 => h ((nI_leI (a := c) (b := i) (by omega) (by omega)).mpr z9)
        have hj := hT.2 i (by omega)
        refine lv_iload_n hx hb dX5_sent_17 rfl (lv_at hl 1 rfl) ?_
        refine lv_aload_n hx hb dX5_sent_18 rfl (lv_at hl 0 rfl) ?_
        refine va_get (D := D) (ci := 5) (v := .ref aK) (C := RX5) (T := TX5) (N := 12) hx hb ht inA_X5 hown hK.1 hP 0 rfl rfl 6 (by decide) (ht _ iw_127) (fun _ h9 => h9) rfl dX5_sent_19 ?_
        refine lv_iload_n hx hb dX5_sent_22 rfl (lv_at hl 2 rfl) ?_
        refine ds_iald (k := i) hx hb hK hP 1 rfl (by omega) (by omega) dX5_sent_23 ?_
        refine ds_top (z := fk i) hj.1 ?_
        refine lv_if_ne (tgt := 31) hx hb dX5_sent_24 (by decide) (fun h0 => ?_) (fun h0 => ?_)
        ·
          refine lv_iconst (v := nI 3) hx hb dX5_sent_31 (by decide +kernel) ?_
          refine lv_aload_n hx hb dX5_sent_32 rfl (lv_at hl 0 rfl) ?_
          refine va_get (D := D) (ci := 5) (v := .ref aL) (C := RX5) (T := TX5) (N := 12) hx hb ht inA_X5 hown hK.1 hP 0 rfl rfl 8 (by decide) (ht _ iw_129) (fun _ h9 => h9) rfl dX5_sent_33 ?_
          refine lv_iload_n hx hb dX5_sent_36 rfl (lv_at hl 2 rfl) ?_
          refine ds_iald (k := i) hx hb hK hP 3 rfl (by omega) (by omega) dX5_sent_37 ?_
          refine ds_top (z := fl i) hj.2.2 ?_
          refine lv_iadd hx hb dX5_sent_38 ?_
          refine lv_iadd hx hb dX5_sent_39 ?_
          refine ds_top (z := snt fk fl (i + 1)) (by show _ = snt fk fl i + _; rw [if_neg h0]) ?_
          refine lv_istore_n (lv' := [(1, .int (snt fk fl (i + 1))), (0, .ref mo), (2, .int (nI i))]) hx hb dX5_sent_40 rfl hl (Nat.le_of_ble_eq_true rfl) rfl (fun ls hl => ?_)
          refine lv_iinc (k := 2) (v := nI (i + 1)) (lv' := [(2, .int (nI (i + 1))), (1, .int (snt fk fl (i + 1))), (0, .ref mo)]) hx hb dX5_sent_41 hl rfl (by rw [nI_succ]; rfl) (Nat.le_of_ble_eq_true rfl) rfl (fun ls hl => ?_)
          refine lv_goto (tgt := 9) hx hb dX5_sent_44 (by decide) ?_
          exact ih3 (i + 1) H locs ls (by omega) (by omega) hP hD hS (lv_sub hl [2, 1, 0] rfl)
        ·
          refine lv_iconst (v := nI 5) hx hb dX5_sent_27 (by decide +kernel) ?_
          refine lv_goto (tgt := 39) hx hb dX5_sent_28 (by decide) ?_
          refine lv_iadd hx hb dX5_sent_39 ?_
          refine ds_top (z := snt fk fl (i + 1)) (by show _ = snt fk fl i + _; rw [if_pos h0]) ?_
          refine lv_istore_n (lv' := [(1, .int (snt fk fl (i + 1))), (0, .ref mo), (2, .int (nI i))]) hx hb dX5_sent_40 rfl hl (Nat.le_of_ble_eq_true rfl) rfl (fun ls hl => ?_)
          refine lv_iinc (k := 2) (v := nI (i + 1)) (lv' := [(2, .int (nI (i + 1))), (1, .int (snt fk fl (i + 1))), (0, .ref mo)]) hx hb dX5_sent_41 hl rfl (by rw [nI_succ]; rfl) (Nat.le_of_ble_eq_true rfl) rfl (fun ls hl => ?_)
          refine lv_goto (tgt := 9) hx hb dX5_sent_44 (by decide) ?_
          exact ih3 (i + 1) H locs ls (by omega) (by omega) hP hD hS (lv_sub hl [2, 1, 0] rfl)
  exact loop1 _ 0 H locs ls (Nat.zero_le _) (Nat.lt_succ_self _) hP hD hS (lv_sub hl [2, 1, 0] rfl)
