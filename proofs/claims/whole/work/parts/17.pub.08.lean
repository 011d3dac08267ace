set_option maxHeartbeats 4000000 in
set_option maxRecDepth 100000 in
theorem c_X4_sent (Ll : Launch) (D : va_G) (cI cL : ClassId) (d : Nat) (ro : Nat) (rn : Nat) (rm : Nat) (bk : Nat) (uw : Nat) (lw : Nat) (tk : Nat) (hd : Int32) (tK : Nat) (tF : Nat) (tL : Nat) (c : Nat) (fk : Nat → Int32) (ff : Nat → Int32) (fl : Nat → Int32) (h1 : c ≤ 1200) (sz : Nat) : Met Ll yX4_sent wsX4_sent { frames := 0, cells := 0, slots := 0, locals := 0 } (ds_P D cI cL [.ref d] [(d, .inr (4, [.ref ro, .ref rn, .ref rm, .ref bk, .ref uw, .ref lw, .ref tk, .int hd])), (tk, .inr (2, [.ref tK, .ref tF, .ref tL, .int (nI c)])), (tK, .inl (cI, 1200, .inl fk)), (tF, .inl (cI, 1200, .inl ff)), (tL, .inl (cI, 1200, .inl fl))] sz) (ds_Qi D (fun (r : Int32) (u : Unit) => r = snt fk fl c) (fun u : Unit => [(d, .inr (4, [.ref ro, .ref rn, .ref rm, .ref bk, .ref uw, .ref lw, .ref tk, .int hd])), (tk, .inr (2, [.ref tK, .ref tF, .ref tL, .int (nI c)])), (tK, .inl (cI, 1200, .inl fk)), (tF, .inl (cI, 1200, .inl ff)), (tL, .inl (cI, 1200, .inl fl))]) (va_A [(d, .inr (4, [.ref ro, .ref rn, .ref rm, .ref bk, .ref uw, .ref lw, .ref tk, .int hd])), (tk, .inr (2, [.ref tK, .ref tF, .ref tL, .int (nI c)])), (tK, .inl (cI, 1200, .inl fk)), (tF, .inl (cI, 1200, .inl ff)), (tL, .inl (cI, 1200, .inl fl))] sz)) 0 0 (va_A [(d, .inr (4, [.ref ro, .ref rn, .ref rm, .ref bk, .ref uw, .ref lw, .ref tk, .int hd])), (tk, .inr (2, [.ref tK, .ref tF, .ref tL, .int (nI c)])), (tK, .inl (cI, 1200, .inl fk)), (tF, .inl (cI, 1200, .inl ff)), (tL, .inl (cI, 1200, .inl fl))] sz) := by
  refine ds_enter (Qf := (fun A9 => ds_Qi D (fun (r : Int32) (u : Unit) => r = snt fk fl c) (fun u : Unit => [(d, .inr (4, [.ref ro, .ref rn, .ref rm, .ref bk, .ref uw, .ref lw, .ref tk, .int hd])), (tk, .inr (2, [.ref tK, .ref tF, .ref tL, .int (nI c)])), (tK, .inl (cI, 1200, .inl fk)), (tF, .inl (cI, 1200, .inl ff)), (tL, .inl (cI, 1200, .inl fl))]) A9)) (cc := cX4_sent) (maxL := 3) (ret := (some .int)) (by decide) rfl (Nat.le_of_ble_eq_true rfl) ?_
  intro Pp Ee Ss Mm Aa Bb Me Cc hx hb hml hr ht hown hlk hnm A H locs hA hP hD hS hK ls hl
  have hl : lv_has ls 3 [(0, .ref d)] := hl
  change Ss.vm.findClass RX4 = some Mm.cls at hown
  refine lv_iconst (v := nI 0) hx hb dX4_sent_0 (by decide +kernel) ?_
  refine lv_istore_n (lv' := [(1, .int (nI 0)), (0, .ref d)]) hx hb dX4_sent_1 rfl hl (Nat.le_of_ble_eq_true rfl) rfl (fun ls hl => ?_)
  refine lv_iconst (v := nI 0) hx hb dX4_sent_2 (by decide +kernel) ?_
  refine lv_istore_n (lv' := [(2, .int (nI 0)), (1, .int (nI 0)), (0, .ref d)]) hx hb dX4_sent_3 rfl hl (Nat.le_of_ble_eq_true rfl) rfl (fun ls hl => ?_)
  have loop1 : ∀ (k2 : Nat) (i : Nat) (H : Heap) (locs : List Loc) (ls : Array Slot), (i ≤ c) → c - i < k2 → va_P D vwCl [(d, .inr (4, [.ref ro, .ref rn, .ref rm, .ref bk, .ref uw, .ref lw, .ref tk, .int hd])), (tk, .inr (2, [.ref tK, .ref tF, .ref tL, .int (nI c)])), (tK, .inl (cI, 1200, .inl fk)), (tF, .inl (cI, 1200, .inl ff)), (tL, .inl (cI, 1200, .inl fl))] H → va_D A [(d, .inr (4, [.ref ro, .ref rn, .ref rm, .ref bk, .ref uw, .ref lw, .ref tk, .int hd])), (tk, .inr (2, [.ref tK, .ref tF, .ref tL, .int (nI c)])), (tK, .inl (cI, 1200, .inl fk)), (tF, .inl (cI, 1200, .inl ff)), (tL, .inl (cI, 1200, .inl fl))] → va_S A Ss.heap H locs → lv_has ls 3 [(0, .ref d), (1, .int (snt fk fl i)), (2, .int (nI i))] → W Pp Ll Ee { frames := 0, cells := 0, slots := 0, locals := 0 } Ss Mm Aa Bb Me Cc H locs 0 0 (MQ Bb (ds_Qi D (fun (r : Int32) (u : Unit) => r = snt fk fl c) (fun u : Unit => [(d, .inr (4, [.ref ro, .ref rn, .ref rm, .ref bk, .ref uw, .ref lw, .ref tk, .int hd])), (tk, .inr (2, [.ref tK, .ref tF, .ref tL, .int (nI c)])), (tK, .inl (cI, 1200, .inl fk)), (tF, .inl (cI, 1200, .inl ff)), (tL, .inl (cI, 1200, .inl fl))]) A) Aa Ss 0 0 A) (F0 Mm 4 ls []) := by
    intro k2
    induction k2 with
    | zero => intro i H locs ls hi hm4; exact absurd hm4 (Nat.not_lt_zero _)
    | succ k2 ih3 =>
      intro i H locs ls hi hm4 hP hD hS hl
      refine lv_iload_n hx hb dX4_sent_4 rfl (lv_at hl 2 rfl) ?_
      refine lv_aload_n hx hb dX4_sent_5 rfl (lv_at hl 0 rfl) ?_
      refine va_get (D := D) (ci := 4) (v := .ref tk) (C := RX4) (T := TX4) (N := 8) hx hb ht inA_X4 hown hK.1 hP 0 rfl rfl 6 (by decide) (ht _ iw_26) (fun _ h9 => h9) rfl dX4_sent_6 ?_
      refine va_getN (D := D) (ci := 2) (v := .int (nI c)) (C := RX2) (T := TX2) (N := 4) hx hb ht inA_X2 hown hK.1 hP 1 rfl rfl 3 (by decide) (nfu_3 hK) (fun _ h9 => h9) rfl dX4_sent_9 ?_
      refine lv_icmp_ge (tgt := 51) hx hb dX4_sent_12 (by decide) (fun h => ?_) (fun h => ?_)
      ·
        have h : c ≤ i := (nI_leI (a := c) (b := i) (by omega) (by omega)).mp h
        have e9 : c = i := (by omega)
        subst e9
        refine lv_iload_n hx hb dX4_sent_51 rfl (lv_at hl 1 rfl) ?_
        exact ds_iret hx hb hr hlk rfl () rfl hP hD hS (Nat.le_of_ble_eq_true rfl) (Nat.le_of_ble_eq_true rfl) dX4_sent_52
      ·
        have h : ¬ c ≤ i := fun z9 => h ((nI_leI (a := c) (b := i) (by omega) (by omega)).mpr z9)
        refine lv_iload_n hx hb dX4_sent_15 rfl (lv_at hl 1 rfl) ?_
        refine lv_aload_n hx hb dX4_sent_16 rfl (lv_at hl 0 rfl) ?_
        refine va_get (D := D) (ci := 4) (v := .ref tk) (C := RX4) (T := TX4) (N := 8) hx hb ht inA_X4 hown hK.1 hP 0 rfl rfl 6 (by decide) (ht _ iw_26) (fun _ h9 => h9) rfl dX4_sent_17 ?_
        refine va_getN (D := D) (ci := 2) (v := .ref tK) (C := RX2) (T := TX2) (N := 4) hx hb ht inA_X2 hown hK.1 hP 1 rfl rfl 0 (by decide) (nfu_4 hK) (fun _ h9 => h9) rfl dX4_sent_20 ?_
        refine lv_iload_n hx hb dX4_sent_23 rfl (lv_at hl 2 rfl) ?_
        refine ds_iald (k := i) hx hb hK hP 2 rfl (by omega) (by omega) dX4_sent_24 ?_
        refine lv_if_ne (tgt := 32) hx hb dX4_sent_25 (by decide) (fun h0 => ?_) (fun h0 => ?_)
        ·
          refine lv_iconst (v := nI 3) hx hb dX4_sent_32 (by decide +kernel) ?_
          refine lv_aload_n hx hb dX4_sent_33 rfl (lv_at hl 0 rfl) ?_
          refine va_get (D := D) (ci := 4) (v := .ref tk) (C := RX4) (T := TX4) (N := 8) hx hb ht inA_X4 hown hK.1 hP 0 rfl rfl 6 (by decide) (ht _ iw_26) (fun _ h9 => h9) rfl dX4_sent_34 ?_
          refine va_getN (D := D) (ci := 2) (v := .ref tL) (C := RX2) (T := TX2) (N := 4) hx hb ht inA_X2 hown hK.1 hP 1 rfl rfl 2 (by decide) (nfu_6 hK) (fun _ h9 => h9) rfl dX4_sent_37 ?_
          refine lv_iload_n hx hb dX4_sent_40 rfl (lv_at hl 2 rfl) ?_
          refine ds_iald (k := i) hx hb hK hP 4 rfl (by omega) (by omega) dX4_sent_41 ?_
          refine lv_iadd hx hb dX4_sent_42 ?_
          refine lv_iadd hx hb dX4_sent_43 ?_
          refine ds_top (z := snt fk fl (i + 1)) (by show _ = snt fk fl i + _; rw [if_neg h0]) ?_
          refine lv_istore_n (lv' := [(1, .int (snt fk fl (i + 1))), (0, .ref d), (2, .int (nI i))]) hx hb dX4_sent_44 rfl hl (Nat.le_of_ble_eq_true rfl) rfl (fun ls hl => ?_)
          refine lv_iinc (k := 2) (v := nI (i + 1)) (lv' := [(2, .int (nI (i + 1))), (1, .int (snt fk fl (i + 1))), (0, .ref d)]) hx hb dX4_sent_45 hl rfl (by rw [nI_succ]; rfl) (Nat.le_of_ble_eq_true rfl) rfl (fun ls hl => ?_)
          refine lv_goto (tgt := 4) hx hb dX4_sent_48 (by decide) ?_
          exact ih3 (i + 1) H locs ls (by omega) (by omega) hP hD hS (lv_sub hl [2, 1, 0] rfl)
        ·
          refine lv_iconst (v := nI 5) hx hb dX4_sent_28 (by decide +kernel) ?_
          refine lv_goto (tgt := 43) hx hb dX4_sent_29 (by decide) ?_
          refine lv_iadd hx hb dX4_sent_43 ?_
          refine ds_top (z := snt fk fl (i + 1)) (by show _ = snt fk fl i + _; rw [if_pos h0]) ?_
          refine lv_istore_n (lv' := [(1, .int (snt fk fl (i + 1))), (0, .ref d), (2, .int (nI i))]) hx hb dX4_sent_44 rfl hl (Nat.le_of_ble_eq_true rfl) rfl (fun ls hl => ?_)
          refine lv_iinc (k := 2) (v := nI (i + 1)) (lv' := [(2, .int (nI (i + 1))), (1, .int (snt fk fl (i + 1))), (0, .ref d)]) hx hb dX4_sent_45 hl rfl (by rw [nI_succ]; rfl) (Nat.le_of_ble_eq_true rfl) rfl (fun ls hl => ?_)
          refine lv_goto (tgt := 4) hx hb dX4_sent_48 (by decide) ?_
          exact ih3 (i + 1) H locs ls (by omega) (by omega) hP hD hS (lv_sub hl [2, 1, 0] rfl)
  exact loop1 _ 0 H locs ls (Nat.zero_le _) (Nat.lt_succ_self _) hP hD hS (lv_sub hl [2, 1, 0] rfl)
