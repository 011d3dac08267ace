set_option maxHeartbeats 4000000 in
set_option maxRecDepth 100000 in
theorem c_X4_count2 (Ll : Launch) (D : va_G) (cI cL : ClassId) (d : Nat) (ro : Nat) (rn : Nat) (rm : Nat) (bk : Nat) (uw : Nat) (lw : Nat) (tk : Nat) (hd : Int32) (oo : Nat) (lo : Nat) (fo : Nat → Int32) (qn : Nat) (ln : Nat) (fn : Nat → Int32) (tK : Nat) (tF : Nat) (tL : Nat) (c : Nat) (fk : Nat → Int32) (ff : Nat → Int32) (fl : Nat → Int32) (sz : Nat) : Met Ll yX4_count wsX4_count { frames := 0, cells := 0, slots := 0, locals := 0 } (ds_P D cI cL [.ref d, .int (nI 2)] [(d, .inr (4, [.ref ro, .ref rn, .ref rm, .ref bk, .ref uw, .ref lw, .ref tk, .int hd])), (ro, .inr (1, [.ref oo, .int (nI lo)])), (oo, .inl (cI, 1200, .inl fo)), (rn, .inr (1, [.ref qn, .int (nI ln)])), (qn, .inl (cI, 1200, .inl fn)), (tk, .inr (2, [.ref tK, .ref tF, .ref tL, .int (nI c)])), (tK, .inl (cI, 1200, .inl fk)), (tF, .inl (cI, 1200, .inl ff)), (tL, .inl (cI, 1200, .inl fl))] sz) (ds_Qi D (fun (r : Int32) (u : Unit) => r = nI c) (fun u : Unit => [(d, .inr (4, [.ref ro, .ref rn, .ref rm, .ref bk, .ref uw, .ref lw, .ref tk, .int hd])), (ro, .inr (1, [.ref oo, .int (nI lo)])), (oo, .inl (cI, 1200, .inl fo)), (rn, .inr (1, [.ref qn, .int (nI ln)])), (qn, .inl (cI, 1200, .inl fn)), (tk, .inr (2, [.ref tK, .ref tF, .ref tL, .int (nI c)])), (tK, .inl (cI, 1200, .inl fk)), (tF, .inl (cI, 1200, .inl ff)), (tL, .inl (cI, 1200, .inl fl))]) (va_A [(d, .inr (4, [.ref ro, .ref rn, .ref rm, .ref bk, .ref uw, .ref lw, .ref tk, .int hd])), (ro, .inr (1, [.ref oo, .int (nI lo)])), (oo, .inl (cI, 1200, .inl fo)), (rn, .inr (1, [.ref qn, .int (nI ln)])), (qn, .inl (cI, 1200, .inl fn)), (tk, .inr (2, [.ref tK, .ref tF, .ref tL, .int (nI c)])), (tK, .inl (cI, 1200, .inl fk)), (tF, .inl (cI, 1200, .inl ff)), (tL, .inl (cI, 1200, .inl fl))] sz)) 0 0 (va_A [(d, .inr (4, [.ref ro, .ref rn, .ref rm, .ref bk, .ref uw, .ref lw, .ref tk, .int hd])), (ro, .inr (1, [.ref oo, .int (nI lo)])), (oo, .inl (cI, 1200, .inl fo)), (rn, .inr (1, [.ref qn, .int (nI ln)])), (qn, .inl (cI, 1200, .inl fn)), (tk, .inr (2, [.ref tK, .ref tF, .ref tL, .int (nI c)])), (tK, .inl (cI, 1200, .inl fk)), (tF, .inl (cI, 1200, .inl ff)), (tL, .inl (cI, 1200, .inl fl))] sz) := by
  refine ds_enter (Qf := (fun A9 => ds_Qi D (fun (r : Int32) (u : Unit) => r = nI c) (fun u : Unit => [(d, .inr (4, [.ref ro, .ref rn, .ref rm, .ref bk, .ref uw, .ref lw, .ref tk, .int hd])), (ro, .inr (1, [.ref oo, .int (nI lo)])), (oo, .inl (cI, 1200, .inl fo)), (rn, .inr (1, [.ref qn, .int (nI ln)])), (qn, .inl (cI, 1200, .inl fn)), (tk, .inr (2, [.ref tK, .ref tF, .ref tL, .int (nI c)])), (tK, .inl (cI, 1200, .inl fk)), (tF, .inl (cI, 1200, .inl ff)), (tL, .inl (cI, 1200, .inl fl))]) A9)) (cc := cX4_count) (maxL := 2) (ret := (some .int)) (by decide) rfl (Nat.le_of_ble_eq_true rfl) ?_
  intro Pp Ee Ss Mm Aa Bb Me Cc hx hb hml hr ht hown hlk hnm A H locs hA hP hD hS hK ls hl
  have hl : lv_has ls 2 [(0, .ref d), (1, .int (nI 2))] := hl
  change Ss.vm.findClass RX4 = some Mm.cls at hown
  refine lv_iload_n hx hb dX4_count_0 rfl (lv_at hl 1 rfl) ?_
  refine lv_if_lt (tgt := 9) hx hb dX4_count_1 (by decide) (fun h => ?_) (fun h => ?_)
  ·
    rw [← nI_0] at h
    have h : 2 < 0 := (nI_ltI (a := 2) (b := 0) (by omega) (by omega)).mp h
    exact absurd h (by decide)
  ·
    rw [← nI_0] at h
    have h : ¬ 2 < 0 := fun z9 => h ((nI_ltI (a := 2) (b := 0) (by omega) (by omega)).mpr z9)
    refine lv_iload_n hx hb dX4_count_4 rfl (lv_at hl 1 rfl) ?_
    refine lv_iconst (v := nI 2) hx hb dX4_count_5 (by decide +kernel) ?_
    refine lv_icmp_le (tgt := 19) hx hb dX4_count_6 (by decide) (fun h => ?_) (fun h => ?_)
    ·
      have h : 2 ≤ 2 := (nI_leI (a := 2) (b := 2) (by omega) (by omega)).mp h
      refine lv_iload_n hx hb dX4_count_19 rfl (lv_at hl 1 rfl) ?_
      refine lv_if_ne (tgt := 31) hx hb dX4_count_20 (by decide) (fun h => ?_) (fun h => ?_)
      ·
        rw [← nI_0] at h
        have h : ¬ 2 = 0 := fun z9 => h ((nI_eq (a := 2) (b := 0) (by omega) (by omega)).mpr z9)
        refine lv_iload_n hx hb dX4_count_31 rfl (lv_at hl 1 rfl) ?_
        refine lv_iconst (v := nI 1) hx hb dX4_count_32 (by decide +kernel) ?_
        refine lv_icmp_ne (tgt := 46) hx hb dX4_count_33 (by decide) (fun h => ?_) (fun h => ?_)
        ·
          have h : ¬ 2 = 1 := fun z9 => h ((nI_eq (a := 2) (b := 1) (by omega) (by omega)).mpr z9)
          refine lv_aload_n hx hb dX4_count_46 rfl (lv_at hl 0 rfl) ?_
          refine va_get (D := D) (ci := 4) (v := .ref tk) (C := RX4) (T := TX4) (N := 8) hx hb ht inA_X4 hown hK.1 hP 0 rfl rfl 6 (by decide) (ht _ iw_26) (fun _ h9 => h9) rfl dX4_count_47 ?_
          refine va_getN (D := D) (ci := 2) (v := .int (nI c)) (C := RX2) (T := TX2) (N := 4) hx hb ht inA_X2 hown hK.1 hP 5 rfl rfl 3 (by decide) (nfu_3 hK) (fun _ h9 => h9) rfl dX4_count_50 ?_
          exact ds_iret hx hb hr hlk rfl () rfl hP hD hS (Nat.le_of_ble_eq_true rfl) (Nat.le_of_ble_eq_true rfl) dX4_count_53
        ·
          have h : 2 = 1 := (nI_eq (a := 2) (b := 1) (by omega) (by omega)).mp h
          exact absurd h (by decide)
      ·
        rw [← nI_0] at h
        have h : 2 = 0 := (nI_eq (a := 2) (b := 0) (by omega) (by omega)).mp h
        exact absurd h (by decide)
    ·
      have h : ¬ 2 ≤ 2 := fun z9 => h ((nI_leI (a := 2) (b := 2) (by omega) (by omega)).mpr z9)
      exact absurd (by decide) h
set_option maxHeartbeats 4000000 in
set_option maxRecDepth 100000 in
theorem c_X4_patch0 (Ll : Launch) (D : va_G) (cI cL : ClassId) (d : Nat) (ro : Nat) (rn : Nat) (rm : Nat) (bk : Nat) (uw : Nat) (lw : Nat) (tk : Nat) (sz : Nat) : Met Ll yX4_patch wsX4_patch { frames := 2, cells := 0, slots := 0, locals := 49 } (ds_P D cI cL [.ref d] [(d, .inr (4, [.ref ro, .ref rn, .ref rm, .ref bk, .ref uw, .ref lw, .ref tk, .int 0]))] sz) (ds_Qi D (fun (r : Int32) (u : Unit) => r = 0) (fun u : Unit => [(d, .inr (4, [.ref ro, .ref rn, .ref rm, .ref bk, .ref uw, .ref lw, .ref tk, .int 0]))]) (va_A [(d, .inr (4, [.ref ro, .ref rn, .ref rm, .ref bk, .ref uw, .ref lw, .ref tk, .int 0]))] sz)) 0 0 (va_A [(d, .inr (4, [.ref ro, .ref rn, .ref rm, .ref bk, .ref uw, .ref lw, .ref tk, .int 0]))] sz) := by
  refine ds_enter (Qf := (fun A9 => ds_Qi D (fun (r : Int32) (u : Unit) => r = 0) (fun u : Unit => [(d, .inr (4, [.ref ro, .ref rn, .ref rm, .ref bk, .ref uw, .ref lw, .ref tk, .int 0]))]) A9)) (cc := cX4_patch) (maxL := 1) (ret := (some .int)) (by decide) rfl (Nat.le_of_ble_eq_true rfl) ?_
  intro Pp Ee Ss Mm Aa Bb Me Cc hx hb hml hr ht hown hlk hnm A H locs hA hP hD hS hK ls hl
  have hl : lv_has ls 1 [(0, .ref d)] := hl
  change Ss.vm.findClass RX4 = some Mm.cls at hown
  refine lv_aload_n hx hb dX4_patch_0 rfl (lv_at hl 0 rfl) ?_
  refine va_get (D := D) (ci := 4) (v := .int 0) (C := RX4) (T := TX4) (N := 8) hx hb ht inA_X4 hown hK.1 hP 0 rfl rfl 7 (by decide) (ht _ iw_27) (fun _ h9 => h9) rfl dX4_patch_1 ?_
  refine lv_if_ne (tgt := 9) hx hb dX4_patch_4 (by decide) (fun h => ?_) (fun h => ?_)
  ·
    exact absurd rfl h
  ·
    refine lv_iconst (v := nI 0) hx hb dX4_patch_7 (by decide +kernel) ?_
    exact ds_iret hx hb hr hlk rfl () rfl hP hD hS (Nat.le_of_ble_eq_true rfl) (Nat.le_of_ble_eq_true rfl) dX4_patch_8
set_option maxHeartbeats 4000000 in
set_option maxRecDepth 100000 in
theorem c_X4_patch1 (Ll : Launch) (D : va_G) (cI cL : ClassId) (d : Nat) (ro : Nat) (rn : Nat) (rm : Nat) (bk : Nat) (uw : Nat) (lw : Nat) (tk : Nat) (oo : Nat) (lo : Nat) (fo : Nat → Int32) (om : Nat) (lm : Nat) (fm : Nat → Int32) (h1 : lm ≤ 1200) (sz : Nat) : Met Ll yX4_patch wsX4_patch { frames := 2, cells := 0, slots := 0, locals := 49 } (ds_P D cI cL [.ref d] [(d, .inr (4, [.ref ro, .ref rn, .ref rm, .ref bk, .ref uw, .ref lw, .ref tk, .int 1])), (ro, .inr (1, [.ref oo, .int (nI lo)])), (oo, .inl (cI, 1200, .inl fo)), (rm, .inr (1, [.ref om, .int (nI lm)])), (om, .inl (cI, 1200, .inl fm))] sz) (ds_Qi D (fun (r : Int32) (u : Unit) => r = nI lm) (fun u : Unit => [(d, .inr (4, [.ref ro, .ref rn, .ref rm, .ref bk, .ref uw, .ref lw, .ref tk, .int 1])), (ro, .inr (1, [.ref oo, .int (nI (0 + lm))])), (oo, .inl (cI, 1200, .inl (va_cpy fm fo 0 0 lm))), (rm, .inr (1, [.ref om, .int (nI lm)])), (om, .inl (cI, 1200, .inl fm))]) (va_A [(d, .inr (4, [.ref ro, .ref rn, .ref rm, .ref bk, .ref uw, .ref lw, .ref tk, .int 1])), (ro, .inr (1, [.ref oo, .int (nI lo)])), (oo, .inl (cI, 1200, .inl fo)), (rm, .inr (1, [.ref om, .int (nI lm)])), (om, .inl (cI, 1200, .inl fm))] sz)) 0 0 (va_A [(d, .inr (4, [.ref ro, .ref rn, .ref rm, .ref bk, .ref uw, .ref lw, .ref tk, .int 1])), (ro, .inr (1, [.ref oo, .int (nI lo)])), (oo, .inl (cI, 1200, .inl fo)), (rm, .inr (1, [.ref om, .int (nI lm)])), (om, .inl (cI, 1200, .inl fm))] sz) := by
  refine ds_enter (Qf := (fun A9 => ds_Qi D (fun (r : Int32) (u : Unit) => r = nI lm) (fun u : Unit => [(d, .inr (4, [.ref ro, .ref rn, .ref rm, .ref bk, .ref uw, .ref lw, .ref tk, .int 1])), (ro, .inr (1, [.ref oo, .int (nI (0 + lm))])), (oo, .inl (cI, 1200, .inl (va_cpy fm fo 0 0 lm))), (rm, .inr (1, [.ref om, .int (nI lm)])), (om, .inl (cI, 1200, .inl fm))]) A9)) (cc := cX4_patch) (maxL := 1) (ret := (some .int)) (by decide) rfl (Nat.le_of_ble_eq_true rfl) ?_
  intro Pp Ee Ss Mm Aa Bb Me Cc hx hb hml hr ht hown hlk hnm A H locs hA hP hD hS hK ls hl
  have hl : lv_has ls 1 [(0, .ref d)] := hl
  change Ss.vm.findClass RX4 = some Mm.cls at hown
  refine lv_aload_n hx hb dX4_patch_0 rfl (lv_at hl 0 rfl) ?_
  refine va_get (D := D) (ci := 4) (v := .int 1) (C := RX4) (T := TX4) (N := 8) hx hb ht inA_X4 hown hK.1 hP 0 rfl rfl 7 (by decide) (ht _ iw_27) (fun _ h9 => h9) rfl dX4_patch_1 ?_
  refine lv_if_ne (tgt := 9) hx hb dX4_patch_4 (by decide) (fun h => ?_) (fun h => ?_)
  ·
    refine lv_aload_n hx hb dX4_patch_9 rfl (lv_at hl 0 rfl) ?_
    refine va_get (D := D) (ci := 4) (v := .ref ro) (C := RX4) (T := TX4) (N := 8) hx hb ht inA_X4 hown hK.1 hP 0 rfl rfl 0 (by decide) (ht _ iw_8) (fun _ h9 => h9) rfl dX4_patch_10 ?_
    refine lv_iconst (v := nI 0) hx hb dX4_patch_13 (by decide +kernel) ?_
    refine va_putN (D := D) (ci := 1) (v := .int (nI 0)) (ty := .int) (C := RX1) (T := TX1) (N := 2) hx hb ht inA_X1 tyX1 tyX1_ok nmX1 hown hK.1 hP hD hS 1 rfl rfl 1 (by decide) (nfu_1 hK) (fun _ h9 => h9) rfl (by decide +kernel) rfl rfl (Nat.le_of_ble_eq_true rfl) dX4_patch_14 (fun H locs hP hD hS => ?_)
    have hP : va_P D vwCl [(d, .inr (4, [.ref ro, .ref rn, .ref rm, .ref bk, .ref uw, .ref lw, .ref tk, .int 1])), (ro, .inr (1, [.ref oo, .int (nI 0)])), (oo, .inl (cI, 1200, .inl fo)), (rm, .inr (1, [.ref om, .int (nI lm)])), (om, .inl (cI, 1200, .inl fm))] H := hP
    have hD : va_D A [(d, .inr (4, [.ref ro, .ref rn, .ref rm, .ref bk, .ref uw, .ref lw, .ref tk, .int 1])), (ro, .inr (1, [.ref oo, .int (nI 0)])), (oo, .inl (cI, 1200, .inl fo)), (rm, .inr (1, [.ref om, .int (nI lm)])), (om, .inl (cI, 1200, .inl fm))] := hD
    refine lv_aload_n hx hb dX4_patch_17 rfl (lv_at hl 0 rfl) ?_
    refine va_get (D := D) (ci := 4) (v := .ref ro) (C := RX4) (T := TX4) (N := 8) hx hb ht inA_X4 hown hK.1 hP 0 rfl rfl 0 (by decide) (ht _ iw_8) (fun _ h9 => h9) rfl dX4_patch_18 ?_
    refine lv_aload_n hx hb dX4_patch_21 rfl (lv_at hl 0 rfl) ?_
    refine va_get (D := D) (ci := 4) (v := .ref rm) (C := RX4) (T := TX4) (N := 8) hx hb ht inA_X4 hown hK.1 hP 0 rfl rfl 2 (by decide) (ht _ iw_10) (fun _ h9 => h9) rfl dX4_patch_22 ?_
    refine lv_iconst (v := nI 0) hx hb dX4_patch_25 (by decide +kernel) ?_
    refine lv_aload_n hx hb dX4_patch_26 rfl (lv_at hl 0 rfl) ?_
    refine va_get (D := D) (ci := 4) (v := .ref rm) (C := RX4) (T := TX4) (N := 8) hx hb ht inA_X4 hown hK.1 hP 0 rfl rfl 2 (by decide) (ht _ iw_10) (fun _ h9 => h9) rfl dX4_patch_27 ?_
    refine va_getN (D := D) (ci := 1) (v := .int (nI lm)) (C := RX1) (T := TX1) (N := 2) hx hb ht inA_X1 hown hK.1 hP 3 rfl rfl 1 (by decide) (nfu_1 hK) (fun _ h9 => h9) rfl dX4_patch_30 ?_
    refine ds_callv (wc := [(ro, .inr (1, [.ref oo, .int (nI 0)])), (oo, .inl (cI, 1200, .inl fo)), (rm, .inr (1, [.ref om, .int (nI lm)])), (om, .inl (cI, 1200, .inl fm))]) (wr := [(d, .inr (4, [.ref ro, .ref rn, .ref rm, .ref bk, .ref uw, .ref lw, .ref tk, .int 1]))]) (wo := (fun u2 : Unit => [(ro, .inr (1, [.ref oo, .int (nI (0 + lm))])), (oo, .inl (cI, 1200, .inl (va_cpy fm fo 0 0 lm))), (rm, .inr (1, [.ref om, .int (nI lm)])), (om, .inl (cI, 1200, .inl fm))])) (wn := (fun u2 : Unit => [(d, .inr (4, [.ref ro, .ref rn, .ref rm, .ref bk, .ref uw, .ref lw, .ref tk, .int 1])), (ro, .inr (1, [.ref oo, .int (nI (0 + lm))])), (oo, .inl (cI, 1200, .inl (va_cpy fm fo 0 0 lm))), (rm, .inr (1, [.ref om, .int (nI lm)])), (om, .inl (cI, 1200, .inl fm))])) (isC := [1, 2, 3, 4]) (isR := [0]) hP hD hS hA ⟨rfl, rfl, by decide, by decide, by decide⟩ [0, 1, 2, 3, 4] (by decide) (fun _ => rfl) (fun hPc hDc => va_runVN (As := [.ref rm, .int (nI 0), .int (nI lm)]) (rest := []) ⟨hx, hb, hml, hown, ht⟩ (c_X1_append Ll D cI cL ro oo 0 fo rm om lm fm 0 lm (by omega) (by omega) H.size) ⟨(va_cnB 3 ht g_X1_append rfl rfl rfl (nmu_11 hK) (ht _ iw_6) hd_X1_append ⟨Nat.le_of_ble_eq_true rfl, Nat.le_of_ble_eq_true rfl⟩), (ht _ iw_87), (ht _ iw_88)⟩ (ds_pV hPc hDc hK (q0 := 0) rfl rfl) rfl rfl hl.1 rfl (lv_room (Nat.le_of_ble_eq_true rfl)) dX4_patch_33 ⟨Nat.le_of_ble_eq_true rfl, Nat.le_of_ble_eq_true rfl⟩) (fun u2 H locs hp3 hP hD hS => ?_)
    have hP : va_P D vwCl [(d, .inr (4, [.ref ro, .ref rn, .ref rm, .ref bk, .ref uw, .ref lw, .ref tk, .int 1])), (ro, .inr (1, [.ref oo, .int (nI (0 + lm))])), (oo, .inl (cI, 1200, .inl (va_cpy fm fo 0 0 lm))), (rm, .inr (1, [.ref om, .int (nI lm)])), (om, .inl (cI, 1200, .inl fm))] H := hP
    have hD : va_D A [(d, .inr (4, [.ref ro, .ref rn, .ref rm, .ref bk, .ref uw, .ref lw, .ref tk, .int 1])), (ro, .inr (1, [.ref oo, .int (nI (0 + lm))])), (oo, .inl (cI, 1200, .inl (va_cpy fm fo 0 0 lm))), (rm, .inr (1, [.ref om, .int (nI lm)])), (om, .inl (cI, 1200, .inl fm))] := hD
    have hp3 : True := hp3
    refine lv_aload_n hx hb dX4_patch_36 rfl (lv_at hl 0 rfl) ?_
    refine va_get (D := D) (ci := 4) (v := .ref ro) (C := RX4) (T := TX4) (N := 8) hx hb ht inA_X4 hown hK.1 hP 0 rfl rfl 0 (by decide) (ht _ iw_8) (fun _ h9 => h9) rfl dX4_patch_37 ?_
    refine va_getN (D := D) (ci := 1) (v := .int (nI (0 + lm))) (C := RX1) (T := TX1) (N := 2) hx hb ht inA_X1 hown hK.1 hP 1 rfl rfl 1 (by decide) (nfu_1 hK) (fun _ h9 => h9) rfl dX4_patch_40 ?_
    exact ds_iret hx hb hr hlk rfl () (by rw [Nat.zero_add]) hP hD hS (Nat.le_of_ble_eq_true rfl) (Nat.le_of_ble_eq_true rfl) dX4_patch_43
  ·
    exact absurd h (by decide)
