set_option maxHeartbeats 4000000 in
set_option maxRecDepth 100000 in
theorem c_X4_count0 (Ll : Launch) (D : va_G) (cI cL : ClassId) (d : Nat) (ro : Nat) (rn : Nat) (rm : Nat) (bk : Nat) (uw : Nat) (lw : Nat) (tk : Nat) (hd : Int32) (oo : Nat) (lo : Nat) (fo : Nat → Int32) (qn : Nat) (ln : Nat) (fn : Nat → Int32) (tK : Nat) (tF : Nat) (tL : Nat) (c : Nat) (fk : Nat → Int32) (ff : Nat → Int32) (fl : Nat → Int32) (sz : Nat) : Met Ll yX4_count wsX4_count { frames := 0, cells := 0, slots := 0, locals := 0 } (ds_P D cI cL [.ref d, .int (nI 0)] [(d, .inr (4, [.ref ro, .ref rn, .ref rm, .ref bk, .ref uw, .ref lw, .ref tk, .int hd])), (ro, .inr (1, [.ref oo, .int (nI lo)])), (oo, .inl (cI, 1200, .inl fo)), (rn, .inr (1, [.ref qn, .int (nI ln)])), (qn, .inl (cI, 1200, .inl fn)), (tk, .inr (2, [.ref tK, .ref tF, .ref tL, .int (nI c)])), (tK, .inl (cI, 1200, .inl fk)), (tF, .inl (cI, 1200, .inl ff)), (tL, .inl (cI, 1200, .inl fl))] sz) (ds_Qi D (fun (r : Int32) (u : Unit) => r = nI lo) (fun u : Unit => [(d, .inr (4, [.ref ro, .ref rn, .ref rm, .ref bk, .ref uw, .ref lw, .ref tk, .int hd])), (ro, .inr (1, [.ref oo, .int (nI lo)])), (oo, .inl (cI, 1200, .inl fo)), (rn, .inr (1, [.ref qn, .int (nI ln)])), (qn, .inl (cI, 1200, .inl fn)), (tk, .inr (2, [.ref tK, .ref tF, .ref tL, .int (nI c)])), (tK, .inl (cI, 1200, .inl fk)), (tF, .inl (cI, 1200, .inl ff)), (tL, .inl (cI, 1200, .inl fl))]) (va_A [(d, .inr (4, [.ref ro, .ref rn, .ref rm, .ref bk, .ref uw, .ref lw, .ref tk, .int hd])), (ro, .inr (1, [.ref oo, .int (nI lo)])), (oo, .inl (cI, 1200, .inl fo)), (rn, .inr (1, [.ref qn, .int (nI ln)])), (qn, .inl (cI, 1200, .inl fn)), (tk, .inr (2, [.ref tK, .ref tF, .ref tL, .int (nI c)])), (tK, .inl (cI, 1200, .inl fk)), (tF, .inl (cI, 1200, .inl ff)), (tL, .inl (cI, 1200, .inl fl))] sz)) 0 0 (va_A [(d, .inr (4, [.ref ro, .ref rn, .ref rm, .ref bk, .ref uw, .ref lw, .ref tk, .int hd])), (ro, .inr (1, [.ref oo, .int (nI lo)])), (oo, .inl (cI, 1200, .inl fo)), (rn, .inr (1, [.ref qn, .int (nI ln)])), (qn, .inl (cI, 1200, .inl fn)), (tk, .inr (2, [.ref tK, .ref tF, .ref tL, .int (nI c)])), (tK, .inl (cI, 1200, .inl fk)), (tF, .inl (cI, 1200, .inl ff)), (tL, .inl (cI, 1200, .inl fl))] sz) := by
  refine ds_enter (Qf := (fun A9 => ds_Qi D (fun (r : Int32) (u : Unit) => r = nI lo) (fun u : Unit => [(d, .inr (4, [.ref ro, .ref rn, .ref rm, .ref bk, .ref uw, .ref lw, .ref tk, .int hd])), (ro, .inr (1, [.ref oo, .int (nI lo)])), (oo, .inl (cI, 1200, .inl fo)), (rn, .inr (1, [.ref qn, .int (nI ln)])), (qn, .inl (cI, 1200, .inl fn)), (tk, .inr (2, [.ref tK, .ref tF, .ref tL, .int (nI c)])), (tK, .inl (cI, 1200, .inl fk)), (tF, .inl (cI, 1200, .inl ff)), (tL, .inl (cI, 1200, .inl fl))]) A9)) (cc := cX4_count) (maxL := 2) (ret := (some .int)) (by decide) rfl (Nat.le_of_ble_eq_true rfl) ?_
  intro Pp Ee Ss Mm Aa Bb Me Cc hx hb hml hr ht hown hlk hnm A H locs hA hP hD hS hK ls hl
  have hl : lv_has ls 2 [(0, .ref d), (1, .int (nI 0))] := hl
  change Ss.vm.findClass RX4 = some Mm.cls at hown
  refine lv_iload_n hx hb dX4_count_0 rfl (lv_at hl 1 rfl) ?_
  refine lv_if_lt (tgt := 9) hx hb dX4_count_1 (by decide) (fun h => ?_) (fun h => ?_)
  ·
    rw [← nI_0] at h
    have h : 0 < 0 := (nI_ltI (a := 0) (b := 0) (by omega) (by omega)).mp h
    exact absurd h (by decide)
  ·
    rw [← nI_0] at h
    have h : ¬ 0 < 0 := fun z9 => h ((nI_ltI (a := 0) (b := 0) (by omega) (by omega)).mpr z9)
    refine lv_iload_n hx hb dX4_count_4 rfl (lv_at hl 1 rfl) ?_
    refine lv_iconst (v := nI 2) hx hb dX4_count_5 (by decide +kernel) ?_
    refine lv_icmp_le (tgt := 19) hx hb dX4_count_6 (by decide) (fun h => ?_) (fun h => ?_)
    ·
      have h : 0 ≤ 2 := (nI_leI (a := 0) (b := 2) (by omega) (by omega)).mp h
      refine lv_iload_n hx hb dX4_count_19 rfl (lv_at hl 1 rfl) ?_
      refine lv_if_ne (tgt := 31) hx hb dX4_count_20 (by decide) (fun h => ?_) (fun h => ?_)
      ·
        rw [← nI_0] at h
        have h : ¬ 0 = 0 := fun z9 => h ((nI_eq (a := 0) (b := 0) (by omega) (by omega)).mpr z9)
        exact absurd rfl h
      ·
        rw [← nI_0] at h
        have h : 0 = 0 := (nI_eq (a := 0) (b := 0) (by omega) (by omega)).mp h
        refine lv_aload_n hx hb dX4_count_23 rfl (lv_at hl 0 rfl) ?_
        refine va_get (D := D) (ci := 4) (v := .ref ro) (C := RX4) (T := TX4) (N := 8) hx hb ht inA_X4 hown hK.1 hP 0 rfl rfl 0 (by decide) (ht _ iw_8) (fun _ h9 => h9) rfl dX4_count_24 ?_
        refine va_getN (D := D) (ci := 1) (v := .int (nI lo)) (C := RX1) (T := TX1) (N := 2) hx hb ht inA_X1 hown hK.1 hP 1 rfl rfl 1 (by decide) (nfu_1 hK) (fun _ h9 => h9) rfl dX4_count_27 ?_
        exact ds_iret hx hb hr hlk rfl () rfl hP hD hS (Nat.le_of_ble_eq_true rfl) (Nat.le_of_ble_eq_true rfl) dX4_count_30
    ·
      have h : ¬ 0 ≤ 2 := fun z9 => h ((nI_leI (a := 0) (b := 2) (by omega) (by omega)).mpr z9)
      exact absurd (by decide) h
set_option maxHeartbeats 4000000 in
set_option maxRecDepth 100000 in
theorem c_X4_count1 (Ll : Launch) (D : va_G) (cI cL : ClassId) (d : Nat) (ro : Nat) (rn : Nat) (rm : Nat) (bk : Nat) (uw : Nat) (lw : Nat) (tk : Nat) (hd : Int32) (oo : Nat) (lo : Nat) (fo : Nat → Int32) (qn : Nat) (ln : Nat) (fn : Nat → Int32) (tK : Nat) (tF : Nat) (tL : Nat) (c : Nat) (fk : Nat → Int32) (ff : Nat → Int32) (fl : Nat → Int32) (sz : Nat) : Met Ll yX4_count wsX4_count { frames := 0, cells := 0, slots := 0, locals := 0 } (ds_P D cI cL [.ref d, .int (nI 1)] [(d, .inr (4, [.ref ro, .ref rn, .ref rm, .ref bk, .ref uw, .ref lw, .ref tk, .int hd])), (ro, .inr (1, [.ref oo, .int (nI lo)])), (oo, .inl (cI, 1200, .inl fo)), (rn, .inr (1, [.ref qn, .int (nI ln)])), (qn, .inl (cI, 1200, .inl fn)), (tk, .inr (2, [.ref tK, .ref tF, .ref tL, .int (nI c)])), (tK, .inl (cI, 1200, .inl fk)), (tF, .inl (cI, 1200, .inl ff)), (tL, .inl (cI, 1200, .inl fl))] sz) (ds_Qi D (fun (r : Int32) (u : Unit) => r = nI ln) (fun u : Unit => [(d, .inr (4, [.ref ro, .ref rn, .ref rm, .ref bk, .ref uw, .ref lw, .ref tk, .int hd])), (ro, .inr (1, [.ref oo, .int (nI lo)])), (oo, .inl (cI, 1200, .inl fo)), (rn, .inr (1, [.ref qn, .int (nI ln)])), (qn, .inl (cI, 1200, .inl fn)), (tk, .inr (2, [.ref tK, .ref tF, .ref tL, .int (nI c)])), (tK, .inl (cI, 1200, .inl fk)), (tF, .inl (cI, 1200, .inl ff)), (tL, .inl (cI, 1200, .inl fl))]) (va_A [(d, .inr (4, [.ref ro, .ref rn, .ref rm, .ref bk, .ref uw, .ref lw, .ref tk, .int hd])), (ro, .inr (1, [.ref oo, .int (nI lo)])), (oo, .inl (cI, 1200, .inl fo)), (rn, .inr (1, [.ref qn, .int (nI ln)])), (qn, .inl (cI, 1200, .inl fn)), (tk, .inr (2, [.ref tK, .ref tF, .ref tL, .int (nI c)])), (tK, .inl (cI, 1200, .inl fk)), (tF, .inl (cI, 1200, .inl ff)), (tL, .inl (cI, 1200, .inl fl))] sz)) 0 0 (va_A [(d, .inr (4, [.ref ro, .ref rn, .ref rm, .ref bk, .ref uw, .ref lw, .ref tk, .int hd])), (ro, .inr (1, [.ref oo, .int (nI lo)])), (oo, .inl (cI, 1200, .inl fo)), (rn, .inr (1, [.ref qn, .int (nI ln)])), (qn, .inl (cI, 1200, .inl fn)), (tk, .inr (2, [.ref tK, .ref tF, .ref tL, .int (nI c)])), (tK, .inl (cI, 1200, .inl fk)), (tF, .inl (cI, 1200, .inl ff)), (tL, .inl (cI, 1200, .inl fl))] sz) := by
  refine ds_enter (Qf := (fun A9 => ds_Qi D (fun (r : Int32) (u : Unit) => r = nI ln) (fun u : Unit => [(d, .inr (4, [.ref ro, .ref rn, .ref rm, .ref bk, .ref uw, .ref lw, .ref tk, .int hd])), (ro, .inr (1, [.ref oo, .int (nI lo)])), (oo, .inl (cI, 1200, .inl fo)), (rn, .inr (1, [.ref qn, .int (nI ln)])), (qn, .inl (cI, 1200, .inl fn)), (tk, .inr (2, [.ref tK, .ref tF, .ref tL, .int (nI c)])), (tK, .inl (cI, 1200, .inl fk)), (tF, .inl (cI, 1200, .inl ff)), (tL, .inl (cI, 1200, .inl fl))]) A9)) (cc := cX4_count) (maxL := 2) (ret := (some .int)) (by decide) rfl (Nat.le_of_ble_eq_true rfl) ?_
  intro Pp Ee Ss Mm Aa Bb Me Cc hx hb hml hr ht hown hlk hnm A H locs hA hP hD hS hK ls hl
  have hl : lv_has ls 2 [(0, .ref d), (1, .int (nI 1))] := hl
  change Ss.vm.findClass RX4 = some Mm.cls at hown
  refine lv_iload_n hx hb dX4_count_0 rfl (lv_at hl 1 rfl) ?_
  refine lv_if_lt (tgt := 9) hx hb dX4_count_1 (by decide) (fun h => ?_) (fun h => ?_)
  ·
    rw [← nI_0] at h
    have h : 1 < 0 := (nI_ltI (a := 1) (b := 0) (by omega) (by omega)).mp h
    exact absurd h (by decide)
  ·
    rw [← nI_0] at h
    have h : ¬ 1 < 0 := fun z9 => h ((nI_ltI (a := 1) (b := 0) (by omega) (by omega)).mpr z9)
    refine lv_iload_n hx hb dX4_count_4 rfl (lv_at hl 1 rfl) ?_
    refine lv_iconst (v := nI 2) hx hb dX4_count_5 (by decide +kernel) ?_
    refine lv_icmp_le (tgt := 19) hx hb dX4_count_6 (by decide) (fun h => ?_) (fun h => ?_)
    ·
      have h : 1 ≤ 2 := (nI_leI (a := 1) (b := 2) (by omega) (by omega)).mp h
      refine lv_iload_n hx hb dX4_count_19 rfl (lv_at hl 1 rfl) ?_
      refine lv_if_ne (tgt := 31) hx hb dX4_count_20 (by decide) (fun h => ?_) (fun h => ?_)
      ·
        rw [← nI_0] at h
        have h : ¬ 1 = 0 := fun z9 => h ((nI_eq (a := 1) (b := 0) (by omega) (by omega)).mpr z9)
        refine lv_iload_n hx hb dX4_count_31 rfl (lv_at hl 1 rfl) ?_
        refine lv_iconst (v := nI 1) hx hb dX4_count_32 (by decide +kernel) ?_
        refine lv_icmp_ne (tgt := 46) hx hb dX4_count_33 (by decide) (fun h => ?_) (fun h => ?_)
        ·
          have h : ¬ 1 = 1 := fun z9 => h ((nI_eq (a := 1) (b := 1) (by omega) (by omega)).mpr z9)
          exact absurd rfl h
        ·
          have h : 1 = 1 := (nI_eq (a := 1) (b := 1) (by omega) (by omega)).mp h
          refine lv_aload_n hx hb dX4_count_36 rfl (lv_at hl 0 rfl) ?_
          refine va_get (D := D) (ci := 4) (v := .ref rn) (C := RX4) (T := TX4) (N := 8) hx hb ht inA_X4 hown hK.1 hP 0 rfl rfl 1 (by decide) (ht _ iw_9) (fun _ h9 => h9) rfl dX4_count_37 ?_
          refine va_getN (D := D) (ci := 1) (v := .int (nI ln)) (C := RX1) (T := TX1) (N := 2) hx hb ht inA_X1 hown hK.1 hP 3 rfl rfl 1 (by decide) (nfu_1 hK) (fun _ h9 => h9) rfl dX4_count_40 ?_
          refine lv_goto (tgt := 53) hx hb dX4_count_43 (by decide) ?_
          exact ds_iret hx hb hr hlk rfl () rfl hP hD hS (Nat.le_of_ble_eq_true rfl) (Nat.le_of_ble_eq_true rfl) dX4_count_53
      ·
        rw [← nI_0] at h
        have h : 1 = 0 := (nI_eq (a := 1) (b := 0) (by omega) (by omega)).mp h
        exact absurd h (by decide)
    ·
      have h : ¬ 1 ≤ 2 := fun z9 => h ((nI_leI (a := 1) (b := 2) (by omega) (by omega)).mpr z9)
      exact absurd (by decide) h
