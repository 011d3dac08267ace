set_option maxHeartbeats 4000000 in
set_option maxRecDepth 100000 in
theorem c_X4_token0 (Ll : Launch) (D : va_G) (cI cL : ClassId) (d : Nat) (ro : Nat) (rn : Nat) (rm : Nat) (bk : Nat) (uw : Nat) (lw : Nat) (tk : Nat) (hd : Int32) (tK : Nat) (tF : Nat) (tL : Nat) (c : Nat) (fk : Nat → Int32) (ff : Nat → Int32) (fl : Nat → Int32) (q : Nat) (h1 : c ≤ 1200) (h2 : q < c) (sz : Nat) : Met Ll yX4_token wsX4_token { frames := 0, cells := 0, slots := 0, locals := 0 } (ds_P D cI cL [.ref d, .int (nI q), .int (nI 0)] [(d, .inr (4, [.ref ro, .ref rn, .ref rm, .ref bk, .ref uw, .ref lw, .ref tk, .int hd])), (tk, .inr (2, [.ref tK, .ref tF, .ref tL, .int (nI c)])), (tK, .inl (cI, 1200, .inl fk)), (tF, .inl (cI, 1200, .inl ff)), (tL, .inl (cI, 1200, .inl fl))] sz) (ds_Qi D (fun (r : Int32) (u : Unit) => r = fk q) (fun u : Unit => [(d, .inr (4, [.ref ro, .ref rn, .ref rm, .ref bk, .ref uw, .ref lw, .ref tk, .int hd])), (tk, .inr (2, [.ref tK, .ref tF, .ref tL, .int (nI c)])), (tK, .inl (cI, 1200, .inl fk)), (tF, .inl (cI, 1200, .inl ff)), (tL, .inl (cI, 1200, .inl fl))]) (va_A [(d, .inr (4, [.ref ro, .ref rn, .ref rm, .ref bk, .ref uw, .ref lw, .ref tk, .int hd])), (tk, .inr (2, [.ref tK, .ref tF, .ref tL, .int (nI c)])), (tK, .inl (cI, 1200, .inl fk)), (tF, .inl (cI, 1200, .inl ff)), (tL, .inl (cI, 1200, .inl fl))] sz)) 0 0 (va_A [(d, .inr (4, [.ref ro, .ref rn, .ref rm, .ref bk, .ref uw, .ref lw, .ref tk, .int hd])), (tk, .inr (2, [.ref tK, .ref tF, .ref tL, .int (nI c)])), (tK, .inl (cI, 1200, .inl fk)), (tF, .inl (cI, 1200, .inl ff)), (tL, .inl (cI, 1200, .inl fl))] sz) := by
  refine ds_enter (Qf := (fun A9 => ds_Qi D (fun (r : Int32) (u : Unit) => r = fk q) (fun u : Unit => [(d, .inr (4, [.ref ro, .ref rn, .ref rm, .ref bk, .ref uw, .ref lw, .ref tk, .int hd])), (tk, .inr (2, [.ref tK, .ref tF, .ref tL, .int (nI c)])), (tK, .inl (cI, 1200, .inl fk)), (tF, .inl (cI, 1200, .inl ff)), (tL, .inl (cI, 1200, .inl fl))]) A9)) (cc := cX4_token) (maxL := 3) (ret := (some .int)) (by decide) rfl (Nat.le_of_ble_eq_true rfl) ?_
  intro Pp Ee Ss Mm Aa Bb Me Cc hx hb hml hr ht hown hlk hnm A H locs hA hP hD hS hK ls hl
  have hl : lv_has ls 3 [(0, .ref d), (1, .int (nI q)), (2, .int (nI 0))] := hl
  change Ss.vm.findClass RX4 = some Mm.cls at hown
  refine lv_iload_n hx hb dX4_token_0 rfl (lv_at hl 2 rfl) ?_
  refine lv_if_lt (tgt := 9) hx hb dX4_token_1 (by decide) (fun h => ?_) (fun h => ?_)
  ·
    rw [← nI_0] at h
    have h : 0 < 0 := (nI_ltI (a := 0) (b := 0) (by omega) (by omega)).mp h
    exact absurd h (by decide)
  ·
    rw [← nI_0] at h
    have h : ¬ 0 < 0 := fun z9 => h ((nI_ltI (a := 0) (b := 0) (by omega) (by omega)).mpr z9)
    refine lv_iload_n hx hb dX4_token_4 rfl (lv_at hl 2 rfl) ?_
    refine lv_iconst (v := nI 2) hx hb dX4_token_5 (by decide +kernel) ?_
    refine lv_icmp_le (tgt := 19) hx hb dX4_token_6 (by decide) (fun h => ?_) (fun h => ?_)
    ·
      have h : 0 ≤ 2 := (nI_leI (a := 0) (b := 2) (by omega) (by omega)).mp h
      refine lv_iload_n hx hb dX4_token_19 rfl (lv_at hl 1 rfl) ?_
      refine lv_if_lt (tgt := 34) hx hb dX4_token_20 (by decide) (fun h8 => ?_) (fun h8 => ?_)
      ·
        rw [← nI_0] at h8
        have h8 : q < 0 := (nI_ltI (a := q) (b := 0) (by omega) (by omega)).mp h8
        exfalso; omega
      ·
        rw [← nI_0] at h8
        have h8 : ¬ q < 0 := fun z9 => h8 ((nI_ltI (a := q) (b := 0) (by omega) (by omega)).mpr z9)
        refine lv_iload_n hx hb dX4_token_23 rfl (lv_at hl 1 rfl) ?_
        refine lv_aload_n hx hb dX4_token_24 rfl (lv_at hl 0 rfl) ?_
        refine va_get (D := D) (ci := 4) (v := .ref tk) (C := RX4) (T := TX4) (N := 8) hx hb ht inA_X4 hown hK.1 hP 0 rfl rfl 6 (by decide) (ht _ iw_26) (fun _ h9 => h9) rfl dX4_token_25 ?_
        refine va_getN (D := D) (ci := 2) (v := .int (nI c)) (C := RX2) (T := TX2) (N := 4) hx hb ht inA_X2 hown hK.1 hP 1 rfl rfl 3 (by decide) (nfu_3 hK) (fun _ h9 => h9) rfl dX4_token_28 ?_
        refine lv_icmp_lt (tgt := 44) hx hb dX4_token_31 (by decide) (fun h9 => ?_) (fun h9 => ?_)
        ·
          have h9 : q < c := (nI_ltI (a := q) (b := c) (by omega) (by omega)).mp h9
          refine lv_iload_n hx hb dX4_token_44 rfl (lv_at hl 2 rfl) ?_
          refine lv_if_ne (tgt := 58) hx hb dX4_token_45 (by decide) (fun h => ?_) (fun h => ?_)
          ·
            rw [← nI_0] at h
            have h : ¬ 0 = 0 := fun z9 => h ((nI_eq (a := 0) (b := 0) (by omega) (by omega)).mpr z9)
            exact absurd rfl h
          ·
            rw [← nI_0] at h
            have h : 0 = 0 := (nI_eq (a := 0) (b := 0) (by omega) (by omega)).mp h
            refine lv_aload_n hx hb dX4_token_48 rfl (lv_at hl 0 rfl) ?_
            refine va_get (D := D) (ci := 4) (v := .ref tk) (C := RX4) (T := TX4) (N := 8) hx hb ht inA_X4 hown hK.1 hP 0 rfl rfl 6 (by decide) (ht _ iw_26) (fun _ h9 => h9) rfl dX4_token_49 ?_
            refine va_getN (D := D) (ci := 2) (v := .ref tK) (C := RX2) (T := TX2) (N := 4) hx hb ht inA_X2 hown hK.1 hP 1 rfl rfl 0 (by decide) (nfu_4 hK) (fun _ h9 => h9) rfl dX4_token_52 ?_
            refine lv_iload_n hx hb dX4_token_55 rfl (lv_at hl 1 rfl) ?_
            refine ds_iald (k := q) hx hb hK hP 2 rfl (by omega) (by omega) dX4_token_56 ?_
            exact ds_iret hx hb hr hlk rfl () rfl hP hD hS (Nat.le_of_ble_eq_true rfl) (Nat.le_of_ble_eq_true rfl) dX4_token_57
        ·
          have h9 : ¬ q < c := fun z9 => h9 ((nI_ltI (a := q) (b := c) (by omega) (by omega)).mpr z9)
          exfalso; omega
    ·
      have h : ¬ 0 ≤ 2 := fun z9 => h ((nI_leI (a := 0) (b := 2) (by omega) (by omega)).mpr z9)
      exact absurd (by decide) h
set_option maxHeartbeats 4000000 in
set_option maxRecDepth 100000 in
theorem c_X4_token1 (Ll : Launch) (D : va_G) (cI cL : ClassId) (d : Nat) (ro : Nat) (rn : Nat) (rm : Nat) (bk : Nat) (uw : Nat) (lw : Nat) (tk : Nat) (hd : Int32) (tK : Nat) (tF : Nat) (tL : Nat) (c : Nat) (fk : Nat → Int32) (ff : Nat → Int32) (fl : Nat → Int32) (q : Nat) (h1 : c ≤ 1200) (h2 : q < c) (sz : Nat) : Met Ll yX4_token wsX4_token { frames := 0, cells := 0, slots := 0, locals := 0 } (ds_P D cI cL [.ref d, .int (nI q), .int (nI 1)] [(d, .inr (4, [.ref ro, .ref rn, .ref rm, .ref bk, .ref uw, .ref lw, .ref tk, .int hd])), (tk, .inr (2, [.ref tK, .ref tF, .ref tL, .int (nI c)])), (tK, .inl (cI, 1200, .inl fk)), (tF, .inl (cI, 1200, .inl ff)), (tL, .inl (cI, 1200, .inl fl))] sz) (ds_Qi D (fun (r : Int32) (u : Unit) => r = ff q) (fun u : Unit => [(d, .inr (4, [.ref ro, .ref rn, .ref rm, .ref bk, .ref uw, .ref lw, .ref tk, .int hd])), (tk, .inr (2, [.ref tK, .ref tF, .ref tL, .int (nI c)])), (tK, .inl (cI, 1200, .inl fk)), (tF, .inl (cI, 1200, .inl ff)), (tL, .inl (cI, 1200, .inl fl))]) (va_A [(d, .inr (4, [.ref ro, .ref rn, .ref rm, .ref bk, .ref uw, .ref lw, .ref tk, .int hd])), (tk, .inr (2, [.ref tK, .ref tF, .ref tL, .int (nI c)])), (tK, .inl (cI, 1200, .inl fk)), (tF, .inl (cI, 1200, .inl ff)), (tL, .inl (cI, 1200, .inl fl))] sz)) 0 0 (va_A [(d, .inr (4, [.ref ro, .ref rn, .ref rm, .ref bk, .ref uw, .ref lw, .ref tk, .int hd])), (tk, .inr (2, [.ref tK, .ref tF, .ref tL, .int (nI c)])), (tK, .inl (cI, 1200, .inl fk)), (tF, .inl (cI, 1200, .inl ff)), (tL, .inl (cI, 1200, .inl fl))] sz) := by
  refine ds_enter (Qf := (fun A9 => ds_Qi D (fun (r : Int32) (u : Unit) => r = ff q) (fun u : Unit => [(d, .inr (4, [.ref ro, .ref rn, .ref rm, .ref bk, .ref uw, .ref lw, .ref tk, .int hd])), (tk, .inr (2, [.ref tK, .ref tF, .ref tL, .int (nI c)])), (tK, .inl (cI, 1200, .inl fk)), (tF, .inl (cI, 1200, .inl ff)), (tL, .inl (cI, 1200, .inl fl))]) A9)) (cc := cX4_token) (maxL := 3) (ret := (some .int)) (by decide) rfl (Nat.le_of_ble_eq_true rfl) ?_
  intro Pp Ee Ss Mm Aa Bb Me Cc hx hb hml hr ht hown hlk hnm A H locs hA hP hD hS hK ls hl
  have hl : lv_has ls 3 [(0, .ref d), (1, .int (nI q)), (2, .int (nI 1))] := hl
  change Ss.vm.findClass RX4 = some Mm.cls at hown
  refine lv_iload_n hx hb dX4_token_0 rfl (lv_at hl 2 rfl) ?_
  refine lv_if_lt (tgt := 9) hx hb dX4_token_1 (by decide) (fun h => ?_) (fun h => ?_)
  ·
    rw [← nI_0] at h
    have h : 1 < 0 := (nI_ltI (a := 1) (b := 0) (by omega) (by omega)).mp h
    exact absurd h (by decide)
  ·
    rw [← nI_0] at h
    have h : ¬ 1 < 0 := fun z9 => h ((nI_ltI (a := 1) (b := 0) (by omega) (by omega)).mpr z9)
    refine lv_iload_n hx hb dX4_token_4 rfl (lv_at hl 2 rfl) ?_
    refine lv_iconst (v := nI 2) hx hb dX4_token_5 (by decide +kernel) ?_
    refine lv_icmp_le (tgt := 19) hx hb dX4_token_6 (by decide) (fun h => ?_) (fun h => ?_)
    ·
      have h : 1 ≤ 2 := (nI_leI (a := 1) (b := 2) (by omega) (by omega)).mp h
      refine lv_iload_n hx hb dX4_token_19 rfl (lv_at hl 1 rfl) ?_
      refine lv_if_lt (tgt := 34) hx hb dX4_token_20 (by decide) (fun h8 => ?_) (fun h8 => ?_)
      ·
        rw [← nI_0] at h8
        have h8 : q < 0 := (nI_ltI (a := q) (b := 0) (by omega) (by omega)).mp h8
        exfalso; omega
      ·
        rw [← nI_0] at h8
        have h8 : ¬ q < 0 := fun z9 => h8 ((nI_ltI (a := q) (b := 0) (by omega) (by omega)).mpr z9)
        refine lv_iload_n hx hb dX4_token_23 rfl (lv_at hl 1 rfl) ?_
        refine lv_aload_n hx hb dX4_token_24 rfl (lv_at hl 0 rfl) ?_
        refine va_get (D := D) (ci := 4) (v := .ref tk) (C := RX4) (T := TX4) (N := 8) hx hb ht inA_X4 hown hK.1 hP 0 rfl rfl 6 (by decide) (ht _ iw_26) (fun _ h9 => h9) rfl dX4_token_25 ?_
        refine va_getN (D := D) (ci := 2) (v := .int (nI c)) (C := RX2) (T := TX2) (N := 4) hx hb ht inA_X2 hown hK.1 hP 1 rfl rfl 3 (by decide) (nfu_3 hK) (fun _ h9 => h9) rfl dX4_token_28 ?_
        refine lv_icmp_lt (tgt := 44) hx hb dX4_token_31 (by decide) (fun h9 => ?_) (fun h9 => ?_)
        ·
          have h9 : q < c := (nI_ltI (a := q) (b := c) (by omega) (by omega)).mp h9
          refine lv_iload_n hx hb dX4_token_44 rfl (lv_at hl 2 rfl) ?_
          refine lv_if_ne (tgt := 58) hx hb dX4_token_45 (by decide) (fun h => ?_) (fun h => ?_)
          ·
            rw [← nI_0] at h
            have h : ¬ 1 = 0 := fun z9 => h ((nI_eq (a := 1) (b := 0) (by omega) (by omega)).mpr z9)
            refine lv_iload_n hx hb dX4_token_58 rfl (lv_at hl 2 rfl) ?_
            refine lv_iconst (v := nI 1) hx hb dX4_token_59 (by decide +kernel) ?_
            refine lv_icmp_ne (tgt := 75) hx hb dX4_token_60 (by decide) (fun h => ?_) (fun h => ?_)
            ·
              have h : ¬ 1 = 1 := fun z9 => h ((nI_eq (a := 1) (b := 1) (by omega) (by omega)).mpr z9)
              exact absurd rfl h
            ·
              have h : 1 = 1 := (nI_eq (a := 1) (b := 1) (by omega) (by omega)).mp h
              refine lv_aload_n hx hb dX4_token_63 rfl (lv_at hl 0 rfl) ?_
              refine va_get (D := D) (ci := 4) (v := .ref tk) (C := RX4) (T := TX4) (N := 8) hx hb ht inA_X4 hown hK.1 hP 0 rfl rfl 6 (by decide) (ht _ iw_26) (fun _ h9 => h9) rfl dX4_token_64 ?_
              refine va_getN (D := D) (ci := 2) (v := .ref tF) (C := RX2) (T := TX2) (N := 4) hx hb ht inA_X2 hown hK.1 hP 1 rfl rfl 1 (by decide) (nfu_5 hK) (fun _ h9 => h9) rfl dX4_token_67 ?_
              refine lv_iload_n hx hb dX4_token_70 rfl (lv_at hl 1 rfl) ?_
              refine ds_iald (k := q) hx hb hK hP 3 rfl (by omega) (by omega) dX4_token_71 ?_
              refine lv_goto (tgt := 84) hx hb dX4_token_72 (by decide) ?_
              exact ds_iret hx hb hr hlk rfl () rfl hP hD hS (Nat.le_of_ble_eq_true rfl) (Nat.le_of_ble_eq_true rfl) dX4_token_84
          ·
            rw [← nI_0] at h
            have h : 1 = 0 := (nI_eq (a := 1) (b := 0) (by omega) (by omega)).mp h
            exact absurd h (by decide)
        ·
          have h9 : ¬ q < c := fun z9 => h9 ((nI_ltI (a := q) (b := c) (by omega) (by omega)).mpr z9)
          exfalso; omega
    ·
      have h : ¬ 1 ≤ 2 := fun z9 => h ((nI_leI (a := 1) (b := 2) (by omega) (by omega)).mpr z9)
      exact absurd (by decide) h
