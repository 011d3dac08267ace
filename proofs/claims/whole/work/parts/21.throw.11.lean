set_option maxHeartbeats 4000000 in
set_option maxRecDepth 100000 in
theorem x_X4_token_w (Ll : Launch) (hlst : Ll.stackTraces = false) (D : va_G) (cI cL : ClassId) (d : Nat) (ro : Nat) (rn : Nat) (rm : Nat) (bk : Nat) (uw : Nat) (lw : Nat) (tk : Nat) (hd : Int32) (x : Int32) (y : Int32) (g1 : y < 0 ∨ nI 2 < y) (sz : Nat) : vx_Met Ll yX4_token wsX4_token { frames := 6, cells := 1, slots := 6, locals := 90 } (ds_PX D cI cL [.ref d, .int x, .int y] [(d, .inr (4, [.ref ro, .ref rn, .ref rm, .ref bk, .ref uw, .ref lw, .ref tk, .int hd]))] sz) (ds_Qi D (fun (r : Int32) (u : Unit) => False) (fun u : Unit => [(d, .inr (4, [.ref ro, .ref rn, .ref rm, .ref bk, .ref uw, .ref lw, .ref tk, .int hd]))]) (va_A [(d, .inr (4, [.ref ro, .ref rn, .ref rm, .ref bk, .ref uw, .ref lw, .ref tk, .int hd]))] sz)) (ds_X D ((fun E => E = "java/lang/IllegalArgumentException")) [(d, .inr (4, [.ref ro, .ref rn, .ref rm, .ref bk, .ref uw, .ref lw, .ref tk, .int hd]))] (va_A [(d, .inr (4, [.ref ro, .ref rn, .ref rm, .ref bk, .ref uw, .ref lw, .ref tk, .int hd]))] sz)) 1 6 (va_A [(d, .inr (4, [.ref ro, .ref rn, .ref rm, .ref bk, .ref uw, .ref lw, .ref tk, .int hd]))] sz) := by
  refine ds_enterX (Qf := (fun A9 => ds_Qi D (fun (r : Int32) (u : Unit) => False) (fun u : Unit => [(d, .inr (4, [.ref ro, .ref rn, .ref rm, .ref bk, .ref uw, .ref lw, .ref tk, .int hd]))]) A9)) (XC := fun A9 => ds_X D ((fun E => E = "java/lang/IllegalArgumentException")) [(d, .inr (4, [.ref ro, .ref rn, .ref rm, .ref bk, .ref uw, .ref lw, .ref tk, .int hd]))] A9) (cc := cX4_token) (maxL := 3) (ret := (some .int)) (by decide) rfl (Nat.le_of_ble_eq_true rfl) ?_
  intro Pp Ee Ss Mm Aa Bb Me Cc hx hb hml hr ht hown hlk hnm A H locs hA hP hD hS hK hZ hno ls hl
  have hl : lv_has ls 3 [(0, .ref d), (1, .int x), (2, .int y)] := hl
  change Ss.vm.findClass RX4 = some Mm.cls at hown
  refine lv_iload_n hx hb dX4_token_0 rfl (lv_at hl 2 rfl) ?_
  refine lv_if_lt (tgt := 9) hx hb dX4_token_1 (by decide) (fun h0 => ?_) (fun h0 => ?_)
  ·
    exact ds_throwI hx hb hlst hown (ht _ iw_32) (ht _ iw_33) ht hK tx_3 hZ hP hS (by rw [hml]; exact hl.1) dX4_token_9 dX4_token_12 dX4_token_13 dX4_token_15 dX4_token_18 hno hlk (Nat.le_of_ble_eq_true rfl) (Nat.le_of_ble_eq_true rfl) (Nat.le_of_ble_eq_true rfl) (Nat.le_of_ble_eq_true rfl) (Nat.le_of_ble_eq_true rfl) (Nat.le_of_ble_eq_true rfl) rfl
  ·
    refine lv_iload_n hx hb dX4_token_4 rfl (lv_at hl 2 rfl) ?_
    refine lv_iconst (v := nI 2) hx hb dX4_token_5 (by decide +kernel) ?_
    refine lv_icmp_le (tgt := 19) hx hb dX4_token_6 (by decide) (fun h => ?_) (fun h => ?_)
    ·
      rcases g1 with h9 | h9
      · exact absurd h9 h0
      · exact absurd h9 (Int32.not_lt.mpr h)
    ·
      exact ds_throwI hx hb hlst hown (ht _ iw_32) (ht _ iw_33) ht hK tx_3 hZ hP hS (by rw [hml]; exact hl.1) dX4_token_9 dX4_token_12 dX4_token_13 dX4_token_15 dX4_token_18 hno hlk (Nat.le_of_ble_eq_true rfl) (Nat.le_of_ble_eq_true rfl) (Nat.le_of_ble_eq_true rfl) (Nat.le_of_ble_eq_true rfl) (Nat.le_of_ble_eq_true rfl) (Nat.le_of_ble_eq_true rfl) rfl
set_option maxHeartbeats 4000000 in
set_option maxRecDepth 100000 in
theorem x_X4_count_w (Ll : Launch) (hlst : Ll.stackTraces = false) (D : va_G) (cI cL : ClassId) (d : Nat) (ro : Nat) (rn : Nat) (rm : Nat) (bk : Nat) (uw : Nat) (lw : Nat) (tk : Nat) (hd : Int32) (y : Int32) (g1 : y < 0 ∨ nI 2 < y) (sz : Nat) : vx_Met Ll yX4_count wsX4_count { frames := 6, cells := 1, slots := 6, locals := 90 } (ds_PX D cI cL [.ref d, .int y] [(d, .inr (4, [.ref ro, .ref rn, .ref rm, .ref bk, .ref uw, .ref lw, .ref tk, .int hd]))] sz) (ds_Qi D (fun (r : Int32) (u : Unit) => False) (fun u : Unit => [(d, .inr (4, [.ref ro, .ref rn, .ref rm, .ref bk, .ref uw, .ref lw, .ref tk, .int hd]))]) (va_A [(d, .inr (4, [.ref ro, .ref rn, .ref rm, .ref bk, .ref uw, .ref lw, .ref tk, .int hd]))] sz)) (ds_X D ((fun E => E = "java/lang/IllegalArgumentException")) [(d, .inr (4, [.ref ro, .ref rn, .ref rm, .ref bk, .ref uw, .ref lw, .ref tk, .int hd]))] (va_A [(d, .inr (4, [.ref ro, .ref rn, .ref rm, .ref bk, .ref uw, .ref lw, .ref tk, .int hd]))] sz)) 1 6 (va_A [(d, .inr (4, [.ref ro, .ref rn, .ref rm, .ref bk, .ref uw, .ref lw, .ref tk, .int hd]))] sz) := by
  refine ds_enterX (Qf := (fun A9 => ds_Qi D (fun (r : Int32) (u : Unit) => False) (fun u : Unit => [(d, .inr (4, [.ref ro, .ref rn, .ref rm, .ref bk, .ref uw, .ref lw, .ref tk, .int hd]))]) A9)) (XC := fun A9 => ds_X D ((fun E => E = "java/lang/IllegalArgumentException")) [(d, .inr (4, [.ref ro, .ref rn, .ref rm, .ref bk, .ref uw, .ref lw, .ref tk, .int hd]))] A9) (cc := cX4_count) (maxL := 2) (ret := (some .int)) (by decide) rfl (Nat.le_of_ble_eq_true rfl) ?_
  intro Pp Ee Ss Mm Aa Bb Me Cc hx hb hml hr ht hown hlk hnm A H locs hA hP hD hS hK hZ hno ls hl
  have hl : lv_has ls 2 [(0, .ref d), (1, .int y)] := hl
  change Ss.vm.findClass RX4 = some Mm.cls at hown
  refine lv_iload_n hx hb dX4_count_0 rfl (lv_at hl 1 rfl) ?_
  refine lv_if_lt (tgt := 9) hx hb dX4_count_1 (by decide) (fun h0 => ?_) (fun h0 => ?_)
  ·
    exact ds_throwI hx hb hlst hown (ht _ iw_32) (ht _ iw_33) ht hK tx_5 hZ hP hS (by rw [hml]; exact hl.1) dX4_count_9 dX4_count_12 dX4_count_13 dX4_count_15 dX4_count_18 hno hlk (Nat.le_of_ble_eq_true rfl) (Nat.le_of_ble_eq_true rfl) (Nat.le_of_ble_eq_true rfl) (Nat.le_of_ble_eq_true rfl) (Nat.le_of_ble_eq_true rfl) (Nat.le_of_ble_eq_true rfl) rfl
  ·
    refine lv_iload_n hx hb dX4_count_4 rfl (lv_at hl 1 rfl) ?_
    refine lv_iconst (v := nI 2) hx hb dX4_count_5 (by decide +kernel) ?_
    refine lv_icmp_le (tgt := 19) hx hb dX4_count_6 (by decide) (fun h => ?_) (fun h => ?_)
    ·
      rcases g1 with h9 | h9
      · exact absurd h9 h0
      · exact absurd h9 (Int32.not_lt.mpr h)
    ·
      exact ds_throwI hx hb hlst hown (ht _ iw_32) (ht _ iw_33) ht hK tx_5 hZ hP hS (by rw [hml]; exact hl.1) dX4_count_9 dX4_count_12 dX4_count_13 dX4_count_15 dX4_count_18 hno hlk (Nat.le_of_ble_eq_true rfl) (Nat.le_of_ble_eq_true rfl) (Nat.le_of_ble_eq_true rfl) (Nat.le_of_ble_eq_true rfl) (Nat.le_of_ble_eq_true rfl) (Nat.le_of_ble_eq_true rfl) rfl
set_option maxHeartbeats 4000000 in
set_option maxRecDepth 100000 in
theorem x_X4_token_o (Ll : Launch) (hlst : Ll.stackTraces = false) (D : va_G) (cI cL : ClassId) (d : Nat) (ro : Nat) (rn : Nat) (rm : Nat) (bk : Nat) (uw : Nat) (lw : Nat) (tk : Nat) (hd : Int32) (tK : Nat) (tF : Nat) (tL : Nat) (c : Nat) (k : Nat) (x : Int32) (h1 : k ≤ 2) (g1 : x < 0 ∨ nI c ≤ x) (sz : Nat) : vx_Met Ll yX4_token wsX4_token { frames := 6, cells := 1, slots := 6, locals := 90 } (ds_PX D cI cL [.ref d, .int x, .int (nI k)] [(d, .inr (4, [.ref ro, .ref rn, .ref rm, .ref bk, .ref uw, .ref lw, .ref tk, .int hd])), (tk, .inr (2, [.ref tK, .ref tF, .ref tL, .int (nI c)]))] sz) (ds_Qi D (fun (r : Int32) (u : Unit) => False) (fun u : Unit => [(d, .inr (4, [.ref ro, .ref rn, .ref rm, .ref bk, .ref uw, .ref lw, .ref tk, .int hd])), (tk, .inr (2, [.ref tK, .ref tF, .ref tL, .int (nI c)]))]) (va_A [(d, .inr (4, [.ref ro, .ref rn, .ref rm, .ref bk, .ref uw, .ref lw, .ref tk, .int hd])), (tk, .inr (2, [.ref tK, .ref tF, .ref tL, .int (nI c)]))] sz)) (ds_X D ((fun E => E = "java/lang/IndexOutOfBoundsException")) [(d, .inr (4, [.ref ro, .ref rn, .ref rm, .ref bk, .ref uw, .ref lw, .ref tk, .int hd])), (tk, .inr (2, [.ref tK, .ref tF, .ref tL, .int (nI c)]))] (va_A [(d, .inr (4, [.ref ro, .ref rn, .ref rm, .ref bk, .ref uw, .ref lw, .ref tk, .int hd])), (tk, .inr (2, [.ref tK, .ref tF, .ref tL, .int (nI c)]))] sz)) 1 6 (va_A [(d, .inr (4, [.ref ro, .ref rn, .ref rm, .ref bk, .ref uw, .ref lw, .ref tk, .int hd])), (tk, .inr (2, [.ref tK, .ref tF, .ref tL, .int (nI c)]))] sz) := by
  refine ds_enterX (Qf := (fun A9 => ds_Qi D (fun (r : Int32) (u : Unit) => False) (fun u : Unit => [(d, .inr (4, [.ref ro, .ref rn, .ref rm, .ref bk, .ref uw, .ref lw, .ref tk, .int hd])), (tk, .inr (2, [.ref tK, .ref tF, .ref tL, .int (nI c)]))]) A9)) (XC := fun A9 => ds_X D ((fun E => E = "java/lang/IndexOutOfBoundsException")) [(d, .inr (4, [.ref ro, .ref rn, .ref rm, .ref bk, .ref uw, .ref lw, .ref tk, .int hd])), (tk, .inr (2, [.ref tK, .ref tF, .ref tL, .int (nI c)]))] A9) (cc := cX4_token) (maxL := 3) (ret := (some .int)) (by decide) rfl (Nat.le_of_ble_eq_true rfl) ?_
  intro Pp Ee Ss Mm Aa Bb Me Cc hx hb hml hr ht hown hlk hnm A H locs hA hP hD hS hK hZ hno ls hl
  have hl : lv_has ls 3 [(0, .ref d), (1, .int x), (2, .int (nI k))] := hl
  change Ss.vm.findClass RX4 = some Mm.cls at hown
  refine lv_iload_n hx hb dX4_token_0 rfl (lv_at hl 2 rfl) ?_
  refine lv_if_lt (tgt := 9) hx hb dX4_token_1 (by decide) (fun h9 => ?_) (fun h9 => ?_)
  ·
    rw [← nI_0] at h9
    have h9 : k < 0 := (nI_ltI (a := k) (b := 0) (by omega) (by omega)).mp h9
    exfalso; omega
  ·
    rw [← nI_0] at h9
    have h9 : ¬ k < 0 := fun z9 => h9 ((nI_ltI (a := k) (b := 0) (by omega) (by omega)).mpr z9)
    refine lv_iload_n hx hb dX4_token_4 rfl (lv_at hl 2 rfl) ?_
    refine lv_iconst (v := nI 2) hx hb dX4_token_5 (by decide +kernel) ?_
    refine lv_icmp_le (tgt := 19) hx hb dX4_token_6 (by decide) (fun h8 => ?_) (fun h8 => ?_)
    ·
      have h8 : k ≤ 2 := (nI_leI (a := k) (b := 2) (by omega) (by omega)).mp h8
      refine lv_iload_n hx hb dX4_token_19 rfl (lv_at hl 1 rfl) ?_
      refine lv_if_lt (tgt := 34) hx hb dX4_token_20 (by decide) (fun h0 => ?_) (fun h0 => ?_)
      ·
        exact ds_throwO hx hb hlst hown (ht _ iw_63) (ht _ iw_64) ht hK tx_4 hZ hP hS (by rw [hml]; exact hl.1) dX4_token_34 dX4_token_37 dX4_token_38 dX4_token_40 dX4_token_43 hno hlk (Nat.le_of_ble_eq_true rfl) (Nat.le_of_ble_eq_true rfl) (Nat.le_of_ble_eq_true rfl) (Nat.le_of_ble_eq_true rfl) (Nat.le_of_ble_eq_true rfl) (Nat.le_of_ble_eq_true rfl) rfl
      ·
        refine lv_iload_n hx hb dX4_token_23 rfl (lv_at hl 1 rfl) ?_
        refine lv_aload_n hx hb dX4_token_24 rfl (lv_at hl 0 rfl) ?_
        refine va_get (D := D) (ci := 4) (v := .ref tk) (C := RX4) (T := TX4) (N := 8) hx hb ht inA_X4 hown hK.1 hP 0 rfl rfl 6 (by decide) (ht _ iw_26) (fun _ h9 => h9) rfl dX4_token_25 ?_
        refine va_getN (D := D) (ci := 2) (v := .int (nI c)) (C := RX2) (T := TX2) (N := 4) hx hb ht inA_X2 hown hK.1 hP 1 rfl rfl 3 (by decide) (nfu_3 hK) (fun _ h9 => h9) rfl dX4_token_28 ?_
        refine lv_icmp_lt (tgt := 44) hx hb dX4_token_31 (by decide) (fun h => ?_) (fun h => ?_)
        ·
          rcases g1 with h9 | h9
          · exact absurd h9 h0
          · exact absurd h9 (Int32.not_le.mpr h)
        ·
          exact ds_throwO hx hb hlst hown (ht _ iw_63) (ht _ iw_64) ht hK tx_4 hZ hP hS (by rw [hml]; exact hl.1) dX4_token_34 dX4_token_37 dX4_token_38 dX4_token_40 dX4_token_43 hno hlk (Nat.le_of_ble_eq_true rfl) (Nat.le_of_ble_eq_true rfl) (Nat.le_of_ble_eq_true rfl) (Nat.le_of_ble_eq_true rfl) (Nat.le_of_ble_eq_true rfl) (Nat.le_of_ble_eq_true rfl) rfl
    ·
      have h8 : ¬ k ≤ 2 := fun z9 => h8 ((nI_leI (a := k) (b := 2) (by omega) (by omega)).mpr z9)
      exfalso; omega
