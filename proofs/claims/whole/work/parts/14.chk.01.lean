set_option maxHeartbeats 4000000 in
set_option maxRecDepth 100000 in
theorem c_X4_row0 (Ll : Launch) (D : va_G) (cI cL : ClassId) (d : Nat) (ro : Nat) (rn : Nat) (rm : Nat) (bk : Nat) (uw : Nat) (lw : Nat) (tk : Nat) (hd : Int32) (sz : Nat) : Met Ll yX4_row wsX4_row { frames := 0, cells := 0, slots := 0, locals := 0 } (ds_P D cI cL [.ref d, .int (nI 0)] [(d, .inr (4, [.ref ro, .ref rn, .ref rm, .ref bk, .ref uw, .ref lw, .ref tk, .int hd]))] sz) (ds_Qr D (fun (u : Unit) (r : Nat) => r = ro) (fun u : Unit => [(d, .inr (4, [.ref ro, .ref rn, .ref rm, .ref bk, .ref uw, .ref lw, .ref tk, .int hd]))]) (va_A [(d, .inr (4, [.ref ro, .ref rn, .ref rm, .ref bk, .ref uw, .ref lw, .ref tk, .int hd]))] sz)) 0 0 (va_A [(d, .inr (4, [.ref ro, .ref rn, .ref rm, .ref bk, .ref uw, .ref lw, .ref tk, .int hd]))] sz) := by
  refine ds_enter (Qf := (fun A9 => ds_Qr D (fun (u : Unit) (r : Nat) => r = ro) (fun u : Unit => [(d, .inr (4, [.ref ro, .ref rn, .ref rm, .ref bk, .ref uw, .ref lw, .ref tk, .int hd]))]) A9)) (cc := cX4_row) (maxL := 2) (ret := (some (.object "DeltaDesk$Row"))) (by decide) rfl (Nat.le_of_ble_eq_true rfl) ?_
  intro Pp Ee Ss Mm Aa Bb Me Cc hx hb hml hr ht hown hlk hnm A H locs hA hP hD hS hK ls hl
  have hl : lv_has ls 2 [(0, .ref d), (1, .int (nI 0))] := hl
  change Ss.vm.findClass RX4 = some Mm.cls at hown
  refine lv_iload_n hx hb dX4_row_0 rfl (lv_at hl 1 rfl) ?_
  refine lv_if_ne (tgt := 11) hx hb dX4_row_1 (by decide) (fun h => ?_) (fun h => ?_)
  ·
    rw [← nI_0] at h
    have h : ¬ 0 = 0 := fun z9 => h ((nI_eq (a := 0) (b := 0) (by omega) (by omega)).mpr z9)
    exact absurd rfl h
  ·
    rw [← nI_0] at h
    have h : 0 = 0 := (nI_eq (a := 0) (b := 0) (by omega) (by omega)).mp h
    refine lv_aload_n hx hb dX4_row_4 rfl (lv_at hl 0 rfl) ?_
    refine va_get (D := D) (ci := 4) (v := .ref ro) (C := RX4) (T := TX4) (N := 8) hx hb ht inA_X4 hown hK.1 hP 0 rfl rfl 0 (by decide) (ht _ iw_8) (fun _ h9 => h9) rfl dX4_row_5 ?_
    refine lv_goto (tgt := 15) hx hb dX4_row_8 (by decide) ?_
    exact ds_aret hx hb hr hlk () rfl hP hD hS (Nat.le_of_ble_eq_true rfl) (Nat.le_of_ble_eq_true rfl) dX4_row_15
set_option maxHeartbeats 4000000 in
set_option maxRecDepth 100000 in
theorem c_X4_row1 (Ll : Launch) (D : va_G) (cI cL : ClassId) (d : Nat) (ro : Nat) (rn : Nat) (rm : Nat) (bk : Nat) (uw : Nat) (lw : Nat) (tk : Nat) (hd : Int32) (sz : Nat) : Met Ll yX4_row wsX4_row { frames := 0, cells := 0, slots := 0, locals := 0 } (ds_P D cI cL [.ref d, .int (nI 1)] [(d, .inr (4, [.ref ro, .ref rn, .ref rm, .ref bk, .ref uw, .ref lw, .ref tk, .int hd]))] sz) (ds_Qr D (fun (u : Unit) (r : Nat) => r = rn) (fun u : Unit => [(d, .inr (4, [.ref ro, .ref rn, .ref rm, .ref bk, .ref uw, .ref lw, .ref tk, .int hd]))]) (va_A [(d, .inr (4, [.ref ro, .ref rn, .ref rm, .ref bk, .ref uw, .ref lw, .ref tk, .int hd]))] sz)) 0 0 (va_A [(d, .inr (4, [.ref ro, .ref rn, .ref rm, .ref bk, .ref uw, .ref lw, .ref tk, .int hd]))] sz) := by
  refine ds_enter (Qf := (fun A9 => ds_Qr D (fun (u : Unit) (r : Nat) => r = rn) (fun u : Unit => [(d, .inr (4, [.ref ro, .ref rn, .ref rm, .ref bk, .ref uw, .ref lw, .ref tk, .int hd]))]) A9)) (cc := cX4_row) (maxL := 2) (ret := (some (.object "DeltaDesk$Row"))) (by decide) rfl (Nat.le_of_ble_eq_true rfl) ?_
  intro Pp Ee Ss Mm Aa Bb Me Cc hx hb hml hr ht hown hlk hnm A H locs hA hP hD hS hK ls hl
  have hl : lv_has ls 2 [(0, .ref d), (1, .int (nI 1))] := hl
  change Ss.vm.findClass RX4 = some Mm.cls at hown
  refine lv_iload_n hx hb dX4_row_0 rfl (lv_at hl 1 rfl) ?_
  refine lv_if_ne (tgt := 11) hx hb dX4_row_1 (by decide) (fun h => ?_) (fun h => ?_)
  ·
    rw [← nI_0] at h
    have h : ¬ 1 = 0 := fun z9 => h ((nI_eq (a := 1) (b := 0) (by omega) (by omega)).mpr z9)
    refine lv_aload_n hx hb dX4_row_11 rfl (lv_at hl 0 rfl) ?_
    refine va_get (D := D) (ci := 4) (v := .ref rn) (C := RX4) (T := TX4) (N := 8) hx hb ht inA_X4 hown hK.1 hP 0 rfl rfl 1 (by decide) (ht _ iw_9) (fun _ h9 => h9) rfl dX4_row_12 ?_
    exact ds_aret hx hb hr hlk () rfl hP hD hS (Nat.le_of_ble_eq_true rfl) (Nat.le_of_ble_eq_true rfl) dX4_row_15
  ·
    rw [← nI_0] at h
    have h : 1 = 0 := (nI_eq (a := 1) (b := 0) (by omega) (by omega)).mp h
    exact absurd h (by decide)
set_option maxHeartbeats 4000000 in
set_option maxRecDepth 100000 in
theorem c_X4_checkRow (Ll : Launch) (D : va_G) (cI cL : ClassId) (k : Nat) (h1 : k ≤ 1) (sz : Nat) : Met Ll yX4_checkRow wsX4_checkRow { frames := 0, cells := 0, slots := 0, locals := 0 } (ds_P D cI cL [.int (nI k)] [] sz) (ds_Qv D (fun (u : Unit) => True) (fun u : Unit => []) (va_A [] sz)) 0 0 (va_A [] sz) := by
  refine ds_enter (Qf := (fun A9 => ds_Qv D (fun (u : Unit) => True) (fun u : Unit => []) A9)) (cc := cX4_checkRow) (maxL := 1) (ret := none) (by decide) rfl (Nat.le_of_ble_eq_true rfl) ?_
  intro Pp Ee Ss Mm Aa Bb Me Cc hx hb hml hr ht hown hlk hnm A H locs hA hP hD hS hK ls hl
  have hl : lv_has ls 1 [(0, .int (nI k))] := hl
  change Ss.vm.findClass RX4 = some Mm.cls at hown
  refine lv_iload_n hx hb dX4_checkRow_0 rfl (lv_at hl 0 rfl) ?_
  refine lv_if_eq (tgt := 19) hx hb dX4_checkRow_1 (by decide) (fun h0 => ?_) (fun h0 => ?_)
  ·
    rw [← nI_0] at h0
    have h0 : k = 0 := (nI_eq (a := k) (b := 0) (by omega) (by omega)).mp h0
    exact ds_vret hx hb hr hlk () trivial hP hD hS (Nat.le_of_ble_eq_true rfl) (Nat.le_of_ble_eq_true rfl) dX4_checkRow_19
  ·
    rw [← nI_0] at h0
    have h0 : ¬ k = 0 := fun z9 => h0 ((nI_eq (a := k) (b := 0) (by omega) (by omega)).mpr z9)
    refine lv_iload_n hx hb dX4_checkRow_4 rfl (lv_at hl 0 rfl) ?_
    refine lv_iconst (v := nI 1) hx hb dX4_checkRow_5 (by decide +kernel) ?_
    refine lv_icmp_eq (tgt := 19) hx hb dX4_checkRow_6 (by decide) (fun h => ?_) (fun h => ?_)
    ·
      have h : k = 1 := (nI_eq (a := k) (b := 1) (by omega) (by omega)).mp h
      exact ds_vret hx hb hr hlk () trivial hP hD hS (Nat.le_of_ble_eq_true rfl) (Nat.le_of_ble_eq_true rfl) dX4_checkRow_19
    ·
      have h : ¬ k = 1 := fun z9 => h ((nI_eq (a := k) (b := 1) (by omega) (by omega)).mpr z9)
      exfalso; omega
