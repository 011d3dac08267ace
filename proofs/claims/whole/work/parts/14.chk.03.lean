set_option maxHeartbeats 4000000 in
set_option maxRecDepth 100000 in
theorem c_X4_checkRange (Ll : Launch) (D : va_G) (cI cL : ClassId) (r : Nat) (o : Nat) (n : Nat) (p : Nat) (k : Nat) (h1 : p + k ≤ n) (h2 : n ≤ 1200) (sz : Nat) : Met Ll yX4_checkRange wsX4_checkRange { frames := 0, cells := 0, slots := 0, locals := 0 } (ds_P D cI cL [.ref r, .int (nI p), .int (nI k)] [(r, .inr (1, [.ref o, .int (nI n)]))] sz) (ds_Qv D (fun (u : Unit) => True) (fun u : Unit => [(r, .inr (1, [.ref o, .int (nI n)]))]) (va_A [(r, .inr (1, [.ref o, .int (nI n)]))] sz)) 0 0 (va_A [(r, .inr (1, [.ref o, .int (nI n)]))] sz) := by
  refine ds_enter (Qf := (fun A9 => ds_Qv D (fun (u : Unit) => True) (fun u : Unit => [(r, .inr (1, [.ref o, .int (nI n)]))]) A9)) (cc := cX4_checkRange) (maxL := 3) (ret := none) (by decide) rfl (Nat.le_of_ble_eq_true rfl) ?_
  intro Pp Ee Ss Mm Aa Bb Me Cc hx hb hml hr ht hown hlk hnm A H locs hA hP hD hS hK ls hl
  have hl : lv_has ls 3 [(0, .ref r), (1, .int (nI p)), (2, .int (nI k))] := hl
  change Ss.vm.findClass RX4 = some Mm.cls at hown
  refine lv_iload_n hx hb dX4_checkRange_0 rfl (lv_at hl 1 rfl) ?_
  refine lv_if_lt (tgt := 18) hx hb dX4_checkRange_1 (by decide) (fun h0 => ?_) (fun h0 => ?_)
  ·
    rw [← nI_0] at h0
    have h0 : p < 0 := (nI_ltI (a := p) (b := 0) (by omega) (by omega)).mp h0
    exfalso; omega
  ·
    rw [← nI_0] at h0
    have h0 : ¬ p < 0 := fun z9 => h0 ((nI_ltI (a := p) (b := 0) (by omega) (by omega)).mpr z9)
    refine lv_iload_n hx hb dX4_checkRange_4 rfl (lv_at hl 2 rfl) ?_
    refine lv_if_lt (tgt := 18) hx hb dX4_checkRange_5 (by decide) (fun h9 => ?_) (fun h9 => ?_)
    ·
      rw [← nI_0] at h9
      have h9 : k < 0 := (nI_ltI (a := k) (b := 0) (by omega) (by omega)).mp h9
      exfalso; omega
    ·
      rw [← nI_0] at h9
      have h9 : ¬ k < 0 := fun z9 => h9 ((nI_ltI (a := k) (b := 0) (by omega) (by omega)).mpr z9)
      refine lv_iload_n hx hb dX4_checkRange_8 rfl (lv_at hl 1 rfl) ?_
      refine lv_aload_n hx hb dX4_checkRange_9 rfl (lv_at hl 0 rfl) ?_
      refine va_getN (D := D) (ci := 1) (v := .int (nI n)) (C := RX1) (T := TX1) (N := 2) hx hb ht inA_X1 hown hK.1 hP 0 rfl rfl 1 (by decide) (nfu_1 hK) (fun _ h9 => h9) rfl dX4_checkRange_10 ?_
      refine lv_iload_n hx hb dX4_checkRange_13 rfl (lv_at hl 2 rfl) ?_
      refine lv_isub hx hb dX4_checkRange_14 ?_
      refine ds_top (z := nI (n - k)) (pk_sub (by omega)) ?_
      refine lv_icmp_le (tgt := 28) hx hb dX4_checkRange_15 (by decide) (fun h => ?_) (fun h => ?_)
      ·
        have h : p ≤ (n - k) := (nI_leI (a := p) (b := (n - k)) (by omega) (by omega)).mp h
        exact ds_vret hx hb hr hlk () trivial hP hD hS (Nat.le_of_ble_eq_true rfl) (Nat.le_of_ble_eq_true rfl) dX4_checkRange_28
      ·
        have h : ¬ p ≤ (n - k) := fun z9 => h ((nI_leI (a := p) (b := (n - k)) (by omega) (by omega)).mpr z9)
        exfalso; omega
set_option maxHeartbeats 4000000 in
set_option maxRecDepth 100000 in
theorem x_X4_checkRange (Ll : Launch) (hlst : Ll.stackTraces = false) (D : va_G) (cI cL : ClassId) (r : Nat) (o : Nat) (n : Nat) (x : Int32) (y : Int32) (h1 : x < 0 ∨ y < 0 ∨ nI n - y < x) (sz : Nat) : vx_Met Ll yX4_checkRange wsX4_checkRange { frames := 6, cells := 1, slots := 6, locals := 90 } (ds_PX D cI cL [.ref r, .int x, .int y] [(r, .inr (1, [.ref o, .int (nI n)]))] sz) (ds_Qv D (fun (u : Unit) => False) (fun u : Unit => [(r, .inr (1, [.ref o, .int (nI n)]))]) (va_A [(r, .inr (1, [.ref o, .int (nI n)]))] sz)) (ds_X D ((fun E => E = "java/lang/IndexOutOfBoundsException")) [(r, .inr (1, [.ref o, .int (nI n)]))] (va_A [(r, .inr (1, [.ref o, .int (nI n)]))] sz)) 1 6 (va_A [(r, .inr (1, [.ref o, .int (nI n)]))] sz) := by
  refine ds_enterX (Qf := (fun A9 => ds_Qv D (fun (u : Unit) => False) (fun u : Unit => [(r, .inr (1, [.ref o, .int (nI n)]))]) A9)) (XC := fun A9 => ds_X D ((fun E => E = "java/lang/IndexOutOfBoundsException")) [(r, .inr (1, [.ref o, .int (nI n)]))] A9) (cc := cX4_checkRange) (maxL := 3) (ret := none) (by decide) rfl (Nat.le_of_ble_eq_true rfl) ?_
  intro Pp Ee Ss Mm Aa Bb Me Cc hx hb hml hr ht hown hlk hnm A H locs hA hP hD hS hK hZ hno ls hl
  have hl : lv_has ls 3 [(0, .ref r), (1, .int x), (2, .int y)] := hl
  change Ss.vm.findClass RX4 = some Mm.cls at hown
  refine lv_iload_n hx hb dX4_checkRange_0 rfl (lv_at hl 1 rfl) ?_
  refine lv_if_lt (tgt := 18) hx hb dX4_checkRange_1 (by decide) (fun h0 => ?_) (fun h0 => ?_)
  ·
    exact ds_throwO hx hb hlst hown (ht _ iw_63) (ht _ iw_64) ht hK tx_8 hZ hP hS (by rw [hml]; exact hl.1) dX4_checkRange_18 dX4_checkRange_21 dX4_checkRange_22 dX4_checkRange_24 dX4_checkRange_27 hno hlk (Nat.le_of_ble_eq_true rfl) (Nat.le_of_ble_eq_true rfl) (Nat.le_of_ble_eq_true rfl) (Nat.le_of_ble_eq_true rfl) (Nat.le_of_ble_eq_true rfl) (Nat.le_of_ble_eq_true rfl) rfl
  ·
    refine lv_iload_n hx hb dX4_checkRange_4 rfl (lv_at hl 2 rfl) ?_
    refine lv_if_lt (tgt := 18) hx hb dX4_checkRange_5 (by decide) (fun h8 => ?_) (fun h8 => ?_)
    ·
      exact ds_throwO hx hb hlst hown (ht _ iw_63) (ht _ iw_64) ht hK tx_8 hZ hP hS (by rw [hml]; exact hl.1) dX4_checkRange_18 dX4_checkRange_21 dX4_checkRange_22 dX4_checkRange_24 dX4_checkRange_27 hno hlk (Nat.le_of_ble_eq_true rfl) (Nat.le_of_ble_eq_true rfl) (Nat.le_of_ble_eq_true rfl) (Nat.le_of_ble_eq_true rfl) (Nat.le_of_ble_eq_true rfl) (Nat.le_of_ble_eq_true rfl) rfl
    ·
      refine lv_iload_n hx hb dX4_checkRange_8 rfl (lv_at hl 1 rfl) ?_
      refine lv_aload_n hx hb dX4_checkRange_9 rfl (lv_at hl 0 rfl) ?_
      refine va_getN (D := D) (ci := 1) (v := .int (nI n)) (C := RX1) (T := TX1) (N := 2) hx hb ht inA_X1 hown hK.1 hP 0 rfl rfl 1 (by decide) (nfu_1 hK) (fun _ h9 => h9) rfl dX4_checkRange_10 ?_
      refine lv_iload_n hx hb dX4_checkRange_13 rfl (lv_at hl 2 rfl) ?_
      refine lv_isub hx hb dX4_checkRange_14 ?_
      refine lv_icmp_le (tgt := 28) hx hb dX4_checkRange_15 (by decide) (fun h => ?_) (fun h => ?_)
      ·
        rcases h1 with h9 | h9 | h9
        · exact absurd h9 h0
        · exact absurd h9 h8
        · exact absurd h9 (Int32.not_lt.mpr h)
      ·
        exact ds_throwO hx hb hlst hown (ht _ iw_63) (ht _ iw_64) ht hK tx_8 hZ hP hS (by rw [hml]; exact hl.1) dX4_checkRange_18 dX4_checkRange_21 dX4_checkRange_22 dX4_checkRange_24 dX4_checkRange_27 hno hlk (Nat.le_of_ble_eq_true rfl) (Nat.le_of_ble_eq_true rfl) (Nat.le_of_ble_eq_true rfl) (Nat.le_of_ble_eq_true rfl) (Nat.le_of_ble_eq_true rfl) (Nat.le_of_ble_eq_true rfl) rfl
