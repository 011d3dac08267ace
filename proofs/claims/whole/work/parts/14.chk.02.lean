set_option maxHeartbeats 4000000 in
set_option maxRecDepth 100000 in
theorem x_X4_checkRow (Ll : Launch) (hlst : Ll.stackTraces = false) (D : va_G) (cI cL : ClassId) (x : Int32) (h1 : ¬ x = 0) (h2 : ¬ x = nI 1) (sz : Nat) : vx_Met Ll yX4_checkRow wsX4_checkRow { frames := 6, cells := 1, slots := 6, locals := 90 } (ds_PX D cI cL [.int x] [] sz) (ds_Qv D (fun (u : Unit) => False) (fun u : Unit => []) (va_A [] sz)) (ds_X D ((fun E => E = "java/lang/IllegalArgumentException")) [] (va_A [] sz)) 1 6 (va_A [] sz) := by
  refine ds_enterX (Qf := (fun A9 => ds_Qv D (fun (u : Unit) => False) (fun u : Unit => []) A9)) (XC := fun A9 => ds_X D ((fun E => E = "java/lang/IllegalArgumentException")) [] A9) (cc := cX4_checkRow) (maxL := 1) (ret := none) (by decide) rfl (Nat.le_of_ble_eq_true rfl) ?_
  intro Pp Ee Ss Mm Aa Bb Me Cc hx hb hml hr ht hown hlk hnm A H locs hA hP hD hS hK hZ hno ls hl
  have hl : lv_has ls 1 [(0, .int x)] := hl
  change Ss.vm.findClass RX4 = some Mm.cls at hown
  refine lv_iload_n hx hb dX4_checkRow_0 rfl (lv_at hl 0 rfl) ?_
  refine lv_if_eq (tgt := 19) hx hb dX4_checkRow_1 (by decide) (fun h => ?_) (fun h => ?_)
  ·
    exact absurd h h1
  ·
    refine lv_iload_n hx hb dX4_checkRow_4 rfl (lv_at hl 0 rfl) ?_
    refine lv_iconst (v := nI 1) hx hb dX4_checkRow_5 (by decide +kernel) ?_
    refine lv_icmp_eq (tgt := 19) hx hb dX4_checkRow_6 (by decide) (fun h => ?_) (fun h => ?_)
    ·
      exact absurd h h2
    ·
      exact ds_throwI hx hb hlst hown (ht _ iw_32) (ht _ iw_33) ht hK tx_6 hZ hP hS (by rw [hml]; exact hl.1) dX4_checkRow_9 dX4_checkRow_12 dX4_checkRow_13 dX4_checkRow_15 dX4_checkRow_18 hno hlk (Nat.le_of_ble_eq_true rfl) (Nat.le_of_ble_eq_true rfl) (Nat.le_of_ble_eq_true rfl) (Nat.le_of_ble_eq_true rfl) (Nat.le_of_ble_eq_true rfl) (Nat.le_of_ble_eq_true rfl) rfl
set_option maxHeartbeats 4000000 in
set_option maxRecDepth 100000 in
theorem c_X4_checkOctet (Ll : Launch) (D : va_G) (cI cL : ClassId) (r : Nat) (o : Nat) (n : Nat) (k : Nat) (h1 : k < n) (h2 : n ≤ 1200) (sz : Nat) : Met Ll yX4_checkOctet wsX4_checkOctet { frames := 0, cells := 0, slots := 0, locals := 0 } (ds_P D cI cL [.ref r, .int (nI k)] [(r, .inr (1, [.ref o, .int (nI n)]))] sz) (ds_Qv D (fun (u : Unit) => True) (fun u : Unit => [(r, .inr (1, [.ref o, .int (nI n)]))]) (va_A [(r, .inr (1, [.ref o, .int (nI n)]))] sz)) 0 0 (va_A [(r, .inr (1, [.ref o, .int (nI n)]))] sz) := by
  refine ds_enter (Qf := (fun A9 => ds_Qv D (fun (u : Unit) => True) (fun u : Unit => [(r, .inr (1, [.ref o, .int (nI n)]))]) A9)) (cc := cX4_checkOctet) (maxL := 2) (ret := none) (by decide) rfl (Nat.le_of_ble_eq_true rfl) ?_
  intro Pp Ee Ss Mm Aa Bb Me Cc hx hb hml hr ht hown hlk hnm A H locs hA hP hD hS hK ls hl
  have hl : lv_has ls 2 [(0, .ref r), (1, .int (nI k))] := hl
  change Ss.vm.findClass RX4 = some Mm.cls at hown
  refine lv_iload_n hx hb dX4_checkOctet_0 rfl (lv_at hl 1 rfl) ?_
  refine lv_if_lt (tgt := 12) hx hb dX4_checkOctet_1 (by decide) (fun h0 => ?_) (fun h0 => ?_)
  ·
    rw [← nI_0] at h0
    have h0 : k < 0 := (nI_ltI (a := k) (b := 0) (by omega) (by omega)).mp h0
    exfalso; omega
  ·
    rw [← nI_0] at h0
    have h0 : ¬ k < 0 := fun z9 => h0 ((nI_ltI (a := k) (b := 0) (by omega) (by omega)).mpr z9)
    refine lv_iload_n hx hb dX4_checkOctet_4 rfl (lv_at hl 1 rfl) ?_
    refine lv_aload_n hx hb dX4_checkOctet_5 rfl (lv_at hl 0 rfl) ?_
    refine va_getN (D := D) (ci := 1) (v := .int (nI n)) (C := RX1) (T := TX1) (N := 2) hx hb ht inA_X1 hown hK.1 hP 0 rfl rfl 1 (by decide) (nfu_1 hK) (fun _ h9 => h9) rfl dX4_checkOctet_6 ?_
    refine lv_icmp_lt (tgt := 22) hx hb dX4_checkOctet_9 (by decide) (fun h => ?_) (fun h => ?_)
    ·
      have h : k < n := (nI_ltI (a := k) (b := n) (by omega) (by omega)).mp h
      exact ds_vret hx hb hr hlk () trivial hP hD hS (Nat.le_of_ble_eq_true rfl) (Nat.le_of_ble_eq_true rfl) dX4_checkOctet_22
    ·
      have h : ¬ k < n := fun z9 => h ((nI_ltI (a := k) (b := n) (by omega) (by omega)).mpr z9)
      exfalso; omega
set_option maxHeartbeats 4000000 in
set_option maxRecDepth 100000 in
theorem x_X4_checkOctet (Ll : Launch) (hlst : Ll.stackTraces = false) (D : va_G) (cI cL : ClassId) (r : Nat) (o : Nat) (n : Nat) (x : Int32) (h1 : x < 0 ∨ nI n ≤ x) (sz : Nat) : vx_Met Ll yX4_checkOctet wsX4_checkOctet { frames := 6, cells := 1, slots := 6, locals := 90 } (ds_PX D cI cL [.ref r, .int x] [(r, .inr (1, [.ref o, .int (nI n)]))] sz) (ds_Qv D (fun (u : Unit) => False) (fun u : Unit => [(r, .inr (1, [.ref o, .int (nI n)]))]) (va_A [(r, .inr (1, [.ref o, .int (nI n)]))] sz)) (ds_X D ((fun E => E = "java/lang/IndexOutOfBoundsException")) [(r, .inr (1, [.ref o, .int (nI n)]))] (va_A [(r, .inr (1, [.ref o, .int (nI n)]))] sz)) 1 6 (va_A [(r, .inr (1, [.ref o, .int (nI n)]))] sz) := by
  refine ds_enterX (Qf := (fun A9 => ds_Qv D (fun (u : Unit) => False) (fun u : Unit => [(r, .inr (1, [.ref o, .int (nI n)]))]) A9)) (XC := fun A9 => ds_X D ((fun E => E = "java/lang/IndexOutOfBoundsException")) [(r, .inr (1, [.ref o, .int (nI n)]))] A9) (cc := cX4_checkOctet) (maxL := 2) (ret := none) (by decide) rfl (Nat.le_of_ble_eq_true rfl) ?_
  intro Pp Ee Ss Mm Aa Bb Me Cc hx hb hml hr ht hown hlk hnm A H locs hA hP hD hS hK hZ hno ls hl
  have hl : lv_has ls 2 [(0, .ref r), (1, .int x)] := hl
  change Ss.vm.findClass RX4 = some Mm.cls at hown
  refine lv_iload_n hx hb dX4_checkOctet_0 rfl (lv_at hl 1 rfl) ?_
  refine lv_if_lt (tgt := 12) hx hb dX4_checkOctet_1 (by decide) (fun h0 => ?_) (fun h0 => ?_)
  ·
    exact ds_throwO hx hb hlst hown (ht _ iw_63) (ht _ iw_64) ht hK tx_7 hZ hP hS (by rw [hml]; exact hl.1) dX4_checkOctet_12 dX4_checkOctet_15 dX4_checkOctet_16 dX4_checkOctet_18 dX4_checkOctet_21 hno hlk (Nat.le_of_ble_eq_true rfl) (Nat.le_of_ble_eq_true rfl) (Nat.le_of_ble_eq_true rfl) (Nat.le_of_ble_eq_true rfl) (Nat.le_of_ble_eq_true rfl) (Nat.le_of_ble_eq_true rfl) rfl
  ·
    refine lv_iload_n hx hb dX4_checkOctet_4 rfl (lv_at hl 1 rfl) ?_
    refine lv_aload_n hx hb dX4_checkOctet_5 rfl (lv_at hl 0 rfl) ?_
    refine va_getN (D := D) (ci := 1) (v := .int (nI n)) (C := RX1) (T := TX1) (N := 2) hx hb ht inA_X1 hown hK.1 hP 0 rfl rfl 1 (by decide) (nfu_1 hK) (fun _ h9 => h9) rfl dX4_checkOctet_6 ?_
    refine lv_icmp_lt (tgt := 22) hx hb dX4_checkOctet_9 (by decide) (fun h => ?_) (fun h => ?_)
    ·
      rcases h1 with h9 | h9
      · exact absurd h9 h0
      · exact absurd h9 (Int32.not_le.mpr h)
    ·
      exact ds_throwO hx hb hlst hown (ht _ iw_63) (ht _ iw_64) ht hK tx_7 hZ hP hS (by rw [hml]; exact hl.1) dX4_checkOctet_12 dX4_checkOctet_15 dX4_checkOctet_16 dX4_checkOctet_18 dX4_checkOctet_21 hno hlk (Nat.le_of_ble_eq_true rfl) (Nat.le_of_ble_eq_true rfl) (Nat.le_of_ble_eq_true rfl) (Nat.le_of_ble_eq_true rfl) (Nat.le_of_ble_eq_true rfl) (Nat.le_of_ble_eq_true rfl) rfl
