set_option maxHeartbeats 4000000 in
set_option maxRecDepth 100000 in
theorem c_X4_checkBlocks (Ll : Launch) (D : va_G) (cI cL : ClassId) (s : Nat) (b : Nat) (h1 : 4 ≤ s) (h2 : s ≤ 256) (h3 : b ≤ 64) (sz : Nat) : Met Ll yX4_checkBlocks wsX4_checkBlocks { frames := 0, cells := 0, slots := 0, locals := 0 } (ds_P D cI cL [.int (nI s), .int (nI b)] [] sz) (ds_Qv D (fun (u : Unit) => True) (fun u : Unit => []) (va_A [] sz)) 0 0 (va_A [] sz) := by
  refine ds_enter (Qf := (fun A9 => ds_Qv D (fun (u : Unit) => True) (fun u : Unit => []) A9)) (cc := cX4_checkBlocks) (maxL := 2) (ret := none) (by decide) rfl (Nat.le_of_ble_eq_true rfl) ?_
  intro Pp Ee Ss Mm Aa Bb Me Cc hx hb hml hr ht hown hlk hnm A H locs hA hP hD hS hK ls hl
  have hl : lv_has ls 2 [(0, .int (nI s)), (1, .int (nI b))] := hl
  change Ss.vm.findClass RX4 = some Mm.cls at hown
  refine lv_iload_n hx hb dX4_checkBlocks_0 rfl (lv_at hl 0 rfl) ?_
  refine lv_iconst (v := nI 4) hx hb dX4_checkBlocks_1 (by decide +kernel) ?_
  refine lv_icmp_lt (tgt := 12) hx hb dX4_checkBlocks_2 (by decide) (fun h7 => ?_) (fun h7 => ?_)
  ·
    have h7 : s < 4 := (nI_ltI (a := s) (b := 4) (by omega) (by omega)).mp h7
    exfalso; omega
  ·
    have h7 : ¬ s < 4 := fun z9 => h7 ((nI_ltI (a := s) (b := 4) (by omega) (by omega)).mpr z9)
    refine lv_iload_n hx hb dX4_checkBlocks_5 rfl (lv_at hl 0 rfl) ?_
    refine lv_sipush (v := nI 256) hx hb dX4_checkBlocks_6 (by decide +kernel) ?_
    refine lv_icmp_le (tgt := 22) hx hb dX4_checkBlocks_9 (by decide) (fun h8 => ?_) (fun h8 => ?_)
    ·
      have h8 : s ≤ 256 := (nI_leI (a := s) (b := 256) (by omega) (by omega)).mp h8
      refine lv_iload_n hx hb dX4_checkBlocks_22 rfl (lv_at hl 1 rfl) ?_
      refine lv_if_lt (tgt := 32) hx hb dX4_checkBlocks_23 (by decide) (fun h9 => ?_) (fun h9 => ?_)
      ·
        rw [← nI_0] at h9
        have h9 : b < 0 := (nI_ltI (a := b) (b := 0) (by omega) (by omega)).mp h9
        exfalso; omega
      ·
        rw [← nI_0] at h9
        have h9 : ¬ b < 0 := fun z9 => h9 ((nI_ltI (a := b) (b := 0) (by omega) (by omega)).mpr z9)
        refine lv_iload_n hx hb dX4_checkBlocks_26 rfl (lv_at hl 1 rfl) ?_
        refine lv_bipush (v := nI 64) hx hb dX4_checkBlocks_27 (by decide +kernel) ?_
        refine lv_icmp_le (tgt := 42) hx hb dX4_checkBlocks_29 (by decide) (fun h => ?_) (fun h => ?_)
        ·
          have h : b ≤ 64 := (nI_leI (a := b) (b := 64) (by omega) (by omega)).mp h
          exact ds_vret hx hb hr hlk () trivial hP hD hS (Nat.le_of_ble_eq_true rfl) (Nat.le_of_ble_eq_true rfl) dX4_checkBlocks_42
        ·
          have h : ¬ b ≤ 64 := fun z9 => h ((nI_leI (a := b) (b := 64) (by omega) (by omega)).mpr z9)
          exfalso; omega
    ·
      have h8 : ¬ s ≤ 256 := fun z9 => h8 ((nI_leI (a := s) (b := 256) (by omega) (by omega)).mpr z9)
      exfalso; omega
set_option maxHeartbeats 4000000 in
set_option maxRecDepth 100000 in
theorem x_X4_checkBlocks (Ll : Launch) (hlst : Ll.stackTraces = false) (D : va_G) (cI cL : ClassId) (x : Int32) (y : Int32) (h1 : x < nI 4 ∨ nI 256 < x ∨ y < 0 ∨ nI 64 < y) (sz : Nat) : vx_Met Ll yX4_checkBlocks wsX4_checkBlocks { frames := 6, cells := 1, slots := 6, locals := 90 } (ds_PX D cI cL [.int x, .int y] [] sz) (ds_Qv D (fun (u : Unit) => False) (fun u : Unit => []) (va_A [] sz)) (ds_X D ((fun E => E = "java/lang/IllegalArgumentException")) [] (va_A [] sz)) 1 6 (va_A [] sz) := by
  refine ds_enterX (Qf := (fun A9 => ds_Qv D (fun (u : Unit) => False) (fun u : Unit => []) A9)) (XC := fun A9 => ds_X D ((fun E => E = "java/lang/IllegalArgumentException")) [] A9) (cc := cX4_checkBlocks) (maxL := 2) (ret := none) (by decide) rfl (Nat.le_of_ble_eq_true rfl) ?_
  intro Pp Ee Ss Mm Aa Bb Me Cc hx hb hml hr ht hown hlk hnm A H locs hA hP hD hS hK hZ hno ls hl
  have hl : lv_has ls 2 [(0, .int x), (1, .int y)] := hl
  change Ss.vm.findClass RX4 = some Mm.cls at hown
  refine lv_iload_n hx hb dX4_checkBlocks_0 rfl (lv_at hl 0 rfl) ?_
  refine lv_iconst (v := nI 4) hx hb dX4_checkBlocks_1 (by decide +kernel) ?_
  refine lv_icmp_lt (tgt := 12) hx hb dX4_checkBlocks_2 (by decide) (fun h5 => ?_) (fun h5 => ?_)
  ·
    exact ds_throwI hx hb hlst hown (ht _ iw_32) (ht _ iw_33) ht hK tx_9 hZ hP hS (by rw [hml]; exact hl.1) dX4_checkBlocks_12 dX4_checkBlocks_15 dX4_checkBlocks_16 dX4_checkBlocks_18 dX4_checkBlocks_21 hno hlk (Nat.le_of_ble_eq_true rfl) (Nat.le_of_ble_eq_true rfl) (Nat.le_of_ble_eq_true rfl) (Nat.le_of_ble_eq_true rfl) (Nat.le_of_ble_eq_true rfl) (Nat.le_of_ble_eq_true rfl) rfl
  ·
    refine lv_iload_n hx hb dX4_checkBlocks_5 rfl (lv_at hl 0 rfl) ?_
    refine lv_sipush (v := nI 256) hx hb dX4_checkBlocks_6 (by decide +kernel) ?_
    refine lv_icmp_le (tgt := 22) hx hb dX4_checkBlocks_9 (by decide) (fun h6 => ?_) (fun h6 => ?_)
    ·
      refine lv_iload_n hx hb dX4_checkBlocks_22 rfl (lv_at hl 1 rfl) ?_
      refine lv_if_lt (tgt := 32) hx hb dX4_checkBlocks_23 (by decide) (fun h7 => ?_) (fun h7 => ?_)
      ·
        exact ds_throwI hx hb hlst hown (ht _ iw_32) (ht _ iw_33) ht hK tx_10 hZ hP hS (by rw [hml]; exact hl.1) dX4_checkBlocks_32 dX4_checkBlocks_35 dX4_checkBlocks_36 dX4_checkBlocks_38 dX4_checkBlocks_41 hno hlk (Nat.le_of_ble_eq_true rfl) (Nat.le_of_ble_eq_true rfl) (Nat.le_of_ble_eq_true rfl) (Nat.le_of_ble_eq_true rfl) (Nat.le_of_ble_eq_true rfl) (Nat.le_of_ble_eq_true rfl) rfl
      ·
        refine lv_iload_n hx hb dX4_checkBlocks_26 rfl (lv_at hl 1 rfl) ?_
        refine lv_bipush (v := nI 64) hx hb dX4_checkBlocks_27 (by decide +kernel) ?_
        refine lv_icmp_le (tgt := 42) hx hb dX4_checkBlocks_29 (by decide) (fun h8 => ?_) (fun h8 => ?_)
        ·
          rcases h1 with h9 | h9 | h9 | h9
          · exact absurd h9 h5
          · exact absurd h9 (Int32.not_lt.mpr h6)
          · exact absurd h9 h7
          · exact absurd h9 (Int32.not_lt.mpr h8)
        ·
          exact ds_throwI hx hb hlst hown (ht _ iw_32) (ht _ iw_33) ht hK tx_10 hZ hP hS (by rw [hml]; exact hl.1) dX4_checkBlocks_32 dX4_checkBlocks_35 dX4_checkBlocks_36 dX4_checkBlocks_38 dX4_checkBlocks_41 hno hlk (Nat.le_of_ble_eq_true rfl) (Nat.le_of_ble_eq_true rfl) (Nat.le_of_ble_eq_true rfl) (Nat.le_of_ble_eq_true rfl) (Nat.le_of_ble_eq_true rfl) (Nat.le_of_ble_eq_true rfl) rfl
    ·
      exact ds_throwI hx hb hlst hown (ht _ iw_32) (ht _ iw_33) ht hK tx_9 hZ hP hS (by rw [hml]; exact hl.1) dX4_checkBlocks_12 dX4_checkBlocks_15 dX4_checkBlocks_16 dX4_checkBlocks_18 dX4_checkBlocks_21 hno hlk (Nat.le_of_ble_eq_true rfl) (Nat.le_of_ble_eq_true rfl) (Nat.le_of_ble_eq_true rfl) (Nat.le_of_ble_eq_true rfl) (Nat.le_of_ble_eq_true rfl) (Nat.le_of_ble_eq_true rfl) rfl
