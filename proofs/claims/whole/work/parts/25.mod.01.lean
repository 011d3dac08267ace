set_option maxHeartbeats 4000000 in
set_option maxRecDepth 100000 in
theorem c_X5_thrown (Ll : Launch) (D : va_G) (cI cL : ClassId) (mo : Nat) (aO : Nat) (aT : Nat) (aM : Nat) (aZ : Nat) (aY : Nat) (aK : Nat) (aF : Nat) (aL : Nat) (er : Int32) (c : Nat) (isd : Int32) (wd : Int32) (sz : Nat) : Met Ll yX5_thrown wsX5_thrown { frames := 0, cells := 0, slots := 0, locals := 0 } (ds_P D cI cL [.ref mo] [(mo, .inr (5, [.int er, .ref aO, .ref aT, .ref aM, .ref aZ, .ref aY, .ref aK, .ref aF, .ref aL, .int (nI c), .int isd, .int wd]))] sz) (ds_Qi D (fun (r : Int32) (u : Unit) => r = er) (fun u : Unit => [(mo, .inr (5, [.int er, .ref aO, .ref aT, .ref aM, .ref aZ, .ref aY, .ref aK, .ref aF, .ref aL, .int (nI c), .int isd, .int wd]))]) (va_A [(mo, .inr (5, [.int er, .ref aO, .ref aT, .ref aM, .ref aZ, .ref aY, .ref aK, .ref aF, .ref aL, .int (nI c), .int isd, .int wd]))] sz)) 0 0 (va_A [(mo, .inr (5, [.int er, .ref aO, .ref aT, .ref aM, .ref aZ, .ref aY, .ref aK, .ref aF, .ref aL, .int (nI c), .int isd, .int wd]))] sz) := by
  refine ds_enter (Qf := (fun A9 => ds_Qi D (fun (r : Int32) (u : Unit) => r = er) (fun u : Unit => [(mo, .inr (5, [.int er, .ref aO, .ref aT, .ref aM, .ref aZ, .ref aY, .ref aK, .ref aF, .ref aL, .int (nI c), .int isd, .int wd]))]) A9)) (cc := cX5_thrown) (maxL := 1) (ret := (some .int)) (by decide) rfl (Nat.le_of_ble_eq_true rfl) ?_
  intro Pp Ee Ss Mm Aa Bb Me Cc hx hb hml hr ht hown hlk hnm A H locs hA hP hD hS hK ls hl
  have hl : lv_has ls 1 [(0, .ref mo)] := hl
  change Ss.vm.findClass RX5 = some Mm.cls at hown
  refine lv_aload_n hx hb dX5_thrown_0 rfl (lv_at hl 0 rfl) ?_
  refine va_get (D := D) (ci := 5) (v := .int er) (C := RX5) (T := TX5) (N := 12) hx hb ht inA_X5 hown hK.1 hP 0 rfl rfl 0 (by decide) (ht _ iw_131) (fun _ h9 => h9) rfl dX5_thrown_1 ?_
  exact ds_iret hx hb hr hlk rfl () rfl hP hD hS (Nat.le_of_ble_eq_true rfl) (Nat.le_of_ble_eq_true rfl) dX5_thrown_4
set_option maxHeartbeats 4000000 in
set_option maxRecDepth 100000 in
theorem m_fails0 (Ll : Launch) (D : va_G) (cI cL : ClassId) (mo : Nat) (aO : Nat) (aT : Nat) (aM : Nat) (aZ : Nat) (aY : Nat) (aK : Nat) (aF : Nat) (aL : Nat) (er : Int32) (c : Nat) (isd : Int32) (wd : Int32) (k : Nat) (sz : Nat) : Met Ll yX5_fails wsX5_fails { frames := 0, cells := 0, slots := 0, locals := 0 } (ds_P D cI cL [.ref mo, .int (nI 0), .int (nI k)] [(mo, .inr (5, [.int er, .ref aO, .ref aT, .ref aM, .ref aZ, .ref aY, .ref aK, .ref aF, .ref aL, .int (nI c), .int isd, .int wd]))] sz) (ds_Qi D (fun (r : Int32) (u : Unit) => r = nI 0) (fun u : Unit => [(mo, .inr (5, [.int (nI 0), .ref aO, .ref aT, .ref aM, .ref aZ, .ref aY, .ref aK, .ref aF, .ref aL, .int (nI c), .int isd, .int wd]))]) (va_A [(mo, .inr (5, [.int er, .ref aO, .ref aT, .ref aM, .ref aZ, .ref aY, .ref aK, .ref aF, .ref aL, .int (nI c), .int isd, .int wd]))] sz)) 0 0 (va_A [(mo, .inr (5, [.int er, .ref aO, .ref aT, .ref aM, .ref aZ, .ref aY, .ref aK, .ref aF, .ref aL, .int (nI c), .int isd, .int wd]))] sz) := by
  refine ds_enter (Qf := (fun A9 => ds_Qi D (fun (r : Int32) (u : Unit) => r = nI 0) (fun u : Unit => [(mo, .inr (5, [.int (nI 0), .ref aO, .ref aT, .ref aM, .ref aZ, .ref aY, .ref aK, .ref aF, .ref aL, .int (nI c), .int isd, .int wd]))]) A9)) (cc := cX5_fails) (maxL := 3) (ret := (some .boolean)) (by decide) rfl (Nat.le_of_ble_eq_true rfl) ?_
  intro Pp Ee Ss Mm Aa Bb Me Cc hx hb hml hr ht hown hlk hnm A H locs hA hP hD hS hK ls hl
  have hl : lv_has ls 3 [(0, .ref mo), (1, .int (nI 0)), (2, .int (nI k))] := hl
  change Ss.vm.findClass RX5 = some Mm.cls at hown
  refine lv_aload_n hx hb dX5_fails_0 rfl (lv_at hl 0 rfl) ?_
  refine lv_iload_n hx hb dX5_fails_1 rfl (lv_at hl 1 rfl) ?_
  refine lv_if_eq (tgt := 9) hx hb dX5_fails_2 (by decide) (fun h => ?_) (fun h => ?_)
  ·
    rw [← nI_0] at h
    have h : 0 = 0 := (nI_eq (a := 0) (b := 0) (by omega) (by omega)).mp h
    refine lv_iconst (v := nI 0) hx hb dX5_fails_9 (by decide +kernel) ?_
    refine va_put (D := D) (ci := 5) (v := .int (nI 0)) (ty := .int) (C := RX5) (T := TX5) (N := 12) hx hb ht inA_X5 tyX5 tyX5_ok nmX5 hown hK.1 hP hD hS 0 rfl rfl 0 (by decide) (ht _ iw_131) (fun _ h9 => h9) rfl (by decide +kernel) rfl rfl (Nat.le_of_ble_eq_true rfl) dX5_fails_10 (fun H locs hP hD hS => ?_)
    have hP : va_P D vwCl [(mo, .inr (5, [.int (nI 0), .ref aO, .ref aT, .ref aM, .ref aZ, .ref aY, .ref aK, .ref aF, .ref aL, .int (nI c), .int isd, .int wd]))] H := hP
    have hD : va_D A [(mo, .inr (5, [.int (nI 0), .ref aO, .ref aT, .ref aM, .ref aZ, .ref aY, .ref aK, .ref aF, .ref aL, .int (nI c), .int isd, .int wd]))] := hD
    refine lv_iload_n hx hb dX5_fails_13 rfl (lv_at hl 1 rfl) ?_
    exact ds_iret hx hb hr hlk (by decide +kernel) () rfl hP hD hS (Nat.le_of_ble_eq_true rfl) (Nat.le_of_ble_eq_true rfl) dX5_fails_14
  ·
    rw [← nI_0] at h
    have h : ¬ 0 = 0 := fun z9 => h ((nI_eq (a := 0) (b := 0) (by omega) (by omega)).mpr z9)
    exact absurd rfl h
set_option maxHeartbeats 4000000 in
set_option maxRecDepth 100000 in
theorem m_fails1 (Ll : Launch) (D : va_G) (cI cL : ClassId) (mo : Nat) (aO : Nat) (aT : Nat) (aM : Nat) (aZ : Nat) (aY : Nat) (aK : Nat) (aF : Nat) (aL : Nat) (er : Int32) (c : Nat) (isd : Int32) (wd : Int32) (k : Nat) (sz : Nat) : Met Ll yX5_fails wsX5_fails { frames := 0, cells := 0, slots := 0, locals := 0 } (ds_P D cI cL [.ref mo, .int (nI 1), .int (nI k)] [(mo, .inr (5, [.int er, .ref aO, .ref aT, .ref aM, .ref aZ, .ref aY, .ref aK, .ref aF, .ref aL, .int (nI c), .int isd, .int wd]))] sz) (ds_Qi D (fun (r : Int32) (u : Unit) => r = nI 1) (fun u : Unit => [(mo, .inr (5, [.int (nI k), .ref aO, .ref aT, .ref aM, .ref aZ, .ref aY, .ref aK, .ref aF, .ref aL, .int (nI c), .int isd, .int wd]))]) (va_A [(mo, .inr (5, [.int er, .ref aO, .ref aT, .ref aM, .ref aZ, .ref aY, .ref aK, .ref aF, .ref aL, .int (nI c), .int isd, .int wd]))] sz)) 0 0 (va_A [(mo, .inr (5, [.int er, .ref aO, .ref aT, .ref aM, .ref aZ, .ref aY, .ref aK, .ref aF, .ref aL, .int (nI c), .int isd, .int wd]))] sz) := by
  refine ds_enter (Qf := (fun A9 => ds_Qi D (fun (r : Int32) (u : Unit) => r = nI 1) (fun u : Unit => [(mo, .inr (5, [.int (nI k), .ref aO, .ref aT, .ref aM, .ref aZ, .ref aY, .ref aK, .ref aF, .ref aL, .int (nI c), .int isd, .int wd]))]) A9)) (cc := cX5_fails) (maxL := 3) (ret := (some .boolean)) (by decide) rfl (Nat.le_of_ble_eq_true rfl) ?_
  intro Pp Ee Ss Mm Aa Bb Me Cc hx hb hml hr ht hown hlk hnm A H locs hA hP hD hS hK ls hl
  have hl : lv_has ls 3 [(0, .ref mo), (1, .int (nI 1)), (2, .int (nI k))] := hl
  change Ss.vm.findClass RX5 = some Mm.cls at hown
  refine lv_aload_n hx hb dX5_fails_0 rfl (lv_at hl 0 rfl) ?_
  refine lv_iload_n hx hb dX5_fails_1 rfl (lv_at hl 1 rfl) ?_
  refine lv_if_eq (tgt := 9) hx hb dX5_fails_2 (by decide) (fun h => ?_) (fun h => ?_)
  ·
    rw [← nI_0] at h
    have h : 1 = 0 := (nI_eq (a := 1) (b := 0) (by omega) (by omega)).mp h
    exact absurd h (by decide)
  ·
    rw [← nI_0] at h
    have h : ¬ 1 = 0 := fun z9 => h ((nI_eq (a := 1) (b := 0) (by omega) (by omega)).mpr z9)
    refine lv_iload_n hx hb dX5_fails_5 rfl (lv_at hl 2 rfl) ?_
    refine lv_goto (tgt := 10) hx hb dX5_fails_6 (by decide) ?_
    refine va_put (D := D) (ci := 5) (v := .int (nI k)) (ty := .int) (C := RX5) (T := TX5) (N := 12) hx hb ht inA_X5 tyX5 tyX5_ok nmX5 hown hK.1 hP hD hS 0 rfl rfl 0 (by decide) (ht _ iw_131) (fun _ h9 => h9) rfl (by decide +kernel) rfl rfl (Nat.le_of_ble_eq_true rfl) dX5_fails_10 (fun H locs hP hD hS => ?_)
    have hP : va_P D vwCl [(mo, .inr (5, [.int (nI k), .ref aO, .ref aT, .ref aM, .ref aZ, .ref aY, .ref aK, .ref aF, .ref aL, .int (nI c), .int isd, .int wd]))] H := hP
    have hD : va_D A [(mo, .inr (5, [.int (nI k), .ref aO, .ref aT, .ref aM, .ref aZ, .ref aY, .ref aK, .ref aF, .ref aL, .int (nI c), .int isd, .int wd]))] := hD
    refine lv_iload_n hx hb dX5_fails_13 rfl (lv_at hl 1 rfl) ?_
    exact ds_iret hx hb hr hlk (by decide +kernel) () rfl hP hD hS (Nat.le_of_ble_eq_true rfl) (Nat.le_of_ble_eq_true rfl) dX5_fails_14
set_option maxHeartbeats 4000000 in
set_option maxRecDepth 100000 in
theorem m_no0 (Ll : Launch) (D : va_G) (cI cL : ClassId) (k : Nat) (h1 : k ≤ 1) (sz : Nat) : Met Ll yX5_no wsX5_no { frames := 0, cells := 0, slots := 0, locals := 0 } (ds_P D cI cL [.int (nI k)] [] sz) (ds_Qi D (fun (r : Int32) (u : Unit) => r = nI 0) (fun u : Unit => []) (va_A [] sz)) 0 0 (va_A [] sz) := by
  refine ds_enter (Qf := (fun A9 => ds_Qi D (fun (r : Int32) (u : Unit) => r = nI 0) (fun u : Unit => []) A9)) (cc := cX5_no) (maxL := 1) (ret := (some .boolean)) (by decide) rfl (Nat.le_of_ble_eq_true rfl) ?_
  intro Pp Ee Ss Mm Aa Bb Me Cc hx hb hml hr ht hown hlk hnm A H locs hA hP hD hS hK ls hl
  have hl : lv_has ls 1 [(0, .int (nI k))] := hl
  change Ss.vm.findClass RX5 = some Mm.cls at hown
  refine lv_iload_n hx hb dX5_no_0 rfl (lv_at hl 0 rfl) ?_
  refine lv_if_eq (tgt := 13) hx hb dX5_no_1 (by decide) (fun h0 => ?_) (fun h0 => ?_)
  ·
    rw [← nI_0] at h0
    have h0 : k = 0 := (nI_eq (a := k) (b := 0) (by omega) (by omega)).mp h0
    refine lv_iconst (v := nI 0) hx hb dX5_no_13 (by decide +kernel) ?_
    exact ds_iret hx hb hr hlk (by decide +kernel) () rfl hP hD hS (Nat.le_of_ble_eq_true rfl) (Nat.le_of_ble_eq_true rfl) dX5_no_14
  ·
    rw [← nI_0] at h0
    have h0 : ¬ k = 0 := fun z9 => h0 ((nI_eq (a := k) (b := 0) (by omega) (by omega)).mpr z9)
    refine lv_iload_n hx hb dX5_no_4 rfl (lv_at hl 0 rfl) ?_
    refine lv_iconst (v := nI 1) hx hb dX5_no_5 (by decide +kernel) ?_
    refine lv_icmp_eq (tgt := 13) hx hb dX5_no_6 (by decide) (fun h => ?_) (fun h => ?_)
    ·
      have h : k = 1 := (nI_eq (a := k) (b := 1) (by omega) (by omega)).mp h
      refine lv_iconst (v := nI 0) hx hb dX5_no_13 (by decide +kernel) ?_
      exact ds_iret hx hb hr hlk (by decide +kernel) () rfl hP hD hS (Nat.le_of_ble_eq_true rfl) (Nat.le_of_ble_eq_true rfl) dX5_no_14
    ·
      have h : ¬ k = 1 := fun z9 => h ((nI_eq (a := k) (b := 1) (by omega) (by omega)).mpr z9)
      exfalso; omega
