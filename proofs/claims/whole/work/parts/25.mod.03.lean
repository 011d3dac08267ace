set_option maxHeartbeats 4000000 in
set_option maxRecDepth 100000 in
theorem m_bad1 (Ll : Launch) (D : va_G) (cI cL : ClassId) (x : Int32) (y : Int32) (h1 : x < nI 4 ∨ nI 256 < x ∨ y < 0 ∨ nI 64 < y) (sz : Nat) : Met Ll yX5_bad wsX5_bad { frames := 0, cells := 0, slots := 0, locals := 0 } (ds_P D cI cL [.int x, .int y] [] sz) (ds_Qi D (fun (r : Int32) (u : Unit) => r = nI 1) (fun u : Unit => []) (va_A [] sz)) 0 0 (va_A [] sz) := by
  refine ds_enter (Qf := (fun A9 => ds_Qi D (fun (r : Int32) (u : Unit) => r = nI 1) (fun u : Unit => []) A9)) (cc := cX5_bad) (maxL := 2) (ret := (some .boolean)) (by decide) rfl (Nat.le_of_ble_eq_true rfl) ?_
  intro Pp Ee Ss Mm Aa Bb Me Cc hx hb hml hr ht hown hlk hnm A H locs hA hP hD hS hK ls hl
  have hl : lv_has ls 2 [(0, .int x), (1, .int y)] := hl
  change Ss.vm.findClass RX5 = some Mm.cls at hown
  refine lv_iload_n hx hb dX5_bad_0 rfl (lv_at hl 0 rfl) ?_
  refine lv_iconst (v := nI 4) hx hb dX5_bad_1 (by decide +kernel) ?_
  refine lv_icmp_lt (tgt := 22) hx hb dX5_bad_2 (by decide) (fun h5 => ?_) (fun h5 => ?_)
  ·
    refine lv_iconst (v := nI 1) hx hb dX5_bad_22 (by decide +kernel) ?_
    refine lv_goto (tgt := 27) hx hb dX5_bad_23 (by decide) ?_
    exact ds_iret hx hb hr hlk (by decide +kernel) () rfl hP hD hS (Nat.le_of_ble_eq_true rfl) (Nat.le_of_ble_eq_true rfl) dX5_bad_27
  ·
    refine lv_iload_n hx hb dX5_bad_5 rfl (lv_at hl 0 rfl) ?_
    refine lv_sipush (v := nI 256) hx hb dX5_bad_6 (by decide +kernel) ?_
    refine lv_icmp_gt (tgt := 22) hx hb dX5_bad_9 (by decide) (fun h6 => ?_) (fun h6 => ?_)
    ·
      refine lv_iconst (v := nI 1) hx hb dX5_bad_22 (by decide +kernel) ?_
      refine lv_goto (tgt := 27) hx hb dX5_bad_23 (by decide) ?_
      exact ds_iret hx hb hr hlk (by decide +kernel) () rfl hP hD hS (Nat.le_of_ble_eq_true rfl) (Nat.le_of_ble_eq_true rfl) dX5_bad_27
    ·
      refine lv_iload_n hx hb dX5_bad_12 rfl (lv_at hl 1 rfl) ?_
      refine lv_if_lt (tgt := 22) hx hb dX5_bad_13 (by decide) (fun h7 => ?_) (fun h7 => ?_)
      ·
        refine lv_iconst (v := nI 1) hx hb dX5_bad_22 (by decide +kernel) ?_
        refine lv_goto (tgt := 27) hx hb dX5_bad_23 (by decide) ?_
        exact ds_iret hx hb hr hlk (by decide +kernel) () rfl hP hD hS (Nat.le_of_ble_eq_true rfl) (Nat.le_of_ble_eq_true rfl) dX5_bad_27
      ·
        refine lv_iload_n hx hb dX5_bad_16 rfl (lv_at hl 1 rfl) ?_
        refine lv_bipush (v := nI 64) hx hb dX5_bad_17 (by decide +kernel) ?_
        refine lv_icmp_le (tgt := 26) hx hb dX5_bad_19 (by decide) (fun h8 => ?_) (fun h8 => ?_)
        ·
          rcases h1 with g | g | g | g
          · exact absurd g h5
          · exact absurd g h6
          · exact absurd g h7
          · exact absurd g (Int32.not_lt.mpr h8)
        ·
          refine lv_iconst (v := nI 1) hx hb dX5_bad_22 (by decide +kernel) ?_
          refine lv_goto (tgt := 27) hx hb dX5_bad_23 (by decide) ?_
          exact ds_iret hx hb hr hlk (by decide +kernel) () rfl hP hD hS (Nat.le_of_ble_eq_true rfl) (Nat.le_of_ble_eq_true rfl) dX5_bad_27
set_option maxHeartbeats 4000000 in
set_option maxRecDepth 100000 in
theorem m_lacks00 (Ll : Launch) (D : va_G) (cI cL : ClassId) (mo : Nat) (aO : Nat) (aT : Nat) (aM : Nat) (aZ : Nat) (aY : Nat) (aK : Nat) (aF : Nat) (aL : Nat) (er : Int32) (c : Nat) (isd : Int32) (wd : Int32) (Z : Nat → Int32) (lo : Nat) (p : Nat) (k : Nat) (hZ : Z 0 = nI lo) (h1 : lo ≤ 1200) (h2 : p + k ≤ lo) (sz : Nat) : Met Ll yX5_lacks wsX5_lacks { frames := 0, cells := 0, slots := 0, locals := 0 } (ds_P D cI cL [.ref mo, .int (nI 0), .int (nI p), .int (nI k)] [(mo, .inr (5, [.int er, .ref aO, .ref aT, .ref aM, .ref aZ, .ref aY, .ref aK, .ref aF, .ref aL, .int (nI c), .int isd, .int wd])), (aZ, .inl (cI, 2, .inl Z))] sz) (ds_Qi D (fun (r : Int32) (u : Unit) => r = nI 0) (fun u : Unit => [(mo, .inr (5, [.int er, .ref aO, .ref aT, .ref aM, .ref aZ, .ref aY, .ref aK, .ref aF, .ref aL, .int (nI c), .int isd, .int wd])), (aZ, .inl (cI, 2, .inl Z))]) (va_A [(mo, .inr (5, [.int er, .ref aO, .ref aT, .ref aM, .ref aZ, .ref aY, .ref aK, .ref aF, .ref aL, .int (nI c), .int isd, .int wd])), (aZ, .inl (cI, 2, .inl Z))] sz)) 0 0 (va_A [(mo, .inr (5, [.int er, .ref aO, .ref aT, .ref aM, .ref aZ, .ref aY, .ref aK, .ref aF, .ref aL, .int (nI c), .int isd, .int wd])), (aZ, .inl (cI, 2, .inl Z))] sz) := by
  refine ds_enter (Qf := (fun A9 => ds_Qi D (fun (r : Int32) (u : Unit) => r = nI 0) (fun u : Unit => [(mo, .inr (5, [.int er, .ref aO, .ref aT, .ref aM, .ref aZ, .ref aY, .ref aK, .ref aF, .ref aL, .int (nI c), .int isd, .int wd])), (aZ, .inl (cI, 2, .inl Z))]) A9)) (cc := cX5_lacks) (maxL := 4) (ret := (some .boolean)) (by decide) rfl (Nat.le_of_ble_eq_true rfl) ?_
  intro Pp Ee Ss Mm Aa Bb Me Cc hx hb hml hr ht hown hlk hnm A H locs hA hP hD hS hK ls hl
  have hl : lv_has ls 4 [(0, .ref mo), (1, .int (nI 0)), (2, .int (nI p)), (3, .int (nI k))] := hl
  change Ss.vm.findClass RX5 = some Mm.cls at hown
  refine lv_iload_n hx hb dX5_lacks_0 rfl (lv_at hl 3 rfl) ?_
  refine lv_if_lt (tgt := 30) hx hb dX5_lacks_1 (by decide) (fun h9 => ?_) (fun h9 => ?_)
  ·
    rw [← nI_0] at h9
    have h9 : k < 0 := (nI_ltI (a := k) (b := 0) (by omega) (by omega)).mp h9
    exfalso; omega
  ·
    rw [← nI_0] at h9
    have h9 : ¬ k < 0 := fun z9 => h9 ((nI_ltI (a := k) (b := 0) (by omega) (by omega)).mpr z9)
    refine lv_iload_n hx hb dX5_lacks_4 rfl (lv_at hl 2 rfl) ?_
    refine lv_if_lt (tgt := 30) hx hb dX5_lacks_5 (by decide) (fun h8 => ?_) (fun h8 => ?_)
    ·
      rw [← nI_0] at h8
      have h8 : p < 0 := (nI_ltI (a := p) (b := 0) (by omega) (by omega)).mp h8
      exfalso; omega
    ·
      rw [← nI_0] at h8
      have h8 : ¬ p < 0 := fun z9 => h8 ((nI_ltI (a := p) (b := 0) (by omega) (by omega)).mpr z9)
      refine lv_iload_n hx hb dX5_lacks_8 rfl (lv_at hl 2 rfl) ?_
      refine lv_aload_n hx hb dX5_lacks_9 rfl (lv_at hl 0 rfl) ?_
      refine va_get (D := D) (ci := 5) (v := .ref aZ) (C := RX5) (T := TX5) (N := 12) hx hb ht inA_X5 hown hK.1 hP 0 rfl rfl 4 (by decide) (ht _ iw_125) (fun _ h9 => h9) rfl dX5_lacks_10 ?_
      refine lv_iload_n hx hb dX5_lacks_13 rfl (lv_at hl 1 rfl) ?_
      refine ds_iald (k := 0) hx hb hK hP 1 rfl (by omega) (by omega) dX5_lacks_14 ?_
      refine ds_top (z := nI lo) hZ ?_
      refine lv_icmp_gt (tgt := 30) hx hb dX5_lacks_15 (by decide) (fun h7 => ?_) (fun h7 => ?_)
      ·
        have h7 : lo < p := (nI_ltI (a := lo) (b := p) (by omega) (by omega)).mp h7
        exfalso; omega
      ·
        have h7 : ¬ lo < p := fun z9 => h7 ((nI_ltI (a := lo) (b := p) (by omega) (by omega)).mpr z9)
        refine lv_iload_n hx hb dX5_lacks_18 rfl (lv_at hl 3 rfl) ?_
        refine lv_aload_n hx hb dX5_lacks_19 rfl (lv_at hl 0 rfl) ?_
        refine va_get (D := D) (ci := 5) (v := .ref aZ) (C := RX5) (T := TX5) (N := 12) hx hb ht inA_X5 hown hK.1 hP 0 rfl rfl 4 (by decide) (ht _ iw_125) (fun _ h9 => h9) rfl dX5_lacks_20 ?_
        refine lv_iload_n hx hb dX5_lacks_23 rfl (lv_at hl 1 rfl) ?_
        refine ds_iald (k := 0) hx hb hK hP 1 rfl (by omega) (by omega) dX5_lacks_24 ?_
        refine ds_top (z := nI lo) hZ ?_
        refine lv_iload_n hx hb dX5_lacks_25 rfl (lv_at hl 2 rfl) ?_
        refine lv_isub hx hb dX5_lacks_26 ?_
        refine ds_top (z := nI (lo - p)) (pk_sub (by omega)) ?_
        refine lv_icmp_le (tgt := 34) hx hb dX5_lacks_27 (by decide) (fun h => ?_) (fun h => ?_)
        ·
          have h : k ≤ (lo - p) := (nI_leI (a := k) (b := (lo - p)) (by omega) (by omega)).mp h
          refine lv_iconst (v := nI 0) hx hb dX5_lacks_34 (by decide +kernel) ?_
          exact ds_iret hx hb hr hlk (by decide +kernel) () rfl hP hD hS (Nat.le_of_ble_eq_true rfl) (Nat.le_of_ble_eq_true rfl) dX5_lacks_35
        ·
          have h : ¬ k ≤ (lo - p) := fun z9 => h ((nI_leI (a := k) (b := (lo - p)) (by omega) (by omega)).mpr z9)
          exfalso; omega
