set_option maxHeartbeats 4000000 in
set_option maxRecDepth 100000 in
theorem c_X5_count (Ll : Launch) (D : va_G) (cI cL : ClassId) (mo : Nat) (aO : Nat) (aT : Nat) (aM : Nat) (aZ : Nat) (aY : Nat) (aK : Nat) (aF : Nat) (aL : Nat) (er : Int32) (c : Nat) (isd : Int32) (wd : Int32) (Z : Nat → Int32) (lo : Nat) (ln : Nat) (y : Int32) (hZ0 : Z 0 = nI lo) (hZ1 : Z 1 = nI ln) (sz : Nat) : Met Ll yX5_count wsX5_count { frames := 1, cells := 0, slots := 0, locals := 22 } (ds_P D cI cL [.ref mo, .int y] [(mo, .inr (5, [.int er, .ref aO, .ref aT, .ref aM, .ref aZ, .ref aY, .ref aK, .ref aF, .ref aL, .int (nI c), .int isd, .int wd])), (aZ, .inl (cI, 2, .inl Z))] sz) (ds_Qi D (fun (r : Int32) (u : Int32) => u = e_count y ∧ (e_count y = 0 → r = v_count y lo ln c)) (fun u : Int32 => [(mo, .inr (5, [.int u, .ref aO, .ref aT, .ref aM, .ref aZ, .ref aY, .ref aK, .ref aF, .ref aL, .int (nI c), .int isd, .int wd])), (aZ, .inl (cI, 2, .inl Z))]) (va_A [(mo, .inr (5, [.int er, .ref aO, .ref aT, .ref aM, .ref aZ, .ref aY, .ref aK, .ref aF, .ref aL, .int (nI c), .int isd, .int wd])), (aZ, .inl (cI, 2, .inl Z))] sz)) 0 0 (va_A [(mo, .inr (5, [.int er, .ref aO, .ref aT, .ref aM, .ref aZ, .ref aY, .ref aK, .ref aF, .ref aL, .int (nI c), .int isd, .int wd])), (aZ, .inl (cI, 2, .inl Z))] sz) := by
  refine ds_enter (Qf := (fun A9 => ds_Qi D (fun (r : Int32) (u : Int32) => u = e_count y ∧ (e_count y = 0 → r = v_count y lo ln c)) (fun u : Int32 => [(mo, .inr (5, [.int u, .ref aO, .ref aT, .ref aM, .ref aZ, .ref aY, .ref aK, .ref aF, .ref aL, .int (nI c), .int isd, .int wd])), (aZ, .inl (cI, 2, .inl Z))]) A9)) (cc := cX5_count) (maxL := 2) (ret := (some .int)) (by decide) rfl (Nat.le_of_ble_eq_true rfl) ?_
  intro Pp Ee Ss Mm Aa Bb Me Cc hx hb hml hr ht hown hlk hnm A H locs hA hP hD hS hK ls hl
  have hl : lv_has ls 2 [(0, .ref mo), (1, .int y)] := hl
  change Ss.vm.findClass RX5 = some Mm.cls at hown
  by_cases hw : wok y
  ·
    have hwo := hw
    rcases wok_nat hw with rfl | rfl | rfl
    ·
      have hl : lv_has ls 2 [(0, .ref mo), (1, .int (nI 0))] := hl
      refine lv_aload_n hx hb dX5_count_0 rfl (lv_at hl 0 rfl) ?_
      refine lv_iload_n hx hb dX5_count_1 rfl (lv_at hl 1 rfl) ?_
      refine lv_if_lt (tgt := 10) hx hb dX5_count_2 (by decide) (fun h => ?_) (fun h => ?_)
      ·
        rw [← nI_0] at h
        have h : 0 < 0 := (nI_ltI (a := 0) (b := 0) (by omega) (by omega)).mp h
        exact absurd h (by decide)
      ·
        rw [← nI_0] at h
        have h : ¬ 0 < 0 := fun z9 => h ((nI_ltI (a := 0) (b := 0) (by omega) (by omega)).mpr z9)
        refine lv_iload_n hx hb dX5_count_5 rfl (lv_at hl 1 rfl) ?_
        refine lv_iconst (v := nI 2) hx hb dX5_count_6 (by decide +kernel) ?_
        refine lv_icmp_le (tgt := 14) hx hb dX5_count_7 (by decide) (fun h => ?_) (fun h => ?_)
        ·
          have h : 0 ≤ 2 := (nI_leI (a := 0) (b := 2) (by omega) (by omega)).mp h
          refine lv_iconst (v := nI 0) hx hb dX5_count_14 (by decide +kernel) ?_
          refine lv_iconst (v := nI 1) hx hb dX5_count_15 (by decide +kernel) ?_
          refine ds_calli (wc := [(mo, .inr (5, [.int er, .ref aO, .ref aT, .ref aM, .ref aZ, .ref aY, .ref aK, .ref aF, .ref aL, .int (nI c), .int isd, .int wd]))]) (wr := [(aZ, .inl (cI, 2, .inl Z))]) (wo := (fun u2 : Unit => [(mo, .inr (5, [.int (nI 0), .ref aO, .ref aT, .ref aM, .ref aZ, .ref aY, .ref aK, .ref aF, .ref aL, .int (nI c), .int isd, .int wd]))])) (wn := (fun u2 : Unit => [(mo, .inr (5, [.int (nI 0), .ref aO, .ref aT, .ref aM, .ref aZ, .ref aY, .ref aK, .ref aF, .ref aL, .int (nI c), .int isd, .int wd])), (aZ, .inl (cI, 2, .inl Z))])) (isC := [0]) (isR := [1]) hP hD hS hA ⟨rfl, rfl, by decide, by decide, by decide⟩ [1, 0] (by decide) (fun _ => rfl) (fun hPc hDc => va_runV (As := [.int (nI 0), .int (nI 1)]) (rest := []) ⟨hx, hb, hml, hown, ht⟩ (m_fails0 Ll D cI cL mo aO aT aM aZ aY aK aF aL er c isd wd 1  H.size) ⟨(callB_of 2 ht g_X5_fails rfl rfl rfl (ht _ iw_136) (ht _ iw_138) hd_X5_fails ⟨Nat.le_of_ble_eq_true rfl, Nat.le_of_ble_eq_true rfl⟩), (ht _ iw_139), (ht _ iw_140)⟩ (ds_pV hPc hDc hK (q0 := 0) rfl rfl) rfl rfl hl.1 rfl (lv_room (Nat.le_of_ble_eq_true rfl)) dX5_count_16 ⟨Nat.le_of_ble_eq_true rfl, Nat.le_of_ble_eq_true rfl⟩) (fun r1 u2 H locs hp3 hP hD hS => ?_)
          have hP : va_P D vwCl [(mo, .inr (5, [.int (nI 0), .ref aO, .ref aT, .ref aM, .ref aZ, .ref aY, .ref aK, .ref aF, .ref aL, .int (nI c), .int isd, .int wd])), (aZ, .inl (cI, 2, .inl Z))] H := hP
          have hD : va_D A [(mo, .inr (5, [.int (nI 0), .ref aO, .ref aT, .ref aM, .ref aZ, .ref aY, .ref aK, .ref aF, .ref aL, .int (nI c), .int isd, .int wd])), (aZ, .inl (cI, 2, .inl Z))] := hD
          have hp3 : r1 = nI 0 := hp3
          replace hp3 := Eq.symm hp3
          subst hp3
          refine lv_if_eq (tgt := 24) hx hb dX5_count_19 (by decide) (fun h => ?_) (fun h => ?_)
          ·
            rw [← nI_0] at h
            have h : 0 = 0 := (nI_eq (a := 0) (b := 0) (by omega) (by omega)).mp h
            refine lv_iload_n hx hb dX5_count_24 rfl (lv_at hl 1 rfl) ?_
            refine lv_iconst (v := nI 2) hx hb dX5_count_25 (by decide +kernel) ?_
            refine lv_icmp_ne (tgt := 36) hx hb dX5_count_26 (by decide) (fun h => ?_) (fun h => ?_)
            ·
              have h : ¬ 0 = 2 := fun z9 => h ((nI_eq (a := 0) (b := 2) (by omega) (by omega)).mpr z9)
              refine lv_aload_n hx hb dX5_count_36 rfl (lv_at hl 0 rfl) ?_
              refine va_get (D := D) (ci := 5) (v := .ref aZ) (C := RX5) (T := TX5) (N := 12) hx hb ht inA_X5 hown hK.1 hP 0 rfl rfl 4 (by decide) (ht _ iw_125) (fun _ h9 => h9) rfl dX5_count_37 ?_
              refine lv_iload_n hx hb dX5_count_40 rfl (lv_at hl 1 rfl) ?_
              refine ds_iald (k := 0) hx hb hK hP 1 rfl (by omega) (by omega) dX5_count_41 ?_
              refine ds_top (z := nI lo) hZ0 ?_
              exact ds_iret hx hb hr hlk rfl (nI 0) ⟨(if_pos hwo).symm, fun _ => v_count_0.symm⟩ hP hD hS (Nat.le_of_ble_eq_true rfl) (Nat.le_of_ble_eq_true rfl) dX5_count_42
            ·
              have h : 0 = 2 := (nI_eq (a := 0) (b := 2) (by omega) (by omega)).mp h
              exact absurd h (by decide)
          ·
            rw [← nI_0] at h
            have h : ¬ 0 = 0 := fun z9 => h ((nI_eq (a := 0) (b := 0) (by omega) (by omega)).mpr z9)
            exact absurd rfl h
        ·
          have h : ¬ 0 ≤ 2 := fun z9 => h ((nI_leI (a := 0) (b := 2) (by omega) (by omega)).mpr z9)
          exact absurd (by decide) h
    ·
      have hl : lv_has ls 2 [(0, .ref mo), (1, .int (nI 1))] := hl
      refine lv_aload_n hx hb dX5_count_0 rfl (lv_at hl 0 rfl) ?_
      refine lv_iload_n hx hb dX5_count_1 rfl (lv_at hl 1 rfl) ?_
      refine lv_if_lt (tgt := 10) hx hb dX5_count_2 (by decide) (fun h => ?_) (fun h => ?_)
      ·
        rw [← nI_0] at h
        have h : 1 < 0 := (nI_ltI (a := 1) (b := 0) (by omega) (by omega)).mp h
        exact absurd h (by decide)
      ·
        rw [← nI_0] at h
        have h : ¬ 1 < 0 := fun z9 => h ((nI_ltI (a := 1) (b := 0) (by omega) (by omega)).mpr z9)
        refine lv_iload_n hx hb dX5_count_5 rfl (lv_at hl 1 rfl) ?_
        refine lv_iconst (v := nI 2) hx hb dX5_count_6 (by decide +kernel) ?_
        refine lv_icmp_le (tgt := 14) hx hb dX5_count_7 (by decide) (fun h => ?_) (fun h => ?_)
        ·
          have h : 1 ≤ 2 := (nI_leI (a := 1) (b := 2) (by omega) (by omega)).mp h
          refine lv_iconst (v := nI 0) hx hb dX5_count_14 (by decide +kernel) ?_
          refine lv_iconst (v := nI 1) hx hb dX5_count_15 (by decide +kernel) ?_
          refine ds_calli (wc := [(mo, .inr (5, [.int er, .ref aO, .ref aT, .ref aM, .ref aZ, .ref aY, .ref aK, .ref aF, .ref aL, .int (nI c), .int isd, .int wd]))]) (wr := [(aZ, .inl (cI, 2, .inl Z))]) (wo := (fun u5 : Unit => [(mo, .inr (5, [.int (nI 0), .ref aO, .ref aT, .ref aM, .ref aZ, .ref aY, .ref aK, .ref aF, .ref aL, .int (nI c), .int isd, .int wd]))])) (wn := (fun u5 : Unit => [(mo, .inr (5, [.int (nI 0), .ref aO, .ref aT, .ref aM, .ref aZ, .ref aY, .ref aK, .ref aF, .ref aL, .int (nI c), .int isd, .int wd])), (aZ, .inl (cI, 2, .inl Z))])) (isC := [0]) (isR := [1]) hP hD hS hA ⟨rfl, rfl, by decide, by decide, by decide⟩ [1, 0] (by decide) (fun _ => rfl) (fun hPc hDc => va_runV (As := [.int (nI 0), .int (nI 1)]) (rest := []) ⟨hx, hb, hml, hown, ht⟩ (m_fails0 Ll D cI cL mo aO aT aM aZ aY aK aF aL er c isd wd 1  H.size) ⟨(callB_of 2 ht g_X5_fails rfl rfl rfl (ht _ iw_136) (ht _ iw_138) hd_X5_fails ⟨Nat.le_of_ble_eq_true rfl, Nat.le_of_ble_eq_true rfl⟩), (ht _ iw_139), (ht _ iw_140)⟩ (ds_pV hPc hDc hK (q0 := 0) rfl rfl) rfl rfl hl.1 rfl (lv_room (Nat.le_of_ble_eq_true rfl)) dX5_count_16 ⟨Nat.le_of_ble_eq_true rfl, Nat.le_of_ble_eq_true rfl⟩) (fun r4 u5 H locs hp6 hP hD hS => ?_)
          have hP : va_P D vwCl [(mo, .inr (5, [.int (nI 0), .ref aO, .ref aT, .ref aM, .ref aZ, .ref aY, .ref aK, .ref aF, .ref aL, .int (nI c), .int isd, .int wd])), (aZ, .inl (cI, 2, .inl Z))] H := hP
          have hD : va_D A [(mo, .inr (5, [.int (nI 0), .ref aO, .ref aT, .ref aM, .ref aZ, .ref aY, .ref aK, .ref aF, .ref aL, .int (nI c), .int isd, .int wd])), (aZ, .inl (cI, 2, .inl Z))] := hD
          have hp6 : r4 = nI 0 := hp6
          replace hp6 := Eq.symm hp6
          subst hp6
          refine lv_if_eq (tgt := 24) hx hb dX5_count_19 (by decide) (fun h => ?_) (fun h => ?_)
          ·
            rw [← nI_0] at h
            have h : 0 = 0 := (nI_eq (a := 0) (b := 0) (by omega) (by omega)).mp h
            refine lv_iload_n hx hb dX5_count_24 rfl (lv_at hl 1 rfl) ?_
            refine lv_iconst (v := nI 2) hx hb dX5_count_25 (by decide +kernel) ?_
            refine lv_icmp_ne (tgt := 36) hx hb dX5_count_26 (by decide) (fun h => ?_) (fun h => ?_)
            ·
              have h : ¬ 1 = 2 := fun z9 => h ((nI_eq (a := 1) (b := 2) (by omega) (by omega)).mpr z9)
              refine lv_aload_n hx hb dX5_count_36 rfl (lv_at hl 0 rfl) ?_
              refine va_get (D := D) (ci := 5) (v := .ref aZ) (C := RX5) (T := TX5) (N := 12) hx hb ht inA_X5 hown hK.1 hP 0 rfl rfl 4 (by decide) (ht _ iw_125) (fun _ h9 => h9) rfl dX5_count_37 ?_
              refine lv_iload_n hx hb dX5_count_40 rfl (lv_at hl 1 rfl) ?_
              refine ds_iald (k := 1) hx hb hK hP 1 rfl (by omega) (by omega) dX5_count_41 ?_
              refine ds_top (z := nI ln) hZ1 ?_
              exact ds_iret hx hb hr hlk rfl (nI 0) ⟨(if_pos hwo).symm, fun _ => v_count_1.symm⟩ hP hD hS (Nat.le_of_ble_eq_true rfl) (Nat.le_of_ble_eq_true rfl) dX5_count_42
            ·
              have h : 1 = 2 := (nI_eq (a := 1) (b := 2) (by omega) (by omega)).mp h
              exact absurd h (by decide)
          ·
            rw [← nI_0] at h
            have h : ¬ 0 = 0 := fun z9 => h ((nI_eq (a := 0) (b := 0) (by omega) (by omega)).mpr z9)
            exact absurd rfl h
        ·
          have h : ¬ 1 ≤ 2 := fun z9 => h ((nI_leI (a := 1) (b := 2) (by omega) (by omega)).mpr z9)
          exact absurd (by decide) h
    ·
      have hl : lv_has ls 2 [(0, .ref mo), (1, .int (nI 2))] := hl
      refine lv_aload_n hx hb dX5_count_0 rfl (lv_at hl 0 rfl) ?_
      refine lv_iload_n hx hb dX5_count_1 rfl (lv_at hl 1 rfl) ?_
      refine lv_if_lt (tgt := 10) hx hb dX5_count_2 (by decide) (fun h => ?_) (fun h => ?_)
      ·
        rw [← nI_0] at h
        have h : 2 < 0 := (nI_ltI (a := 2) (b := 0) (by omega) (by omega)).mp h
        exact absurd h (by decide)
      ·
        rw [← nI_0] at h
        have h : ¬ 2 < 0 := fun z9 => h ((nI_ltI (a := 2) (b := 0) (by omega) (by omega)).mpr z9)
        refine lv_iload_n hx hb dX5_count_5 rfl (lv_at hl 1 rfl) ?_
        refine lv_iconst (v := nI 2) hx hb dX5_count_6 (by decide +kernel) ?_
        refine lv_icmp_le (tgt := 14) hx hb dX5_count_7 (by decide) (fun h => ?_) (fun h => ?_)
        ·
          have h : 2 ≤ 2 := (nI_leI (a := 2) (b := 2) (by omega) (by omega)).mp h
          refine lv_iconst (v := nI 0) hx hb dX5_count_14 (by decide +kernel) ?_
          refine lv_iconst (v := nI 1) hx hb dX5_count_15 (by decide +kernel) ?_
          refine ds_calli (wc := [(mo, .inr (5, [.int er, .ref aO, .ref aT, .ref aM, .ref aZ, .ref aY, .ref aK, .ref aF, .ref aL, .int (nI c), .int isd, .int wd]))]) (wr := [(aZ, .inl (cI, 2, .inl Z))]) (wo := (fun u8 : Unit => [(mo, .inr (5, [.int (nI 0), .ref aO, .ref aT, .ref aM, .ref aZ, .ref aY, .ref aK, .ref aF, .ref aL, .int (nI c), .int isd, .int wd]))])) (wn := (fun u8 : Unit => [(mo, .inr (5, [.int (nI 0), .ref aO, .ref aT, .ref aM, .ref aZ, .ref aY, .ref aK, .ref aF, .ref aL, .int (nI c), .int isd, .int wd])), (aZ, .inl (cI, 2, .inl Z))])) (isC := [0]) (isR := [1]) hP hD hS hA ⟨rfl, rfl, by decide, by decide, by decide⟩ [1, 0] (by decide) (fun _ => rfl) (fun hPc hDc => va_runV (As := [.int (nI 0), .int (nI 1)]) (rest := []) ⟨hx, hb, hml, hown, ht⟩ (m_fails0 Ll D cI cL mo aO aT aM aZ aY aK aF aL er c isd wd 1  H.size) ⟨(callB_of 2 ht g_X5_fails rfl rfl rfl (ht _ iw_136) (ht _ iw_138) hd_X5_fails ⟨Nat.le_of_ble_eq_true rfl, Nat.le_of_ble_eq_true rfl⟩), (ht _ iw_139), (ht _ iw_140)⟩ (ds_pV hPc hDc hK (q0 := 0) rfl rfl) rfl rfl hl.1 rfl (lv_room (Nat.le_of_ble_eq_true rfl)) dX5_count_16 ⟨Nat.le_of_ble_eq_true rfl, Nat.le_of_ble_eq_true rfl⟩) (fun r7 u8 H locs hp9 hP hD hS => ?_)
          have hP : va_P D vwCl [(mo, .inr (5, [.int (nI 0), .ref aO, .ref aT, .ref aM, .ref aZ, .ref aY, .ref aK, .ref aF, .ref aL, .int (nI c), .int isd, .int wd])), (aZ, .inl (cI, 2, .inl Z))] H := hP
          have hD : va_D A [(mo, .inr (5, [.int (nI 0), .ref aO, .ref aT, .ref aM, .ref aZ, .ref aY, .ref aK, .ref aF, .ref aL, .int (nI c), .int isd, .int wd])), (aZ, .inl (cI, 2, .inl Z))] := hD
          have hp9 : r7 = nI 0 := hp9
          replace hp9 := Eq.symm hp9
          subst hp9
          refine lv_if_eq (tgt := 24) hx hb dX5_count_19 (by decide) (fun h => ?_) (fun h => ?_)
          ·
            rw [← nI_0] at h
            have h : 0 = 0 := (nI_eq (a := 0) (b := 0) (by omega) (by omega)).mp h
            refine lv_iload_n hx hb dX5_count_24 rfl (lv_at hl 1 rfl) ?_
            refine lv_iconst (v := nI 2) hx hb dX5_count_25 (by decide +kernel) ?_
            refine lv_icmp_ne (tgt := 36) hx hb dX5_count_26 (by decide) (fun h => ?_) (fun h => ?_)
            ·
              have h : ¬ 2 = 2 := fun z9 => h ((nI_eq (a := 2) (b := 2) (by omega) (by omega)).mpr z9)
              exact absurd rfl h
            ·
              have h : 2 = 2 := (nI_eq (a := 2) (b := 2) (by omega) (by omega)).mp h
              refine lv_aload_n hx hb dX5_count_29 rfl (lv_at hl 0 rfl) ?_
              refine va_get (D := D) (ci := 5) (v := .int (nI c)) (C := RX5) (T := TX5) (N := 12) hx hb ht inA_X5 hown hK.1 hP 0 rfl rfl 9 (by decide) (ht _ iw_180) (fun _ h9 => h9) rfl dX5_count_30 ?_
              refine lv_goto (tgt := 42) hx hb dX5_count_33 (by decide) ?_
              exact ds_iret hx hb hr hlk rfl (nI 0) ⟨(if_pos hwo).symm, fun _ => v_count_2.symm⟩ hP hD hS (Nat.le_of_ble_eq_true rfl) (Nat.le_of_ble_eq_true rfl) dX5_count_42
          ·
            rw [← nI_0] at h
            have h : ¬ 0 = 0 := fun z9 => h ((nI_eq (a := 0) (b := 0) (by omega) (by omega)).mpr z9)
            exact absurd rfl h
        ·
          have h : ¬ 2 ≤ 2 := fun z9 => h ((nI_leI (a := 2) (b := 2) (by omega) (by omega)).mpr z9)
          exact absurd (by decide) h
  ·
    refine lv_aload_n hx hb dX5_count_0 rfl (lv_at hl 0 rfl) ?_
    refine lv_iload_n hx hb dX5_count_1 rfl (lv_at hl 1 rfl) ?_
    refine lv_if_lt (tgt := 10) hx hb dX5_count_2 (by decide) (fun h0 => ?_) (fun h0 => ?_)
    ·
      refine lv_iconst (v := nI 1) hx hb dX5_count_10 (by decide +kernel) ?_
      refine lv_goto (tgt := 15) hx hb dX5_count_11 (by decide) ?_
      refine lv_iconst (v := nI 1) hx hb dX5_count_15 (by decide +kernel) ?_
      refine ds_calli (wc := [(mo, .inr (5, [.int er, .ref aO, .ref aT, .ref aM, .ref aZ, .ref aY, .ref aK, .ref aF, .ref aL, .int (nI c), .int isd, .int wd]))]) (wr := [(aZ, .inl (cI, 2, .inl Z))]) (wo := (fun u11 : Unit => [(mo, .inr (5, [.int (nI 1), .ref aO, .ref aT, .ref aM, .ref aZ, .ref aY, .ref aK, .ref aF, .ref aL, .int (nI c), .int isd, .int wd]))])) (wn := (fun u11 : Unit => [(mo, .inr (5, [.int (nI 1), .ref aO, .ref aT, .ref aM, .ref aZ, .ref aY, .ref aK, .ref aF, .ref aL, .int (nI c), .int isd, .int wd])), (aZ, .inl (cI, 2, .inl Z))])) (isC := [0]) (isR := [1]) hP hD hS hA ⟨rfl, rfl, by decide, by decide, by decide⟩ [1, 0] (by decide) (fun _ => rfl) (fun hPc hDc => va_runV (As := [.int (nI 1), .int (nI 1)]) (rest := []) ⟨hx, hb, hml, hown, ht⟩ (m_fails1 Ll D cI cL mo aO aT aM aZ aY aK aF aL er c isd wd 1  H.size) ⟨(callB_of 2 ht g_X5_fails rfl rfl rfl (ht _ iw_136) (ht _ iw_138) hd_X5_fails ⟨Nat.le_of_ble_eq_true rfl, Nat.le_of_ble_eq_true rfl⟩), (ht _ iw_139), (ht _ iw_140)⟩ (ds_pV hPc hDc hK (q0 := 0) rfl rfl) rfl rfl hl.1 rfl (lv_room (Nat.le_of_ble_eq_true rfl)) dX5_count_16 ⟨Nat.le_of_ble_eq_true rfl, Nat.le_of_ble_eq_true rfl⟩) (fun r10 u11 H locs hp12 hP hD hS => ?_)
      have hP : va_P D vwCl [(mo, .inr (5, [.int (nI 1), .ref aO, .ref aT, .ref aM, .ref aZ, .ref aY, .ref aK, .ref aF, .ref aL, .int (nI c), .int isd, .int wd])), (aZ, .inl (cI, 2, .inl Z))] H := hP
      have hD : va_D A [(mo, .inr (5, [.int (nI 1), .ref aO, .ref aT, .ref aM, .ref aZ, .ref aY, .ref aK, .ref aF, .ref aL, .int (nI c), .int isd, .int wd])), (aZ, .inl (cI, 2, .inl Z))] := hD
      have hp12 : r10 = nI 1 := hp12
      replace hp12 := Eq.symm hp12
      subst hp12
      refine lv_if_eq (tgt := 24) hx hb dX5_count_19 (by decide) (fun h => ?_) (fun h => ?_)
      ·
        rw [← nI_0] at h
        have h : 1 = 0 := (nI_eq (a := 1) (b := 0) (by omega) (by omega)).mp h
        exact absurd h (by decide)
      ·
        rw [← nI_0] at h
        have h : ¬ 1 = 0 := fun z9 => h ((nI_eq (a := 1) (b := 0) (by omega) (by omega)).mpr z9)
        refine lv_iconst (v := nI 0) hx hb dX5_count_22 (by decide +kernel) ?_
        exact ds_iret hx hb hr hlk rfl (nI 1) ⟨(if_neg hw).symm, fun z => absurd (z.symm.trans (if_neg hw)) (by decide)⟩ hP hD hS (Nat.le_of_ble_eq_true rfl) (Nat.le_of_ble_eq_true rfl) dX5_count_23
    ·
      refine lv_iload_n hx hb dX5_count_5 rfl (lv_at hl 1 rfl) ?_
      refine lv_iconst (v := nI 2) hx hb dX5_count_6 (by decide +kernel) ?_
      refine lv_icmp_le (tgt := 14) hx hb dX5_count_7 (by decide) (fun h => ?_) (fun h => ?_)
      ·
        exact absurd (fun z => z.elim h0 (Int32.not_lt.mpr h)) hw
      ·
        refine lv_iconst (v := nI 1) hx hb dX5_count_10 (by decide +kernel) ?_
        refine lv_goto (tgt := 15) hx hb dX5_count_11 (by decide) ?_
        refine lv_iconst (v := nI 1) hx hb dX5_count_15 (by decide +kernel) ?_
        refine ds_calli (wc := [(mo, .inr (5, [.int er, .ref aO, .ref aT, .ref aM, .ref aZ, .ref aY, .ref aK, .ref aF, .ref aL, .int (nI c), .int isd, .int wd]))]) (wr := [(aZ, .inl (cI, 2, .inl Z))]) (wo := (fun u14 : Unit => [(mo, .inr (5, [.int (nI 1), .ref aO, .ref aT, .ref aM, .ref aZ, .ref aY, .ref aK, .ref aF, .ref aL, .int (nI c), .int isd, .int wd]))])) (wn := (fun u14 : Unit => [(mo, .inr (5, [.int (nI 1), .ref aO, .ref aT, .ref aM, .ref aZ, .ref aY, .ref aK, .ref aF, .ref aL, .int (nI c), .int isd, .int wd])), (aZ, .inl (cI, 2, .inl Z))])) (isC := [0]) (isR := [1]) hP hD hS hA ⟨rfl, rfl, by decide, by decide, by decide⟩ [1, 0] (by decide) (fun _ => rfl) (fun hPc hDc => va_runV (As := [.int (nI 1), .int (nI 1)]) (rest := []) ⟨hx, hb, hml, hown, ht⟩ (m_fails1 Ll D cI cL mo aO aT aM aZ aY aK aF aL er c isd wd 1  H.size) ⟨(callB_of 2 ht g_X5_fails rfl rfl rfl (ht _ iw_136) (ht _ iw_138) hd_X5_fails ⟨Nat.le_of_ble_eq_true rfl, Nat.le_of_ble_eq_true rfl⟩), (ht _ iw_139), (ht _ iw_140)⟩ (ds_pV hPc hDc hK (q0 := 0) rfl rfl) rfl rfl hl.1 rfl (lv_room (Nat.le_of_ble_eq_true rfl)) dX5_count_16 ⟨Nat.le_of_ble_eq_true rfl, Nat.le_of_ble_eq_true rfl⟩) (fun r13 u14 H locs hp15 hP hD hS => ?_)
        have hP : va_P D vwCl [(mo, .inr (5, [.int (nI 1), .ref aO, .ref aT, .ref aM, .ref aZ, .ref aY, .ref aK, .ref aF, .ref aL, .int (nI c), .int isd, .int wd])), (aZ, .inl (cI, 2, .inl Z))] H := hP
        have hD : va_D A [(mo, .inr (5, [.int (nI 1), .ref aO, .ref aT, .ref aM, .ref aZ, .ref aY, .ref aK, .ref aF, .ref aL, .int (nI c), .int isd, .int wd])), (aZ, .inl (cI, 2, .inl Z))] := hD
        have hp15 : r13 = nI 1 := hp15
        replace hp15 := Eq.symm hp15
        subst hp15
        refine lv_if_eq (tgt := 24) hx hb dX5_count_19 (by decide) (fun h => ?_) (fun h => ?_)
        ·
          rw [← nI_0] at h
          have h : 1 = 0 := (nI_eq (a := 1) (b := 0) (by omega) (by omega)).mp h
          exact absurd h (by decide)
        ·
          rw [← nI_0] at h
          have h : ¬ 1 = 0 := fun z9 => h ((nI_eq (a := 1) (b := 0) (by omega) (by omega)).mpr z9)
          refine lv_iconst (v := nI 0) hx hb dX5_count_22 (by decide +kernel) ?_
          exact ds_iret hx hb hr hlk rfl (nI 1) ⟨(if_neg hw).symm, fun z => absurd (z.symm.trans (if_neg hw)) (by decide)⟩ hP hD hS (Nat.le_of_ble_eq_true rfl) (Nat.le_of_ble_eq_true rfl) dX5_count_23
