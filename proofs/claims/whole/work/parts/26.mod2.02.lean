set_option maxHeartbeats 4000000 in
set_option maxRecDepth 100000 in
theorem c_X5_octet (Ll : Launch) (D : va_G) (cI cL : ClassId) (mo : Nat) (aO : Nat) (aT : Nat) (aM : Nat) (aZ : Nat) (aY : Nat) (aK : Nat) (aF : Nat) (aL : Nat) (er : Int32) (c : Nat) (isd : Int32) (wd : Int32) (O : Nat → Int32) (Z : Nat → Int32) (lo : Nat) (ln : Nat) (fo : Nat → Int32) (fn : Nat → Int32) (x : Int32) (y : Int32) (hR : mR lo ln fo fn O Z) (sz : Nat) : Met Ll yX5_octet wsX5_octet { frames := 1, cells := 0, slots := 0, locals := 22 } (ds_P D cI cL [.ref mo, .int x, .int y] [(mo, .inr (5, [.int er, .ref aO, .ref aT, .ref aM, .ref aZ, .ref aY, .ref aK, .ref aF, .ref aL, .int (nI c), .int isd, .int wd])), (aO, .inl (cI, 2400, .inl O)), (aZ, .inl (cI, 2, .inl Z))] sz) (ds_Qi D (fun (r : Int32) (u : Int32) => u = e_put x y lo ln ∧ (e_put x y lo ln = 0 → r = v_octet x y (lo, fo, ln, fn))) (fun u : Int32 => [(mo, .inr (5, [.int u, .ref aO, .ref aT, .ref aM, .ref aZ, .ref aY, .ref aK, .ref aF, .ref aL, .int (nI c), .int isd, .int wd])), (aO, .inl (cI, 2400, .inl O)), (aZ, .inl (cI, 2, .inl Z))]) (va_A [(mo, .inr (5, [.int er, .ref aO, .ref aT, .ref aM, .ref aZ, .ref aY, .ref aK, .ref aF, .ref aL, .int (nI c), .int isd, .int wd])), (aO, .inl (cI, 2400, .inl O)), (aZ, .inl (cI, 2, .inl Z))] sz)) 0 0 (va_A [(mo, .inr (5, [.int er, .ref aO, .ref aT, .ref aM, .ref aZ, .ref aY, .ref aK, .ref aF, .ref aL, .int (nI c), .int isd, .int wd])), (aO, .inl (cI, 2400, .inl O)), (aZ, .inl (cI, 2, .inl Z))] sz) := by
  refine ds_enter (Qf := (fun A9 => ds_Qi D (fun (r : Int32) (u : Int32) => u = e_put x y lo ln ∧ (e_put x y lo ln = 0 → r = v_octet x y (lo, fo, ln, fn))) (fun u : Int32 => [(mo, .inr (5, [.int u, .ref aO, .ref aT, .ref aM, .ref aZ, .ref aY, .ref aK, .ref aF, .ref aL, .int (nI c), .int isd, .int wd])), (aO, .inl (cI, 2400, .inl O)), (aZ, .inl (cI, 2, .inl Z))]) A9)) (cc := cX5_octet) (maxL := 3) (ret := (some .int)) (by decide) rfl (Nat.le_of_ble_eq_true rfl) ?_
  intro Pp Ee Ss Mm Aa Bb Me Cc hx hb hml hr ht hown hlk hnm A H locs hA hP hD hS hK ls hl
  have hl : lv_has ls 3 [(0, .ref mo), (1, .int x), (2, .int y)] := hl
  change Ss.vm.findClass RX5 = some Mm.cls at hown
  have hZ := mR_len hR
  by_cases hrk : rok x
  ·
    have hro := hrk
    rcases hrk with rfl | rfl
    ·
      have hl : lv_has ls 3 [(0, .ref mo), (1, .int (nI 0)), (2, .int y)] := hl
      refine lv_aload_n hx hb dX5_octet_0 rfl (lv_at hl 0 rfl) ?_
      refine lv_iload_n hx hb dX5_octet_1 rfl (lv_at hl 1 rfl) ?_
      refine ds_calli (wc := []) (wr := [(mo, .inr (5, [.int er, .ref aO, .ref aT, .ref aM, .ref aZ, .ref aY, .ref aK, .ref aF, .ref aL, .int (nI c), .int isd, .int wd])), (aO, .inl (cI, 2400, .inl O)), (aZ, .inl (cI, 2, .inl Z))]) (wo := (fun u2 : Unit => [])) (wn := (fun u2 : Unit => [(mo, .inr (5, [.int er, .ref aO, .ref aT, .ref aM, .ref aZ, .ref aY, .ref aK, .ref aF, .ref aL, .int (nI c), .int isd, .int wd])), (aO, .inl (cI, 2400, .inl O)), (aZ, .inl (cI, 2, .inl Z))])) (isC := []) (isR := [0, 1, 2]) hP hD hS hA ⟨rfl, rfl, by decide, by decide, by decide⟩ [0, 1, 2] (by decide) (fun _ => rfl) (fun hPc hDc => va_runS (As := [.int (nI 0)]) (rest := [.ref mo]) ⟨hx, hb, hml, hown, ht⟩ (m_no0 Ll D cI cL 0 (by decide) H.size) ⟨(callB_of 1 ht g_X5_no rfl rfl rfl (ht _ iw_136) (ht _ iw_135) hd_X5_no ⟨Nat.le_of_ble_eq_true rfl, Nat.le_of_ble_eq_true rfl⟩), (ht _ iw_137)⟩ (ds_pS hPc hDc hK) rfl rfl hl.1 rfl (lv_room (Nat.le_of_ble_eq_true rfl)) dX5_octet_2 ⟨Nat.le_of_ble_eq_true rfl, Nat.le_of_ble_eq_true rfl⟩) (fun r1 u2 H locs hp3 hP hD hS => ?_)
      have hP : va_P D vwCl [(mo, .inr (5, [.int er, .ref aO, .ref aT, .ref aM, .ref aZ, .ref aY, .ref aK, .ref aF, .ref aL, .int (nI c), .int isd, .int wd])), (aO, .inl (cI, 2400, .inl O)), (aZ, .inl (cI, 2, .inl Z))] H := hP
      have hD : va_D A [(mo, .inr (5, [.int er, .ref aO, .ref aT, .ref aM, .ref aZ, .ref aY, .ref aK, .ref aF, .ref aL, .int (nI c), .int isd, .int wd])), (aO, .inl (cI, 2400, .inl O)), (aZ, .inl (cI, 2, .inl Z))] := hD
      have hp3 : r1 = nI 0 := hp3
      replace hp3 := Eq.symm hp3
      subst hp3
      refine lv_iconst (v := nI 1) hx hb dX5_octet_5 (by decide +kernel) ?_
      refine ds_calli (wc := [(mo, .inr (5, [.int er, .ref aO, .ref aT, .ref aM, .ref aZ, .ref aY, .ref aK, .ref aF, .ref aL, .int (nI c), .int isd, .int wd]))]) (wr := [(aO, .inl (cI, 2400, .inl O)), (aZ, .inl (cI, 2, .inl Z))]) (wo := (fun u5 : Unit => [(mo, .inr (5, [.int (nI 0), .ref aO, .ref aT, .ref aM, .ref aZ, .ref aY, .ref aK, .ref aF, .ref aL, .int (nI c), .int isd, .int wd]))])) (wn := (fun u5 : Unit => [(mo, .inr (5, [.int (nI 0), .ref aO, .ref aT, .ref aM, .ref aZ, .ref aY, .ref aK, .ref aF, .ref aL, .int (nI c), .int isd, .int wd])), (aO, .inl (cI, 2400, .inl O)), (aZ, .inl (cI, 2, .inl Z))])) (isC := [0]) (isR := [1, 2]) hP hD hS hA ⟨rfl, rfl, by decide, by decide, by decide⟩ [2, 0, 1] (by decide) (fun _ => rfl) (fun hPc hDc => va_runV (As := [.int (nI 0), .int (nI 1)]) (rest := []) ⟨hx, hb, hml, hown, ht⟩ (m_fails0 Ll D cI cL mo aO aT aM aZ aY aK aF aL er c isd wd 1  H.size) ⟨(callB_of 2 ht g_X5_fails rfl rfl rfl (ht _ iw_136) (ht _ iw_138) hd_X5_fails ⟨Nat.le_of_ble_eq_true rfl, Nat.le_of_ble_eq_true rfl⟩), (ht _ iw_139), (ht _ iw_140)⟩ (ds_pV hPc hDc hK (q0 := 0) rfl rfl) rfl rfl hl.1 rfl (lv_room (Nat.le_of_ble_eq_true rfl)) dX5_octet_6 ⟨Nat.le_of_ble_eq_true rfl, Nat.le_of_ble_eq_true rfl⟩) (fun r4 u5 H locs hp6 hP hD hS => ?_)
      have hP : va_P D vwCl [(mo, .inr (5, [.int (nI 0), .ref aO, .ref aT, .ref aM, .ref aZ, .ref aY, .ref aK, .ref aF, .ref aL, .int (nI c), .int isd, .int wd])), (aO, .inl (cI, 2400, .inl O)), (aZ, .inl (cI, 2, .inl Z))] H := hP
      have hD : va_D A [(mo, .inr (5, [.int (nI 0), .ref aO, .ref aT, .ref aM, .ref aZ, .ref aY, .ref aK, .ref aF, .ref aL, .int (nI c), .int isd, .int wd])), (aO, .inl (cI, 2400, .inl O)), (aZ, .inl (cI, 2, .inl Z))] := hD
      have hp6 : r4 = nI 0 := hp6
      replace hp6 := Eq.symm hp6
      subst hp6
      refine lv_if_eq (tgt := 14) hx hb dX5_octet_9 (by decide) (fun h => ?_) (fun h => ?_)
      ·
        rw [← nI_0] at h
        have h : 0 = 0 := (nI_eq (a := 0) (b := 0) (by omega) (by omega)).mp h
        by_cases hi : iok y lo
        ·
          obtain ⟨q, hq, e9⟩ := iok_nat (by omega) hi
          subst e9
          have hl : lv_has ls 3 [(0, .ref mo), (1, .int (nI 0)), (2, .int (nI q))] := hl
          refine lv_aload_n hx hb dX5_octet_14 rfl (lv_at hl 0 rfl) ?_
          refine lv_iload_n hx hb dX5_octet_15 rfl (lv_at hl 2 rfl) ?_
          refine lv_if_lt (tgt := 29) hx hb dX5_octet_16 (by decide) (fun h => ?_) (fun h => ?_)
          ·
            rw [← nI_0] at h
            have h : q < 0 := (nI_ltI (a := q) (b := 0) (by omega) (by omega)).mp h
            exfalso; omega
          ·
            rw [← nI_0] at h
            have h : ¬ q < 0 := fun z9 => h ((nI_ltI (a := q) (b := 0) (by omega) (by omega)).mpr z9)
            refine lv_iload_n hx hb dX5_octet_19 rfl (lv_at hl 2 rfl) ?_
            refine lv_aload_n hx hb dX5_octet_20 rfl (lv_at hl 0 rfl) ?_
            refine va_get (D := D) (ci := 5) (v := .ref aZ) (C := RX5) (T := TX5) (N := 12) hx hb ht inA_X5 hown hK.1 hP 0 rfl rfl 4 (by decide) (ht _ iw_125) (fun _ h9 => h9) rfl dX5_octet_21 ?_
            refine lv_iload_n hx hb dX5_octet_24 rfl (lv_at hl 1 rfl) ?_
            refine ds_iald (k := 0) hx hb hK hP 2 rfl (by omega) (by omega) dX5_octet_25 ?_
            refine ds_top (z := nI lo) hZ.2.2.1 ?_
            refine lv_icmp_lt (tgt := 33) hx hb dX5_octet_26 (by decide) (fun h => ?_) (fun h => ?_)
            ·
              have h : q < lo := (nI_ltI (a := q) (b := lo) (by omega) (by omega)).mp h
              refine lv_iconst (v := nI 0) hx hb dX5_octet_33 (by decide +kernel) ?_
              refine lv_iconst (v := nI 2) hx hb dX5_octet_34 (by decide +kernel) ?_
              refine ds_calli (wc := [(mo, .inr (5, [.int (nI 0), .ref aO, .ref aT, .ref aM, .ref aZ, .ref aY, .ref aK, .ref aF, .ref aL, .int (nI c), .int isd, .int wd]))]) (wr := [(aO, .inl (cI, 2400, .inl O)), (aZ, .inl (cI, 2, .inl Z))]) (wo := (fun u8 : Unit => [(mo, .inr (5, [.int (nI 0), .ref aO, .ref aT, .ref aM, .ref aZ, .ref aY, .ref aK, .ref aF, .ref aL, .int (nI c), .int isd, .int wd]))])) (wn := (fun u8 : Unit => [(mo, .inr (5, [.int (nI 0), .ref aO, .ref aT, .ref aM, .ref aZ, .ref aY, .ref aK, .ref aF, .ref aL, .int (nI c), .int isd, .int wd])), (aO, .inl (cI, 2400, .inl O)), (aZ, .inl (cI, 2, .inl Z))])) (isC := [0]) (isR := [1, 2]) hP hD hS hA ⟨rfl, rfl, by decide, by decide, by decide⟩ [2, 0, 1] (by decide) (fun _ => rfl) (fun hPc hDc => va_runV (As := [.int (nI 0), .int (nI 2)]) (rest := []) ⟨hx, hb, hml, hown, ht⟩ (m_fails0 Ll D cI cL mo aO aT aM aZ aY aK aF aL (nI 0) c isd wd 2  H.size) ⟨(callB_of 2 ht g_X5_fails rfl rfl rfl (ht _ iw_136) (ht _ iw_138) hd_X5_fails ⟨Nat.le_of_ble_eq_true rfl, Nat.le_of_ble_eq_true rfl⟩), (ht _ iw_139), (ht _ iw_140)⟩ (ds_pV hPc hDc hK (q0 := 0) rfl rfl) rfl rfl hl.1 rfl (lv_room (Nat.le_of_ble_eq_true rfl)) dX5_octet_35 ⟨Nat.le_of_ble_eq_true rfl, Nat.le_of_ble_eq_true rfl⟩) (fun r7 u8 H locs hp9 hP hD hS => ?_)
              have hP : va_P D vwCl [(mo, .inr (5, [.int (nI 0), .ref aO, .ref aT, .ref aM, .ref aZ, .ref aY, .ref aK, .ref aF, .ref aL, .int (nI c), .int isd, .int wd])), (aO, .inl (cI, 2400, .inl O)), (aZ, .inl (cI, 2, .inl Z))] H := hP
              have hD : va_D A [(mo, .inr (5, [.int (nI 0), .ref aO, .ref aT, .ref aM, .ref aZ, .ref aY, .ref aK, .ref aF, .ref aL, .int (nI c), .int isd, .int wd])), (aO, .inl (cI, 2400, .inl O)), (aZ, .inl (cI, 2, .inl Z))] := hD
              have hp9 : r7 = nI 0 := hp9
              replace hp9 := Eq.symm hp9
              subst hp9
              refine lv_if_eq (tgt := 45) hx hb dX5_octet_38 (by decide) (fun h => ?_) (fun h => ?_)
              ·
                rw [← nI_0] at h
                have h : 0 = 0 := (nI_eq (a := 0) (b := 0) (by omega) (by omega)).mp h
                refine lv_aload_n hx hb dX5_octet_45 rfl (lv_at hl 0 rfl) ?_
                refine va_get (D := D) (ci := 5) (v := .ref aO) (C := RX5) (T := TX5) (N := 12) hx hb ht inA_X5 hown hK.1 hP 0 rfl rfl 1 (by decide) (ht _ iw_122) (fun _ h9 => h9) rfl dX5_octet_46 ?_
                refine lv_sipush (v := nI 1200) hx hb dX5_octet_49 (by decide +kernel) ?_
                refine lv_iload_n hx hb dX5_octet_52 rfl (lv_at hl 1 rfl) ?_
                refine lv_imul hx hb dX5_octet_53 ?_
                refine ds_top (z := nI (1200 * 0)) (pk_mul _ _) ?_
                refine lv_iload_n hx hb dX5_octet_54 rfl (lv_at hl 2 rfl) ?_
                refine lv_iadd hx hb dX5_octet_55 ?_
                refine ds_top (z := nI ((1200 * 0) + q)) (nI_add _ _) ?_
                refine ds_top (z := nI (q)) (congrArg nI (by omega)) ?_
                refine ds_iald (k := q) hx hb hK hP 1 rfl (by omega) (by omega) dX5_octet_56 ?_
                exact ds_iret hx hb hr hlk rfl (nI 0) ⟨(e_put_ok hro (by rw [rsel_0]; exact iok_of hq (by omega))).symm, fun _ => by rw [v_octet_0 (by omega)]; exact hR.2.2.2.2.1 q hq⟩ hP hD hS (Nat.le_of_ble_eq_true rfl) (Nat.le_of_ble_eq_true rfl) dX5_octet_57
              ·
                rw [← nI_0] at h
                have h : ¬ 0 = 0 := fun z9 => h ((nI_eq (a := 0) (b := 0) (by omega) (by omega)).mpr z9)
                exact absurd rfl h
            ·
              have h : ¬ q < lo := fun z9 => h ((nI_ltI (a := q) (b := lo) (by omega) (by omega)).mpr z9)
              exfalso; omega
        ·
          have hi9 := Classical.not_not.mp hi
          refine lv_aload_n hx hb dX5_octet_14 rfl (lv_at hl 0 rfl) ?_
          refine lv_iload_n hx hb dX5_octet_15 rfl (lv_at hl 2 rfl) ?_
          refine lv_if_lt (tgt := 29) hx hb dX5_octet_16 (by decide) (fun h0 => ?_) (fun h0 => ?_)
          ·
            refine lv_iconst (v := nI 1) hx hb dX5_octet_29 (by decide +kernel) ?_
            refine lv_goto (tgt := 34) hx hb dX5_octet_30 (by decide) ?_
            refine lv_iconst (v := nI 2) hx hb dX5_octet_34 (by decide +kernel) ?_
            refine ds_calli (wc := [(mo, .inr (5, [.int (nI 0), .ref aO, .ref aT, .ref aM, .ref aZ, .ref aY, .ref aK, .ref aF, .ref aL, .int (nI c), .int isd, .int wd]))]) (wr := [(aO, .inl (cI, 2400, .inl O)), (aZ, .inl (cI, 2, .inl Z))]) (wo := (fun u11 : Unit => [(mo, .inr (5, [.int (nI 2), .ref aO, .ref aT, .ref aM, .ref aZ, .ref aY, .ref aK, .ref aF, .ref aL, .int (nI c), .int isd, .int wd]))])) (wn := (fun u11 : Unit => [(mo, .inr (5, [.int (nI 2), .ref aO, .ref aT, .ref aM, .ref aZ, .ref aY, .ref aK, .ref aF, .ref aL, .int (nI c), .int isd, .int wd])), (aO, .inl (cI, 2400, .inl O)), (aZ, .inl (cI, 2, .inl Z))])) (isC := [0]) (isR := [1, 2]) hP hD hS hA ⟨rfl, rfl, by decide, by decide, by decide⟩ [2, 0, 1] (by decide) (fun _ => rfl) (fun hPc hDc => va_runV (As := [.int (nI 1), .int (nI 2)]) (rest := []) ⟨hx, hb, hml, hown, ht⟩ (m_fails1 Ll D cI cL mo aO aT aM aZ aY aK aF aL (nI 0) c isd wd 2  H.size) ⟨(callB_of 2 ht g_X5_fails rfl rfl rfl (ht _ iw_136) (ht _ iw_138) hd_X5_fails ⟨Nat.le_of_ble_eq_true rfl, Nat.le_of_ble_eq_true rfl⟩), (ht _ iw_139), (ht _ iw_140)⟩ (ds_pV hPc hDc hK (q0 := 0) rfl rfl) rfl rfl hl.1 rfl (lv_room (Nat.le_of_ble_eq_true rfl)) dX5_octet_35 ⟨Nat.le_of_ble_eq_true rfl, Nat.le_of_ble_eq_true rfl⟩) (fun r10 u11 H locs hp12 hP hD hS => ?_)
            have hP : va_P D vwCl [(mo, .inr (5, [.int (nI 2), .ref aO, .ref aT, .ref aM, .ref aZ, .ref aY, .ref aK, .ref aF, .ref aL, .int (nI c), .int isd, .int wd])), (aO, .inl (cI, 2400, .inl O)), (aZ, .inl (cI, 2, .inl Z))] H := hP
            have hD : va_D A [(mo, .inr (5, [.int (nI 2), .ref aO, .ref aT, .ref aM, .ref aZ, .ref aY, .ref aK, .ref aF, .ref aL, .int (nI c), .int isd, .int wd])), (aO, .inl (cI, 2400, .inl O)), (aZ, .inl (cI, 2, .inl Z))] := hD
            have hp12 : r10 = nI 1 := hp12
            replace hp12 := Eq.symm hp12
            subst hp12
            refine lv_if_eq (tgt := 45) hx hb dX5_octet_38 (by decide) (fun h => ?_) (fun h => ?_)
            ·
              rw [← nI_0] at h
              have h : 1 = 0 := (nI_eq (a := 1) (b := 0) (by omega) (by omega)).mp h
              exact absurd h (by decide)
            ·
              rw [← nI_0] at h
              have h : ¬ 1 = 0 := fun z9 => h ((nI_eq (a := 1) (b := 0) (by omega) (by omega)).mpr z9)
              refine lv_iconst (v := nI 0) hx hb dX5_octet_41 (by decide +kernel) ?_
              refine lv_goto (tgt := 57) hx hb dX5_octet_42 (by decide) ?_
              exact ds_iret hx hb hr hlk rfl (nI 2) ⟨(e_put_x hro (by rw [rsel_0]; exact hi)).symm, fun z => absurd (z.symm.trans (e_put_x hro (by rw [rsel_0]; exact hi))) (by decide)⟩ hP hD hS (Nat.le_of_ble_eq_true rfl) (Nat.le_of_ble_eq_true rfl) dX5_octet_57
          ·
            refine lv_iload_n hx hb dX5_octet_19 rfl (lv_at hl 2 rfl) ?_
            refine lv_aload_n hx hb dX5_octet_20 rfl (lv_at hl 0 rfl) ?_
            refine va_get (D := D) (ci := 5) (v := .ref aZ) (C := RX5) (T := TX5) (N := 12) hx hb ht inA_X5 hown hK.1 hP 0 rfl rfl 4 (by decide) (ht _ iw_125) (fun _ h9 => h9) rfl dX5_octet_21 ?_
            refine lv_iload_n hx hb dX5_octet_24 rfl (lv_at hl 1 rfl) ?_
            refine ds_iald (k := 0) hx hb hK hP 2 rfl (by omega) (by omega) dX5_octet_25 ?_
            refine ds_top (z := nI lo) hZ.2.2.1 ?_
            refine lv_icmp_lt (tgt := 33) hx hb dX5_octet_26 (by decide) (fun h => ?_) (fun h => ?_)
            ·
              exact absurd (hi9.resolve_left h0) (Int32.not_le.mpr h)
            ·
              refine lv_iconst (v := nI 1) hx hb dX5_octet_29 (by decide +kernel) ?_
              refine lv_goto (tgt := 34) hx hb dX5_octet_30 (by decide) ?_
              refine lv_iconst (v := nI 2) hx hb dX5_octet_34 (by decide +kernel) ?_
              refine ds_calli (wc := [(mo, .inr (5, [.int (nI 0), .ref aO, .ref aT, .ref aM, .ref aZ, .ref aY, .ref aK, .ref aF, .ref aL, .int (nI c), .int isd, .int wd]))]) (wr := [(aO, .inl (cI, 2400, .inl O)), (aZ, .inl (cI, 2, .inl Z))]) (wo := (fun u14 : Unit => [(mo, .inr (5, [.int (nI 2), .ref aO, .ref aT, .ref aM, .ref aZ, .ref aY, .ref aK, .ref aF, .ref aL, .int (nI c), .int isd, .int wd]))])) (wn := (fun u14 : Unit => [(mo, .inr (5, [.int (nI 2), .ref aO, .ref aT, .ref aM, .ref aZ, .ref aY, .ref aK, .ref aF, .ref aL, .int (nI c), .int isd, .int wd])), (aO, .inl (cI, 2400, .inl O)), (aZ, .inl (cI, 2, .inl Z))])) (isC := [0]) (isR := [1, 2]) hP hD hS hA ⟨rfl, rfl, by decide, by decide, by decide⟩ [2, 0, 1] (by decide) (fun _ => rfl) (fun hPc hDc => va_runV (As := [.int (nI 1), .int (nI 2)]) (rest := []) ⟨hx, hb, hml, hown, ht⟩ (m_fails1 Ll D cI cL mo aO aT aM aZ aY aK aF aL (nI 0) c isd wd 2  H.size) ⟨(callB_of 2 ht g_X5_fails rfl rfl rfl (ht _ iw_136) (ht _ iw_138) hd_X5_fails ⟨Nat.le_of_ble_eq_true rfl, Nat.le_of_ble_eq_true rfl⟩), (ht _ iw_139), (ht _ iw_140)⟩ (ds_pV hPc hDc hK (q0 := 0) rfl rfl) rfl rfl hl.1 rfl (lv_room (Nat.le_of_ble_eq_true rfl)) dX5_octet_35 ⟨Nat.le_of_ble_eq_true rfl, Nat.le_of_ble_eq_true rfl⟩) (fun r13 u14 H locs hp15 hP hD hS => ?_)
              have hP : va_P D vwCl [(mo, .inr (5, [.int (nI 2), .ref aO, .ref aT, .ref aM, .ref aZ, .ref aY, .ref aK, .ref aF, .ref aL, .int (nI c), .int isd, .int wd])), (aO, .inl (cI, 2400, .inl O)), (aZ, .inl (cI, 2, .inl Z))] H := hP
              have hD : va_D A [(mo, .inr (5, [.int (nI 2), .ref aO, .ref aT, .ref aM, .ref aZ, .ref aY, .ref aK, .ref aF, .ref aL, .int (nI c), .int isd, .int wd])), (aO, .inl (cI, 2400, .inl O)), (aZ, .inl (cI, 2, .inl Z))] := hD
              have hp15 : r13 = nI 1 := hp15
              replace hp15 := Eq.symm hp15
              subst hp15
              refine lv_if_eq (tgt := 45) hx hb dX5_octet_38 (by decide) (fun h => ?_) (fun h => ?_)
              ·
                rw [← nI_0] at h
                have h : 1 = 0 := (nI_eq (a := 1) (b := 0) (by omega) (by omega)).mp h
                exact absurd h (by decide)
              ·
                rw [← nI_0] at h
                have h : ¬ 1 = 0 := fun z9 => h ((nI_eq (a := 1) (b := 0) (by omega) (by omega)).mpr z9)
                refine lv_iconst (v := nI 0) hx hb dX5_octet_41 (by decide +kernel) ?_
                refine lv_goto (tgt := 57) hx hb dX5_octet_42 (by decide) ?_
                exact ds_iret hx hb hr hlk rfl (nI 2) ⟨(e_put_x hro (by rw [rsel_0]; exact hi)).symm, fun z => absurd (z.symm.trans (e_put_x hro (by rw [rsel_0]; exact hi))) (by decide)⟩ hP hD hS (Nat.le_of_ble_eq_true rfl) (Nat.le_of_ble_eq_true rfl) dX5_octet_57
      ·
        rw [← nI_0] at h
        have h : ¬ 0 = 0 := fun z9 => h ((nI_eq (a := 0) (b := 0) (by omega) (by omega)).mpr z9)
        exact absurd rfl h
    ·
      have hl : lv_has ls 3 [(0, .ref mo), (1, .int (nI 1)), (2, .int y)] := hl
      refine lv_aload_n hx hb dX5_octet_0 rfl (lv_at hl 0 rfl) ?_
      refine lv_iload_n hx hb dX5_octet_1 rfl (lv_at hl 1 rfl) ?_
      refine ds_calli (wc := []) (wr := [(mo, .inr (5, [.int er, .ref aO, .ref aT, .ref aM, .ref aZ, .ref aY, .ref aK, .ref aF, .ref aL, .int (nI c), .int isd, .int wd])), (aO, .inl (cI, 2400, .inl O)), (aZ, .inl (cI, 2, .inl Z))]) (wo := (fun u17 : Unit => [])) (wn := (fun u17 : Unit => [(mo, .inr (5, [.int er, .ref aO, .ref aT, .ref aM, .ref aZ, .ref aY, .ref aK, .ref aF, .ref aL, .int (nI c), .int isd, .int wd])), (aO, .inl (cI, 2400, .inl O)), (aZ, .inl (cI, 2, .inl Z))])) (isC := []) (isR := [0, 1, 2]) hP hD hS hA ⟨rfl, rfl, by decide, by decide, by decide⟩ [0, 1, 2] (by decide) (fun _ => rfl) (fun hPc hDc => va_runS (As := [.int (nI 1)]) (rest := [.ref mo]) ⟨hx, hb, hml, hown, ht⟩ (m_no0 Ll D cI cL 1 (by decide) H.size) ⟨(callB_of 1 ht g_X5_no rfl rfl rfl (ht _ iw_136) (ht _ iw_135) hd_X5_no ⟨Nat.le_of_ble_eq_true rfl, Nat.le_of_ble_eq_true rfl⟩), (ht _ iw_137)⟩ (ds_pS hPc hDc hK) rfl rfl hl.1 rfl (lv_room (Nat.le_of_ble_eq_true rfl)) dX5_octet_2 ⟨Nat.le_of_ble_eq_true rfl, Nat.le_of_ble_eq_true rfl⟩) (fun r16 u17 H locs hp18 hP hD hS => ?_)
      have hP : va_P D vwCl [(mo, .inr (5, [.int er, .ref aO, .ref aT, .ref aM, .ref aZ, .ref aY, .ref aK, .ref aF, .ref aL, .int (nI c), .int isd, .int wd])), (aO, .inl (cI, 2400, .inl O)), (aZ, .inl (cI, 2, .inl Z))] H := hP
      have hD : va_D A [(mo, .inr (5, [.int er, .ref aO, .ref aT, .ref aM, .ref aZ, .ref aY, .ref aK, .ref aF, .ref aL, .int (nI c), .int isd, .int wd])), (aO, .inl (cI, 2400, .inl O)), (aZ, .inl (cI, 2, .inl Z))] := hD
      have hp18 : r16 = nI 0 := hp18
      replace hp18 := Eq.symm hp18
      subst hp18
      refine lv_iconst (v := nI 1) hx hb dX5_octet_5 (by decide +kernel) ?_
      refine ds_calli (wc := [(mo, .inr (5, [.int er, .ref aO, .ref aT, .ref aM, .ref aZ, .ref aY, .ref aK, .ref aF, .ref aL, .int (nI c), .int isd, .int wd]))]) (wr := [(aO, .inl (cI, 2400, .inl O)), (aZ, .inl (cI, 2, .inl Z))]) (wo := (fun u20 : Unit => [(mo, .inr (5, [.int (nI 0), .ref aO, .ref aT, .ref aM, .ref aZ, .ref aY, .ref aK, .ref aF, .ref aL, .int (nI c), .int isd, .int wd]))])) (wn := (fun u20 : Unit => [(mo, .inr (5, [.int (nI 0), .ref aO, .ref aT, .ref aM, .ref aZ, .ref aY, .ref aK, .ref aF, .ref aL, .int (nI c), .int isd, .int wd])), (aO, .inl (cI, 2400, .inl O)), (aZ, .inl (cI, 2, .inl Z))])) (isC := [0]) (isR := [1, 2]) hP hD hS hA ⟨rfl, rfl, by decide, by decide, by decide⟩ [2, 0, 1] (by decide) (fun _ => rfl) (fun hPc hDc => va_runV (As := [.int (nI 0), .int (nI 1)]) (rest := []) ⟨hx, hb, hml, hown, ht⟩ (m_fails0 Ll D cI cL mo aO aT aM aZ aY aK aF aL er c isd wd 1  H.size) ⟨(callB_of 2 ht g_X5_fails rfl rfl rfl (ht _ iw_136) (ht _ iw_138) hd_X5_fails ⟨Nat.le_of_ble_eq_true rfl, Nat.le_of_ble_eq_true rfl⟩), (ht _ iw_139), (ht _ iw_140)⟩ (ds_pV hPc hDc hK (q0 := 0) rfl rfl) rfl rfl hl.1 rfl (lv_room (Nat.le_of_ble_eq_true rfl)) dX5_octet_6 ⟨Nat.le_of_ble_eq_true rfl, Nat.le_of_ble_eq_true rfl⟩) (fun r19 u20 H locs hp21 hP hD hS => ?_)
      have hP : va_P D vwCl [(mo, .inr (5, [.int (nI 0), .ref aO, .ref aT, .ref aM, .ref aZ, .ref aY, .ref aK, .ref aF, .ref aL, .int (nI c), .int isd, .int wd])), (aO, .inl (cI, 2400, .inl O)), (aZ, .inl (cI, 2, .inl Z))] H := hP
      have hD : va_D A [(mo, .inr (5, [.int (nI 0), .ref aO, .ref aT, .ref aM, .ref aZ, .ref aY, .ref aK, .ref aF, .ref aL, .int (nI c), .int isd, .int wd])), (aO, .inl (cI, 2400, .inl O)), (aZ, .inl (cI, 2, .inl Z))] := hD
      have hp21 : r19 = nI 0 := hp21
      replace hp21 := Eq.symm hp21
      subst hp21
      refine lv_if_eq (tgt := 14) hx hb dX5_octet_9 (by decide) (fun h => ?_) (fun h => ?_)
      ·
        rw [← nI_0] at h
        have h : 0 = 0 := (nI_eq (a := 0) (b := 0) (by omega) (by omega)).mp h
        by_cases hi : iok y ln
        ·
          obtain ⟨q, hq, e9⟩ := iok_nat (by omega) hi
          subst e9
          have hl : lv_has ls 3 [(0, .ref mo), (1, .int (nI 1)), (2, .int (nI q))] := hl
          refine lv_aload_n hx hb dX5_octet_14 rfl (lv_at hl 0 rfl) ?_
          refine lv_iload_n hx hb dX5_octet_15 rfl (lv_at hl 2 rfl) ?_
          refine lv_if_lt (tgt := 29) hx hb dX5_octet_16 (by decide) (fun h => ?_) (fun h => ?_)
          ·
            rw [← nI_0] at h
            have h : q < 0 := (nI_ltI (a := q) (b := 0) (by omega) (by omega)).mp h
            exfalso; omega
          ·
            rw [← nI_0] at h
            have h : ¬ q < 0 := fun z9 => h ((nI_ltI (a := q) (b := 0) (by omega) (by omega)).mpr z9)
            refine lv_iload_n hx hb dX5_octet_19 rfl (lv_at hl 2 rfl) ?_
            refine lv_aload_n hx hb dX5_octet_20 rfl (lv_at hl 0 rfl) ?_
            refine va_get (D := D) (ci := 5) (v := .ref aZ) (C := RX5) (T := TX5) (N := 12) hx hb ht inA_X5 hown hK.1 hP 0 rfl rfl 4 (by decide) (ht _ iw_125) (fun _ h9 => h9) rfl dX5_octet_21 ?_
            refine lv_iload_n hx hb dX5_octet_24 rfl (lv_at hl 1 rfl) ?_
            refine ds_iald (k := 1) hx hb hK hP 2 rfl (by omega) (by omega) dX5_octet_25 ?_
            refine ds_top (z := nI ln) hZ.2.2.2 ?_
            refine lv_icmp_lt (tgt := 33) hx hb dX5_octet_26 (by decide) (fun h => ?_) (fun h => ?_)
            ·
              have h : q < ln := (nI_ltI (a := q) (b := ln) (by omega) (by omega)).mp h
              refine lv_iconst (v := nI 0) hx hb dX5_octet_33 (by decide +kernel) ?_
              refine lv_iconst (v := nI 2) hx hb dX5_octet_34 (by decide +kernel) ?_
              refine ds_calli (wc := [(mo, .inr (5, [.int (nI 0), .ref aO, .ref aT, .ref aM, .ref aZ, .ref aY, .ref aK, .ref aF, .ref aL, .int (nI c), .int isd, .int wd]))]) (wr := [(aO, .inl (cI, 2400, .inl O)), (aZ, .inl (cI, 2, .inl Z))]) (wo := (fun u23 : Unit => [(mo, .inr (5, [.int (nI 0), .ref aO, .ref aT, .ref aM, .ref aZ, .ref aY, .ref aK, .ref aF, .ref aL, .int (nI c), .int isd, .int wd]))])) (wn := (fun u23 : Unit => [(mo, .inr (5, [.int (nI 0), .ref aO, .ref aT, .ref aM, .ref aZ, .ref aY, .ref aK, .ref aF, .ref aL, .int (nI c), .int isd, .int wd])), (aO, .inl (cI, 2400, .inl O)), (aZ, .inl (cI, 2, .inl Z))])) (isC := [0]) (isR := [1, 2]) hP hD hS hA ⟨rfl, rfl, by decide, by decide, by decide⟩ [2, 0, 1] (by decide) (fun _ => rfl) (fun hPc hDc => va_runV (As := [.int (nI 0), .int (nI 2)]) (rest := []) ⟨hx, hb, hml, hown, ht⟩ (m_fails0 Ll D cI cL mo aO aT aM aZ aY aK aF aL (nI 0) c isd wd 2  H.size) ⟨(callB_of 2 ht g_X5_fails rfl rfl rfl (ht _ iw_136) (ht _ iw_138) hd_X5_fails ⟨Nat.le_of_ble_eq_true rfl, Nat.le_of_ble_eq_true rfl⟩), (ht _ iw_139), (ht _ iw_140)⟩ (ds_pV hPc hDc hK (q0 := 0) rfl rfl) rfl rfl hl.1 rfl (lv_room (Nat.le_of_ble_eq_true rfl)) dX5_octet_35 ⟨Nat.le_of_ble_eq_true rfl, Nat.le_of_ble_eq_true rfl⟩) (fun r22 u23 H locs hp24 hP hD hS => ?_)
              have hP : va_P D vwCl [(mo, .inr (5, [.int (nI 0), .ref aO, .ref aT, .ref aM, .ref aZ, .ref aY, .ref aK, .ref aF, .ref aL, .int (nI c), .int isd, .int wd])), (aO, .inl (cI, 2400, .inl O)), (aZ, .inl (cI, 2, .inl Z))] H := hP
              have hD : va_D A [(mo, .inr (5, [.int (nI 0), .ref aO, .ref aT, .ref aM, .ref aZ, .ref aY, .ref aK, .ref aF, .ref aL, .int (nI c), .int isd, .int wd])), (aO, .inl (cI, 2400, .inl O)), (aZ, .inl (cI, 2, .inl Z))] := hD
              have hp24 : r22 = nI 0 := hp24
              replace hp24 := Eq.symm hp24
              subst hp24
              refine lv_if_eq (tgt := 45) hx hb dX5_octet_38 (by decide) (fun h => ?_) (fun h => ?_)
              ·
                rw [← nI_0] at h
                have h : 0 = 0 := (nI_eq (a := 0) (b := 0) (by omega) (by omega)).mp h
                refine lv_aload_n hx hb dX5_octet_45 rfl (lv_at hl 0 rfl) ?_
                refine va_get (D := D) (ci := 5) (v := .ref aO) (C := RX5) (T := TX5) (N := 12) hx hb ht inA_X5 hown hK.1 hP 0 rfl rfl 1 (by decide) (ht _ iw_122) (fun _ h9 => h9) rfl dX5_octet_46 ?_
                refine lv_sipush (v := nI 1200) hx hb dX5_octet_49 (by decide +kernel) ?_
                refine lv_iload_n hx hb dX5_octet_52 rfl (lv_at hl 1 rfl) ?_
                refine lv_imul hx hb dX5_octet_53 ?_
                refine ds_top (z := nI (1200 * 1)) (pk_mul _ _) ?_
                refine lv_iload_n hx hb dX5_octet_54 rfl (lv_at hl 2 rfl) ?_
                refine lv_iadd hx hb dX5_octet_55 ?_
                refine ds_top (z := nI ((1200 * 1) + q)) (nI_add _ _) ?_
                refine ds_top (z := nI (1200 + q)) (congrArg nI (by omega)) ?_
                refine ds_iald (k := 1200 + q) hx hb hK hP 1 rfl (by omega) (by omega) dX5_octet_56 ?_
                exact ds_iret hx hb hr hlk rfl (nI 0) ⟨(e_put_ok hro (by rw [rsel_1]; exact iok_of hq (by omega))).symm, fun _ => by rw [v_octet_1 (by omega)]; exact hR.2.2.2.2.2 q hq⟩ hP hD hS (Nat.le_of_ble_eq_true rfl) (Nat.le_of_ble_eq_true rfl) dX5_octet_57
              ·
                rw [← nI_0] at h
                have h : ¬ 0 = 0 := fun z9 => h ((nI_eq (a := 0) (b := 0) (by omega) (by omega)).mpr z9)
                exact absurd rfl h
            ·
              have h : ¬ q < ln := fun z9 => h ((nI_ltI (a := q) (b := ln) (by omega) (by omega)).mpr z9)
              exfalso; omega
        ·
          have hi9 := Classical.not_not.mp hi
          refine lv_aload_n hx hb dX5_octet_14 rfl (lv_at hl 0 rfl) ?_
          refine lv_iload_n hx hb dX5_octet_15 rfl (lv_at hl 2 rfl) ?_
          refine lv_if_lt (tgt := 29) hx hb dX5_octet_16 (by decide) (fun h0 => ?_) (fun h0 => ?_)
          ·
            refine lv_iconst (v := nI 1) hx hb dX5_octet_29 (by decide +kernel) ?_
            refine lv_goto (tgt := 34) hx hb dX5_octet_30 (by decide) ?_
            refine lv_iconst (v := nI 2) hx hb dX5_octet_34 (by decide +kernel) ?_
            refine ds_calli (wc := [(mo, .inr (5, [.int (nI 0), .ref aO, .ref aT, .ref aM, .ref aZ, .ref aY, .ref aK, .ref aF, .ref aL, .int (nI c), .int isd, .int wd]))]) (wr := [(aO, .inl (cI, 2400, .inl O)), (aZ, .inl (cI, 2, .inl Z))]) (wo := (fun u26 : Unit => [(mo, .inr (5, [.int (nI 2), .ref aO, .ref aT, .ref aM, .ref aZ, .ref aY, .ref aK, .ref aF, .ref aL, .int (nI c), .int isd, .int wd]))])) (wn := (fun u26 : Unit => [(mo, .inr (5, [.int (nI 2), .ref aO, .ref aT, .ref aM, .ref aZ, .ref aY, .ref aK, .ref aF, .ref aL, .int (nI c), .int isd, .int wd])), (aO, .inl (cI, 2400, .inl O)), (aZ, .inl (cI, 2, .inl Z))])) (isC := [0]) (isR := [1, 2]) hP hD hS hA ⟨rfl, rfl, by decide, by decide, by decide⟩ [2, 0, 1] (by decide) (fun _ => rfl) (fun hPc hDc => va_runV (As := [.int (nI 1), .int (nI 2)]) (rest := []) ⟨hx, hb, hml, hown, ht⟩ (m_fails1 Ll D cI cL mo aO aT aM aZ aY aK aF aL (nI 0) c isd wd 2  H.size) ⟨(callB_of 2 ht g_X5_fails rfl rfl rfl (ht _ iw_136) (ht _ iw_138) hd_X5_fails ⟨Nat.le_of_ble_eq_true rfl, Nat.le_of_ble_eq_true rfl⟩), (ht _ iw_139), (ht _ iw_140)⟩ (ds_pV hPc hDc hK (q0 := 0) rfl rfl) rfl rfl hl.1 rfl (lv_room (Nat.le_of_ble_eq_true rfl)) dX5_octet_35 ⟨Nat.le_of_ble_eq_true rfl, Nat.le_of_ble_eq_true rfl⟩) (fun r25 u26 H locs hp27 hP hD hS => ?_)
            have hP : va_P D vwCl [(mo, .inr (5, [.int (nI 2), .ref aO, .ref aT, .ref aM, .ref aZ, .ref aY, .ref aK, .ref aF, .ref aL, .int (nI c), .int isd, .int wd])), (aO, .inl (cI, 2400, .inl O)), (aZ, .inl (cI, 2, .inl Z))] H := hP
            have hD : va_D A [(mo, .inr (5, [.int (nI 2), .ref aO, .ref aT, .ref aM, .ref aZ, .ref aY, .ref aK, .ref aF, .ref aL, .int (nI c), .int isd, .int wd])), (aO, .inl (cI, 2400, .inl O)), (aZ, .inl (cI, 2, .inl Z))] := hD
            have hp27 : r25 = nI 1 := hp27
            replace hp27 := Eq.symm hp27
            subst hp27
            refine lv_if_eq (tgt := 45) hx hb dX5_octet_38 (by decide) (fun h => ?_) (fun h => ?_)
            ·
              rw [← nI_0] at h
              have h : 1 = 0 := (nI_eq (a := 1) (b := 0) (by omega) (by omega)).mp h
              exact absurd h (by decide)
            ·
              rw [← nI_0] at h
              have h : ¬ 1 = 0 := fun z9 => h ((nI_eq (a := 1) (b := 0) (by omega) (by omega)).mpr z9)
              refine lv_iconst (v := nI 0) hx hb dX5_octet_41 (by decide +kernel) ?_
              refine lv_goto (tgt := 57) hx hb dX5_octet_42 (by decide) ?_
              exact ds_iret hx hb hr hlk rfl (nI 2) ⟨(e_put_x hro (by rw [rsel_1]; exact hi)).symm, fun z => absurd (z.symm.trans (e_put_x hro (by rw [rsel_1]; exact hi))) (by decide)⟩ hP hD hS (Nat.le_of_ble_eq_true rfl) (Nat.le_of_ble_eq_true rfl) dX5_octet_57
          ·
            refine lv_iload_n hx hb dX5_octet_19 rfl (lv_at hl 2 rfl) ?_
            refine lv_aload_n hx hb dX5_octet_20 rfl (lv_at hl 0 rfl) ?_
            refine va_get (D := D) (ci := 5) (v := .ref aZ) (C := RX5) (T := TX5) (N := 12) hx hb ht inA_X5 hown hK.1 hP 0 rfl rfl 4 (by decide) (ht _ iw_125) (fun _ h9 => h9) rfl dX5_octet_21 ?_
            refine lv_iload_n hx hb dX5_octet_24 rfl (lv_at hl 1 rfl) ?_
            refine ds_iald (k := 1) hx hb hK hP 2 rfl (by omega) (by omega) dX5_octet_25 ?_
            refine ds_top (z := nI ln) hZ.2.2.2 ?_
            refine lv_icmp_lt (tgt := 33) hx hb dX5_octet_26 (by decide) (fun h => ?_) (fun h => ?_)
            ·
              exact absurd (hi9.resolve_left h0) (Int32.not_le.mpr h)
            ·
              refine lv_iconst (v := nI 1) hx hb dX5_octet_29 (by decide +kernel) ?_
              refine lv_goto (tgt := 34) hx hb dX5_octet_30 (by decide) ?_
              refine lv_iconst (v := nI 2) hx hb dX5_octet_34 (by decide +kernel) ?_
              refine ds_calli (wc := [(mo, .inr (5, [.int (nI 0), .ref aO, .ref aT, .ref aM, .ref aZ, .ref aY, .ref aK, .ref aF, .ref aL, .int (nI c), .int isd, .int wd]))]) (wr := [(aO, .inl (cI, 2400, .inl O)), (aZ, .inl (cI, 2, .inl Z))]) (wo := (fun u29 : Unit => [(mo, .inr (5, [.int (nI 2), .ref aO, .ref aT, .ref aM, .ref aZ, .ref aY, .ref aK, .ref aF, .ref aL, .int (nI c), .int isd, .int wd]))])) (wn := (fun u29 : Unit => [(mo, .inr (5, [.int (nI 2), .ref aO, .ref aT, .ref aM, .ref aZ, .ref aY, .ref aK, .ref aF, .ref aL, .int (nI c), .int isd, .int wd])), (aO, .inl (cI, 2400, .inl O)), (aZ, .inl (cI, 2, .inl Z))])) (isC := [0]) (isR := [1, 2]) hP hD hS hA ⟨rfl, rfl, by decide, by decide, by decide⟩ [2, 0, 1] (by decide) (fun _ => rfl) (fun hPc hDc => va_runV (As := [.int (nI 1), .int (nI 2)]) (rest := []) ⟨hx, hb, hml, hown, ht⟩ (m_fails1 Ll D cI cL mo aO aT aM aZ aY aK aF aL (nI 0) c isd wd 2  H.size) ⟨(callB_of 2 ht g_X5_fails rfl rfl rfl (ht _ iw_136) (ht _ iw_138) hd_X5_fails ⟨Nat.le_of_ble_eq_true rfl, Nat.le_of_ble_eq_true rfl⟩), (ht _ iw_139), (ht _ iw_140)⟩ (ds_pV hPc hDc hK (q0 := 0) rfl rfl) rfl rfl hl.1 rfl (lv_room (Nat.le_of_ble_eq_true rfl)) dX5_octet_35 ⟨Nat.le_of_ble_eq_true rfl, Nat.le_of_ble_eq_true rfl⟩) (fun r28 u29 H locs hp30 hP hD hS => ?_)
              have hP : va_P D vwCl [(mo, .inr (5, [.int (nI 2), .ref aO, .ref aT, .ref aM, .ref aZ, .ref aY, .ref aK, .ref aF, .ref aL, .int (nI c), .int isd, .int wd])), (aO, .inl (cI, 2400, .inl O)), (aZ, .inl (cI, 2, .inl Z))] H := hP
              have hD : va_D A [(mo, .inr (5, [.int (nI 2), .ref aO, .ref aT, .ref aM, .ref aZ, .ref aY, .ref aK, .ref aF, .ref aL, .int (nI c), .int isd, .int wd])), (aO, .inl (cI, 2400, .inl O)), (aZ, .inl (cI, 2, .inl Z))] := hD
              have hp30 : r28 = nI 1 := hp30
              replace hp30 := Eq.symm hp30
              subst hp30
              refine lv_if_eq (tgt := 45) hx hb dX5_octet_38 (by decide) (fun h => ?_) (fun h => ?_)
              ·
                rw [← nI_0] at h
                have h : 1 = 0 := (nI_eq (a := 1) (b := 0) (by omega) (by omega)).mp h
                exact absurd h (by decide)
              ·
                rw [← nI_0] at h
                have h : ¬ 1 = 0 := fun z9 => h ((nI_eq (a := 1) (b := 0) (by omega) (by omega)).mpr z9)
                refine lv_iconst (v := nI 0) hx hb dX5_octet_41 (by decide +kernel) ?_
                refine lv_goto (tgt := 57) hx hb dX5_octet_42 (by decide) ?_
                exact ds_iret hx hb hr hlk rfl (nI 2) ⟨(e_put_x hro (by rw [rsel_1]; exact hi)).symm, fun z => absurd (z.symm.trans (e_put_x hro (by rw [rsel_1]; exact hi))) (by decide)⟩ hP hD hS (Nat.le_of_ble_eq_true rfl) (Nat.le_of_ble_eq_true rfl) dX5_octet_57
      ·
        rw [← nI_0] at h
        have h : ¬ 0 = 0 := fun z9 => h ((nI_eq (a := 0) (b := 0) (by omega) (by omega)).mpr z9)
        exact absurd rfl h
  ·
    refine lv_aload_n hx hb dX5_octet_0 rfl (lv_at hl 0 rfl) ?_
    refine lv_iload_n hx hb dX5_octet_1 rfl (lv_at hl 1 rfl) ?_
    refine ds_calli (wc := []) (wr := [(mo, .inr (5, [.int er, .ref aO, .ref aT, .ref aM, .ref aZ, .ref aY, .ref aK, .ref aF, .ref aL, .int (nI c), .int isd, .int wd])), (aO, .inl (cI, 2400, .inl O)), (aZ, .inl (cI, 2, .inl Z))]) (wo := (fun u32 : Unit => [])) (wn := (fun u32 : Unit => [(mo, .inr (5, [.int er, .ref aO, .ref aT, .ref aM, .ref aZ, .ref aY, .ref aK, .ref aF, .ref aL, .int (nI c), .int isd, .int wd])), (aO, .inl (cI, 2400, .inl O)), (aZ, .inl (cI, 2, .inl Z))])) (isC := []) (isR := [0, 1, 2]) hP hD hS hA ⟨rfl, rfl, by decide, by decide, by decide⟩ [0, 1, 2] (by decide) (fun _ => rfl) (fun hPc hDc => va_runS (As := [.int x]) (rest := [.ref mo]) ⟨hx, hb, hml, hown, ht⟩ (m_no1 Ll D cI cL x (fun z => hrk (Or.inl z)) (fun z => hrk (Or.inr z)) H.size) ⟨(callB_of 1 ht g_X5_no rfl rfl rfl (ht _ iw_136) (ht _ iw_135) hd_X5_no ⟨Nat.le_of_ble_eq_true rfl, Nat.le_of_ble_eq_true rfl⟩), (ht _ iw_137)⟩ (ds_pS hPc hDc hK) rfl rfl hl.1 rfl (lv_room (Nat.le_of_ble_eq_true rfl)) dX5_octet_2 ⟨Nat.le_of_ble_eq_true rfl, Nat.le_of_ble_eq_true rfl⟩) (fun r31 u32 H locs hp33 hP hD hS => ?_)
    have hP : va_P D vwCl [(mo, .inr (5, [.int er, .ref aO, .ref aT, .ref aM, .ref aZ, .ref aY, .ref aK, .ref aF, .ref aL, .int (nI c), .int isd, .int wd])), (aO, .inl (cI, 2400, .inl O)), (aZ, .inl (cI, 2, .inl Z))] H := hP
    have hD : va_D A [(mo, .inr (5, [.int er, .ref aO, .ref aT, .ref aM, .ref aZ, .ref aY, .ref aK, .ref aF, .ref aL, .int (nI c), .int isd, .int wd])), (aO, .inl (cI, 2400, .inl O)), (aZ, .inl (cI, 2, .inl Z))] := hD
    have hp33 : r31 = nI 1 := hp33
    replace hp33 := Eq.symm hp33
    subst hp33
    refine lv_iconst (v := nI 1) hx hb dX5_octet_5 (by decide +kernel) ?_
    refine ds_calli (wc := [(mo, .inr (5, [.int er, .ref aO, .ref aT, .ref aM, .ref aZ, .ref aY, .ref aK, .ref aF, .ref aL, .int (nI c), .int isd, .int wd]))]) (wr := [(aO, .inl (cI, 2400, .inl O)), (aZ, .inl (cI, 2, .inl Z))]) (wo := (fun u35 : Unit => [(mo, .inr (5, [.int (nI 1), .ref aO, .ref aT, .ref aM, .ref aZ, .ref aY, .ref aK, .ref aF, .ref aL, .int (nI c), .int isd, .int wd]))])) (wn := (fun u35 : Unit => [(mo, .inr (5, [.int (nI 1), .ref aO, .ref aT, .ref aM, .ref aZ, .ref aY, .ref aK, .ref aF, .ref aL, .int (nI c), .int isd, .int wd])), (aO, .inl (cI, 2400, .inl O)), (aZ, .inl (cI, 2, .inl Z))])) (isC := [0]) (isR := [1, 2]) hP hD hS hA ⟨rfl, rfl, by decide, by decide, by decide⟩ [2, 0, 1] (by decide) (fun _ => rfl) (fun hPc hDc => va_runV (As := [.int (nI 1), .int (nI 1)]) (rest := []) ⟨hx, hb, hml, hown, ht⟩ (m_fails1 Ll D cI cL mo aO aT aM aZ aY aK aF aL er c isd wd 1  H.size) ⟨(callB_of 2 ht g_X5_fails rfl rfl rfl (ht _ iw_136) (ht _ iw_138) hd_X5_fails ⟨Nat.le_of_ble_eq_true rfl, Nat.le_of_ble_eq_true rfl⟩), (ht _ iw_139), (ht _ iw_140)⟩ (ds_pV hPc hDc hK (q0 := 0) rfl rfl) rfl rfl hl.1 rfl (lv_room (Nat.le_of_ble_eq_true rfl)) dX5_octet_6 ⟨Nat.le_of_ble_eq_true rfl, Nat.le_of_ble_eq_true rfl⟩) (fun r34 u35 H locs hp36 hP hD hS => ?_)
    have hP : va_P D vwCl [(mo, .inr (5, [.int (nI 1), .ref aO, .ref aT, .ref aM, .ref aZ, .ref aY, .ref aK, .ref aF, .ref aL, .int (nI c), .int isd, .int wd])), (aO, .inl (cI, 2400, .inl O)), (aZ, .inl (cI, 2, .inl Z))] H := hP
    have hD : va_D A [(mo, .inr (5, [.int (nI 1), .ref aO, .ref aT, .ref aM, .ref aZ, .ref aY, .ref aK, .ref aF, .ref aL, .int (nI c), .int isd, .int wd])), (aO, .inl (cI, 2400, .inl O)), (aZ, .inl (cI, 2, .inl Z))] := hD
    have hp36 : r34 = nI 1 := hp36
    replace hp36 := Eq.symm hp36
    subst hp36
    refine lv_if_eq (tgt := 14) hx hb dX5_octet_9 (by decide) (fun h => ?_) (fun h => ?_)
    ·
      rw [← nI_0] at h
      have h : 1 = 0 := (nI_eq (a := 1) (b := 0) (by omega) (by omega)).mp h
      exact absurd h (by decide)
    ·
      rw [← nI_0] at h
      have h : ¬ 1 = 0 := fun z9 => h ((nI_eq (a := 1) (b := 0) (by omega) (by omega)).mpr z9)
      refine lv_iconst (v := nI 0) hx hb dX5_octet_12 (by decide +kernel) ?_
      exact ds_iret hx hb hr hlk rfl (nI 1) ⟨(e_put_r hrk).symm, fun z => absurd (z.symm.trans (e_put_r hrk)) (by decide)⟩ hP hD hS (Nat.le_of_ble_eq_true rfl) (Nat.le_of_ble_eq_true rfl) dX5_octet_13
