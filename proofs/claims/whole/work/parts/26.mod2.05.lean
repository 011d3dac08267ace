set_option maxHeartbeats 4000000 in
set_option maxRecDepth 100000 in
theorem c_X5_strong (Ll : Launch) (D : va_G) (cI cL : ClassId) (mo : Nat) (aO : Nat) (aT : Nat) (aM : Nat) (aZ : Nat) (aY : Nat) (aK : Nat) (aF : Nat) (aL : Nat) (er : Int32) (c : Nat) (isd : Int32) (wd : Int32) (O : Nat → Int32) (Z : Nat → Int32) (lo : Nat) (ln : Nat) (fo : Nat → Int32) (fn : Nat → Int32) (x : Int32) (y : Int32) (z : Int32) (hR : mR lo ln fo fn O Z) (sz : Nat) : Met Ll yX5_strong wsX5_strong { frames := 1, cells := 0, slots := 0, locals := 26 } (ds_P D cI cL [.ref mo, .int x, .int y, .int z] [(mo, .inr (5, [.int er, .ref aO, .ref aT, .ref aM, .ref aZ, .ref aY, .ref aK, .ref aF, .ref aL, .int (nI c), .int isd, .int wd])), (aO, .inl (cI, 2400, .inl O)), (aZ, .inl (cI, 2, .inl Z))] sz) (ds_Ql D (fun (r : Int64) (u : Int32) => u = e_sum x y z lo ln ∧ (e_sum x y z lo ln = 0 → r = v_strong x y z (lo, fo, ln, fn))) (fun u : Int32 => [(mo, .inr (5, [.int u, .ref aO, .ref aT, .ref aM, .ref aZ, .ref aY, .ref aK, .ref aF, .ref aL, .int (nI c), .int isd, .int wd])), (aO, .inl (cI, 2400, .inl O)), (aZ, .inl (cI, 2, .inl Z))]) (va_A [(mo, .inr (5, [.int er, .ref aO, .ref aT, .ref aM, .ref aZ, .ref aY, .ref aK, .ref aF, .ref aL, .int (nI c), .int isd, .int wd])), (aO, .inl (cI, 2400, .inl O)), (aZ, .inl (cI, 2, .inl Z))] sz)) 0 0 (va_A [(mo, .inr (5, [.int er, .ref aO, .ref aT, .ref aM, .ref aZ, .ref aY, .ref aK, .ref aF, .ref aL, .int (nI c), .int isd, .int wd])), (aO, .inl (cI, 2400, .inl O)), (aZ, .inl (cI, 2, .inl Z))] sz) := by
  refine ds_enter (Qf := (fun A9 => ds_Ql D (fun (r : Int64) (u : Int32) => u = e_sum x y z lo ln ∧ (e_sum x y z lo ln = 0 → r = v_strong x y z (lo, fo, ln, fn))) (fun u : Int32 => [(mo, .inr (5, [.int u, .ref aO, .ref aT, .ref aM, .ref aZ, .ref aY, .ref aK, .ref aF, .ref aL, .int (nI c), .int isd, .int wd])), (aO, .inl (cI, 2400, .inl O)), (aZ, .inl (cI, 2, .inl Z))]) A9)) (cc := cX5_strong) (maxL := 4) (ret := (some .long)) (by decide) rfl (Nat.le_of_ble_eq_true rfl) ?_
  intro Pp Ee Ss Mm Aa Bb Me Cc hx hb hml hr ht hown hlk hnm A H locs hA hP hD hS hK ls hl
  have hl : lv_has ls 4 [(0, .ref mo), (1, .int x), (2, .int y), (3, .int z)] := hl
  change Ss.vm.findClass RX5 = some Mm.cls at hown
  have hZ := mR_len hR
  by_cases hrk : rok x
  ·
    have hro := hrk
    rcases hrk with rfl | rfl
    ·
      have hl : lv_has ls 4 [(0, .ref mo), (1, .int (nI 0)), (2, .int y), (3, .int z)] := hl
      refine lv_aload_n hx hb dX5_strong_0 rfl (lv_at hl 0 rfl) ?_
      refine lv_iload_n hx hb dX5_strong_1 rfl (lv_at hl 1 rfl) ?_
      refine ds_calli (wc := []) (wr := [(mo, .inr (5, [.int er, .ref aO, .ref aT, .ref aM, .ref aZ, .ref aY, .ref aK, .ref aF, .ref aL, .int (nI c), .int isd, .int wd])), (aO, .inl (cI, 2400, .inl O)), (aZ, .inl (cI, 2, .inl Z))]) (wo := (fun u2 : Unit => [])) (wn := (fun u2 : Unit => [(mo, .inr (5, [.int er, .ref aO, .ref aT, .ref aM, .ref aZ, .ref aY, .ref aK, .ref aF, .ref aL, .int (nI c), .int isd, .int wd])), (aO, .inl (cI, 2400, .inl O)), (aZ, .inl (cI, 2, .inl Z))])) (isC := []) (isR := [0, 1, 2]) hP hD hS hA ⟨rfl, rfl, by decide, by decide, by decide⟩ [0, 1, 2] (by decide) (fun _ => rfl) (fun hPc hDc => va_runS (As := [.int (nI 0)]) (rest := [.ref mo]) ⟨hx, hb, hml, hown, ht⟩ (m_no0 Ll D cI cL 0 (by decide) H.size) ⟨(callB_of 1 ht g_X5_no rfl rfl rfl (ht _ iw_136) (ht _ iw_135) hd_X5_no ⟨Nat.le_of_ble_eq_true rfl, Nat.le_of_ble_eq_true rfl⟩), (ht _ iw_137)⟩ (ds_pS hPc hDc hK) rfl rfl hl.1 rfl (lv_room (Nat.le_of_ble_eq_true rfl)) dX5_strong_2 ⟨Nat.le_of_ble_eq_true rfl, Nat.le_of_ble_eq_true rfl⟩) (fun r1 u2 H locs hp3 hP hD hS => ?_)
      have hP : va_P D vwCl [(mo, .inr (5, [.int er, .ref aO, .ref aT, .ref aM, .ref aZ, .ref aY, .ref aK, .ref aF, .ref aL, .int (nI c), .int isd, .int wd])), (aO, .inl (cI, 2400, .inl O)), (aZ, .inl (cI, 2, .inl Z))] H := hP
      have hD : va_D A [(mo, .inr (5, [.int er, .ref aO, .ref aT, .ref aM, .ref aZ, .ref aY, .ref aK, .ref aF, .ref aL, .int (nI c), .int isd, .int wd])), (aO, .inl (cI, 2400, .inl O)), (aZ, .inl (cI, 2, .inl Z))] := hD
      have hp3 : r1 = nI 0 := hp3
      replace hp3 := Eq.symm hp3
      subst hp3
      refine lv_iconst (v := nI 1) hx hb dX5_strong_5 (by decide +kernel) ?_
      refine ds_calli (wc := [(mo, .inr (5, [.int er, .ref aO, .ref aT, .ref aM, .ref aZ, .ref aY, .ref aK, .ref aF, .ref aL, .int (nI c), .int isd, .int wd]))]) (wr := [(aO, .inl (cI, 2400, .inl O)), (aZ, .inl (cI, 2, .inl Z))]) (wo := (fun u5 : Unit => [(mo, .inr (5, [.int (nI 0), .ref aO, .ref aT, .ref aM, .ref aZ, .ref aY, .ref aK, .ref aF, .ref aL, .int (nI c), .int isd, .int wd]))])) (wn := (fun u5 : Unit => [(mo, .inr (5, [.int (nI 0), .ref aO, .ref aT, .ref aM, .ref aZ, .ref aY, .ref aK, .ref aF, .ref aL, .int (nI c), .int isd, .int wd])), (aO, .inl (cI, 2400, .inl O)), (aZ, .inl (cI, 2, .inl Z))])) (isC := [0]) (isR := [1, 2]) hP hD hS hA ⟨rfl, rfl, by decide, by decide, by decide⟩ [2, 0, 1] (by decide) (fun _ => rfl) (fun hPc hDc => va_runV (As := [.int (nI 0), .int (nI 1)]) (rest := []) ⟨hx, hb, hml, hown, ht⟩ (m_fails0 Ll D cI cL mo aO aT aM aZ aY aK aF aL er c isd wd 1  H.size) ⟨(callB_of 2 ht g_X5_fails rfl rfl rfl (ht _ iw_136) (ht _ iw_138) hd_X5_fails ⟨Nat.le_of_ble_eq_true rfl, Nat.le_of_ble_eq_true rfl⟩), (ht _ iw_139), (ht _ iw_140)⟩ (ds_pV hPc hDc hK (q0 := 0) rfl rfl) rfl rfl hl.1 rfl (lv_room (Nat.le_of_ble_eq_true rfl)) dX5_strong_6 ⟨Nat.le_of_ble_eq_true rfl, Nat.le_of_ble_eq_true rfl⟩) (fun r4 u5 H locs hp6 hP hD hS => ?_)
      have hP : va_P D vwCl [(mo, .inr (5, [.int (nI 0), .ref aO, .ref aT, .ref aM, .ref aZ, .ref aY, .ref aK, .ref aF, .ref aL, .int (nI c), .int isd, .int wd])), (aO, .inl (cI, 2400, .inl O)), (aZ, .inl (cI, 2, .inl Z))] H := hP
      have hD : va_D A [(mo, .inr (5, [.int (nI 0), .ref aO, .ref aT, .ref aM, .ref aZ, .ref aY, .ref aK, .ref aF, .ref aL, .int (nI c), .int isd, .int wd])), (aO, .inl (cI, 2400, .inl O)), (aZ, .inl (cI, 2, .inl Z))] := hD
      have hp6 : r4 = nI 0 := hp6
      replace hp6 := Eq.symm hp6
      subst hp6
      refine lv_if_eq (tgt := 14) hx hb dX5_strong_9 (by decide) (fun h => ?_) (fun h => ?_)
      ·
        rw [← nI_0] at h
        have h : 0 = 0 := (nI_eq (a := 0) (b := 0) (by omega) (by omega)).mp h
        by_cases hg : gok y z lo
        ·
          obtain ⟨p, k, hpk, e8, e9⟩ := gok_nat (by omega) hg
          subst e8 e9
          have hl : lv_has ls 4 [(0, .ref mo), (1, .int (nI 0)), (2, .int (nI p)), (3, .int (nI k))] := hl
          refine lv_aload_n hx hb dX5_strong_14 rfl (lv_at hl 0 rfl) ?_
          refine lv_aload_n hx hb dX5_strong_15 rfl (lv_at hl 0 rfl) ?_
          refine lv_iload_n hx hb dX5_strong_16 rfl (lv_at hl 1 rfl) ?_
          refine lv_iload_n hx hb dX5_strong_17 rfl (lv_at hl 2 rfl) ?_
          refine lv_iload_n hx hb dX5_strong_18 rfl (lv_at hl 3 rfl) ?_
          refine ds_calli (wc := [(mo, .inr (5, [.int (nI 0), .ref aO, .ref aT, .ref aM, .ref aZ, .ref aY, .ref aK, .ref aF, .ref aL, .int (nI c), .int isd, .int wd])), (aZ, .inl (cI, 2, .inl Z))]) (wr := [(aO, .inl (cI, 2400, .inl O))]) (wo := (fun u8 : Unit => [(mo, .inr (5, [.int (nI 0), .ref aO, .ref aT, .ref aM, .ref aZ, .ref aY, .ref aK, .ref aF, .ref aL, .int (nI c), .int isd, .int wd])), (aZ, .inl (cI, 2, .inl Z))])) (wn := (fun u8 : Unit => [(mo, .inr (5, [.int (nI 0), .ref aO, .ref aT, .ref aM, .ref aZ, .ref aY, .ref aK, .ref aF, .ref aL, .int (nI c), .int isd, .int wd])), (aO, .inl (cI, 2400, .inl O)), (aZ, .inl (cI, 2, .inl Z))])) (isC := [0, 2]) (isR := [1]) hP hD hS hA ⟨rfl, rfl, by decide, by decide, by decide⟩ [1, 0, 2] (by decide) (fun _ => rfl) (fun hPc hDc => va_runV (As := [.int (nI 0), .int (nI p), .int (nI k)]) (rest := [.ref mo]) ⟨hx, hb, hml, hown, ht⟩ (m_lacks00 Ll D cI cL mo aO aT aM aZ aY aK aF aL (nI 0) c isd wd Z lo p k hZ.2.2.1 (by omega) hpk H.size) ⟨(callB_of 3 ht g_X5_lacks rfl rfl rfl (ht _ iw_136) (ht _ iw_144) hd_X5_lacks ⟨Nat.le_of_ble_eq_true rfl, Nat.le_of_ble_eq_true rfl⟩), (ht _ iw_145), (ht _ iw_146)⟩ (ds_pV hPc hDc hK (q0 := 0) rfl rfl) rfl rfl hl.1 rfl (lv_room (Nat.le_of_ble_eq_true rfl)) dX5_strong_19 ⟨Nat.le_of_ble_eq_true rfl, Nat.le_of_ble_eq_true rfl⟩) (fun r7 u8 H locs hp9 hP hD hS => ?_)
          have hP : va_P D vwCl [(mo, .inr (5, [.int (nI 0), .ref aO, .ref aT, .ref aM, .ref aZ, .ref aY, .ref aK, .ref aF, .ref aL, .int (nI c), .int isd, .int wd])), (aO, .inl (cI, 2400, .inl O)), (aZ, .inl (cI, 2, .inl Z))] H := hP
          have hD : va_D A [(mo, .inr (5, [.int (nI 0), .ref aO, .ref aT, .ref aM, .ref aZ, .ref aY, .ref aK, .ref aF, .ref aL, .int (nI c), .int isd, .int wd])), (aO, .inl (cI, 2400, .inl O)), (aZ, .inl (cI, 2, .inl Z))] := hD
          have hp9 : r7 = nI 0 := hp9
          replace hp9 := Eq.symm hp9
          subst hp9
          refine lv_iconst (v := nI 2) hx hb dX5_strong_22 (by decide +kernel) ?_
          refine ds_calli (wc := [(mo, .inr (5, [.int (nI 0), .ref aO, .ref aT, .ref aM, .ref aZ, .ref aY, .ref aK, .ref aF, .ref aL, .int (nI c), .int isd, .int wd]))]) (wr := [(aO, .inl (cI, 2400, .inl O)), (aZ, .inl (cI, 2, .inl Z))]) (wo := (fun u11 : Unit => [(mo, .inr (5, [.int (nI 0), .ref aO, .ref aT, .ref aM, .ref aZ, .ref aY, .ref aK, .ref aF, .ref aL, .int (nI c), .int isd, .int wd]))])) (wn := (fun u11 : Unit => [(mo, .inr (5, [.int (nI 0), .ref aO, .ref aT, .ref aM, .ref aZ, .ref aY, .ref aK, .ref aF, .ref aL, .int (nI c), .int isd, .int wd])), (aO, .inl (cI, 2400, .inl O)), (aZ, .inl (cI, 2, .inl Z))])) (isC := [0]) (isR := [1, 2]) hP hD hS hA ⟨rfl, rfl, by decide, by decide, by decide⟩ [2, 0, 1] (by decide) (fun _ => rfl) (fun hPc hDc => va_runV (As := [.int (nI 0), .int (nI 2)]) (rest := []) ⟨hx, hb, hml, hown, ht⟩ (m_fails0 Ll D cI cL mo aO aT aM aZ aY aK aF aL (nI 0) c isd wd 2  H.size) ⟨(callB_of 2 ht g_X5_fails rfl rfl rfl (ht _ iw_136) (ht _ iw_138) hd_X5_fails ⟨Nat.le_of_ble_eq_true rfl, Nat.le_of_ble_eq_true rfl⟩), (ht _ iw_139), (ht _ iw_140)⟩ (ds_pV hPc hDc hK (q0 := 0) rfl rfl) rfl rfl hl.1 rfl (lv_room (Nat.le_of_ble_eq_true rfl)) dX5_strong_23 ⟨Nat.le_of_ble_eq_true rfl, Nat.le_of_ble_eq_true rfl⟩) (fun r10 u11 H locs hp12 hP hD hS => ?_)
          have hP : va_P D vwCl [(mo, .inr (5, [.int (nI 0), .ref aO, .ref aT, .ref aM, .ref aZ, .ref aY, .ref aK, .ref aF, .ref aL, .int (nI c), .int isd, .int wd])), (aO, .inl (cI, 2400, .inl O)), (aZ, .inl (cI, 2, .inl Z))] H := hP
          have hD : va_D A [(mo, .inr (5, [.int (nI 0), .ref aO, .ref aT, .ref aM, .ref aZ, .ref aY, .ref aK, .ref aF, .ref aL, .int (nI c), .int isd, .int wd])), (aO, .inl (cI, 2400, .inl O)), (aZ, .inl (cI, 2, .inl Z))] := hD
          have hp12 : r10 = nI 0 := hp12
          replace hp12 := Eq.symm hp12
          subst hp12
          refine lv_if_eq (tgt := 33) hx hb dX5_strong_26 (by decide) (fun h => ?_) (fun h => ?_)
          ·
            rw [← nI_0] at h
            have h : 0 = 0 := (nI_eq (a := 0) (b := 0) (by omega) (by omega)).mp h
            refine lv_aload_n hx hb dX5_strong_33 rfl (lv_at hl 0 rfl) ?_
            refine lv_iload_n hx hb dX5_strong_34 rfl (lv_at hl 1 rfl) ?_
            refine lv_iload_n hx hb dX5_strong_35 rfl (lv_at hl 2 rfl) ?_
            refine lv_iload_n hx hb dX5_strong_36 rfl (lv_at hl 3 rfl) ?_
            refine ds_calll (wc := [(mo, .inr (5, [.int (nI 0), .ref aO, .ref aT, .ref aM, .ref aZ, .ref aY, .ref aK, .ref aF, .ref aL, .int (nI c), .int isd, .int wd])), (aO, .inl (cI, 2400, .inl O))]) (wr := [(aZ, .inl (cI, 2, .inl Z))]) (wo := (fun u14 : Unit => [(mo, .inr (5, [.int (nI 0), .ref aO, .ref aT, .ref aM, .ref aZ, .ref aY, .ref aK, .ref aF, .ref aL, .int (nI c), .int isd, .int wd])), (aO, .inl (cI, 2400, .inl O))])) (wn := (fun u14 : Unit => [(mo, .inr (5, [.int (nI 0), .ref aO, .ref aT, .ref aM, .ref aZ, .ref aY, .ref aK, .ref aF, .ref aL, .int (nI c), .int isd, .int wd])), (aO, .inl (cI, 2400, .inl O)), (aZ, .inl (cI, 2, .inl Z))])) (isC := [0, 1]) (isR := [2]) hP hD hS hA ⟨rfl, rfl, by decide, by decide, by decide⟩ [1, 2, 0] (by decide) (fun _ => rfl) (fun hPc hDc => va_runV (As := [.int (nI 0), .int (nI p), .int (nI k)]) (rest := []) ⟨hx, hb, hml, hown, ht⟩ (m_strongOf0 Ll D cI cL mo aO aT aM aZ aY aK aF aL (nI 0) c isd wd O p k (by omega) H.size) ⟨(callB_of 3 ht g_X5_strongOf rfl rfl rfl (ht _ iw_136) (ht _ iw_159) hd_X5_strongOf ⟨Nat.le_of_ble_eq_true rfl, Nat.le_of_ble_eq_true rfl⟩), (ht _ iw_160), (ht _ iw_161)⟩ (ds_pV hPc hDc hK (q0 := 0) rfl rfl) rfl rfl hl.1 rfl (lv_room (Nat.le_of_ble_eq_true rfl)) dX5_strong_37 ⟨Nat.le_of_ble_eq_true rfl, Nat.le_of_ble_eq_true rfl⟩) (fun r13 u14 H locs hp15 hP hD hS => ?_)
            have hP : va_P D vwCl [(mo, .inr (5, [.int (nI 0), .ref aO, .ref aT, .ref aM, .ref aZ, .ref aY, .ref aK, .ref aF, .ref aL, .int (nI c), .int isd, .int wd])), (aO, .inl (cI, 2400, .inl O)), (aZ, .inl (cI, 2, .inl Z))] H := hP
            have hD : va_D A [(mo, .inr (5, [.int (nI 0), .ref aO, .ref aT, .ref aM, .ref aZ, .ref aY, .ref aK, .ref aF, .ref aL, .int (nI c), .int isd, .int wd])), (aO, .inl (cI, 2400, .inl O)), (aZ, .inl (cI, 2, .inl Z))] := hD
            have hp15 : r13 = su_S O p k := hp15
            replace hp15 := Eq.symm hp15
            subst hp15
            exact ds_lret hx hb hr hlk (nI 0) ⟨(e_sum_ok hro (by rw [rsel_0]; exact hg)).symm, fun _ => by rw [v_strong_0 (by omega)]; exact (mR_W0 hR hpk).2⟩ hP hD hS (Nat.le_of_ble_eq_true rfl) (Nat.le_of_ble_eq_true rfl) dX5_strong_40
          ·
            rw [← nI_0] at h
            have h : ¬ 0 = 0 := fun z9 => h ((nI_eq (a := 0) (b := 0) (by omega) (by omega)).mpr z9)
            exact absurd rfl h
        ·
          refine lv_aload_n hx hb dX5_strong_14 rfl (lv_at hl 0 rfl) ?_
          refine lv_aload_n hx hb dX5_strong_15 rfl (lv_at hl 0 rfl) ?_
          refine lv_iload_n hx hb dX5_strong_16 rfl (lv_at hl 1 rfl) ?_
          refine lv_iload_n hx hb dX5_strong_17 rfl (lv_at hl 2 rfl) ?_
          refine lv_iload_n hx hb dX5_strong_18 rfl (lv_at hl 3 rfl) ?_
          refine ds_calli (wc := [(mo, .inr (5, [.int (nI 0), .ref aO, .ref aT, .ref aM, .ref aZ, .ref aY, .ref aK, .ref aF, .ref aL, .int (nI c), .int isd, .int wd])), (aZ, .inl (cI, 2, .inl Z))]) (wr := [(aO, .inl (cI, 2400, .inl O))]) (wo := (fun u17 : Unit => [(mo, .inr (5, [.int (nI 0), .ref aO, .ref aT, .ref aM, .ref aZ, .ref aY, .ref aK, .ref aF, .ref aL, .int (nI c), .int isd, .int wd])), (aZ, .inl (cI, 2, .inl Z))])) (wn := (fun u17 : Unit => [(mo, .inr (5, [.int (nI 0), .ref aO, .ref aT, .ref aM, .ref aZ, .ref aY, .ref aK, .ref aF, .ref aL, .int (nI c), .int isd, .int wd])), (aO, .inl (cI, 2400, .inl O)), (aZ, .inl (cI, 2, .inl Z))])) (isC := [0, 2]) (isR := [1]) hP hD hS hA ⟨rfl, rfl, by decide, by decide, by decide⟩ [1, 0, 2] (by decide) (fun _ => rfl) (fun hPc hDc => va_runV (As := [.int (nI 0), .int y, .int z]) (rest := [.ref mo]) ⟨hx, hb, hml, hown, ht⟩ (m_lacks10 Ll D cI cL mo aO aT aM aZ aY aK aF aL (nI 0) c isd wd Z lo y z hZ.2.2.1 (by omega) (Classical.not_not.mp hg) H.size) ⟨(callB_of 3 ht g_X5_lacks rfl rfl rfl (ht _ iw_136) (ht _ iw_144) hd_X5_lacks ⟨Nat.le_of_ble_eq_true rfl, Nat.le_of_ble_eq_true rfl⟩), (ht _ iw_145), (ht _ iw_146)⟩ (ds_pV hPc hDc hK (q0 := 0) rfl rfl) rfl rfl hl.1 rfl (lv_room (Nat.le_of_ble_eq_true rfl)) dX5_strong_19 ⟨Nat.le_of_ble_eq_true rfl, Nat.le_of_ble_eq_true rfl⟩) (fun r16 u17 H locs hp18 hP hD hS => ?_)
          have hP : va_P D vwCl [(mo, .inr (5, [.int (nI 0), .ref aO, .ref aT, .ref aM, .ref aZ, .ref aY, .ref aK, .ref aF, .ref aL, .int (nI c), .int isd, .int wd])), (aO, .inl (cI, 2400, .inl O)), (aZ, .inl (cI, 2, .inl Z))] H := hP
          have hD : va_D A [(mo, .inr (5, [.int (nI 0), .ref aO, .ref aT, .ref aM, .ref aZ, .ref aY, .ref aK, .ref aF, .ref aL, .int (nI c), .int isd, .int wd])), (aO, .inl (cI, 2400, .inl O)), (aZ, .inl (cI, 2, .inl Z))] := hD
          have hp18 : r16 = nI 1 := hp18
          replace hp18 := Eq.symm hp18
          subst hp18
          refine lv_iconst (v := nI 2) hx hb dX5_strong_22 (by decide +kernel) ?_
          refine ds_calli (wc := [(mo, .inr (5, [.int (nI 0), .ref aO, .ref aT, .ref aM, .ref aZ, .ref aY, .ref aK, .ref aF, .ref aL, .int (nI c), .int isd, .int wd]))]) (wr := [(aO, .inl (cI, 2400, .inl O)), (aZ, .inl (cI, 2, .inl Z))]) (wo := (fun u20 : Unit => [(mo, .inr (5, [.int (nI 2), .ref aO, .ref aT, .ref aM, .ref aZ, .ref aY, .ref aK, .ref aF, .ref aL, .int (nI c), .int isd, .int wd]))])) (wn := (fun u20 : Unit => [(mo, .inr (5, [.int (nI 2), .ref aO, .ref aT, .ref aM, .ref aZ, .ref aY, .ref aK, .ref aF, .ref aL, .int (nI c), .int isd, .int wd])), (aO, .inl (cI, 2400, .inl O)), (aZ, .inl (cI, 2, .inl Z))])) (isC := [0]) (isR := [1, 2]) hP hD hS hA ⟨rfl, rfl, by decide, by decide, by decide⟩ [2, 0, 1] (by decide) (fun _ => rfl) (fun hPc hDc => va_runV (As := [.int (nI 1), .int (nI 2)]) (rest := []) ⟨hx, hb, hml, hown, ht⟩ (m_fails1 Ll D cI cL mo aO aT aM aZ aY aK aF aL (nI 0) c isd wd 2  H.size) ⟨(callB_of 2 ht g_X5_fails rfl rfl rfl (ht _ iw_136) (ht _ iw_138) hd_X5_fails ⟨Nat.le_of_ble_eq_true rfl, Nat.le_of_ble_eq_true rfl⟩), (ht _ iw_139), (ht _ iw_140)⟩ (ds_pV hPc hDc hK (q0 := 0) rfl rfl) rfl rfl hl.1 rfl (lv_room (Nat.le_of_ble_eq_true rfl)) dX5_strong_23 ⟨Nat.le_of_ble_eq_true rfl, Nat.le_of_ble_eq_true rfl⟩) (fun r19 u20 H locs hp21 hP hD hS => ?_)
          have hP : va_P D vwCl [(mo, .inr (5, [.int (nI 2), .ref aO, .ref aT, .ref aM, .ref aZ, .ref aY, .ref aK, .ref aF, .ref aL, .int (nI c), .int isd, .int wd])), (aO, .inl (cI, 2400, .inl O)), (aZ, .inl (cI, 2, .inl Z))] H := hP
          have hD : va_D A [(mo, .inr (5, [.int (nI 2), .ref aO, .ref aT, .ref aM, .ref aZ, .ref aY, .ref aK, .ref aF, .ref aL, .int (nI c), .int isd, .int wd])), (aO, .inl (cI, 2400, .inl O)), (aZ, .inl (cI, 2, .inl Z))] := hD
          have hp21 : r19 = nI 1 := hp21
          replace hp21 := Eq.symm hp21
          subst hp21
          refine lv_if_eq (tgt := 33) hx hb dX5_strong_26 (by decide) (fun h => ?_) (fun h => ?_)
          ·
            rw [← nI_0] at h
            have h : 1 = 0 := (nI_eq (a := 1) (b := 0) (by omega) (by omega)).mp h
            exact absurd h (by decide)
          ·
            rw [← nI_0] at h
            have h : ¬ 1 = 0 := fun z9 => h ((nI_eq (a := 1) (b := 0) (by omega) (by omega)).mpr z9)
            refine lv_lconst (v := 0) hx hb dX5_strong_29 (by decide +kernel) ?_
            refine lv_goto (tgt := 40) hx hb dX5_strong_30 (by decide) ?_
            exact ds_lret hx hb hr hlk (nI 2) ⟨(e_sum_x hro (by rw [rsel_0]; exact hg)).symm, fun z => absurd (z.symm.trans (e_sum_x hro (by rw [rsel_0]; exact hg))) (by decide)⟩ hP hD hS (Nat.le_of_ble_eq_true rfl) (Nat.le_of_ble_eq_true rfl) dX5_strong_40
      ·
        rw [← nI_0] at h
        have h : ¬ 0 = 0 := fun z9 => h ((nI_eq (a := 0) (b := 0) (by omega) (by omega)).mpr z9)
        exact absurd rfl h
    ·
      have hl : lv_has ls 4 [(0, .ref mo), (1, .int (nI 1)), (2, .int y), (3, .int z)] := hl
      refine lv_aload_n hx hb dX5_strong_0 rfl (lv_at hl 0 rfl) ?_
      refine lv_iload_n hx hb dX5_strong_1 rfl (lv_at hl 1 rfl) ?_
      refine ds_calli (wc := []) (wr := [(mo, .inr (5, [.int er, .ref aO, .ref aT, .ref aM, .ref aZ, .ref aY, .ref aK, .ref aF, .ref aL, .int (nI c), .int isd, .int wd])), (aO, .inl (cI, 2400, .inl O)), (aZ, .inl (cI, 2, .inl Z))]) (wo := (fun u23 : Unit => [])) (wn := (fun u23 : Unit => [(mo, .inr (5, [.int er, .ref aO, .ref aT, .ref aM, .ref aZ, .ref aY, .ref aK, .ref aF, .ref aL, .int (nI c), .int isd, .int wd])), (aO, .inl (cI, 2400, .inl O)), (aZ, .inl (cI, 2, .inl Z))])) (isC := []) (isR := [0, 1, 2]) hP hD hS hA ⟨rfl, rfl, by decide, by decide, by decide⟩ [0, 1, 2] (by decide) (fun _ => rfl) (fun hPc hDc => va_runS (As := [.int (nI 1)]) (rest := [.ref mo]) ⟨hx, hb, hml, hown, ht⟩ (m_no0 Ll D cI cL 1 (by decide) H.size) ⟨(callB_of 1 ht g_X5_no rfl rfl rfl (ht _ iw_136) (ht _ iw_135) hd_X5_no ⟨Nat.le_of_ble_eq_true rfl, Nat.le_of_ble_eq_true rfl⟩), (ht _ iw_137)⟩ (ds_pS hPc hDc hK) rfl rfl hl.1 rfl (lv_room (Nat.le_of_ble_eq_true rfl)) dX5_strong_2 ⟨Nat.le_of_ble_eq_true rfl, Nat.le_of_ble_eq_true rfl⟩) (fun r22 u23 H locs hp24 hP hD hS => ?_)
      have hP : va_P D vwCl [(mo, .inr (5, [.int er, .ref aO, .ref aT, .ref aM, .ref aZ, .ref aY, .ref aK, .ref aF, .ref aL, .int (nI c), .int isd, .int wd])), (aO, .inl (cI, 2400, .inl O)), (aZ, .inl (cI, 2, .inl Z))] H := hP
      have hD : va_D A [(mo, .inr (5, [.int er, .ref aO, .ref aT, .ref aM, .ref aZ, .ref aY, .ref aK, .ref aF, .ref aL, .int (nI c), .int isd, .int wd])), (aO, .inl (cI, 2400, .inl O)), (aZ, .inl (cI, 2, .inl Z))] := hD
      have hp24 : r22 = nI 0 := hp24
      replace hp24 := Eq.symm hp24
      subst hp24
      refine lv_iconst (v := nI 1) hx hb dX5_strong_5 (by decide +kernel) ?_
      refine ds_calli (wc := [(mo, .inr (5, [.int er, .ref aO, .ref aT, .ref aM, .ref aZ, .ref aY, .ref aK, .ref aF, .ref aL, .int (nI c), .int isd, .int wd]))]) (wr := [(aO, .inl (cI, 2400, .inl O)), (aZ, .inl (cI, 2, .inl Z))]) (wo := (fun u26 : Unit => [(mo, .inr (5, [.int (nI 0), .ref aO, .ref aT, .ref aM, .ref aZ, .ref aY, .ref aK, .ref aF, .ref aL, .int (nI c), .int isd, .int wd]))])) (wn := (fun u26 : Unit => [(mo, .inr (5, [.int (nI 0), .ref aO, .ref aT, .ref aM, .ref aZ, .ref aY, .ref aK, .ref aF, .ref aL, .int (nI c), .int isd, .int wd])), (aO, .inl (cI, 2400, .inl O)), (aZ, .inl (cI, 2, .inl Z))])) (isC := [0]) (isR := [1, 2]) hP hD hS hA ⟨rfl, rfl, by decide, by decide, by decide⟩ [2, 0, 1] (by decide) (fun _ => rfl) (fun hPc hDc => va_runV (As := [.int (nI 0), .int (nI 1)]) (rest := []) ⟨hx, hb, hml, hown, ht⟩ (m_fails0 Ll D cI cL mo aO aT aM aZ aY aK aF aL er c isd wd 1  H.size) ⟨(callB_of 2 ht g_X5_fails rfl rfl rfl (ht _ iw_136) (ht _ iw_138) hd_X5_fails ⟨Nat.le_of_ble_eq_true rfl, Nat.le_of_ble_eq_true rfl⟩), (ht _ iw_139), (ht _ iw_140)⟩ (ds_pV hPc hDc hK (q0 := 0) rfl rfl) rfl rfl hl.1 rfl (lv_room (Nat.le_of_ble_eq_true rfl)) dX5_strong_6 ⟨Nat.le_of_ble_eq_true rfl, Nat.le_of_ble_eq_true rfl⟩) (fun r25 u26 H locs hp27 hP hD hS => ?_)
      have hP : va_P D vwCl [(mo, .inr (5, [.int (nI 0), .ref aO, .ref aT, .ref aM, .ref aZ, .ref aY, .ref aK, .ref aF, .ref aL, .int (nI c), .int isd, .int wd])), (aO, .inl (cI, 2400, .inl O)), (aZ, .inl (cI, 2, .inl Z))] H := hP
      have hD : va_D A [(mo, .inr (5, [.int (nI 0), .ref aO, .ref aT, .ref aM, .ref aZ, .ref aY, .ref aK, .ref aF, .ref aL, .int (nI c), .int isd, .int wd])), (aO, .inl (cI, 2400, .inl O)), (aZ, .inl (cI, 2, .inl Z))] := hD
      have hp27 : r25 = nI 0 := hp27
      replace hp27 := Eq.symm hp27
      subst hp27
      refine lv_if_eq (tgt := 14) hx hb dX5_strong_9 (by decide) (fun h => ?_) (fun h => ?_)
      ·
        rw [← nI_0] at h
        have h : 0 = 0 := (nI_eq (a := 0) (b := 0) (by omega) (by omega)).mp h
        by_cases hg : gok y z ln
        ·
          obtain ⟨p, k, hpk, e8, e9⟩ := gok_nat (by omega) hg
          subst e8 e9
          have hl : lv_has ls 4 [(0, .ref mo), (1, .int (nI 1)), (2, .int (nI p)), (3, .int (nI k))] := hl
          refine lv_aload_n hx hb dX5_strong_14 rfl (lv_at hl 0 rfl) ?_
          refine lv_aload_n hx hb dX5_strong_15 rfl (lv_at hl 0 rfl) ?_
          refine lv_iload_n hx hb dX5_strong_16 rfl (lv_at hl 1 rfl) ?_
          refine lv_iload_n hx hb dX5_strong_17 rfl (lv_at hl 2 rfl) ?_
          refine lv_iload_n hx hb dX5_strong_18 rfl (lv_at hl 3 rfl) ?_
          refine ds_calli (wc := [(mo, .inr (5, [.int (nI 0), .ref aO, .ref aT, .ref aM, .ref aZ, .ref aY, .ref aK, .ref aF, .ref aL, .int (nI c), .int isd, .int wd])), (aZ, .inl (cI, 2, .inl Z))]) (wr := [(aO, .inl (cI, 2400, .inl O))]) (wo := (fun u29 : Unit => [(mo, .inr (5, [.int (nI 0), .ref aO, .ref aT, .ref aM, .ref aZ, .ref aY, .ref aK, .ref aF, .ref aL, .int (nI c), .int isd, .int wd])), (aZ, .inl (cI, 2, .inl Z))])) (wn := (fun u29 : Unit => [(mo, .inr (5, [.int (nI 0), .ref aO, .ref aT, .ref aM, .ref aZ, .ref aY, .ref aK, .ref aF, .ref aL, .int (nI c), .int isd, .int wd])), (aO, .inl (cI, 2400, .inl O)), (aZ, .inl (cI, 2, .inl Z))])) (isC := [0, 2]) (isR := [1]) hP hD hS hA ⟨rfl, rfl, by decide, by decide, by decide⟩ [1, 0, 2] (by decide) (fun _ => rfl) (fun hPc hDc => va_runV (As := [.int (nI 1), .int (nI p), .int (nI k)]) (rest := [.ref mo]) ⟨hx, hb, hml, hown, ht⟩ (m_lacks01 Ll D cI cL mo aO aT aM aZ aY aK aF aL (nI 0) c isd wd Z ln p k hZ.2.2.2 (by omega) hpk H.size) ⟨(callB_of 3 ht g_X5_lacks rfl rfl rfl (ht _ iw_136) (ht _ iw_144) hd_X5_lacks ⟨Nat.le_of_ble_eq_true rfl, Nat.le_of_ble_eq_true rfl⟩), (ht _ iw_145), (ht _ iw_146)⟩ (ds_pV hPc hDc hK (q0 := 0) rfl rfl) rfl rfl hl.1 rfl (lv_room (Nat.le_of_ble_eq_true rfl)) dX5_strong_19 ⟨Nat.le_of_ble_eq_true rfl, Nat.le_of_ble_eq_true rfl⟩) (fun r28 u29 H locs hp30 hP hD hS => ?_)
          have hP : va_P D vwCl [(mo, .inr (5, [.int (nI 0), .ref aO, .ref aT, .ref aM, .ref aZ, .ref aY, .ref aK, .ref aF, .ref aL, .int (nI c), .int isd, .int wd])), (aO, .inl (cI, 2400, .inl O)), (aZ, .inl (cI, 2, .inl Z))] H := hP
          have hD : va_D A [(mo, .inr (5, [.int (nI 0), .ref aO, .ref aT, .ref aM, .ref aZ, .ref aY, .ref aK, .ref aF, .ref aL, .int (nI c), .int isd, .int wd])), (aO, .inl (cI, 2400, .inl O)), (aZ, .inl (cI, 2, .inl Z))] := hD
          have hp30 : r28 = nI 0 := hp30
          replace hp30 := Eq.symm hp30
          subst hp30
          refine lv_iconst (v := nI 2) hx hb dX5_strong_22 (by decide +kernel) ?_
          refine ds_calli (wc := [(mo, .inr (5, [.int (nI 0), .ref aO, .ref aT, .ref aM, .ref aZ, .ref aY, .ref aK, .ref aF, .ref aL, .int (nI c), .int isd, .int wd]))]) (wr := [(aO, .inl (cI, 2400, .inl O)), (aZ, .inl (cI, 2, .inl Z))]) (wo := (fun u32 : Unit => [(mo, .inr (5, [.int (nI 0), .ref aO, .ref aT, .ref aM, .ref aZ, .ref aY, .ref aK, .ref aF, .ref aL, .int (nI c), .int isd, .int wd]))])) (wn := (fun u32 : Unit => [(mo, .inr (5, [.int (nI 0), .ref aO, .ref aT, .ref aM, .ref aZ, .ref aY, .ref aK, .ref aF, .ref aL, .int (nI c), .int isd, .int wd])), (aO, .inl (cI, 2400, .inl O)), (aZ, .inl (cI, 2, .inl Z))])) (isC := [0]) (isR := [1, 2]) hP hD hS hA ⟨rfl, rfl, by decide, by decide, by decide⟩ [2, 0, 1] (by decide) (fun _ => rfl) (fun hPc hDc => va_runV (As := [.int (nI 0), .int (nI 2)]) (rest := []) ⟨hx, hb, hml, hown, ht⟩ (m_fails0 Ll D cI cL mo aO aT aM aZ aY aK aF aL (nI 0) c isd wd 2  H.size) ⟨(callB_of 2 ht g_X5_fails rfl rfl rfl (ht _ iw_136) (ht _ iw_138) hd_X5_fails ⟨Nat.le_of_ble_eq_true rfl, Nat.le_of_ble_eq_true rfl⟩), (ht _ iw_139), (ht _ iw_140)⟩ (ds_pV hPc hDc hK (q0 := 0) rfl rfl) rfl rfl hl.1 rfl (lv_room (Nat.le_of_ble_eq_true rfl)) dX5_strong_23 ⟨Nat.le_of_ble_eq_true rfl, Nat.le_of_ble_eq_true rfl⟩) (fun r31 u32 H locs hp33 hP hD hS => ?_)
          have hP : va_P D vwCl [(mo, .inr (5, [.int (nI 0), .ref aO, .ref aT, .ref aM, .ref aZ, .ref aY, .ref aK, .ref aF, .ref aL, .int (nI c), .int isd, .int wd])), (aO, .inl (cI, 2400, .inl O)), (aZ, .inl (cI, 2, .inl Z))] H := hP
          have hD : va_D A [(mo, .inr (5, [.int (nI 0), .ref aO, .ref aT, .ref aM, .ref aZ, .ref aY, .ref aK, .ref aF, .ref aL, .int (nI c), .int isd, .int wd])), (aO, .inl (cI, 2400, .inl O)), (aZ, .inl (cI, 2, .inl Z))] := hD
          have hp33 : r31 = nI 0 := hp33
          replace hp33 := Eq.symm hp33
          subst hp33
          refine lv_if_eq (tgt := 33) hx hb dX5_strong_26 (by decide) (fun h => ?_) (fun h => ?_)
          ·
            rw [← nI_0] at h
            have h : 0 = 0 := (nI_eq (a := 0) (b := 0) (by omega) (by omega)).mp h
            refine lv_aload_n hx hb dX5_strong_33 rfl (lv_at hl 0 rfl) ?_
            refine lv_iload_n hx hb dX5_strong_34 rfl (lv_at hl 1 rfl) ?_
            refine lv_iload_n hx hb dX5_strong_35 rfl (lv_at hl 2 rfl) ?_
            refine lv_iload_n hx hb dX5_strong_36 rfl (lv_at hl 3 rfl) ?_
            refine ds_calll (wc := [(mo, .inr (5, [.int (nI 0), .ref aO, .ref aT, .ref aM, .ref aZ, .ref aY, .ref aK, .ref aF, .ref aL, .int (nI c), .int isd, .int wd])), (aO, .inl (cI, 2400, .inl O))]) (wr := [(aZ, .inl (cI, 2, .inl Z))]) (wo := (fun u35 : Unit => [(mo, .inr (5, [.int (nI 0), .ref aO, .ref aT, .ref aM, .ref aZ, .ref aY, .ref aK, .ref aF, .ref aL, .int (nI c), .int isd, .int wd])), (aO, .inl (cI, 2400, .inl O))])) (wn := (fun u35 : Unit => [(mo, .inr (5, [.int (nI 0), .ref aO, .ref aT, .ref aM, .ref aZ, .ref aY, .ref aK, .ref aF, .ref aL, .int (nI c), .int isd, .int wd])), (aO, .inl (cI, 2400, .inl O)), (aZ, .inl (cI, 2, .inl Z))])) (isC := [0, 1]) (isR := [2]) hP hD hS hA ⟨rfl, rfl, by decide, by decide, by decide⟩ [1, 2, 0] (by decide) (fun _ => rfl) (fun hPc hDc => va_runV (As := [.int (nI 1), .int (nI p), .int (nI k)]) (rest := []) ⟨hx, hb, hml, hown, ht⟩ (m_strongOf1 Ll D cI cL mo aO aT aM aZ aY aK aF aL (nI 0) c isd wd O p k (by omega) H.size) ⟨(callB_of 3 ht g_X5_strongOf rfl rfl rfl (ht _ iw_136) (ht _ iw_159) hd_X5_strongOf ⟨Nat.le_of_ble_eq_true rfl, Nat.le_of_ble_eq_true rfl⟩), (ht _ iw_160), (ht _ iw_161)⟩ (ds_pV hPc hDc hK (q0 := 0) rfl rfl) rfl rfl hl.1 rfl (lv_room (Nat.le_of_ble_eq_true rfl)) dX5_strong_37 ⟨Nat.le_of_ble_eq_true rfl, Nat.le_of_ble_eq_true rfl⟩) (fun r34 u35 H locs hp36 hP hD hS => ?_)
            have hP : va_P D vwCl [(mo, .inr (5, [.int (nI 0), .ref aO, .ref aT, .ref aM, .ref aZ, .ref aY, .ref aK, .ref aF, .ref aL, .int (nI c), .int isd, .int wd])), (aO, .inl (cI, 2400, .inl O)), (aZ, .inl (cI, 2, .inl Z))] H := hP
            have hD : va_D A [(mo, .inr (5, [.int (nI 0), .ref aO, .ref aT, .ref aM, .ref aZ, .ref aY, .ref aK, .ref aF, .ref aL, .int (nI c), .int isd, .int wd])), (aO, .inl (cI, 2400, .inl O)), (aZ, .inl (cI, 2, .inl Z))] := hD
            have hp36 : r34 = su_S (fun j => O (1200 + j)) p k := hp36
            replace hp36 := Eq.symm hp36
            subst hp36
            exact ds_lret hx hb hr hlk (nI 0) ⟨(e_sum_ok hro (by rw [rsel_1]; exact hg)).symm, fun _ => by rw [v_strong_1 (by omega)]; exact (mR_W1 hR hpk).2⟩ hP hD hS (Nat.le_of_ble_eq_true rfl) (Nat.le_of_ble_eq_true rfl) dX5_strong_40
          ·
            rw [← nI_0] at h
            have h : ¬ 0 = 0 := fun z9 => h ((nI_eq (a := 0) (b := 0) (by omega) (by omega)).mpr z9)
            exact absurd rfl h
        ·
          refine lv_aload_n hx hb dX5_strong_14 rfl (lv_at hl 0 rfl) ?_
          refine lv_aload_n hx hb dX5_strong_15 rfl (lv_at hl 0 rfl) ?_
          refine lv_iload_n hx hb dX5_strong_16 rfl (lv_at hl 1 rfl) ?_
          refine lv_iload_n hx hb dX5_strong_17 rfl (lv_at hl 2 rfl) ?_
          refine lv_iload_n hx hb dX5_strong_18 rfl (lv_at hl 3 rfl) ?_
          refine ds_calli (wc := [(mo, .inr (5, [.int (nI 0), .ref aO, .ref aT, .ref aM, .ref aZ, .ref aY, .ref aK, .ref aF, .ref aL, .int (nI c), .int isd, .int wd])), (aZ, .inl (cI, 2, .inl Z))]) (wr := [(aO, .inl (cI, 2400, .inl O))]) (wo := (fun u38 : Unit => [(mo, .inr (5, [.int (nI 0), .ref aO, .ref aT, .ref aM, .ref aZ, .ref aY, .ref aK, .ref aF, .ref aL, .int (nI c), .int isd, .int wd])), (aZ, .inl (cI, 2, .inl Z))])) (wn := (fun u38 : Unit => [(mo, .inr (5, [.int (nI 0), .ref aO, .ref aT, .ref aM, .ref aZ, .ref aY, .ref aK, .ref aF, .ref aL, .int (nI c), .int isd, .int wd])), (aO, .inl (cI, 2400, .inl O)), (aZ, .inl (cI, 2, .inl Z))])) (isC := [0, 2]) (isR := [1]) hP hD hS hA ⟨rfl, rfl, by decide, by decide, by decide⟩ [1, 0, 2] (by decide) (fun _ => rfl) (fun hPc hDc => va_runV (As := [.int (nI 1), .int y, .int z]) (rest := [.ref mo]) ⟨hx, hb, hml, hown, ht⟩ (m_lacks11 Ll D cI cL mo aO aT aM aZ aY aK aF aL (nI 0) c isd wd Z ln y z hZ.2.2.2 (by omega) (Classical.not_not.mp hg) H.size) ⟨(callB_of 3 ht g_X5_lacks rfl rfl rfl (ht _ iw_136) (ht _ iw_144) hd_X5_lacks ⟨Nat.le_of_ble_eq_true rfl, Nat.le_of_ble_eq_true rfl⟩), (ht _ iw_145), (ht _ iw_146)⟩ (ds_pV hPc hDc hK (q0 := 0) rfl rfl) rfl rfl hl.1 rfl (lv_room (Nat.le_of_ble_eq_true rfl)) dX5_strong_19 ⟨Nat.le_of_ble_eq_true rfl, Nat.le_of_ble_eq_true rfl⟩) (fun r37 u38 H locs hp39 hP hD hS => ?_)
          have hP : va_P D vwCl [(mo, .inr (5, [.int (nI 0), .ref aO, .ref aT, .ref aM, .ref aZ, .ref aY, .ref aK, .ref aF, .ref aL, .int (nI c), .int isd, .int wd])), (aO, .inl (cI, 2400, .inl O)), (aZ, .inl (cI, 2, .inl Z))] H := hP
          have hD : va_D A [(mo, .inr (5, [.int (nI 0), .ref aO, .ref aT, .ref aM, .ref aZ, .ref aY, .ref aK, .ref aF, .ref aL, .int (nI c), .int isd, .int wd])), (aO, .inl (cI, 2400, .inl O)), (aZ, .inl (cI, 2, .inl Z))] := hD
          have hp39 : r37 = nI 1 := hp39
          replace hp39 := Eq.symm hp39
          subst hp39
          refine lv_iconst (v := nI 2) hx hb dX5_strong_22 (by decide +kernel) ?_
          refine ds_calli (wc := [(mo, .inr (5, [.int (nI 0), .ref aO, .ref aT, .ref aM, .ref aZ, .ref aY, .ref aK, .ref aF, .ref aL, .int (nI c), .int isd, .int wd]))]) (wr := [(aO, .inl (cI, 2400, .inl O)), (aZ, .inl (cI, 2, .inl Z))]) (wo := (fun u41 : Unit => [(mo, .inr (5, [.int (nI 2), .ref aO, .ref aT, .ref aM, .ref aZ, .ref aY, .ref aK, .ref aF, .ref aL, .int (nI c), .int isd, .int wd]))])) (wn := (fun u41 : Unit => [(mo, .inr (5, [.int (nI 2), .ref aO, .ref aT, .ref aM, .ref aZ, .ref aY, .ref aK, .ref aF, .ref aL, .int (nI c), .int isd, .int wd])), (aO, .inl (cI, 2400, .inl O)), (aZ, .inl (cI, 2, .inl Z))])) (isC := [0]) (isR := [1, 2]) hP hD hS hA ⟨rfl, rfl, by decide, by decide, by decide⟩ [2, 0, 1] (by decide) (fun _ => rfl) (fun hPc hDc => va_runV (As := [.int (nI 1), .int (nI 2)]) (rest := []) ⟨hx, hb, hml, hown, ht⟩ (m_fails1 Ll D cI cL mo aO aT aM aZ aY aK aF aL (nI 0) c isd wd 2  H.size) ⟨(callB_of 2 ht g_X5_fails rfl rfl rfl (ht _ iw_136) (ht _ iw_138) hd_X5_fails ⟨Nat.le_of_ble_eq_true rfl, Nat.le_of_ble_eq_true rfl⟩), (ht _ iw_139), (ht _ iw_140)⟩ (ds_pV hPc hDc hK (q0 := 0) rfl rfl) rfl rfl hl.1 rfl (lv_room (Nat.le_of_ble_eq_true rfl)) dX5_strong_23 ⟨Nat.le_of_ble_eq_true rfl, Nat.le_of_ble_eq_true rfl⟩) (fun r40 u41 H locs hp42 hP hD hS => ?_)
          have hP : va_P D vwCl [(mo, .inr (5, [.int (nI 2), .ref aO, .ref aT, .ref aM, .ref aZ, .ref aY, .ref aK, .ref aF, .ref aL, .int (nI c), .int isd, .int wd])), (aO, .inl (cI, 2400, .inl O)), (aZ, .inl (cI, 2, .inl Z))] H := hP
          have hD : va_D A [(mo, .inr (5, [.int (nI 2), .ref aO, .ref aT, .ref aM, .ref aZ, .ref aY, .ref aK, .ref aF, .ref aL, .int (nI c), .int isd, .int wd])), (aO, .inl (cI, 2400, .inl O)), (aZ, .inl (cI, 2, .inl Z))] := hD
          have hp42 : r40 = nI 1 := hp42
          replace hp42 := Eq.symm hp42
          subst hp42
          refine lv_if_eq (tgt := 33) hx hb dX5_strong_26 (by decide) (fun h => ?_) (fun h => ?_)
          ·
            rw [← nI_0] at h
            have h : 1 = 0 := (nI_eq (a := 1) (b := 0) (by omega) (by omega)).mp h
            exact absurd h (by decide)
          ·
            rw [← nI_0] at h
            have h : ¬ 1 = 0 := fun z9 => h ((nI_eq (a := 1) (b := 0) (by omega) (by omega)).mpr z9)
            refine lv_lconst (v := 0) hx hb dX5_strong_29 (by decide +kernel) ?_
            refine lv_goto (tgt := 40) hx hb dX5_strong_30 (by decide) ?_
            exact ds_lret hx hb hr hlk (nI 2) ⟨(e_sum_x hro (by rw [rsel_1]; exact hg)).symm, fun z => absurd (z.symm.trans (e_sum_x hro (by rw [rsel_1]; exact hg))) (by decide)⟩ hP hD hS (Nat.le_of_ble_eq_true rfl) (Nat.le_of_ble_eq_true rfl) dX5_strong_40
      ·
        rw [← nI_0] at h
        have h : ¬ 0 = 0 := fun z9 => h ((nI_eq (a := 0) (b := 0) (by omega) (by omega)).mpr z9)
        exact absurd rfl h
  ·
    refine lv_aload_n hx hb dX5_strong_0 rfl (lv_at hl 0 rfl) ?_
    refine lv_iload_n hx hb dX5_strong_1 rfl (lv_at hl 1 rfl) ?_
    refine ds_calli (wc := []) (wr := [(mo, .inr (5, [.int er, .ref aO, .ref aT, .ref aM, .ref aZ, .ref aY, .ref aK, .ref aF, .ref aL, .int (nI c), .int isd, .int wd])), (aO, .inl (cI, 2400, .inl O)), (aZ, .inl (cI, 2, .inl Z))]) (wo := (fun u44 : Unit => [])) (wn := (fun u44 : Unit => [(mo, .inr (5, [.int er, .ref aO, .ref aT, .ref aM, .ref aZ, .ref aY, .ref aK, .ref aF, .ref aL, .int (nI c), .int isd, .int wd])), (aO, .inl (cI, 2400, .inl O)), (aZ, .inl (cI, 2, .inl Z))])) (isC := []) (isR := [0, 1, 2]) hP hD hS hA ⟨rfl, rfl, by decide, by decide, by decide⟩ [0, 1, 2] (by decide) (fun _ => rfl) (fun hPc hDc => va_runS (As := [.int x]) (rest := [.ref mo]) ⟨hx, hb, hml, hown, ht⟩ (m_no1 Ll D cI cL x (fun z => hrk (Or.inl z)) (fun z => hrk (Or.inr z)) H.size) ⟨(callB_of 1 ht g_X5_no rfl rfl rfl (ht _ iw_136) (ht _ iw_135) hd_X5_no ⟨Nat.le_of_ble_eq_true rfl, Nat.le_of_ble_eq_true rfl⟩), (ht _ iw_137)⟩ (ds_pS hPc hDc hK) rfl rfl hl.1 rfl (lv_room (Nat.le_of_ble_eq_true rfl)) dX5_strong_2 ⟨Nat.le_of_ble_eq_true rfl, Nat.le_of_ble_eq_true rfl⟩) (fun r43 u44 H locs hp45 hP hD hS => ?_)
    have hP : va_P D vwCl [(mo, .inr (5, [.int er, .ref aO, .ref aT, .ref aM, .ref aZ, .ref aY, .ref aK, .ref aF, .ref aL, .int (nI c), .int isd, .int wd])), (aO, .inl (cI, 2400, .inl O)), (aZ, .inl (cI, 2, .inl Z))] H := hP
    have hD : va_D A [(mo, .inr (5, [.int er, .ref aO, .ref aT, .ref aM, .ref aZ, .ref aY, .ref aK, .ref aF, .ref aL, .int (nI c), .int isd, .int wd])), (aO, .inl (cI, 2400, .inl O)), (aZ, .inl (cI, 2, .inl Z))] := hD
    have hp45 : r43 = nI 1 := hp45
    replace hp45 := Eq.symm hp45
    subst hp45
    refine lv_iconst (v := nI 1) hx hb dX5_strong_5 (by decide +kernel) ?_
    refine ds_calli (wc := [(mo, .inr (5, [.int er, .ref aO, .ref aT, .ref aM, .ref aZ, .ref aY, .ref aK, .ref aF, .ref aL, .int (nI c), .int isd, .int wd]))]) (wr := [(aO, .inl (cI, 2400, .inl O)), (aZ, .inl (cI, 2, .inl Z))]) (wo := (fun u47 : Unit => [(mo, .inr (5, [.int (nI 1), .ref aO, .ref aT, .ref aM, .ref aZ, .ref aY, .ref aK, .ref aF, .ref aL, .int (nI c), .int isd, .int wd]))])) (wn := (fun u47 : Unit => [(mo, .inr (5, [.int (nI 1), .ref aO, .ref aT, .ref aM, .ref aZ, .ref aY, .ref aK, .ref aF, .ref aL, .int (nI c), .int isd, .int wd])), (aO, .inl (cI, 2400, .inl O)), (aZ, .inl (cI, 2, .inl Z))])) (isC := [0]) (isR := [1, 2]) hP hD hS hA ⟨rfl, rfl, by decide, by decide, by decide⟩ [2, 0, 1] (by decide) (fun _ => rfl) (fun hPc hDc => va_runV (As := [.int (nI 1), .int (nI 1)]) (rest := []) ⟨hx, hb, hml, hown, ht⟩ (m_fails1 Ll D cI cL mo aO aT aM aZ aY aK aF aL er c isd wd 1  H.size) ⟨(callB_of 2 ht g_X5_fails rfl rfl rfl (ht _ iw_136) (ht _ iw_138) hd_X5_fails ⟨Nat.le_of_ble_eq_true rfl, Nat.le_of_ble_eq_true rfl⟩), (ht _ iw_139), (ht _ iw_140)⟩ (ds_pV hPc hDc hK (q0 := 0) rfl rfl) rfl rfl hl.1 rfl (lv_room (Nat.le_of_ble_eq_true rfl)) dX5_strong_6 ⟨Nat.le_of_ble_eq_true rfl, Nat.le_of_ble_eq_true rfl⟩) (fun r46 u47 H locs hp48 hP hD hS => ?_)
    have hP : va_P D vwCl [(mo, .inr (5, [.int (nI 1), .ref aO, .ref aT, .ref aM, .ref aZ, .ref aY, .ref aK, .ref aF, .ref aL, .int (nI c), .int isd, .int wd])), (aO, .inl (cI, 2400, .inl O)), (aZ, .inl (cI, 2, .inl Z))] H := hP
    have hD : va_D A [(mo, .inr (5, [.int (nI 1), .ref aO, .ref aT, .ref aM, .ref aZ, .ref aY, .ref aK, .ref aF, .ref aL, .int (nI c), .int isd, .int wd])), (aO, .inl (cI, 2400, .inl O)), (aZ, .inl (cI, 2, .inl Z))] := hD
    have hp48 : r46 = nI 1 := hp48
    replace hp48 := Eq.symm hp48
    subst hp48
    refine lv_if_eq (tgt := 14) hx hb dX5_strong_9 (by decide) (fun h => ?_) (fun h => ?_)
    ·
      rw [← nI_0] at h
      have h : 1 = 0 := (nI_eq (a := 1) (b := 0) (by omega) (by omega)).mp h
      exact absurd h (by decide)
    ·
      rw [← nI_0] at h
      have h : ¬ 1 = 0 := fun z9 => h ((nI_eq (a := 1) (b := 0) (by omega) (by omega)).mpr z9)
      refine lv_lconst (v := 0) hx hb dX5_strong_12 (by decide +kernel) ?_
      exact ds_lret hx hb hr hlk (nI 1) ⟨(e_sum_r hrk).symm, fun z => absurd (z.symm.trans (e_sum_r hrk)) (by decide)⟩ hP hD hS (Nat.le_of_ble_eq_true rfl) (Nat.le_of_ble_eq_true rfl) dX5_strong_13
