set_option maxHeartbeats 4000000 in
set_option maxRecDepth 100000 in
theorem c_X5_move (Ll : Launch) (D : va_G) (cI cL : ClassId) (mo : Nat) (aO : Nat) (aT : Nat) (aM : Nat) (aZ : Nat) (aY : Nat) (aK : Nat) (aF : Nat) (aL : Nat) (er : Int32) (c : Nat) (isd : Int32) (wd : Int32) (O : Nat → Int32) (Z : Nat → Int32) (lo : Nat) (ln : Nat) (fo : Nat → Int32) (fn : Nat → Int32) (M : Nat → Int32) (x : Int32) (y : Int32) (z : Int32) (v : Int32) (w : Int32) (hR : mR lo ln fo fn O Z) (sz : Nat) : Met Ll yX5_move wsX5_move { frames := 1, cells := 0, slots := 0, locals := 23 } (ds_P D cI cL [.ref mo, .int x, .int y, .int z, .int v, .int w] [(mo, .inr (5, [.int er, .ref aO, .ref aT, .ref aM, .ref aZ, .ref aY, .ref aK, .ref aF, .ref aL, .int (nI c), .int isd, .int wd])), (aO, .inl (cI, 2400, .inl O)), (aM, .inl (cI, 1200, .inl M)), (aZ, .inl (cI, 2, .inl Z))] sz) (ds_Qv D (fun (u : Int32 × (Nat → Int32) × (Nat → Int32)) => u.1 = e_move x y z v w lo ln ∧ mQ (n_move x y z v w (lo, fo, ln, fn)) u.2.1 Z) (fun u : Int32 × (Nat → Int32) × (Nat → Int32) => [(mo, .inr (5, [.int u.1, .ref aO, .ref aT, .ref aM, .ref aZ, .ref aY, .ref aK, .ref aF, .ref aL, .int (nI c), .int isd, .int wd])), (aO, .inl (cI, 2400, .inl u.2.1)), (aM, .inl (cI, 1200, .inl u.2.2)), (aZ, .inl (cI, 2, .inl Z))]) (va_A [(mo, .inr (5, [.int er, .ref aO, .ref aT, .ref aM, .ref aZ, .ref aY, .ref aK, .ref aF, .ref aL, .int (nI c), .int isd, .int wd])), (aO, .inl (cI, 2400, .inl O)), (aM, .inl (cI, 1200, .inl M)), (aZ, .inl (cI, 2, .inl Z))] sz)) 0 0 (va_A [(mo, .inr (5, [.int er, .ref aO, .ref aT, .ref aM, .ref aZ, .ref aY, .ref aK, .ref aF, .ref aL, .int (nI c), .int isd, .int wd])), (aO, .inl (cI, 2400, .inl O)), (aM, .inl (cI, 1200, .inl M)), (aZ, .inl (cI, 2, .inl Z))] sz) := by
  refine ds_enter (Qf := (fun A9 => ds_Qv D (fun (u : Int32 × (Nat → Int32) × (Nat → Int32)) => u.1 = e_move x y z v w lo ln ∧ mQ (n_move x y z v w (lo, fo, ln, fn)) u.2.1 Z) (fun u : Int32 × (Nat → Int32) × (Nat → Int32) => [(mo, .inr (5, [.int u.1, .ref aO, .ref aT, .ref aM, .ref aZ, .ref aY, .ref aK, .ref aF, .ref aL, .int (nI c), .int isd, .int wd])), (aO, .inl (cI, 2400, .inl u.2.1)), (aM, .inl (cI, 1200, .inl u.2.2)), (aZ, .inl (cI, 2, .inl Z))]) A9)) (cc := cX5_move) (maxL := 7) (ret := none) (by decide) rfl (Nat.le_of_ble_eq_true rfl) ?_
  intro Pp Ee Ss Mm Aa Bb Me Cc hx hb hml hr ht hown hlk hnm A H locs hA hP hD hS hK ls hl
  have hl : lv_has ls 7 [(0, .ref mo), (1, .int x), (2, .int y), (3, .int z), (4, .int v), (5, .int w)] := hl
  change Ss.vm.findClass RX5 = some Mm.cls at hown
  have hZ := mR_len hR
  by_cases hrk : rok x
  ·
    have hro := hrk
    rcases hrk with rfl | rfl
    ·
      have hl : lv_has ls 7 [(0, .ref mo), (1, .int (nI 0)), (2, .int y), (3, .int z), (4, .int v), (5, .int w)] := hl
      refine lv_aload_n hx hb dX5_move_0 rfl (lv_at hl 0 rfl) ?_
      refine lv_iload_n hx hb dX5_move_1 rfl (lv_at hl 1 rfl) ?_
      refine ds_calli (wc := []) (wr := [(mo, .inr (5, [.int er, .ref aO, .ref aT, .ref aM, .ref aZ, .ref aY, .ref aK, .ref aF, .ref aL, .int (nI c), .int isd, .int wd])), (aO, .inl (cI, 2400, .inl O)), (aM, .inl (cI, 1200, .inl M)), (aZ, .inl (cI, 2, .inl Z))]) (wo := (fun u2 : Unit => [])) (wn := (fun u2 : Unit => [(mo, .inr (5, [.int er, .ref aO, .ref aT, .ref aM, .ref aZ, .ref aY, .ref aK, .ref aF, .ref aL, .int (nI c), .int isd, .int wd])), (aO, .inl (cI, 2400, .inl O)), (aM, .inl (cI, 1200, .inl M)), (aZ, .inl (cI, 2, .inl Z))])) (isC := []) (isR := [0, 1, 2, 3]) hP hD hS hA ⟨rfl, rfl, by decide, by decide, by decide⟩ [0, 1, 2, 3] (by decide) (fun _ => rfl) (fun hPc hDc => va_runS (As := [.int (nI 0)]) (rest := [.ref mo]) ⟨hx, hb, hml, hown, ht⟩ (m_no0 Ll D cI cL 0 (by decide) H.size) ⟨(callB_of 1 ht g_X5_no rfl rfl rfl (ht _ iw_136) (ht _ iw_135) hd_X5_no ⟨Nat.le_of_ble_eq_true rfl, Nat.le_of_ble_eq_true rfl⟩), (ht _ iw_137)⟩ (ds_pS hPc hDc hK) rfl rfl hl.1 rfl (lv_room (Nat.le_of_ble_eq_true rfl)) dX5_move_2 ⟨Nat.le_of_ble_eq_true rfl, Nat.le_of_ble_eq_true rfl⟩) (fun r1 u2 H locs hp3 hP hD hS => ?_)
      have hP : va_P D vwCl [(mo, .inr (5, [.int er, .ref aO, .ref aT, .ref aM, .ref aZ, .ref aY, .ref aK, .ref aF, .ref aL, .int (nI c), .int isd, .int wd])), (aO, .inl (cI, 2400, .inl O)), (aM, .inl (cI, 1200, .inl M)), (aZ, .inl (cI, 2, .inl Z))] H := hP
      have hD : va_D A [(mo, .inr (5, [.int er, .ref aO, .ref aT, .ref aM, .ref aZ, .ref aY, .ref aK, .ref aF, .ref aL, .int (nI c), .int isd, .int wd])), (aO, .inl (cI, 2400, .inl O)), (aM, .inl (cI, 1200, .inl M)), (aZ, .inl (cI, 2, .inl Z))] := hD
      have hp3 : r1 = nI 0 := hp3
      replace hp3 := Eq.symm hp3
      subst hp3
      refine lv_if_ne (tgt := 15) hx hb dX5_move_5 (by decide) (fun h => ?_) (fun h => ?_)
      ·
        rw [← nI_0] at h
        have h : ¬ 0 = 0 := fun z9 => h ((nI_eq (a := 0) (b := 0) (by omega) (by omega)).mpr z9)
        exact absurd rfl h
      ·
        rw [← nI_0] at h
        have h : 0 = 0 := (nI_eq (a := 0) (b := 0) (by omega) (by omega)).mp h
        by_cases hr2 : rok z
        ·
          have hro2 := hr2
          rcases hr2 with rfl | rfl
          ·
            have hl : lv_has ls 7 [(0, .ref mo), (1, .int (nI 0)), (2, .int y), (3, .int (nI 0)), (4, .int v), (5, .int w)] := hl
            refine lv_iload_n hx hb dX5_move_8 rfl (lv_at hl 3 rfl) ?_
            refine ds_calli (wc := []) (wr := [(mo, .inr (5, [.int er, .ref aO, .ref aT, .ref aM, .ref aZ, .ref aY, .ref aK, .ref aF, .ref aL, .int (nI c), .int isd, .int wd])), (aO, .inl (cI, 2400, .inl O)), (aM, .inl (cI, 1200, .inl M)), (aZ, .inl (cI, 2, .inl Z))]) (wo := (fun u5 : Unit => [])) (wn := (fun u5 : Unit => [(mo, .inr (5, [.int er, .ref aO, .ref aT, .ref aM, .ref aZ, .ref aY, .ref aK, .ref aF, .ref aL, .int (nI c), .int isd, .int wd])), (aO, .inl (cI, 2400, .inl O)), (aM, .inl (cI, 1200, .inl M)), (aZ, .inl (cI, 2, .inl Z))])) (isC := []) (isR := [0, 1, 2, 3]) hP hD hS hA ⟨rfl, rfl, by decide, by decide, by decide⟩ [0, 1, 2, 3] (by decide) (fun _ => rfl) (fun hPc hDc => va_runS (As := [.int (nI 0)]) (rest := [.ref mo]) ⟨hx, hb, hml, hown, ht⟩ (m_no0 Ll D cI cL 0 (by decide) H.size) ⟨(callB_of 1 ht g_X5_no rfl rfl rfl (ht _ iw_136) (ht _ iw_135) hd_X5_no ⟨Nat.le_of_ble_eq_true rfl, Nat.le_of_ble_eq_true rfl⟩), (ht _ iw_137)⟩ (ds_pS hPc hDc hK) rfl rfl hl.1 rfl (lv_room (Nat.le_of_ble_eq_true rfl)) dX5_move_9 ⟨Nat.le_of_ble_eq_true rfl, Nat.le_of_ble_eq_true rfl⟩) (fun r4 u5 H locs hp6 hP hD hS => ?_)
            have hP : va_P D vwCl [(mo, .inr (5, [.int er, .ref aO, .ref aT, .ref aM, .ref aZ, .ref aY, .ref aK, .ref aF, .ref aL, .int (nI c), .int isd, .int wd])), (aO, .inl (cI, 2400, .inl O)), (aM, .inl (cI, 1200, .inl M)), (aZ, .inl (cI, 2, .inl Z))] H := hP
            have hD : va_D A [(mo, .inr (5, [.int er, .ref aO, .ref aT, .ref aM, .ref aZ, .ref aY, .ref aK, .ref aF, .ref aL, .int (nI c), .int isd, .int wd])), (aO, .inl (cI, 2400, .inl O)), (aM, .inl (cI, 1200, .inl M)), (aZ, .inl (cI, 2, .inl Z))] := hD
            have hp6 : r4 = nI 0 := hp6
            replace hp6 := Eq.symm hp6
            subst hp6
            refine lv_if_eq (tgt := 19) hx hb dX5_move_12 (by decide) (fun h => ?_) (fun h => ?_)
            ·
              rw [← nI_0] at h
              have h : 0 = 0 := (nI_eq (a := 0) (b := 0) (by omega) (by omega)).mp h
              refine lv_iconst (v := nI 0) hx hb dX5_move_19 (by decide +kernel) ?_
              refine lv_iconst (v := nI 1) hx hb dX5_move_20 (by decide +kernel) ?_
              refine ds_calli (wc := [(mo, .inr (5, [.int er, .ref aO, .ref aT, .ref aM, .ref aZ, .ref aY, .ref aK, .ref aF, .ref aL, .int (nI c), .int isd, .int wd]))]) (wr := [(aO, .inl (cI, 2400, .inl O)), (aM, .inl (cI, 1200, .inl M)), (aZ, .inl (cI, 2, .inl Z))]) (wo := (fun u8 : Unit => [(mo, .inr (5, [.int (nI 0), .ref aO, .ref aT, .ref aM, .ref aZ, .ref aY, .ref aK, .ref aF, .ref aL, .int (nI c), .int isd, .int wd]))])) (wn := (fun u8 : Unit => [(mo, .inr (5, [.int (nI 0), .ref aO, .ref aT, .ref aM, .ref aZ, .ref aY, .ref aK, .ref aF, .ref aL, .int (nI c), .int isd, .int wd])), (aO, .inl (cI, 2400, .inl O)), (aM, .inl (cI, 1200, .inl M)), (aZ, .inl (cI, 2, .inl Z))])) (isC := [0]) (isR := [1, 2, 3]) hP hD hS hA ⟨rfl, rfl, by decide, by decide, by decide⟩ [3, 0, 1, 2] (by decide) (fun _ => rfl) (fun hPc hDc => va_runV (As := [.int (nI 0), .int (nI 1)]) (rest := []) ⟨hx, hb, hml, hown, ht⟩ (m_fails0 Ll D cI cL mo aO aT aM aZ aY aK aF aL er c isd wd 1  H.size) ⟨(callB_of 2 ht g_X5_fails rfl rfl rfl (ht _ iw_136) (ht _ iw_138) hd_X5_fails ⟨Nat.le_of_ble_eq_true rfl, Nat.le_of_ble_eq_true rfl⟩), (ht _ iw_139), (ht _ iw_140)⟩ (ds_pV hPc hDc hK (q0 := 0) rfl rfl) rfl rfl hl.1 rfl (lv_room (Nat.le_of_ble_eq_true rfl)) dX5_move_21 ⟨Nat.le_of_ble_eq_true rfl, Nat.le_of_ble_eq_true rfl⟩) (fun r7 u8 H locs hp9 hP hD hS => ?_)
              have hP : va_P D vwCl [(mo, .inr (5, [.int (nI 0), .ref aO, .ref aT, .ref aM, .ref aZ, .ref aY, .ref aK, .ref aF, .ref aL, .int (nI c), .int isd, .int wd])), (aO, .inl (cI, 2400, .inl O)), (aM, .inl (cI, 1200, .inl M)), (aZ, .inl (cI, 2, .inl Z))] H := hP
              have hD : va_D A [(mo, .inr (5, [.int (nI 0), .ref aO, .ref aT, .ref aM, .ref aZ, .ref aY, .ref aK, .ref aF, .ref aL, .int (nI c), .int isd, .int wd])), (aO, .inl (cI, 2400, .inl O)), (aM, .inl (cI, 1200, .inl M)), (aZ, .inl (cI, 2, .inl Z))] := hD
              have hp9 : r7 = nI 0 := hp9
              replace hp9 := Eq.symm hp9
              subst hp9
              refine lv_if_eq (tgt := 28) hx hb dX5_move_24 (by decide) (fun h => ?_) (fun h => ?_)
              ·
                rw [← nI_0] at h
                have h : 0 = 0 := (nI_eq (a := 0) (b := 0) (by omega) (by omega)).mp h
                by_cases hg : gok y w lo
                ·
                  obtain ⟨p, m, hpm, e8, e9⟩ := gok_nat (by omega) hg
                  subst e8 e9
                  have hl : lv_has ls 7 [(0, .ref mo), (1, .int (nI 0)), (2, .int (nI p)), (3, .int (nI 0)), (4, .int v), (5, .int (nI m))] := hl
                  refine lv_aload_n hx hb dX5_move_28 rfl (lv_at hl 0 rfl) ?_
                  refine lv_aload_n hx hb dX5_move_29 rfl (lv_at hl 0 rfl) ?_
                  refine lv_iload_n hx hb dX5_move_30 rfl (lv_at hl 1 rfl) ?_
                  refine lv_iload_n hx hb dX5_move_31 rfl (lv_at hl 2 rfl) ?_
                  refine lv_iload hx hb dX5_move_32 (lv_at hl 5 rfl) ?_
                  refine ds_calli (wc := [(mo, .inr (5, [.int (nI 0), .ref aO, .ref aT, .ref aM, .ref aZ, .ref aY, .ref aK, .ref aF, .ref aL, .int (nI c), .int isd, .int wd])), (aZ, .inl (cI, 2, .inl Z))]) (wr := [(aO, .inl (cI, 2400, .inl O)), (aM, .inl (cI, 1200, .inl M))]) (wo := (fun u11 : Unit => [(mo, .inr (5, [.int (nI 0), .ref aO, .ref aT, .ref aM, .ref aZ, .ref aY, .ref aK, .ref aF, .ref aL, .int (nI c), .int isd, .int wd])), (aZ, .inl (cI, 2, .inl Z))])) (wn := (fun u11 : Unit => [(mo, .inr (5, [.int (nI 0), .ref aO, .ref aT, .ref aM, .ref aZ, .ref aY, .ref aK, .ref aF, .ref aL, .int (nI c), .int isd, .int wd])), (aO, .inl (cI, 2400, .inl O)), (aM, .inl (cI, 1200, .inl M)), (aZ, .inl (cI, 2, .inl Z))])) (isC := [0, 3]) (isR := [1, 2]) hP hD hS hA ⟨rfl, rfl, by decide, by decide, by decide⟩ [2, 0, 1, 3] (by decide) (fun _ => rfl) (fun hPc hDc => va_runV (As := [.int (nI 0), .int (nI p), .int (nI m)]) (rest := [.ref mo]) ⟨hx, hb, hml, hown, ht⟩ (m_lacks00 Ll D cI cL mo aO aT aM aZ aY aK aF aL (nI 0) c isd wd Z lo p m hZ.2.2.1 (by omega) hpm H.size) ⟨(callB_of 3 ht g_X5_lacks rfl rfl rfl (ht _ iw_136) (ht _ iw_144) hd_X5_lacks ⟨Nat.le_of_ble_eq_true rfl, Nat.le_of_ble_eq_true rfl⟩), (ht _ iw_145), (ht _ iw_146)⟩ (ds_pV hPc hDc hK (q0 := 0) rfl rfl) rfl rfl hl.1 rfl (lv_room (Nat.le_of_ble_eq_true rfl)) dX5_move_34 ⟨Nat.le_of_ble_eq_true rfl, Nat.le_of_ble_eq_true rfl⟩) (fun r10 u11 H locs hp12 hP hD hS => ?_)
                  have hP : va_P D vwCl [(mo, .inr (5, [.int (nI 0), .ref aO, .ref aT, .ref aM, .ref aZ, .ref aY, .ref aK, .ref aF, .ref aL, .int (nI c), .int isd, .int wd])), (aO, .inl (cI, 2400, .inl O)), (aM, .inl (cI, 1200, .inl M)), (aZ, .inl (cI, 2, .inl Z))] H := hP
                  have hD : va_D A [(mo, .inr (5, [.int (nI 0), .ref aO, .ref aT, .ref aM, .ref aZ, .ref aY, .ref aK, .ref aF, .ref aL, .int (nI c), .int isd, .int wd])), (aO, .inl (cI, 2400, .inl O)), (aM, .inl (cI, 1200, .inl M)), (aZ, .inl (cI, 2, .inl Z))] := hD
                  have hp12 : r10 = nI 0 := hp12
                  replace hp12 := Eq.symm hp12
                  subst hp12
                  refine lv_if_ne (tgt := 52) hx hb dX5_move_37 (by decide) (fun h => ?_) (fun h => ?_)
                  ·
                    rw [← nI_0] at h
                    have h : ¬ 0 = 0 := fun z9 => h ((nI_eq (a := 0) (b := 0) (by omega) (by omega)).mpr z9)
                    exact absurd rfl h
                  ·
                    rw [← nI_0] at h
                    have h : 0 = 0 := (nI_eq (a := 0) (b := 0) (by omega) (by omega)).mp h
                    by_cases hg2 : gok v (nI m) lo
                    ·
                      obtain ⟨q, m9, hqm, e8, e9⟩ := gok_nat (by omega) hg2
                      have e7 : m9 = m := by
                        have h31 : m9 < 2 ^ 31 := by omega
                        exact ((nI_eq h31 (by omega)).mp e9.symm)
                      subst e7 e8
                      have hl : lv_has ls 7 [(0, .ref mo), (1, .int (nI 0)), (2, .int (nI p)), (3, .int (nI 0)), (4, .int (nI q)), (5, .int (nI m9))] := hl
                      refine lv_aload_n hx hb dX5_move_40 rfl (lv_at hl 0 rfl) ?_
                      refine lv_iload_n hx hb dX5_move_41 rfl (lv_at hl 3 rfl) ?_
                      refine lv_iload hx hb dX5_move_42 (lv_at hl 4 rfl) ?_
                      refine lv_iload hx hb dX5_move_44 (lv_at hl 5 rfl) ?_
                      refine ds_calli (wc := [(mo, .inr (5, [.int (nI 0), .ref aO, .ref aT, .ref aM, .ref aZ, .ref aY, .ref aK, .ref aF, .ref aL, .int (nI c), .int isd, .int wd])), (aZ, .inl (cI, 2, .inl Z))]) (wr := [(aO, .inl (cI, 2400, .inl O)), (aM, .inl (cI, 1200, .inl M))]) (wo := (fun u14 : Unit => [(mo, .inr (5, [.int (nI 0), .ref aO, .ref aT, .ref aM, .ref aZ, .ref aY, .ref aK, .ref aF, .ref aL, .int (nI c), .int isd, .int wd])), (aZ, .inl (cI, 2, .inl Z))])) (wn := (fun u14 : Unit => [(mo, .inr (5, [.int (nI 0), .ref aO, .ref aT, .ref aM, .ref aZ, .ref aY, .ref aK, .ref aF, .ref aL, .int (nI c), .int isd, .int wd])), (aO, .inl (cI, 2400, .inl O)), (aM, .inl (cI, 1200, .inl M)), (aZ, .inl (cI, 2, .inl Z))])) (isC := [0, 3]) (isR := [1, 2]) hP hD hS hA ⟨rfl, rfl, by decide, by decide, by decide⟩ [2, 0, 1, 3] (by decide) (fun _ => rfl) (fun hPc hDc => va_runV (As := [.int (nI 0), .int (nI q), .int (nI m9)]) (rest := [.ref mo]) ⟨hx, hb, hml, hown, ht⟩ (m_lacks00 Ll D cI cL mo aO aT aM aZ aY aK aF aL (nI 0) c isd wd Z lo q m9 hZ.2.2.1 (by omega) hqm H.size) ⟨(callB_of 3 ht g_X5_lacks rfl rfl rfl (ht _ iw_136) (ht _ iw_144) hd_X5_lacks ⟨Nat.le_of_ble_eq_true rfl, Nat.le_of_ble_eq_true rfl⟩), (ht _ iw_145), (ht _ iw_146)⟩ (ds_pV hPc hDc hK (q0 := 0) rfl rfl) rfl rfl hl.1 rfl (lv_room (Nat.le_of_ble_eq_true rfl)) dX5_move_46 ⟨Nat.le_of_ble_eq_true rfl, Nat.le_of_ble_eq_true rfl⟩) (fun r13 u14 H locs hp15 hP hD hS => ?_)
                      have hP : va_P D vwCl [(mo, .inr (5, [.int (nI 0), .ref aO, .ref aT, .ref aM, .ref aZ, .ref aY, .ref aK, .ref aF, .ref aL, .int (nI c), .int isd, .int wd])), (aO, .inl (cI, 2400, .inl O)), (aM, .inl (cI, 1200, .inl M)), (aZ, .inl (cI, 2, .inl Z))] H := hP
                      have hD : va_D A [(mo, .inr (5, [.int (nI 0), .ref aO, .ref aT, .ref aM, .ref aZ, .ref aY, .ref aK, .ref aF, .ref aL, .int (nI c), .int isd, .int wd])), (aO, .inl (cI, 2400, .inl O)), (aM, .inl (cI, 1200, .inl M)), (aZ, .inl (cI, 2, .inl Z))] := hD
                      have hp15 : r13 = nI 0 := hp15
                      replace hp15 := Eq.symm hp15
                      subst hp15
                      refine lv_if_eq (tgt := 56) hx hb dX5_move_49 (by decide) (fun h => ?_) (fun h => ?_)
                      ·
                        rw [← nI_0] at h
                        have h : 0 = 0 := (nI_eq (a := 0) (b := 0) (by omega) (by omega)).mp h
                        refine lv_iconst (v := nI 0) hx hb dX5_move_56 (by decide +kernel) ?_
                        refine lv_iconst (v := nI 2) hx hb dX5_move_57 (by decide +kernel) ?_
                        refine ds_calli (wc := [(mo, .inr (5, [.int (nI 0), .ref aO, .ref aT, .ref aM, .ref aZ, .ref aY, .ref aK, .ref aF, .ref aL, .int (nI c), .int isd, .int wd]))]) (wr := [(aO, .inl (cI, 2400, .inl O)), (aM, .inl (cI, 1200, .inl M)), (aZ, .inl (cI, 2, .inl Z))]) (wo := (fun u17 : Unit => [(mo, .inr (5, [.int (nI 0), .ref aO, .ref aT, .ref aM, .ref aZ, .ref aY, .ref aK, .ref aF, .ref aL, .int (nI c), .int isd, .int wd]))])) (wn := (fun u17 : Unit => [(mo, .inr (5, [.int (nI 0), .ref aO, .ref aT, .ref aM, .ref aZ, .ref aY, .ref aK, .ref aF, .ref aL, .int (nI c), .int isd, .int wd])), (aO, .inl (cI, 2400, .inl O)), (aM, .inl (cI, 1200, .inl M)), (aZ, .inl (cI, 2, .inl Z))])) (isC := [0]) (isR := [1, 2, 3]) hP hD hS hA ⟨rfl, rfl, by decide, by decide, by decide⟩ [3, 0, 1, 2] (by decide) (fun _ => rfl) (fun hPc hDc => va_runV (As := [.int (nI 0), .int (nI 2)]) (rest := []) ⟨hx, hb, hml, hown, ht⟩ (m_fails0 Ll D cI cL mo aO aT aM aZ aY aK aF aL (nI 0) c isd wd 2  H.size) ⟨(callB_of 2 ht g_X5_fails rfl rfl rfl (ht _ iw_136) (ht _ iw_138) hd_X5_fails ⟨Nat.le_of_ble_eq_true rfl, Nat.le_of_ble_eq_true rfl⟩), (ht _ iw_139), (ht _ iw_140)⟩ (ds_pV hPc hDc hK (q0 := 0) rfl rfl) rfl rfl hl.1 rfl (lv_room (Nat.le_of_ble_eq_true rfl)) dX5_move_58 ⟨Nat.le_of_ble_eq_true rfl, Nat.le_of_ble_eq_true rfl⟩) (fun r16 u17 H locs hp18 hP hD hS => ?_)
                        have hP : va_P D vwCl [(mo, .inr (5, [.int (nI 0), .ref aO, .ref aT, .ref aM, .ref aZ, .ref aY, .ref aK, .ref aF, .ref aL, .int (nI c), .int isd, .int wd])), (aO, .inl (cI, 2400, .inl O)), (aM, .inl (cI, 1200, .inl M)), (aZ, .inl (cI, 2, .inl Z))] H := hP
                        have hD : va_D A [(mo, .inr (5, [.int (nI 0), .ref aO, .ref aT, .ref aM, .ref aZ, .ref aY, .ref aK, .ref aF, .ref aL, .int (nI c), .int isd, .int wd])), (aO, .inl (cI, 2400, .inl O)), (aM, .inl (cI, 1200, .inl M)), (aZ, .inl (cI, 2, .inl Z))] := hD
                        have hp18 : r16 = nI 0 := hp18
                        replace hp18 := Eq.symm hp18
                        subst hp18
                        refine lv_if_eq (tgt := 65) hx hb dX5_move_61 (by decide) (fun h => ?_) (fun h => ?_)
                        ·
                          rw [← nI_0] at h
                          have h : 0 = 0 := (nI_eq (a := 0) (b := 0) (by omega) (by omega)).mp h
                          refine lv_iconst (v := nI 0) hx hb dX5_move_65 (by decide +kernel) ?_
                          refine lv_istore (lv' := [(6, .int (nI 0)), (0, .ref mo), (1, .int (nI 0)), (2, .int (nI p)), (3, .int (nI 0)), (4, .int (nI q)), (5, .int (nI m9))]) hx hb dX5_move_66 hl (Nat.le_of_ble_eq_true rfl) rfl (fun ls hl => ?_)
                          have hP : va_P D vwCl [(mo, .inr (5, [.int (nI 0), .ref aO, .ref aT, .ref aM, .ref aZ, .ref aY, .ref aK, .ref aF, .ref aL, .int (nI c), .int isd, .int wd])), (aO, .inl (cI, 2400, .inl O)), (aM, .inl (cI, 1200, .inl (va_cpy O M (p) 0 0))), (aZ, .inl (cI, 2, .inl Z))] H := by rw [cpy_0]; exact hP
                          have hD : va_D A [(mo, .inr (5, [.int (nI 0), .ref aO, .ref aT, .ref aM, .ref aZ, .ref aY, .ref aK, .ref aF, .ref aL, .int (nI c), .int isd, .int wd])), (aO, .inl (cI, 2400, .inl O)), (aM, .inl (cI, 1200, .inl (va_cpy O M (p) 0 0))), (aZ, .inl (cI, 2, .inl Z))] := by rw [cpy_0]; exact hD
                          have loop19 : ∀ (k20 : Nat) (i : Nat) (H : Heap) (locs : List Loc) (ls : Array Slot), (i ≤ m9) → m9 - i < k20 → va_P D vwCl [(mo, .inr (5, [.int (nI 0), .ref aO, .ref aT, .ref aM, .ref aZ, .ref aY, .ref aK, .ref aF, .ref aL, .int (nI c), .int isd, .int wd])), (aO, .inl (cI, 2400, .inl O)), (aM, .inl (cI, 1200, .inl (va_cpy O M (p) 0 i))), (aZ, .inl (cI, 2, .inl Z))] H → va_D A [(mo, .inr (5, [.int (nI 0), .ref aO, .ref aT, .ref aM, .ref aZ, .ref aY, .ref aK, .ref aF, .ref aL, .int (nI c), .int isd, .int wd])), (aO, .inl (cI, 2400, .inl O)), (aM, .inl (cI, 1200, .inl (va_cpy O M (p) 0 i))), (aZ, .inl (cI, 2, .inl Z))] → va_S A Ss.heap H locs → lv_has ls 7 [(0, .ref mo), (1, .int (nI 0)), (2, .int (nI p)), (3, .int (nI 0)), (4, .int (nI q)), (5, .int (nI m9)), (6, .int (nI i))] → W Pp Ll Ee { frames := 1, cells := 0, slots := 0, locals := 23 } Ss Mm Aa Bb Me Cc H locs 0 0 (MQ Bb (ds_Qv D (fun (u : Int32 × (Nat → Int32) × (Nat → Int32)) => u.1 = e_move 0 (nI p) 0 (nI q) (nI m9) lo ln ∧ mQ (n_move 0 (nI p) 0 (nI q) (nI m9) (lo, fo, ln, fn)) u.2.1 Z) (fun u : Int32 × (Nat → Int32) × (Nat → Int32) => [(mo, .inr (5, [.int u.1, .ref aO, .ref aT, .ref aM, .ref aZ, .ref aY, .ref aK, .ref aF, .ref aL, .int (nI c), .int isd, .int wd])), (aO, .inl (cI, 2400, .inl u.2.1)), (aM, .inl (cI, 1200, .inl u.2.2)), (aZ, .inl (cI, 2, .inl Z))]) A) Aa Ss 0 0 A) (F0 Mm 68 ls []) := by
                            intro k20
                            induction k20 with
                            | zero => intro i H locs ls hi hm22; exact absurd hm22 (Nat.not_lt_zero _)
                            | succ k20 ih21 =>
                              intro i H locs ls hi hm22 hP hD hS hl
                              refine lv_iload hx hb dX5_move_68 (lv_at hl 6 rfl) ?_
                              refine lv_iload hx hb dX5_move_70 (lv_at hl 5 rfl) ?_
                              refine lv_icmp_ge (tgt := 103) hx hb dX5_move_72 (by decide) (fun h => ?_) (fun h => ?_)
                              ·
                                have h : m9 ≤ i := (nI_leI (a := m9) (b := i) (by omega) (by omega)).mp h
                                have e9 : m9 = i := (by omega)
                                subst e9
                                refine lv_iconst (v := nI 0) hx hb dX5_move_103 (by decide +kernel) ?_
                                refine lv_istore (lv' := [(6, .int (nI 0)), (0, .ref mo), (1, .int (nI 0)), (2, .int (nI p)), (3, .int (nI 0)), (4, .int (nI q)), (5, .int (nI m9))]) hx hb dX5_move_104 hl (Nat.le_of_ble_eq_true rfl) rfl (fun ls hl => ?_)
                                have hP : va_P D vwCl [(mo, .inr (5, [.int (nI 0), .ref aO, .ref aT, .ref aM, .ref aZ, .ref aY, .ref aK, .ref aF, .ref aL, .int (nI c), .int isd, .int wd])), (aO, .inl (cI, 2400, .inl (va_cpy (va_cpy O M (p) 0 m9) O 0 (q) 0))), (aM, .inl (cI, 1200, .inl (va_cpy O M (p) 0 m9))), (aZ, .inl (cI, 2, .inl Z))] H := by rw [cpy_0 (f := va_cpy O M (p) 0 m9)]; exact hP
                                have hD : va_D A [(mo, .inr (5, [.int (nI 0), .ref aO, .ref aT, .ref aM, .ref aZ, .ref aY, .ref aK, .ref aF, .ref aL, .int (nI c), .int isd, .int wd])), (aO, .inl (cI, 2400, .inl (va_cpy (va_cpy O M (p) 0 m9) O 0 (q) 0))), (aM, .inl (cI, 1200, .inl (va_cpy O M (p) 0 m9))), (aZ, .inl (cI, 2, .inl Z))] := by rw [cpy_0 (f := va_cpy O M (p) 0 m9)]; exact hD
                                have loop23 : ∀ (k24 : Nat) (i : Nat) (H : Heap) (locs : List Loc) (ls : Array Slot), (i ≤ m9) → m9 - i < k24 → va_P D vwCl [(mo, .inr (5, [.int (nI 0), .ref aO, .ref aT, .ref aM, .ref aZ, .ref aY, .ref aK, .ref aF, .ref aL, .int (nI c), .int isd, .int wd])), (aO, .inl (cI, 2400, .inl (va_cpy (va_cpy O M (p) 0 m9) O 0 (q) i))), (aM, .inl (cI, 1200, .inl (va_cpy O M (p) 0 m9))), (aZ, .inl (cI, 2, .inl Z))] H → va_D A [(mo, .inr (5, [.int (nI 0), .ref aO, .ref aT, .ref aM, .ref aZ, .ref aY, .ref aK, .ref aF, .ref aL, .int (nI c), .int isd, .int wd])), (aO, .inl (cI, 2400, .inl (va_cpy (va_cpy O M (p) 0 m9) O 0 (q) i))), (aM, .inl (cI, 1200, .inl (va_cpy O M (p) 0 m9))), (aZ, .inl (cI, 2, .inl Z))] → va_S A Ss.heap H locs → lv_has ls 7 [(0, .ref mo), (1, .int (nI 0)), (2, .int (nI p)), (3, .int (nI 0)), (4, .int (nI q)), (5, .int (nI m9)), (6, .int (nI i))] → W Pp Ll Ee { frames := 1, cells := 0, slots := 0, locals := 23 } Ss Mm Aa Bb Me Cc H locs 0 0 (MQ Bb (ds_Qv D (fun (u : Int32 × (Nat → Int32) × (Nat → Int32)) => u.1 = e_move 0 (nI p) 0 (nI q) (nI m9) lo ln ∧ mQ (n_move 0 (nI p) 0 (nI q) (nI m9) (lo, fo, ln, fn)) u.2.1 Z) (fun u : Int32 × (Nat → Int32) × (Nat → Int32) => [(mo, .inr (5, [.int u.1, .ref aO, .ref aT, .ref aM, .ref aZ, .ref aY, .ref aK, .ref aF, .ref aL, .int (nI c), .int isd, .int wd])), (aO, .inl (cI, 2400, .inl u.2.1)), (aM, .inl (cI, 1200, .inl u.2.2)), (aZ, .inl (cI, 2, .inl Z))]) A) Aa Ss 0 0 A) (F0 Mm 106 ls []) := by
                                  intro k24
                                  induction k24 with
                                  | zero => intro i H locs ls hi hm26; exact absurd hm26 (Nat.not_lt_zero _)
                                  | succ k24 ih25 =>
                                    intro i H locs ls hi hm26 hP hD hS hl
                                    refine lv_iload hx hb dX5_move_106 (lv_at hl 6 rfl) ?_
                                    refine lv_iload hx hb dX5_move_108 (lv_at hl 5 rfl) ?_
                                    refine lv_icmp_ge (tgt := 142) hx hb dX5_move_110 (by decide) (fun h => ?_) (fun h => ?_)
                                    ·
                                      have h : m9 ≤ i := (nI_leI (a := m9) (b := i) (by omega) (by omega)).mp h
                                      have e9 : m9 = i := (by omega)
                                      subst e9
                                      exact ds_vret hx hb hr hlk (nI 0, va_cpy (va_cpy O M (p) 0 m9) O 0 (q) m9, va_cpy O M (p) 0 m9) ⟨(n_move_ok0 hZ.1 hZ.2.1 hro (by rw [rsel_0]; exact hpm) hqm (fo := fo) (fn := fn)).2.symm, mQ_move00 hpm hqm hR⟩ hP hD hS (Nat.le_of_ble_eq_true rfl) (Nat.le_of_ble_eq_true rfl) dX5_move_142
                                    ·
                                      have h : ¬ m9 ≤ i := fun z9 => h ((nI_leI (a := m9) (b := i) (by omega) (by omega)).mpr z9)
                                      refine lv_aload_n hx hb dX5_move_113 rfl (lv_at hl 0 rfl) ?_
                                      refine va_get (D := D) (ci := 5) (v := .ref aO) (C := RX5) (T := TX5) (N := 12) hx hb ht inA_X5 hown hK.1 hP 0 rfl rfl 1 (by decide) (ht _ iw_122) (fun _ h9 => h9) rfl dX5_move_114 ?_
                                      refine lv_sipush (v := nI 1200) hx hb dX5_move_117 (by decide +kernel) ?_
                                      refine lv_iload_n hx hb dX5_move_120 rfl (lv_at hl 3 rfl) ?_
                                      refine lv_imul hx hb dX5_move_121 ?_
                                      refine ds_top (z := nI (1200 * 0)) (pk_mul _ _) ?_
                                      refine lv_iload hx hb dX5_move_122 (lv_at hl 4 rfl) ?_
                                      refine lv_iadd hx hb dX5_move_124 ?_
                                      refine ds_top (z := nI ((1200 * 0) + q)) (nI_add _ _) ?_
                                      refine lv_iload hx hb dX5_move_125 (lv_at hl 6 rfl) ?_
                                      refine lv_iadd hx hb dX5_move_127 ?_
                                      refine ds_top (z := nI (((1200 * 0) + q) + i)) (nI_add _ _) ?_
                                      refine ds_top (z := nI (q + i)) (congrArg nI (by omega)) ?_
                                      refine lv_aload_n hx hb dX5_move_128 rfl (lv_at hl 0 rfl) ?_
                                      refine va_get (D := D) (ci := 5) (v := .ref aM) (C := RX5) (T := TX5) (N := 12) hx hb ht inA_X5 hown hK.1 hP 0 rfl rfl 3 (by decide) (ht _ iw_124) (fun _ h9 => h9) rfl dX5_move_129 ?_
                                      refine lv_iload hx hb dX5_move_132 (lv_at hl 6 rfl) ?_
                                      refine ds_iald (k := i) hx hb hK hP 2 rfl (by omega) (by omega) dX5_move_134 ?_
                                      refine ds_iast (k := q + i) hx hb hK hP hD hS 1 rfl (by omega) (by omega) dX5_move_135 (fun H locs hP hD hS => ?_)
                                      have hP : va_P D vwCl [(mo, .inr (5, [.int (nI 0), .ref aO, .ref aT, .ref aM, .ref aZ, .ref aY, .ref aK, .ref aF, .ref aL, .int (nI c), .int isd, .int wd])), (aO, .inl (cI, 2400, .inl (upd (va_cpy (va_cpy O M (p) 0 m9) O 0 (q) i) (q + i) ((va_cpy O M (p) 0 m9) i)))), (aM, .inl (cI, 1200, .inl (va_cpy O M (p) 0 m9))), (aZ, .inl (cI, 2, .inl Z))] H := hP
                                      have hD : va_D A [(mo, .inr (5, [.int (nI 0), .ref aO, .ref aT, .ref aM, .ref aZ, .ref aY, .ref aK, .ref aF, .ref aL, .int (nI c), .int isd, .int wd])), (aO, .inl (cI, 2400, .inl (upd (va_cpy (va_cpy O M (p) 0 m9) O 0 (q) i) (q + i) ((va_cpy O M (p) 0 m9) i)))), (aM, .inl (cI, 1200, .inl (va_cpy O M (p) 0 m9))), (aZ, .inl (cI, 2, .inl Z))] := hD
                                      refine lv_iinc (k := 6) (v := nI (i + 1)) (lv' := [(6, .int (nI (i + 1))), (0, .ref mo), (1, .int (nI 0)), (2, .int (nI p)), (3, .int (nI 0)), (4, .int (nI q)), (5, .int (nI m9))]) hx hb dX5_move_136 hl rfl (by rw [nI_succ]; rfl) (Nat.le_of_ble_eq_true rfl) rfl (fun ls hl => ?_)
                                      refine lv_goto (tgt := 106) hx hb dX5_move_139 (by decide) ?_
                                      have hP : va_P D vwCl [(mo, .inr (5, [.int (nI 0), .ref aO, .ref aT, .ref aM, .ref aZ, .ref aY, .ref aK, .ref aF, .ref aL, .int (nI c), .int isd, .int wd])), (aO, .inl (cI, 2400, .inl (va_cpy (va_cpy O M (p) 0 m9) O 0 (q) (i + 1)))), (aM, .inl (cI, 1200, .inl (va_cpy O M (p) 0 m9))), (aZ, .inl (cI, 2, .inl Z))] H := by rw [cpy_s (f := va_cpy O M (p) 0 m9), Nat.zero_add]; exact hP
                                      have hD : va_D A [(mo, .inr (5, [.int (nI 0), .ref aO, .ref aT, .ref aM, .ref aZ, .ref aY, .ref aK, .ref aF, .ref aL, .int (nI c), .int isd, .int wd])), (aO, .inl (cI, 2400, .inl (va_cpy (va_cpy O M (p) 0 m9) O 0 (q) (i + 1)))), (aM, .inl (cI, 1200, .inl (va_cpy O M (p) 0 m9))), (aZ, .inl (cI, 2, .inl Z))] := by rw [cpy_s (f := va_cpy O M (p) 0 m9), Nat.zero_add]; exact hD
                                      exact ih25 (i + 1) H locs ls (by omega) (by omega) hP hD hS (lv_sub hl [1, 2, 3, 4, 5, 6, 0] rfl)
                                exact loop23 _ 0 H locs ls (Nat.zero_le _) (Nat.lt_succ_self _) hP hD hS (lv_sub hl [1, 2, 3, 4, 5, 6, 0] rfl)
                              ·
                                have h : ¬ m9 ≤ i := fun z9 => h ((nI_leI (a := m9) (b := i) (by omega) (by omega)).mpr z9)
                                refine lv_aload_n hx hb dX5_move_75 rfl (lv_at hl 0 rfl) ?_
                                refine va_get (D := D) (ci := 5) (v := .ref aM) (C := RX5) (T := TX5) (N := 12) hx hb ht inA_X5 hown hK.1 hP 0 rfl rfl 3 (by decide) (ht _ iw_124) (fun _ h9 => h9) rfl dX5_move_76 ?_
                                refine lv_iload hx hb dX5_move_79 (lv_at hl 6 rfl) ?_
                                refine lv_aload_n hx hb dX5_move_81 rfl (lv_at hl 0 rfl) ?_
                                refine va_get (D := D) (ci := 5) (v := .ref aO) (C := RX5) (T := TX5) (N := 12) hx hb ht inA_X5 hown hK.1 hP 0 rfl rfl 1 (by decide) (ht _ iw_122) (fun _ h9 => h9) rfl dX5_move_82 ?_
                                refine lv_sipush (v := nI 1200) hx hb dX5_move_85 (by decide +kernel) ?_
                                refine lv_iload_n hx hb dX5_move_88 rfl (lv_at hl 1 rfl) ?_
                                refine lv_imul hx hb dX5_move_89 ?_
                                refine ds_top (z := nI (1200 * 0)) (pk_mul _ _) ?_
                                refine lv_iload_n hx hb dX5_move_90 rfl (lv_at hl 2 rfl) ?_
                                refine lv_iadd hx hb dX5_move_91 ?_
                                refine ds_top (z := nI ((1200 * 0) + p)) (nI_add _ _) ?_
                                refine lv_iload hx hb dX5_move_92 (lv_at hl 6 rfl) ?_
                                refine lv_iadd hx hb dX5_move_94 ?_
                                refine ds_top (z := nI (((1200 * 0) + p) + i)) (nI_add _ _) ?_
                                refine ds_top (z := nI (p + i)) (congrArg nI (by omega)) ?_
                                refine ds_iald (k := p + i) hx hb hK hP 1 rfl (by omega) (by omega) dX5_move_95 ?_
                                refine ds_iast (k := i) hx hb hK hP hD hS 2 rfl (by omega) (by omega) dX5_move_96 (fun H locs hP hD hS => ?_)
                                have hP : va_P D vwCl [(mo, .inr (5, [.int (nI 0), .ref aO, .ref aT, .ref aM, .ref aZ, .ref aY, .ref aK, .ref aF, .ref aL, .int (nI c), .int isd, .int wd])), (aO, .inl (cI, 2400, .inl O)), (aM, .inl (cI, 1200, .inl (upd (va_cpy O M (p) 0 i) i (O (p + i))))), (aZ, .inl (cI, 2, .inl Z))] H := hP
                                have hD : va_D A [(mo, .inr (5, [.int (nI 0), .ref aO, .ref aT, .ref aM, .ref aZ, .ref aY, .ref aK, .ref aF, .ref aL, .int (nI c), .int isd, .int wd])), (aO, .inl (cI, 2400, .inl O)), (aM, .inl (cI, 1200, .inl (upd (va_cpy O M (p) 0 i) i (O (p + i))))), (aZ, .inl (cI, 2, .inl Z))] := hD
                                refine lv_iinc (k := 6) (v := nI (i + 1)) (lv' := [(6, .int (nI (i + 1))), (0, .ref mo), (1, .int (nI 0)), (2, .int (nI p)), (3, .int (nI 0)), (4, .int (nI q)), (5, .int (nI m9))]) hx hb dX5_move_97 hl rfl (by rw [nI_succ]; rfl) (Nat.le_of_ble_eq_true rfl) rfl (fun ls hl => ?_)
                                refine lv_goto (tgt := 68) hx hb dX5_move_100 (by decide) ?_
                                have hP : va_P D vwCl [(mo, .inr (5, [.int (nI 0), .ref aO, .ref aT, .ref aM, .ref aZ, .ref aY, .ref aK, .ref aF, .ref aL, .int (nI c), .int isd, .int wd])), (aO, .inl (cI, 2400, .inl O)), (aM, .inl (cI, 1200, .inl (va_cpy O M (p) 0 (i + 1)))), (aZ, .inl (cI, 2, .inl Z))] H := by rw [cpy_s, Nat.zero_add]; exact hP
                                have hD : va_D A [(mo, .inr (5, [.int (nI 0), .ref aO, .ref aT, .ref aM, .ref aZ, .ref aY, .ref aK, .ref aF, .ref aL, .int (nI c), .int isd, .int wd])), (aO, .inl (cI, 2400, .inl O)), (aM, .inl (cI, 1200, .inl (va_cpy O M (p) 0 (i + 1)))), (aZ, .inl (cI, 2, .inl Z))] := by rw [cpy_s, Nat.zero_add]; exact hD
                                exact ih21 (i + 1) H locs ls (by omega) (by omega) hP hD hS (lv_sub hl [1, 2, 3, 4, 5, 6, 0] rfl)
                          exact loop19 _ 0 H locs ls (Nat.zero_le _) (Nat.lt_succ_self _) hP hD hS (lv_sub hl [1, 2, 3, 4, 5, 6, 0] rfl)
                        ·
                          rw [← nI_0] at h
                          have h : ¬ 0 = 0 := fun z9 => h ((nI_eq (a := 0) (b := 0) (by omega) (by omega)).mpr z9)
                          exact absurd rfl h
                      ·
                        rw [← nI_0] at h
                        have h : ¬ 0 = 0 := fun z9 => h ((nI_eq (a := 0) (b := 0) (by omega) (by omega)).mpr z9)
                        exact absurd rfl h
                    ·
                      refine lv_aload_n hx hb dX5_move_40 rfl (lv_at hl 0 rfl) ?_
                      refine lv_iload_n hx hb dX5_move_41 rfl (lv_at hl 3 rfl) ?_
                      refine lv_iload hx hb dX5_move_42 (lv_at hl 4 rfl) ?_
                      refine lv_iload hx hb dX5_move_44 (lv_at hl 5 rfl) ?_
                      refine ds_calli (wc := [(mo, .inr (5, [.int (nI 0), .ref aO, .ref aT, .ref aM, .ref aZ, .ref aY, .ref aK, .ref aF, .ref aL, .int (nI c), .int isd, .int wd])), (aZ, .inl (cI, 2, .inl Z))]) (wr := [(aO, .inl (cI, 2400, .inl O)), (aM, .inl (cI, 1200, .inl M))]) (wo := (fun u28 : Unit => [(mo, .inr (5, [.int (nI 0), .ref aO, .ref aT, .ref aM, .ref aZ, .ref aY, .ref aK, .ref aF, .ref aL, .int (nI c), .int isd, .int wd])), (aZ, .inl (cI, 2, .inl Z))])) (wn := (fun u28 : Unit => [(mo, .inr (5, [.int (nI 0), .ref aO, .ref aT, .ref aM, .ref aZ, .ref aY, .ref aK, .ref aF, .ref aL, .int (nI c), .int isd, .int wd])), (aO, .inl (cI, 2400, .inl O)), (aM, .inl (cI, 1200, .inl M)), (aZ, .inl (cI, 2, .inl Z))])) (isC := [0, 3]) (isR := [1, 2]) hP hD hS hA ⟨rfl, rfl, by decide, by decide, by decide⟩ [2, 0, 1, 3] (by decide) (fun _ => rfl) (fun hPc hDc => va_runV (As := [.int (nI 0), .int v, .int (nI m)]) (rest := [.ref mo]) ⟨hx, hb, hml, hown, ht⟩ (m_lacks10 Ll D cI cL mo aO aT aM aZ aY aK aF aL (nI 0) c isd wd Z lo v (nI m) hZ.2.2.1 (by omega) (Classical.not_not.mp hg2) H.size) ⟨(callB_of 3 ht g_X5_lacks rfl rfl rfl (ht _ iw_136) (ht _ iw_144) hd_X5_lacks ⟨Nat.le_of_ble_eq_true rfl, Nat.le_of_ble_eq_true rfl⟩), (ht _ iw_145), (ht _ iw_146)⟩ (ds_pV hPc hDc hK (q0 := 0) rfl rfl) rfl rfl hl.1 rfl (lv_room (Nat.le_of_ble_eq_true rfl)) dX5_move_46 ⟨Nat.le_of_ble_eq_true rfl, Nat.le_of_ble_eq_true rfl⟩) (fun r27 u28 H locs hp29 hP hD hS => ?_)
                      have hP : va_P D vwCl [(mo, .inr (5, [.int (nI 0), .ref aO, .ref aT, .ref aM, .ref aZ, .ref aY, .ref aK, .ref aF, .ref aL, .int (nI c), .int isd, .int wd])), (aO, .inl (cI, 2400, .inl O)), (aM, .inl (cI, 1200, .inl M)), (aZ, .inl (cI, 2, .inl Z))] H := hP
                      have hD : va_D A [(mo, .inr (5, [.int (nI 0), .ref aO, .ref aT, .ref aM, .ref aZ, .ref aY, .ref aK, .ref aF, .ref aL, .int (nI c), .int isd, .int wd])), (aO, .inl (cI, 2400, .inl O)), (aM, .inl (cI, 1200, .inl M)), (aZ, .inl (cI, 2, .inl Z))] := hD
                      have hp29 : r27 = nI 1 := hp29
                      replace hp29 := Eq.symm hp29
                      subst hp29
                      refine lv_if_eq (tgt := 56) hx hb dX5_move_49 (by decide) (fun h => ?_) (fun h => ?_)
                      ·
                        rw [← nI_0] at h
                        have h : 1 = 0 := (nI_eq (a := 1) (b := 0) (by omega) (by omega)).mp h
                        exact absurd h (by decide)
                      ·
                        rw [← nI_0] at h
                        have h : ¬ 1 = 0 := fun z9 => h ((nI_eq (a := 1) (b := 0) (by omega) (by omega)).mpr z9)
                        refine lv_iconst (v := nI 1) hx hb dX5_move_52 (by decide +kernel) ?_
                        refine lv_goto (tgt := 57) hx hb dX5_move_53 (by decide) ?_
                        refine lv_iconst (v := nI 2) hx hb dX5_move_57 (by decide +kernel) ?_
                        refine ds_calli (wc := [(mo, .inr (5, [.int (nI 0), .ref aO, .ref aT, .ref aM, .ref aZ, .ref aY, .ref aK, .ref aF, .ref aL, .int (nI c), .int isd, .int wd]))]) (wr := [(aO, .inl (cI, 2400, .inl O)), (aM, .inl (cI, 1200, .inl M)), (aZ, .inl (cI, 2, .inl Z))]) (wo := (fun u31 : Unit => [(mo, .inr (5, [.int (nI 2), .ref aO, .ref aT, .ref aM, .ref aZ, .ref aY, .ref aK, .ref aF, .ref aL, .int (nI c), .int isd, .int wd]))])) (wn := (fun u31 : Unit => [(mo, .inr (5, [.int (nI 2), .ref aO, .ref aT, .ref aM, .ref aZ, .ref aY, .ref aK, .ref aF, .ref aL, .int (nI c), .int isd, .int wd])), (aO, .inl (cI, 2400, .inl O)), (aM, .inl (cI, 1200, .inl M)), (aZ, .inl (cI, 2, .inl Z))])) (isC := [0]) (isR := [1, 2, 3]) hP hD hS hA ⟨rfl, rfl, by decide, by decide, by decide⟩ [3, 0, 1, 2] (by decide) (fun _ => rfl) (fun hPc hDc => va_runV (As := [.int (nI 1), .int (nI 2)]) (rest := []) ⟨hx, hb, hml, hown, ht⟩ (m_fails1 Ll D cI cL mo aO aT aM aZ aY aK aF aL (nI 0) c isd wd 2  H.size) ⟨(callB_of 2 ht g_X5_fails rfl rfl rfl (ht _ iw_136) (ht _ iw_138) hd_X5_fails ⟨Nat.le_of_ble_eq_true rfl, Nat.le_of_ble_eq_true rfl⟩), (ht _ iw_139), (ht _ iw_140)⟩ (ds_pV hPc hDc hK (q0 := 0) rfl rfl) rfl rfl hl.1 rfl (lv_room (Nat.le_of_ble_eq_true rfl)) dX5_move_58 ⟨Nat.le_of_ble_eq_true rfl, Nat.le_of_ble_eq_true rfl⟩) (fun r30 u31 H locs hp32 hP hD hS => ?_)
                        have hP : va_P D vwCl [(mo, .inr (5, [.int (nI 2), .ref aO, .ref aT, .ref aM, .ref aZ, .ref aY, .ref aK, .ref aF, .ref aL, .int (nI c), .int isd, .int wd])), (aO, .inl (cI, 2400, .inl O)), (aM, .inl (cI, 1200, .inl M)), (aZ, .inl (cI, 2, .inl Z))] H := hP
                        have hD : va_D A [(mo, .inr (5, [.int (nI 2), .ref aO, .ref aT, .ref aM, .ref aZ, .ref aY, .ref aK, .ref aF, .ref aL, .int (nI c), .int isd, .int wd])), (aO, .inl (cI, 2400, .inl O)), (aM, .inl (cI, 1200, .inl M)), (aZ, .inl (cI, 2, .inl Z))] := hD
                        have hp32 : r30 = nI 1 := hp32
                        replace hp32 := Eq.symm hp32
                        subst hp32
                        refine lv_if_eq (tgt := 65) hx hb dX5_move_61 (by decide) (fun h => ?_) (fun h => ?_)
                        ·
                          rw [← nI_0] at h
                          have h : 1 = 0 := (nI_eq (a := 1) (b := 0) (by omega) (by omega)).mp h
                          exact absurd h (by decide)
                        ·
                          rw [← nI_0] at h
                          have h : ¬ 1 = 0 := fun z9 => h ((nI_eq (a := 1) (b := 0) (by omega) (by omega)).mpr z9)
                          exact ds_vret hx hb hr hlk (nI 2, O, M) ⟨(e_move_x ⟨hro, hro2⟩ (by rw [rsel_0]; exact fun z9 => hg2 z9.2)).symm, by rw [n_move_x (t := (lo, fo, ln, fn)) (fun z9 => absurd (z9.symm.trans (e_move_x ⟨hro, hro2⟩ (by rw [rsel_0]; exact fun z9 => hg2 z9.2))) (by decide))]; exact hR⟩ hP hD hS (Nat.le_of_ble_eq_true rfl) (Nat.le_of_ble_eq_true rfl) dX5_move_64
                ·
                  refine lv_aload_n hx hb dX5_move_28 rfl (lv_at hl 0 rfl) ?_
                  refine lv_aload_n hx hb dX5_move_29 rfl (lv_at hl 0 rfl) ?_
                  refine lv_iload_n hx hb dX5_move_30 rfl (lv_at hl 1 rfl) ?_
                  refine lv_iload_n hx hb dX5_move_31 rfl (lv_at hl 2 rfl) ?_
                  refine lv_iload hx hb dX5_move_32 (lv_at hl 5 rfl) ?_
                  refine ds_calli (wc := [(mo, .inr (5, [.int (nI 0), .ref aO, .ref aT, .ref aM, .ref aZ, .ref aY, .ref aK, .ref aF, .ref aL, .int (nI c), .int isd, .int wd])), (aZ, .inl (cI, 2, .inl Z))]) (wr := [(aO, .inl (cI, 2400, .inl O)), (aM, .inl (cI, 1200, .inl M))]) (wo := (fun u34 : Unit => [(mo, .inr (5, [.int (nI 0), .ref aO, .ref aT, .ref aM, .ref aZ, .ref aY, .ref aK, .ref aF, .ref aL, .int (nI c), .int isd, .int wd])), (aZ, .inl (cI, 2, .inl Z))])) (wn := (fun u34 : Unit => [(mo, .inr (5, [.int (nI 0), .ref aO, .ref aT, .ref aM, .ref aZ, .ref aY, .ref aK, .ref aF, .ref aL, .int (nI c), .int isd, .int wd])), (aO, .inl (cI, 2400, .inl O)), (aM, .inl (cI, 1200, .inl M)), (aZ, .inl (cI, 2, .inl Z))])) (isC := [0, 3]) (isR := [1, 2]) hP hD hS hA ⟨rfl, rfl, by decide, by decide, by decide⟩ [2, 0, 1, 3] (by decide) (fun _ => rfl) (fun hPc hDc => va_runV (As := [.int (nI 0), .int y, .int w]) (rest := [.ref mo]) ⟨hx, hb, hml, hown, ht⟩ (m_lacks10 Ll D cI cL mo aO aT aM aZ aY aK aF aL (nI 0) c isd wd Z lo y w hZ.2.2.1 (by omega) (Classical.not_not.mp hg) H.size) ⟨(callB_of 3 ht g_X5_lacks rfl rfl rfl (ht _ iw_136) (ht _ iw_144) hd_X5_lacks ⟨Nat.le_of_ble_eq_true rfl, Nat.le_of_ble_eq_true rfl⟩), (ht _ iw_145), (ht _ iw_146)⟩ (ds_pV hPc hDc hK (q0 := 0) rfl rfl) rfl rfl hl.1 rfl (lv_room (Nat.le_of_ble_eq_true rfl)) dX5_move_34 ⟨Nat.le_of_ble_eq_true rfl, Nat.le_of_ble_eq_true rfl⟩) (fun r33 u34 H locs hp35 hP hD hS => ?_)
                  have hP : va_P D vwCl [(mo, .inr (5, [.int (nI 0), .ref aO, .ref aT, .ref aM, .ref aZ, .ref aY, .ref aK, .ref aF, .ref aL, .int (nI c), .int isd, .int wd])), (aO, .inl (cI, 2400, .inl O)), (aM, .inl (cI, 1200, .inl M)), (aZ, .inl (cI, 2, .inl Z))] H := hP
                  have hD : va_D A [(mo, .inr (5, [.int (nI 0), .ref aO, .ref aT, .ref aM, .ref aZ, .ref aY, .ref aK, .ref aF, .ref aL, .int (nI c), .int isd, .int wd])), (aO, .inl (cI, 2400, .inl O)), (aM, .inl (cI, 1200, .inl M)), (aZ, .inl (cI, 2, .inl Z))] := hD
                  have hp35 : r33 = nI 1 := hp35
                  replace hp35 := Eq.symm hp35
                  subst hp35
                  refine lv_if_ne (tgt := 52) hx hb dX5_move_37 (by decide) (fun h => ?_) (fun h => ?_)
                  ·
                    rw [← nI_0] at h
                    have h : ¬ 1 = 0 := fun z9 => h ((nI_eq (a := 1) (b := 0) (by omega) (by omega)).mpr z9)
                    refine lv_iconst (v := nI 1) hx hb dX5_move_52 (by decide +kernel) ?_
                    refine lv_goto (tgt := 57) hx hb dX5_move_53 (by decide) ?_
                    refine lv_iconst (v := nI 2) hx hb dX5_move_57 (by decide +kernel) ?_
                    refine ds_calli (wc := [(mo, .inr (5, [.int (nI 0), .ref aO, .ref aT, .ref aM, .ref aZ, .ref aY, .ref aK, .ref aF, .ref aL, .int (nI c), .int isd, .int wd]))]) (wr := [(aO, .inl (cI, 2400, .inl O)), (aM, .inl (cI, 1200, .inl M)), (aZ, .inl (cI, 2, .inl Z))]) (wo := (fun u37 : Unit => [(mo, .inr (5, [.int (nI 2), .ref aO, .ref aT, .ref aM, .ref aZ, .ref aY, .ref aK, .ref aF, .ref aL, .int (nI c), .int isd, .int wd]))])) (wn := (fun u37 : Unit => [(mo, .inr (5, [.int (nI 2), .ref aO, .ref aT, .ref aM, .ref aZ, .ref aY, .ref aK, .ref aF, .ref aL, .int (nI c), .int isd, .int wd])), (aO, .inl (cI, 2400, .inl O)), (aM, .inl (cI, 1200, .inl M)), (aZ, .inl (cI, 2, .inl Z))])) (isC := [0]) (isR := [1, 2, 3]) hP hD hS hA ⟨rfl, rfl, by decide, by decide, by decide⟩ [3, 0, 1, 2] (by decide) (fun _ => rfl) (fun hPc hDc => va_runV (As := [.int (nI 1), .int (nI 2)]) (rest := []) ⟨hx, hb, hml, hown, ht⟩ (m_fails1 Ll D cI cL mo aO aT aM aZ aY aK aF aL (nI 0) c isd wd 2  H.size) ⟨(callB_of 2 ht g_X5_fails rfl rfl rfl (ht _ iw_136) (ht _ iw_138) hd_X5_fails ⟨Nat.le_of_ble_eq_true rfl, Nat.le_of_ble_eq_true rfl⟩), (ht _ iw_139), (ht _ iw_140)⟩ (ds_pV hPc hDc hK (q0 := 0) rfl rfl) rfl rfl hl.1 rfl (lv_room (Nat.le_of_ble_eq_true rfl)) dX5_move_58 ⟨Nat.le_of_ble_eq_true rfl, Nat.le_of_ble_eq_true rfl⟩) (fun r36 u37 H locs hp38 hP hD hS => ?_)
                    have hP : va_P D vwCl [(mo, .inr (5, [.int (nI 2), .ref aO, .ref aT, .ref aM, .ref aZ, .ref aY, .ref aK, .ref aF, .ref aL, .int (nI c), .int isd, .int wd])), (aO, .inl (cI, 2400, .inl O)), (aM, .inl (cI, 1200, .inl M)), (aZ, .inl (cI, 2, .inl Z))] H := hP
                    have hD : va_D A [(mo, .inr (5, [.int (nI 2), .ref aO, .ref aT, .ref aM, .ref aZ, .ref aY, .ref aK, .ref aF, .ref aL, .int (nI c), .int isd, .int wd])), (aO, .inl (cI, 2400, .inl O)), (aM, .inl (cI, 1200, .inl M)), (aZ, .inl (cI, 2, .inl Z))] := hD
                    have hp38 : r36 = nI 1 := hp38
                    replace hp38 := Eq.symm hp38
                    subst hp38
                    refine lv_if_eq (tgt := 65) hx hb dX5_move_61 (by decide) (fun h => ?_) (fun h => ?_)
                    ·
                      rw [← nI_0] at h
                      have h : 1 = 0 := (nI_eq (a := 1) (b := 0) (by omega) (by omega)).mp h
                      exact absurd h (by decide)
                    ·
                      rw [← nI_0] at h
                      have h : ¬ 1 = 0 := fun z9 => h ((nI_eq (a := 1) (b := 0) (by omega) (by omega)).mpr z9)
                      exact ds_vret hx hb hr hlk (nI 2, O, M) ⟨(e_move_x ⟨hro, hro2⟩ (by rw [rsel_0]; exact fun z9 => hg z9.1)).symm, by rw [n_move_x (t := (lo, fo, ln, fn)) (fun z9 => absurd (z9.symm.trans (e_move_x ⟨hro, hro2⟩ (by rw [rsel_0]; exact fun z9 => hg z9.1))) (by decide))]; exact hR⟩ hP hD hS (Nat.le_of_ble_eq_true rfl) (Nat.le_of_ble_eq_true rfl) dX5_move_64
                  ·
                    rw [← nI_0] at h
                    have h : 1 = 0 := (nI_eq (a := 1) (b := 0) (by omega) (by omega)).mp h
                    exact absurd h (by decide)
              ·
                rw [← nI_0] at h
                have h : ¬ 0 = 0 := fun z9 => h ((nI_eq (a := 0) (b := 0) (by omega) (by omega)).mpr z9)
                exact absurd rfl h
            ·
              rw [← nI_0] at h
              have h : ¬ 0 = 0 := fun z9 => h ((nI_eq (a := 0) (b := 0) (by omega) (by omega)).mpr z9)
              exact absurd rfl h
          ·
            have hl : lv_has ls 7 [(0, .ref mo), (1, .int (nI 0)), (2, .int y), (3, .int (nI 1)), (4, .int v), (5, .int w)] := hl
            refine lv_iload_n hx hb dX5_move_8 rfl (lv_at hl 3 rfl) ?_
            refine ds_calli (wc := []) (wr := [(mo, .inr (5, [.int er, .ref aO, .ref aT, .ref aM, .ref aZ, .ref aY, .ref aK, .ref aF, .ref aL, .int (nI c), .int isd, .int wd])), (aO, .inl (cI, 2400, .inl O)), (aM, .inl (cI, 1200, .inl M)), (aZ, .inl (cI, 2, .inl Z))]) (wo := (fun u40 : Unit => [])) (wn := (fun u40 : Unit => [(mo, .inr (5, [.int er, .ref aO, .ref aT, .ref aM, .ref aZ, .ref aY, .ref aK, .ref aF, .ref aL, .int (nI c), .int isd, .int wd])), (aO, .inl (cI, 2400, .inl O)), (aM, .inl (cI, 1200, .inl M)), (aZ, .inl (cI, 2, .inl Z))])) (isC := []) (isR := [0, 1, 2, 3]) hP hD hS hA ⟨rfl, rfl, by decide, by decide, by decide⟩ [0, 1, 2, 3] (by decide) (fun _ => rfl) (fun hPc hDc => va_runS (As := [.int (nI 1)]) (rest := [.ref mo]) ⟨hx, hb, hml, hown, ht⟩ (m_no0 Ll D cI cL 1 (by decide) H.size) ⟨(callB_of 1 ht g_X5_no rfl rfl rfl (ht _ iw_136) (ht _ iw_135) hd_X5_no ⟨Nat.le_of_ble_eq_true rfl, Nat.le_of_ble_eq_true rfl⟩), (ht _ iw_137)⟩ (ds_pS hPc hDc hK) rfl rfl hl.1 rfl (lv_room (Nat.le_of_ble_eq_true rfl)) dX5_move_9 ⟨Nat.le_of_ble_eq_true rfl, Nat.le_of_ble_eq_true rfl⟩) (fun r39 u40 H locs hp41 hP hD hS => ?_)
            have hP : va_P D vwCl [(mo, .inr (5, [.int er, .ref aO, .ref aT, .ref aM, .ref aZ, .ref aY, .ref aK, .ref aF, .ref aL, .int (nI c), .int isd, .int wd])), (aO, .inl (cI, 2400, .inl O)), (aM, .inl (cI, 1200, .inl M)), (aZ, .inl (cI, 2, .inl Z))] H := hP
            have hD : va_D A [(mo, .inr (5, [.int er, .ref aO, .ref aT, .ref aM, .ref aZ, .ref aY, .ref aK, .ref aF, .ref aL, .int (nI c), .int isd, .int wd])), (aO, .inl (cI, 2400, .inl O)), (aM, .inl (cI, 1200, .inl M)), (aZ, .inl (cI, 2, .inl Z))] := hD
            have hp41 : r39 = nI 0 := hp41
            replace hp41 := Eq.symm hp41
            subst hp41
            refine lv_if_eq (tgt := 19) hx hb dX5_move_12 (by decide) (fun h => ?_) (fun h => ?_)
            ·
              rw [← nI_0] at h
              have h : 0 = 0 := (nI_eq (a := 0) (b := 0) (by omega) (by omega)).mp h
              refine lv_iconst (v := nI 0) hx hb dX5_move_19 (by decide +kernel) ?_
              refine lv_iconst (v := nI 1) hx hb dX5_move_20 (by decide +kernel) ?_
              refine ds_calli (wc := [(mo, .inr (5, [.int er, .ref aO, .ref aT, .ref aM, .ref aZ, .ref aY, .ref aK, .ref aF, .ref aL, .int (nI c), .int isd, .int wd]))]) (wr := [(aO, .inl (cI, 2400, .inl O)), (aM, .inl (cI, 1200, .inl M)), (aZ, .inl (cI, 2, .inl Z))]) (wo := (fun u43 : Unit => [(mo, .inr (5, [.int (nI 0), .ref aO, .ref aT, .ref aM, .ref aZ, .ref aY, .ref aK, .ref aF, .ref aL, .int (nI c), .int isd, .int wd]))])) (wn := (fun u43 : Unit => [(mo, .inr (5, [.int (nI 0), .ref aO, .ref aT, .ref aM, .ref aZ, .ref aY, .ref aK, .ref aF, .ref aL, .int (nI c), .int isd, .int wd])), (aO, .inl (cI, 2400, .inl O)), (aM, .inl (cI, 1200, .inl M)), (aZ, .inl (cI, 2, .inl Z))])) (isC := [0]) (isR := [1, 2, 3]) hP hD hS hA ⟨rfl, rfl, by decide, by decide, by decide⟩ [3, 0, 1, 2] (by decide) (fun _ => rfl) (fun hPc hDc => va_runV (As := [.int (nI 0), .int (nI 1)]) (rest := []) ⟨hx, hb, hml, hown, ht⟩ (m_fails0 Ll D cI cL mo aO aT aM aZ aY aK aF aL er c isd wd 1  H.size) ⟨(callB_of 2 ht g_X5_fails rfl rfl rfl (ht _ iw_136) (ht _ iw_138) hd_X5_fails ⟨Nat.le_of_ble_eq_true rfl, Nat.le_of_ble_eq_true rfl⟩), (ht _ iw_139), (ht _ iw_140)⟩ (ds_pV hPc hDc hK (q0 := 0) rfl rfl) rfl rfl hl.1 rfl (lv_room (Nat.le_of_ble_eq_true rfl)) dX5_move_21 ⟨Nat.le_of_ble_eq_true rfl, Nat.le_of_ble_eq_true rfl⟩) (fun r42 u43 H locs hp44 hP hD hS => ?_)
              have hP : va_P D vwCl [(mo, .inr (5, [.int (nI 0), .ref aO, .ref aT, .ref aM, .ref aZ, .ref aY, .ref aK, .ref aF, .ref aL, .int (nI c), .int isd, .int wd])), (aO, .inl (cI, 2400, .inl O)), (aM, .inl (cI, 1200, .inl M)), (aZ, .inl (cI, 2, .inl Z))] H := hP
              have hD : va_D A [(mo, .inr (5, [.int (nI 0), .ref aO, .ref aT, .ref aM, .ref aZ, .ref aY, .ref aK, .ref aF, .ref aL, .int (nI c), .int isd, .int wd])), (aO, .inl (cI, 2400, .inl O)), (aM, .inl (cI, 1200, .inl M)), (aZ, .inl (cI, 2, .inl Z))] := hD
              have hp44 : r42 = nI 0 := hp44
              replace hp44 := Eq.symm hp44
              subst hp44
              refine lv_if_eq (tgt := 28) hx hb dX5_move_24 (by decide) (fun h => ?_) (fun h => ?_)
              ·
                rw [← nI_0] at h
                have h : 0 = 0 := (nI_eq (a := 0) (b := 0) (by omega) (by omega)).mp h
                by_cases hg : gok y w lo
                ·
                  obtain ⟨p, m, hpm, e8, e9⟩ := gok_nat (by omega) hg
                  subst e8 e9
                  have hl : lv_has ls 7 [(0, .ref mo), (1, .int (nI 0)), (2, .int (nI p)), (3, .int (nI 1)), (4, .int v), (5, .int (nI m))] := hl
                  refine lv_aload_n hx hb dX5_move_28 rfl (lv_at hl 0 rfl) ?_
                  refine lv_aload_n hx hb dX5_move_29 rfl (lv_at hl 0 rfl) ?_
                  refine lv_iload_n hx hb dX5_move_30 rfl (lv_at hl 1 rfl) ?_
                  refine lv_iload_n hx hb dX5_move_31 rfl (lv_at hl 2 rfl) ?_
                  refine lv_iload hx hb dX5_move_32 (lv_at hl 5 rfl) ?_
                  refine ds_calli (wc := [(mo, .inr (5, [.int (nI 0), .ref aO, .ref aT, .ref aM, .ref aZ, .ref aY, .ref aK, .ref aF, .ref aL, .int (nI c), .int isd, .int wd])), (aZ, .inl (cI, 2, .inl Z))]) (wr := [(aO, .inl (cI, 2400, .inl O)), (aM, .inl (cI, 1200, .inl M))]) (wo := (fun u46 : Unit => [(mo, .inr (5, [.int (nI 0), .ref aO, .ref aT, .ref aM, .ref aZ, .ref aY, .ref aK, .ref aF, .ref aL, .int (nI c), .int isd, .int wd])), (aZ, .inl (cI, 2, .inl Z))])) (wn := (fun u46 : Unit => [(mo, .inr (5, [.int (nI 0), .ref aO, .ref aT, .ref aM, .ref aZ, .ref aY, .ref aK, .ref aF, .ref aL, .int (nI c), .int isd, .int wd])), (aO, .inl (cI, 2400, .inl O)), (aM, .inl (cI, 1200, .inl M)), (aZ, .inl (cI, 2, .inl Z))])) (isC := [0, 3]) (isR := [1, 2]) hP hD hS hA ⟨rfl, rfl, by decide, by decide, by decide⟩ [2, 0, 1, 3] (by decide) (fun _ => rfl) (fun hPc hDc => va_runV (As := [.int (nI 0), .int (nI p), .int (nI m)]) (rest := [.ref mo]) ⟨hx, hb, hml, hown, ht⟩ (m_lacks00 Ll D cI cL mo aO aT aM aZ aY aK aF aL (nI 0) c isd wd Z lo p m hZ.2.2.1 (by omega) hpm H.size) ⟨(callB_of 3 ht g_X5_lacks rfl rfl rfl (ht _ iw_136) (ht _ iw_144) hd_X5_lacks ⟨Nat.le_of_ble_eq_true rfl, Nat.le_of_ble_eq_true rfl⟩), (ht _ iw_145), (ht _ iw_146)⟩ (ds_pV hPc hDc hK (q0 := 0) rfl rfl) rfl rfl hl.1 rfl (lv_room (Nat.le_of_ble_eq_true rfl)) dX5_move_34 ⟨Nat.le_of_ble_eq_true rfl, Nat.le_of_ble_eq_true rfl⟩) (fun r45 u46 H locs hp47 hP hD hS => ?_)
                  have hP : va_P D vwCl [(mo, .inr (5, [.int (nI 0), .ref aO, .ref aT, .ref aM, .ref aZ, .ref aY, .ref aK, .ref aF, .ref aL, .int (nI c), .int isd, .int wd])), (aO, .inl (cI, 2400, .inl O)), (aM, .inl (cI, 1200, .inl M)), (aZ, .inl (cI, 2, .inl Z))] H := hP
                  have hD : va_D A [(mo, .inr (5, [.int (nI 0), .ref aO, .ref aT, .ref aM, .ref aZ, .ref aY, .ref aK, .ref aF, .ref aL, .int (nI c), .int isd, .int wd])), (aO, .inl (cI, 2400, .inl O)), (aM, .inl (cI, 1200, .inl M)), (aZ, .inl (cI, 2, .inl Z))] := hD
                  have hp47 : r45 = nI 0 := hp47
                  replace hp47 := Eq.symm hp47
                  subst hp47
                  refine lv_if_ne (tgt := 52) hx hb dX5_move_37 (by decide) (fun h => ?_) (fun h => ?_)
                  ·
                    rw [← nI_0] at h
                    have h : ¬ 0 = 0 := fun z9 => h ((nI_eq (a := 0) (b := 0) (by omega) (by omega)).mpr z9)
                    exact absurd rfl h
                  ·
                    rw [← nI_0] at h
                    have h : 0 = 0 := (nI_eq (a := 0) (b := 0) (by omega) (by omega)).mp h
                    by_cases hg2 : gok v (nI m) ln
                    ·
                      obtain ⟨q, m9, hqm, e8, e9⟩ := gok_nat (by omega) hg2
                      have e7 : m9 = m := by
                        have h31 : m9 < 2 ^ 31 := by omega
                        exact ((nI_eq h31 (by omega)).mp e9.symm)
                      subst e7 e8
                      have hl : lv_has ls 7 [(0, .ref mo), (1, .int (nI 0)), (2, .int (nI p)), (3, .int (nI 1)), (4, .int (nI q)), (5, .int (nI m9))] := hl
                      refine lv_aload_n hx hb dX5_move_40 rfl (lv_at hl 0 rfl) ?_
                      refine lv_iload_n hx hb dX5_move_41 rfl (lv_at hl 3 rfl) ?_
                      refine lv_iload hx hb dX5_move_42 (lv_at hl 4 rfl) ?_
                      refine lv_iload hx hb dX5_move_44 (lv_at hl 5 rfl) ?_
                      refine ds_calli (wc := [(mo, .inr (5, [.int (nI 0), .ref aO, .ref aT, .ref aM, .ref aZ, .ref aY, .ref aK, .ref aF, .ref aL, .int (nI c), .int isd, .int wd])), (aZ, .inl (cI, 2, .inl Z))]) (wr := [(aO, .inl (cI, 2400, .inl O)), (aM, .inl (cI, 1200, .inl M))]) (wo := (fun u49 : Unit => [(mo, .inr (5, [.int (nI 0), .ref aO, .ref aT, .ref aM, .ref aZ, .ref aY, .ref aK, .ref aF, .ref aL, .int (nI c), .int isd, .int wd])), (aZ, .inl (cI, 2, .inl Z))])) (wn := (fun u49 : Unit => [(mo, .inr (5, [.int (nI 0), .ref aO, .ref aT, .ref aM, .ref aZ, .ref aY, .ref aK, .ref aF, .ref aL, .int (nI c), .int isd, .int wd])), (aO, .inl (cI, 2400, .inl O)), (aM, .inl (cI, 1200, .inl M)), (aZ, .inl (cI, 2, .inl Z))])) (isC := [0, 3]) (isR := [1, 2]) hP hD hS hA ⟨rfl, rfl, by decide, by decide, by decide⟩ [2, 0, 1, 3] (by decide) (fun _ => rfl) (fun hPc hDc => va_runV (As := [.int (nI 1), .int (nI q), .int (nI m9)]) (rest := [.ref mo]) ⟨hx, hb, hml, hown, ht⟩ (m_lacks01 Ll D cI cL mo aO aT aM aZ aY aK aF aL (nI 0) c isd wd Z ln q m9 hZ.2.2.2 (by omega) hqm H.size) ⟨(callB_of 3 ht g_X5_lacks rfl rfl rfl (ht _ iw_136) (ht _ iw_144) hd_X5_lacks ⟨Nat.le_of_ble_eq_true rfl, Nat.le_of_ble_eq_true rfl⟩), (ht _ iw_145), (ht _ iw_146)⟩ (ds_pV hPc hDc hK (q0 := 0) rfl rfl) rfl rfl hl.1 rfl (lv_room (Nat.le_of_ble_eq_true rfl)) dX5_move_46 ⟨Nat.le_of_ble_eq_true rfl, Nat.le_of_ble_eq_true rfl⟩) (fun r48 u49 H locs hp50 hP hD hS => ?_)
                      have hP : va_P D vwCl [(mo, .inr (5, [.int (nI 0), .ref aO, .ref aT, .ref aM, .ref aZ, .ref aY, .ref aK, .ref aF, .ref aL, .int (nI c), .int isd, .int wd])), (aO, .inl (cI, 2400, .inl O)), (aM, .inl (cI, 1200, .inl M)), (aZ, .inl (cI, 2, .inl Z))] H := hP
                      have hD : va_D A [(mo, .inr (5, [.int (nI 0), .ref aO, .ref aT, .ref aM, .ref aZ, .ref aY, .ref aK, .ref aF, .ref aL, .int (nI c), .int isd, .int wd])), (aO, .inl (cI, 2400, .inl O)), (aM, .inl (cI, 1200, .inl M)), (aZ, .inl (cI, 2, .inl Z))] := hD
                      have hp50 : r48 = nI 0 := hp50
                      replace hp50 := Eq.symm hp50
                      subst hp50
                      refine lv_if_eq (tgt := 56) hx hb dX5_move_49 (by decide) (fun h => ?_) (fun h => ?_)
                      ·
                        rw [← nI_0] at h
                        have h : 0 = 0 := (nI_eq (a := 0) (b := 0) (by omega) (by omega)).mp h
                        refine lv_iconst (v := nI 0) hx hb dX5_move_56 (by decide +kernel) ?_
                        refine lv_iconst (v := nI 2) hx hb dX5_move_57 (by decide +kernel) ?_
                        refine ds_calli (wc := [(mo, .inr (5, [.int (nI 0), .ref aO, .ref aT, .ref aM, .ref aZ, .ref aY, .ref aK, .ref aF, .ref aL, .int (nI c), .int isd, .int wd]))]) (wr := [(aO, .inl (cI, 2400, .inl O)), (aM, .inl (cI, 1200, .inl M)), (aZ, .inl (cI, 2, .inl Z))]) (wo := (fun u52 : Unit => [(mo, .inr (5, [.int (nI 0), .ref aO, .ref aT, .ref aM, .ref aZ, .ref aY, .ref aK, .ref aF, .ref aL, .int (nI c), .int isd, .int wd]))])) (wn := (fun u52 : Unit => [(mo, .inr (5, [.int (nI 0), .ref aO, .ref aT, .ref aM, .ref aZ, .ref aY, .ref aK, .ref aF, .ref aL, .int (nI c), .int isd, .int wd])), (aO, .inl (cI, 2400, .inl O)), (aM, .inl (cI, 1200, .inl M)), (aZ, .inl (cI, 2, .inl Z))])) (isC := [0]) (isR := [1, 2, 3]) hP hD hS hA ⟨rfl, rfl, by decide, by decide, by decide⟩ [3, 0, 1, 2] (by decide) (fun _ => rfl) (fun hPc hDc => va_runV (As := [.int (nI 0), .int (nI 2)]) (rest := []) ⟨hx, hb, hml, hown, ht⟩ (m_fails0 Ll D cI cL mo aO aT aM aZ aY aK aF aL (nI 0) c isd wd 2  H.size) ⟨(callB_of 2 ht g_X5_fails rfl rfl rfl (ht _ iw_136) (ht _ iw_138) hd_X5_fails ⟨Nat.le_of_ble_eq_true rfl, Nat.le_of_ble_eq_true rfl⟩), (ht _ iw_139), (ht _ iw_140)⟩ (ds_pV hPc hDc hK (q0 := 0) rfl rfl) rfl rfl hl.1 rfl (lv_room (Nat.le_of_ble_eq_true rfl)) dX5_move_58 ⟨Nat.le_of_ble_eq_true rfl, Nat.le_of_ble_eq_true rfl⟩) (fun r51 u52 H locs hp53 hP hD hS => ?_)
                        have hP : va_P D vwCl [(mo, .inr (5, [.int (nI 0), .ref aO, .ref aT, .ref aM, .ref aZ, .ref aY, .ref aK, .ref aF, .ref aL, .int (nI c), .int isd, .int wd])), (aO, .inl (cI, 2400, .inl O)), (aM, .inl (cI, 1200, .inl M)), (aZ, .inl (cI, 2, .inl Z))] H := hP
                        have hD : va_D A [(mo, .inr (5, [.int (nI 0), .ref aO, .ref aT, .ref aM, .ref aZ, .ref aY, .ref aK, .ref aF, .ref aL, .int (nI c), .int isd, .int wd])), (aO, .inl (cI, 2400, .inl O)), (aM, .inl (cI, 1200, .inl M)), (aZ, .inl (cI, 2, .inl Z))] := hD
                        have hp53 : r51 = nI 0 := hp53
                        replace hp53 := Eq.symm hp53
                        subst hp53
                        refine lv_if_eq (tgt := 65) hx hb dX5_move_61 (by decide) (fun h => ?_) (fun h => ?_)
                        ·
                          rw [← nI_0] at h
                          have h : 0 = 0 := (nI_eq (a := 0) (b := 0) (by omega) (by omega)).mp h
                          refine lv_iconst (v := nI 0) hx hb dX5_move_65 (by decide +kernel) ?_
                          refine lv_istore (lv' := [(6, .int (nI 0)), (0, .ref mo), (1, .int (nI 0)), (2, .int (nI p)), (3, .int (nI 1)), (4, .int (nI q)), (5, .int (nI m9))]) hx hb dX5_move_66 hl (Nat.le_of_ble_eq_true rfl) rfl (fun ls hl => ?_)
                          have hP : va_P D vwCl [(mo, .inr (5, [.int (nI 0), .ref aO, .ref aT, .ref aM, .ref aZ, .ref aY, .ref aK, .ref aF, .ref aL, .int (nI c), .int isd, .int wd])), (aO, .inl (cI, 2400, .inl O)), (aM, .inl (cI, 1200, .inl (va_cpy O M (p) 0 0))), (aZ, .inl (cI, 2, .inl Z))] H := by rw [cpy_0]; exact hP
                          have hD : va_D A [(mo, .inr (5, [.int (nI 0), .ref aO, .ref aT, .ref aM, .ref aZ, .ref aY, .ref aK, .ref aF, .ref aL, .int (nI c), .int isd, .int wd])), (aO, .inl (cI, 2400, .inl O)), (aM, .inl (cI, 1200, .inl (va_cpy O M (p) 0 0))), (aZ, .inl (cI, 2, .inl Z))] := by rw [cpy_0]; exact hD
                          have loop54 : ∀ (k55 : Nat) (i : Nat) (H : Heap) (locs : List Loc) (ls : Array Slot), (i ≤ m9) → m9 - i < k55 → va_P D vwCl [(mo, .inr (5, [.int (nI 0), .ref aO, .ref aT, .ref aM, .ref aZ, .ref aY, .ref aK, .ref aF, .ref aL, .int (nI c), .int isd, .int wd])), (aO, .inl (cI, 2400, .inl O)), (aM, .inl (cI, 1200, .inl (va_cpy O M (p) 0 i))), (aZ, .inl (cI, 2, .inl Z))] H → va_D A [(mo, .inr (5, [.int (nI 0), .ref aO, .ref aT, .ref aM, .ref aZ, .ref aY, .ref aK, .ref aF, .ref aL, .int (nI c), .int isd, .int wd])), (aO, .inl (cI, 2400, .inl O)), (aM, .inl (cI, 1200, .inl (va_cpy O M (p) 0 i))), (aZ, .inl (cI, 2, .inl Z))] → va_S A Ss.heap H locs → lv_has ls 7 [(0, .ref mo), (1, .int (nI 0)), (2, .int (nI p)), (3, .int (nI 1)), (4, .int (nI q)), (5, .int (nI m9)), (6, .int (nI i))] → W Pp Ll Ee { frames := 1, cells := 0, slots := 0, locals := 23 } Ss Mm Aa Bb Me Cc H locs 0 0 (MQ Bb (ds_Qv D (fun (u : Int32 × (Nat → Int32) × (Nat → Int32)) => u.1 = e_move 0 (nI p) (nI 1) (nI q) (nI m9) lo ln ∧ mQ (n_move 0 (nI p) (nI 1) (nI q) (nI m9) (lo, fo, ln, fn)) u.2.1 Z) (fun u : Int32 × (Nat → Int32) × (Nat → Int32) => [(mo, .inr (5, [.int u.1, .ref aO, .ref aT, .ref aM, .ref aZ, .ref aY, .ref aK, .ref aF, .ref aL, .int (nI c), .int isd, .int wd])), (aO, .inl (cI, 2400, .inl u.2.1)), (aM, .inl (cI, 1200, .inl u.2.2)), (aZ, .inl (cI, 2, .inl Z))]) A) Aa Ss 0 0 A) (F0 Mm 68 ls []) := by
                            intro k55
                            induction k55 with
                            | zero => intro i H locs ls hi hm57; exact absurd hm57 (Nat.not_lt_zero _)
                            | succ k55 ih56 =>
                              intro i H locs ls hi hm57 hP hD hS hl
                              refine lv_iload hx hb dX5_move_68 (lv_at hl 6 rfl) ?_
                              refine lv_iload hx hb dX5_move_70 (lv_at hl 5 rfl) ?_
                              refine lv_icmp_ge (tgt := 103) hx hb dX5_move_72 (by decide) (fun h => ?_) (fun h => ?_)
                              ·
                                have h : m9 ≤ i := (nI_leI (a := m9) (b := i) (by omega) (by omega)).mp h
                                have e9 : m9 = i := (by omega)
                                subst e9
                                refine lv_iconst (v := nI 0) hx hb dX5_move_103 (by decide +kernel) ?_
                                refine lv_istore (lv' := [(6, .int (nI 0)), (0, .ref mo), (1, .int (nI 0)), (2, .int (nI p)), (3, .int (nI 1)), (4, .int (nI q)), (5, .int (nI m9))]) hx hb dX5_move_104 hl (Nat.le_of_ble_eq_true rfl) rfl (fun ls hl => ?_)
                                have hP : va_P D vwCl [(mo, .inr (5, [.int (nI 0), .ref aO, .ref aT, .ref aM, .ref aZ, .ref aY, .ref aK, .ref aF, .ref aL, .int (nI c), .int isd, .int wd])), (aO, .inl (cI, 2400, .inl (va_cpy (va_cpy O M (p) 0 m9) O 0 (1200 + q) 0))), (aM, .inl (cI, 1200, .inl (va_cpy O M (p) 0 m9))), (aZ, .inl (cI, 2, .inl Z))] H := by rw [cpy_0 (f := va_cpy O M (p) 0 m9)]; exact hP
                                have hD : va_D A [(mo, .inr (5, [.int (nI 0), .ref aO, .ref aT, .ref aM, .ref aZ, .ref aY, .ref aK, .ref aF, .ref aL, .int (nI c), .int isd, .int wd])), (aO, .inl (cI, 2400, .inl (va_cpy (va_cpy O M (p) 0 m9) O 0 (1200 + q) 0))), (aM, .inl (cI, 1200, .inl (va_cpy O M (p) 0 m9))), (aZ, .inl (cI, 2, .inl Z))] := by rw [cpy_0 (f := va_cpy O M (p) 0 m9)]; exact hD
                                have loop58 : ∀ (k59 : Nat) (i : Nat) (H : Heap) (locs : List Loc) (ls : Array Slot), (i ≤ m9) → m9 - i < k59 → va_P D vwCl [(mo, .inr (5, [.int (nI 0), .ref aO, .ref aT, .ref aM, .ref aZ, .ref aY, .ref aK, .ref aF, .ref aL, .int (nI c), .int isd, .int wd])), (aO, .inl (cI, 2400, .inl (va_cpy (va_cpy O M (p) 0 m9) O 0 (1200 + q) i))), (aM, .inl (cI, 1200, .inl (va_cpy O M (p) 0 m9))), (aZ, .inl (cI, 2, .inl Z))] H → va_D A [(mo, .inr (5, [.int (nI 0), .ref aO, .ref aT, .ref aM, .ref aZ, .ref aY, .ref aK, .ref aF, .ref aL, .int (nI c), .int isd, .int wd])), (aO, .inl (cI, 2400, .inl (va_cpy (va_cpy O M (p) 0 m9) O 0 (1200 + q) i))), (aM, .inl (cI, 1200, .inl (va_cpy O M (p) 0 m9))), (aZ, .inl (cI, 2, .inl Z))] → va_S A Ss.heap H locs → lv_has ls 7 [(0, .ref mo), (1, .int (nI 0)), (2, .int (nI p)), (3, .int (nI 1)), (4, .int (nI q)), (5, .int (nI m9)), (6, .int (nI i))] → W Pp Ll Ee { frames := 1, cells := 0, slots := 0, locals := 23 } Ss Mm Aa Bb Me Cc H locs 0 0 (MQ Bb (ds_Qv D (fun (u : Int32 × (Nat → Int32) × (Nat → Int32)) => u.1 = e_move 0 (nI p) (nI 1) (nI q) (nI m9) lo ln ∧ mQ (n_move 0 (nI p) (nI 1) (nI q) (nI m9) (lo, fo, ln, fn)) u.2.1 Z) (fun u : Int32 × (Nat → Int32) × (Nat → Int32) => [(mo, .inr (5, [.int u.1, .ref aO, .ref aT, .ref aM, .ref aZ, .ref aY, .ref aK, .ref aF, .ref aL, .int (nI c), .int isd, .int wd])), (aO, .inl (cI, 2400, .inl u.2.1)), (aM, .inl (cI, 1200, .inl u.2.2)), (aZ, .inl (cI, 2, .inl Z))]) A) Aa Ss 0 0 A) (F0 Mm 106 ls []) := by
                                  intro k59
                                  induction k59 with
                                  | zero => intro i H locs ls hi hm61; exact absurd hm61 (Nat.not_lt_zero _)
                                  | succ k59 ih60 =>
                                    intro i H locs ls hi hm61 hP hD hS hl
                                    refine lv_iload hx hb dX5_move_106 (lv_at hl 6 rfl) ?_
                                    refine lv_iload hx hb dX5_move_108 (lv_at hl 5 rfl) ?_
                                    refine lv_icmp_ge (tgt := 142) hx hb dX5_move_110 (by decide) (fun h => ?_) (fun h => ?_)
                                    ·
                                      have h : m9 ≤ i := (nI_leI (a := m9) (b := i) (by omega) (by omega)).mp h
                                      have e9 : m9 = i := (by omega)
                                      subst e9
                                      exact ds_vret hx hb hr hlk (nI 0, va_cpy (va_cpy O M (p) 0 m9) O 0 (1200 + q) m9, va_cpy O M (p) 0 m9) ⟨(n_move_ok1 hZ.1 hZ.2.1 hro (by rw [rsel_0]; exact hpm) hqm (fo := fo) (fn := fn)).2.symm, mQ_move01 hpm hqm hR⟩ hP hD hS (Nat.le_of_ble_eq_true rfl) (Nat.le_of_ble_eq_true rfl) dX5_move_142
                                    ·
                                      have h : ¬ m9 ≤ i := fun z9 => h ((nI_leI (a := m9) (b := i) (by omega) (by omega)).mpr z9)
                                      refine lv_aload_n hx hb dX5_move_113 rfl (lv_at hl 0 rfl) ?_
                                      refine va_get (D := D) (ci := 5) (v := .ref aO) (C := RX5) (T := TX5) (N := 12) hx hb ht inA_X5 hown hK.1 hP 0 rfl rfl 1 (by decide) (ht _ iw_122) (fun _ h9 => h9) rfl dX5_move_114 ?_
                                      refine lv_sipush (v := nI 1200) hx hb dX5_move_117 (by decide +kernel) ?_
                                      refine lv_iload_n hx hb dX5_move_120 rfl (lv_at hl 3 rfl) ?_
                                      refine lv_imul hx hb dX5_move_121 ?_
                                      refine ds_top (z := nI (1200 * 1)) (pk_mul _ _) ?_
                                      refine lv_iload hx hb dX5_move_122 (lv_at hl 4 rfl) ?_
                                      refine lv_iadd hx hb dX5_move_124 ?_
                                      refine ds_top (z := nI ((1200 * 1) + q)) (nI_add _ _) ?_
                                      refine lv_iload hx hb dX5_move_125 (lv_at hl 6 rfl) ?_
                                      refine lv_iadd hx hb dX5_move_127 ?_
                                      refine ds_top (z := nI (((1200 * 1) + q) + i)) (nI_add _ _) ?_
                                      refine ds_top (z := nI ((1200 + q) + i)) (congrArg nI (by omega)) ?_
                                      refine lv_aload_n hx hb dX5_move_128 rfl (lv_at hl 0 rfl) ?_
                                      refine va_get (D := D) (ci := 5) (v := .ref aM) (C := RX5) (T := TX5) (N := 12) hx hb ht inA_X5 hown hK.1 hP 0 rfl rfl 3 (by decide) (ht _ iw_124) (fun _ h9 => h9) rfl dX5_move_129 ?_
                                      refine lv_iload hx hb dX5_move_132 (lv_at hl 6 rfl) ?_
                                      refine ds_iald (k := i) hx hb hK hP 2 rfl (by omega) (by omega) dX5_move_134 ?_
                                      refine ds_iast (k := (1200 + q) + i) hx hb hK hP hD hS 1 rfl (by omega) (by omega) dX5_move_135 (fun H locs hP hD hS => ?_)
                                      have hP : va_P D vwCl [(mo, .inr (5, [.int (nI 0), .ref aO, .ref aT, .ref aM, .ref aZ, .ref aY, .ref aK, .ref aF, .ref aL, .int (nI c), .int isd, .int wd])), (aO, .inl (cI, 2400, .inl (upd (va_cpy (va_cpy O M (p) 0 m9) O 0 (1200 + q) i) ((1200 + q) + i) ((va_cpy O M (p) 0 m9) i)))), (aM, .inl (cI, 1200, .inl (va_cpy O M (p) 0 m9))), (aZ, .inl (cI, 2, .inl Z))] H := hP
                                      have hD : va_D A [(mo, .inr (5, [.int (nI 0), .ref aO, .ref aT, .ref aM, .ref aZ, .ref aY, .ref aK, .ref aF, .ref aL, .int (nI c), .int isd, .int wd])), (aO, .inl (cI, 2400, .inl (upd (va_cpy (va_cpy O M (p) 0 m9) O 0 (1200 + q) i) ((1200 + q) + i) ((va_cpy O M (p) 0 m9) i)))), (aM, .inl (cI, 1200, .inl (va_cpy O M (p) 0 m9))), (aZ, .inl (cI, 2, .inl Z))] := hD
                                      refine lv_iinc (k := 6) (v := nI (i + 1)) (lv' := [(6, .int (nI (i + 1))), (0, .ref mo), (1, .int (nI 0)), (2, .int (nI p)), (3, .int (nI 1)), (4, .int (nI q)), (5, .int (nI m9))]) hx hb dX5_move_136 hl rfl (by rw [nI_succ]; rfl) (Nat.le_of_ble_eq_true rfl) rfl (fun ls hl => ?_)
                                      refine lv_goto (tgt := 106) hx hb dX5_move_139 (by decide) ?_
                                      have hP : va_P D vwCl [(mo, .inr (5, [.int (nI 0), .ref aO, .ref aT, .ref aM, .ref aZ, .ref aY, .ref aK, .ref aF, .ref aL, .int (nI c), .int isd, .int wd])), (aO, .inl (cI, 2400, .inl (va_cpy (va_cpy O M (p) 0 m9) O 0 (1200 + q) (i + 1)))), (aM, .inl (cI, 1200, .inl (va_cpy O M (p) 0 m9))), (aZ, .inl (cI, 2, .inl Z))] H := by rw [cpy_s (f := va_cpy O M (p) 0 m9), Nat.zero_add]; exact hP
                                      have hD : va_D A [(mo, .inr (5, [.int (nI 0), .ref aO, .ref aT, .ref aM, .ref aZ, .ref aY, .ref aK, .ref aF, .ref aL, .int (nI c), .int isd, .int wd])), (aO, .inl (cI, 2400, .inl (va_cpy (va_cpy O M (p) 0 m9) O 0 (1200 + q) (i + 1)))), (aM, .inl (cI, 1200, .inl (va_cpy O M (p) 0 m9))), (aZ, .inl (cI, 2, .inl Z))] := by rw [cpy_s (f := va_cpy O M (p) 0 m9), Nat.zero_add]; exact hD
                                      exact ih60 (i + 1) H locs ls (by omega) (by omega) hP hD hS (lv_sub hl [1, 2, 3, 4, 5, 6, 0] rfl)
                                exact loop58 _ 0 H locs ls (Nat.zero_le _) (Nat.lt_succ_self _) hP hD hS (lv_sub hl [1, 2, 3, 4, 5, 6, 0] rfl)
                              ·
                                have h : ¬ m9 ≤ i := fun z9 => h ((nI_leI (a := m9) (b := i) (by omega) (by omega)).mpr z9)
                                refine lv_aload_n hx hb dX5_move_75 rfl (lv_at hl 0 rfl) ?_
                                refine va_get (D := D) (ci := 5) (v := .ref aM) (C := RX5) (T := TX5) (N := 12) hx hb ht inA_X5 hown hK.1 hP 0 rfl rfl 3 (by decide) (ht _ iw_124) (fun _ h9 => h9) rfl dX5_move_76 ?_
                                refine lv_iload hx hb dX5_move_79 (lv_at hl 6 rfl) ?_
                                refine lv_aload_n hx hb dX5_move_81 rfl (lv_at hl 0 rfl) ?_
                                refine va_get (D := D) (ci := 5) (v := .ref aO) (C := RX5) (T := TX5) (N := 12) hx hb ht inA_X5 hown hK.1 hP 0 rfl rfl 1 (by decide) (ht _ iw_122) (fun _ h9 => h9) rfl dX5_move_82 ?_
                                refine lv_sipush (v := nI 1200) hx hb dX5_move_85 (by decide +kernel) ?_
                                refine lv_iload_n hx hb dX5_move_88 rfl (lv_at hl 1 rfl) ?_
                                refine lv_imul hx hb dX5_move_89 ?_
                                refine ds_top (z := nI (1200 * 0)) (pk_mul _ _) ?_
                                refine lv_iload_n hx hb dX5_move_90 rfl (lv_at hl 2 rfl) ?_
                                refine lv_iadd hx hb dX5_move_91 ?_
                                refine ds_top (z := nI ((1200 * 0) + p)) (nI_add _ _) ?_
                                refine lv_iload hx hb dX5_move_92 (lv_at hl 6 rfl) ?_
                                refine lv_iadd hx hb dX5_move_94 ?_
                                refine ds_top (z := nI (((1200 * 0) + p) + i)) (nI_add _ _) ?_
                                refine ds_top (z := nI (p + i)) (congrArg nI (by omega)) ?_
                                refine ds_iald (k := p + i) hx hb hK hP 1 rfl (by omega) (by omega) dX5_move_95 ?_
                                refine ds_iast (k := i) hx hb hK hP hD hS 2 rfl (by omega) (by omega) dX5_move_96 (fun H locs hP hD hS => ?_)
                                have hP : va_P D vwCl [(mo, .inr (5, [.int (nI 0), .ref aO, .ref aT, .ref aM, .ref aZ, .ref aY, .ref aK, .ref aF, .ref aL, .int (nI c), .int isd, .int wd])), (aO, .inl (cI, 2400, .inl O)), (aM, .inl (cI, 1200, .inl (upd (va_cpy O M (p) 0 i) i (O (p + i))))), (aZ, .inl (cI, 2, .inl Z))] H := hP
                                have hD : va_D A [(mo, .inr (5, [.int (nI 0), .ref aO, .ref aT, .ref aM, .ref aZ, .ref aY, .ref aK, .ref aF, .ref aL, .int (nI c), .int isd, .int wd])), (aO, .inl (cI, 2400, .inl O)), (aM, .inl (cI, 1200, .inl (upd (va_cpy O M (p) 0 i) i (O (p + i))))), (aZ, .inl (cI, 2, .inl Z))] := hD
                                refine lv_iinc (k := 6) (v := nI (i + 1)) (lv' := [(6, .int (nI (i + 1))), (0, .ref mo), (1, .int (nI 0)), (2, .int (nI p)), (3, .int (nI 1)), (4, .int (nI q)), (5, .int (nI m9))]) hx hb dX5_move_97 hl rfl (by rw [nI_succ]; rfl) (Nat.le_of_ble_eq_true rfl) rfl (fun ls hl => ?_)
                                refine lv_goto (tgt := 68) hx hb dX5_move_100 (by decide) ?_
                                have hP : va_P D vwCl [(mo, .inr (5, [.int (nI 0), .ref aO, .ref aT, .ref aM, .ref aZ, .ref aY, .ref aK, .ref aF, .ref aL, .int (nI c), .int isd, .int wd])), (aO, .inl (cI, 2400, .inl O)), (aM, .inl (cI, 1200, .inl (va_cpy O M (p) 0 (i + 1)))), (aZ, .inl (cI, 2, .inl Z))] H := by rw [cpy_s, Nat.zero_add]; exact hP
                                have hD : va_D A [(mo, .inr (5, [.int (nI 0), .ref aO, .ref aT, .ref aM, .ref aZ, .ref aY, .ref aK, .ref aF, .ref aL, .int (nI c), .int isd, .int wd])), (aO, .inl (cI, 2400, .inl O)), (aM, .inl (cI, 1200, .inl (va_cpy O M (p) 0 (i + 1)))), (aZ, .inl (cI, 2, .inl Z))] := by rw [cpy_s, Nat.zero_add]; exact hD
                                exact ih56 (i + 1) H locs ls (by omega) (by omega) hP hD hS (lv_sub hl [1, 2, 3, 4, 5, 6, 0] rfl)
                          exact loop54 _ 0 H locs ls (Nat.zero_le _) (Nat.lt_succ_self _) hP hD hS (lv_sub hl [1, 2, 3, 4, 5, 6, 0] rfl)
                        ·
                          rw [← nI_0] at h
                          have h : ¬ 0 = 0 := fun z9 => h ((nI_eq (a := 0) (b := 0) (by omega) (by omega)).mpr z9)
                          exact absurd rfl h
                      ·
                        rw [← nI_0] at h
                        have h : ¬ 0 = 0 := fun z9 => h ((nI_eq (a := 0) (b := 0) (by omega) (by omega)).mpr z9)
                        exact absurd rfl h
                    ·
                      refine lv_aload_n hx hb dX5_move_40 rfl (lv_at hl 0 rfl) ?_
                      refine lv_iload_n hx hb dX5_move_41 rfl (lv_at hl 3 rfl) ?_
                      refine lv_iload hx hb dX5_move_42 (lv_at hl 4 rfl) ?_
                      refine lv_iload hx hb dX5_move_44 (lv_at hl 5 rfl) ?_
                      refine ds_calli (wc := [(mo, .inr (5, [.int (nI 0), .ref aO, .ref aT, .ref aM, .ref aZ, .ref aY, .ref aK, .ref aF, .ref aL, .int (nI c), .int isd, .int wd])), (aZ, .inl (cI, 2, .inl Z))]) (wr := [(aO, .inl (cI, 2400, .inl O)), (aM, .inl (cI, 1200, .inl M))]) (wo := (fun u63 : Unit => [(mo, .inr (5, [.int (nI 0), .ref aO, .ref aT, .ref aM, .ref aZ, .ref aY, .ref aK, .ref aF, .ref aL, .int (nI c), .int isd, .int wd])), (aZ, .inl (cI, 2, .inl Z))])) (wn := (fun u63 : Unit => [(mo, .inr (5, [.int (nI 0), .ref aO, .ref aT, .ref aM, .ref aZ, .ref aY, .ref aK, .ref aF, .ref aL, .int (nI c), .int isd, .int wd])), (aO, .inl (cI, 2400, .inl O)), (aM, .inl (cI, 1200, .inl M)), (aZ, .inl (cI, 2, .inl Z))])) (isC := [0, 3]) (isR := [1, 2]) hP hD hS hA ⟨rfl, rfl, by decide, by decide, by decide⟩ [2, 0, 1, 3] (by decide) (fun _ => rfl) (fun hPc hDc => va_runV (As := [.int (nI 1), .int v, .int (nI m)]) (rest := [.ref mo]) ⟨hx, hb, hml, hown, ht⟩ (m_lacks11 Ll D cI cL mo aO aT aM aZ aY aK aF aL (nI 0) c isd wd Z ln v (nI m) hZ.2.2.2 (by omega) (Classical.not_not.mp hg2) H.size) ⟨(callB_of 3 ht g_X5_lacks rfl rfl rfl (ht _ iw_136) (ht _ iw_144) hd_X5_lacks ⟨Nat.le_of_ble_eq_true rfl, Nat.le_of_ble_eq_true rfl⟩), (ht _ iw_145), (ht _ iw_146)⟩ (ds_pV hPc hDc hK (q0 := 0) rfl rfl) rfl rfl hl.1 rfl (lv_room (Nat.le_of_ble_eq_true rfl)) dX5_move_46 ⟨Nat.le_of_ble_eq_true rfl, Nat.le_of_ble_eq_true rfl⟩) (fun r62 u63 H locs hp64 hP hD hS => ?_)
                      have hP : va_P D vwCl [(mo, .inr (5, [.int (nI 0), .ref aO, .ref aT, .ref aM, .ref aZ, .ref aY, .ref aK, .ref aF, .ref aL, .int (nI c), .int isd, .int wd])), (aO, .inl (cI, 2400, .inl O)), (aM, .inl (cI, 1200, .inl M)), (aZ, .inl (cI, 2, .inl Z))] H := hP
                      have hD : va_D A [(mo, .inr (5, [.int (nI 0), .ref aO, .ref aT, .ref aM, .ref aZ, .ref aY, .ref aK, .ref aF, .ref aL, .int (nI c), .int isd, .int wd])), (aO, .inl (cI, 2400, .inl O)), (aM, .inl (cI, 1200, .inl M)), (aZ, .inl (cI, 2, .inl Z))] := hD
                      have hp64 : r62 = nI 1 := hp64
                      replace hp64 := Eq.symm hp64
                      subst hp64
                      refine lv_if_eq (tgt := 56) hx hb dX5_move_49 (by decide) (fun h => ?_) (fun h => ?_)
                      ·
                        rw [← nI_0] at h
                        have h : 1 = 0 := (nI_eq (a := 1) (b := 0) (by omega) (by omega)).mp h
                        exact absurd h (by decide)
                      ·
                        rw [← nI_0] at h
                        have h : ¬ 1 = 0 := fun z9 => h ((nI_eq (a := 1) (b := 0) (by omega) (by omega)).mpr z9)
                        refine lv_iconst (v := nI 1) hx hb dX5_move_52 (by decide +kernel) ?_
                        refine lv_goto (tgt := 57) hx hb dX5_move_53 (by decide) ?_
                        refine lv_iconst (v := nI 2) hx hb dX5_move_57 (by decide +kernel) ?_
                        refine ds_calli (wc := [(mo, .inr (5, [.int (nI 0), .ref aO, .ref aT, .ref aM, .ref aZ, .ref aY, .ref aK, .ref aF, .ref aL, .int (nI c), .int isd, .int wd]))]) (wr := [(aO, .inl (cI, 2400, .inl O)), (aM, .inl (cI, 1200, .inl M)), (aZ, .inl (cI, 2, .inl Z))]) (wo := (fun u66 : Unit => [(mo, .inr (5, [.int (nI 2), .ref aO, .ref aT, .ref aM, .ref aZ, .ref aY, .ref aK, .ref aF, .ref aL, .int (nI c), .int isd, .int wd]))])) (wn := (fun u66 : Unit => [(mo, .inr (5, [.int (nI 2), .ref aO, .ref aT, .ref aM, .ref aZ, .ref aY, .ref aK, .ref aF, .ref aL, .int (nI c), .int isd, .int wd])), (aO, .inl (cI, 2400, .inl O)), (aM, .inl (cI, 1200, .inl M)), (aZ, .inl (cI, 2, .inl Z))])) (isC := [0]) (isR := [1, 2, 3]) hP hD hS hA ⟨rfl, rfl, by decide, by decide, by decide⟩ [3, 0, 1, 2] (by decide) (fun _ => rfl) (fun hPc hDc => va_runV (As := [.int (nI 1), .int (nI 2)]) (rest := []) ⟨hx, hb, hml, hown, ht⟩ (m_fails1 Ll D cI cL mo aO aT aM aZ aY aK aF aL (nI 0) c isd wd 2  H.size) ⟨(callB_of 2 ht g_X5_fails rfl rfl rfl (ht _ iw_136) (ht _ iw_138) hd_X5_fails ⟨Nat.le_of_ble_eq_true rfl, Nat.le_of_ble_eq_true rfl⟩), (ht _ iw_139), (ht _ iw_140)⟩ (ds_pV hPc hDc hK (q0 := 0) rfl rfl) rfl rfl hl.1 rfl (lv_room (Nat.le_of_ble_eq_true rfl)) dX5_move_58 ⟨Nat.le_of_ble_eq_true rfl, Nat.le_of_ble_eq_true rfl⟩) (fun r65 u66 H locs hp67 hP hD hS => ?_)
                        have hP : va_P D vwCl [(mo, .inr (5, [.int (nI 2), .ref aO, .ref aT, .ref aM, .ref aZ, .ref aY, .ref aK, .ref aF, .ref aL, .int (nI c), .int isd, .int wd])), (aO, .inl (cI, 2400, .inl O)), (aM, .inl (cI, 1200, .inl M)), (aZ, .inl (cI, 2, .inl Z))] H := hP
                        have hD : va_D A [(mo, .inr (5, [.int (nI 2), .ref aO, .ref aT, .ref aM, .ref aZ, .ref aY, .ref aK, .ref aF, .ref aL, .int (nI c), .int isd, .int wd])), (aO, .inl (cI, 2400, .inl O)), (aM, .inl (cI, 1200, .inl M)), (aZ, .inl (cI, 2, .inl Z))] := hD
                        have hp67 : r65 = nI 1 := hp67
                        replace hp67 := Eq.symm hp67
                        subst hp67
                        refine lv_if_eq (tgt := 65) hx hb dX5_move_61 (by decide) (fun h => ?_) (fun h => ?_)
                        ·
                          rw [← nI_0] at h
                          have h : 1 = 0 := (nI_eq (a := 1) (b := 0) (by omega) (by omega)).mp h
                          exact absurd h (by decide)
                        ·
                          rw [← nI_0] at h
                          have h : ¬ 1 = 0 := fun z9 => h ((nI_eq (a := 1) (b := 0) (by omega) (by omega)).mpr z9)
                          exact ds_vret hx hb hr hlk (nI 2, O, M) ⟨(e_move_x ⟨hro, hro2⟩ (by rw [rsel_0, rsel_1]; exact fun z9 => hg2 z9.2)).symm, by rw [n_move_x (t := (lo, fo, ln, fn)) (fun z9 => absurd (z9.symm.trans (e_move_x ⟨hro, hro2⟩ (by rw [rsel_0, rsel_1]; exact fun z9 => hg2 z9.2))) (by decide))]; exact hR⟩ hP hD hS (Nat.le_of_ble_eq_true rfl) (Nat.le_of_ble_eq_true rfl) dX5_move_64
                ·
                  refine lv_aload_n hx hb dX5_move_28 rfl (lv_at hl 0 rfl) ?_
                  refine lv_aload_n hx hb dX5_move_29 rfl (lv_at hl 0 rfl) ?_
                  refine lv_iload_n hx hb dX5_move_30 rfl (lv_at hl 1 rfl) ?_
                  refine lv_iload_n hx hb dX5_move_31 rfl (lv_at hl 2 rfl) ?_
                  refine lv_iload hx hb dX5_move_32 (lv_at hl 5 rfl) ?_
                  refine ds_calli (wc := [(mo, .inr (5, [.int (nI 0), .ref aO, .ref aT, .ref aM, .ref aZ, .ref aY, .ref aK, .ref aF, .ref aL, .int (nI c), .int isd, .int wd])), (aZ, .inl (cI, 2, .inl Z))]) (wr := [(aO, .inl (cI, 2400, .inl O)), (aM, .inl (cI, 1200, .inl M))]) (wo := (fun u69 : Unit => [(mo, .inr (5, [.int (nI 0), .ref aO, .ref aT, .ref aM, .ref aZ, .ref aY, .ref aK, .ref aF, .ref aL, .int (nI c), .int isd, .int wd])), (aZ, .inl (cI, 2, .inl Z))])) (wn := (fun u69 : Unit => [(mo, .inr (5, [.int (nI 0), .ref aO, .ref aT, .ref aM, .ref aZ, .ref aY, .ref aK, .ref aF, .ref aL, .int (nI c), .int isd, .int wd])), (aO, .inl (cI, 2400, .inl O)), (aM, .inl (cI, 1200, .inl M)), (aZ, .inl (cI, 2, .inl Z))])) (isC := [0, 3]) (isR := [1, 2]) hP hD hS hA ⟨rfl, rfl, by decide, by decide, by decide⟩ [2, 0, 1, 3] (by decide) (fun _ => rfl) (fun hPc hDc => va_runV (As := [.int (nI 0), .int y, .int w]) (rest := [.ref mo]) ⟨hx, hb, hml, hown, ht⟩ (m_lacks10 Ll D cI cL mo aO aT aM aZ aY aK aF aL (nI 0) c isd wd Z lo y w hZ.2.2.1 (by omega) (Classical.not_not.mp hg) H.size) ⟨(callB_of 3 ht g_X5_lacks rfl rfl rfl (ht _ iw_136) (ht _ iw_144) hd_X5_lacks ⟨Nat.le_of_ble_eq_true rfl, Nat.le_of_ble_eq_true rfl⟩), (ht _ iw_145), (ht _ iw_146)⟩ (ds_pV hPc hDc hK (q0 := 0) rfl rfl) rfl rfl hl.1 rfl (lv_room (Nat.le_of_ble_eq_true rfl)) dX5_move_34 ⟨Nat.le_of_ble_eq_true rfl, Nat.le_of_ble_eq_true rfl⟩) (fun r68 u69 H locs hp70 hP hD hS => ?_)
                  have hP : va_P D vwCl [(mo, .inr (5, [.int (nI 0), .ref aO, .ref aT, .ref aM, .ref aZ, .ref aY, .ref aK, .ref aF, .ref aL, .int (nI c), .int isd, .int wd])), (aO, .inl (cI, 2400, .inl O)), (aM, .inl (cI, 1200, .inl M)), (aZ, .inl (cI, 2, .inl Z))] H := hP
                  have hD : va_D A [(mo, .inr (5, [.int (nI 0), .ref aO, .ref aT, .ref aM, .ref aZ, .ref aY, .ref aK, .ref aF, .ref aL, .int (nI c), .int isd, .int wd])), (aO, .inl (cI, 2400, .inl O)), (aM, .inl (cI, 1200, .inl M)), (aZ, .inl (cI, 2, .inl Z))] := hD
                  have hp70 : r68 = nI 1 := hp70
                  replace hp70 := Eq.symm hp70
                  subst hp70
                  refine lv_if_ne (tgt := 52) hx hb dX5_move_37 (by decide) (fun h => ?_) (fun h => ?_)
                  ·
                    rw [← nI_0] at h
                    have h : ¬ 1 = 0 := fun z9 => h ((nI_eq (a := 1) (b := 0) (by omega) (by omega)).mpr z9)
                    refine lv_iconst (v := nI 1) hx hb dX5_move_52 (by decide +kernel) ?_
                    refine lv_goto (tgt := 57) hx hb dX5_move_53 (by decide) ?_
                    refine lv_iconst (v := nI 2) hx hb dX5_move_57 (by decide +kernel) ?_
                    refine ds_calli (wc := [(mo, .inr (5, [.int (nI 0), .ref aO, .ref aT, .ref aM, .ref aZ, .ref aY, .ref aK, .ref aF, .ref aL, .int (nI c), .int isd, .int wd]))]) (wr := [(aO, .inl (cI, 2400, .inl O)), (aM, .inl (cI, 1200, .inl M)), (aZ, .inl (cI, 2, .inl Z))]) (wo := (fun u72 : Unit => [(mo, .inr (5, [.int (nI 2), .ref aO, .ref aT, .ref aM, .ref aZ, .ref aY, .ref aK, .ref aF, .ref aL, .int (nI c), .int isd, .int wd]))])) (wn := (fun u72 : Unit => [(mo, .inr (5, [.int (nI 2), .ref aO, .ref aT, .ref aM, .ref aZ, .ref aY, .ref aK, .ref aF, .ref aL, .int (nI c), .int isd, .int wd])), (aO, .inl (cI, 2400, .inl O)), (aM, .inl (cI, 1200, .inl M)), (aZ, .inl (cI, 2, .inl Z))])) (isC := [0]) (isR := [1, 2, 3]) hP hD hS hA ⟨rfl, rfl, by decide, by decide, by decide⟩ [3, 0, 1, 2] (by decide) (fun _ => rfl) (fun hPc hDc => va_runV (As := [.int (nI 1), .int (nI 2)]) (rest := []) ⟨hx, hb, hml, hown, ht⟩ (m_fails1 Ll D cI cL mo aO aT aM aZ aY aK aF aL (nI 0) c isd wd 2  H.size) ⟨(callB_of 2 ht g_X5_fails rfl rfl rfl (ht _ iw_136) (ht _ iw_138) hd_X5_fails ⟨Nat.le_of_ble_eq_true rfl, Nat.le_of_ble_eq_true rfl⟩), (ht _ iw_139), (ht _ iw_140)⟩ (ds_pV hPc hDc hK (q0 := 0) rfl rfl) rfl rfl hl.1 rfl (lv_room (Nat.le_of_ble_eq_true rfl)) dX5_move_58 ⟨Nat.le_of_ble_eq_true rfl, Nat.le_of_ble_eq_true rfl⟩) (fun r71 u72 H locs hp73 hP hD hS => ?_)
                    have hP : va_P D vwCl [(mo, .inr (5, [.int (nI 2), .ref aO, .ref aT, .ref aM, .ref aZ, .ref aY, .ref aK, .ref aF, .ref aL, .int (nI c), .int isd, .int wd])), (aO, .inl (cI, 2400, .inl O)), (aM, .inl (cI, 1200, .inl M)), (aZ, .inl (cI, 2, .inl Z))] H := hP
                    have hD : va_D A [(mo, .inr (5, [.int (nI 2), .ref aO, .ref aT, .ref aM, .ref aZ, .ref aY, .ref aK, .ref aF, .ref aL, .int (nI c), .int isd, .int wd])), (aO, .inl (cI, 2400, .inl O)), (aM, .inl (cI, 1200, .inl M)), (aZ, .inl (cI, 2, .inl Z))] := hD
                    have hp73 : r71 = nI 1 := hp73
                    replace hp73 := Eq.symm hp73
                    subst hp73
                    refine lv_if_eq (tgt := 65) hx hb dX5_move_61 (by decide) (fun h => ?_) (fun h => ?_)
                    ·
                      rw [← nI_0] at h
                      have h : 1 = 0 := (nI_eq (a := 1) (b := 0) (by omega) (by omega)).mp h
                      exact absurd h (by decide)
                    ·
                      rw [← nI_0] at h
                      have h : ¬ 1 = 0 := fun z9 => h ((nI_eq (a := 1) (b := 0) (by omega) (by omega)).mpr z9)
                      exact ds_vret hx hb hr hlk (nI 2, O, M) ⟨(e_move_x ⟨hro, hro2⟩ (by rw [rsel_0, rsel_1]; exact fun z9 => hg z9.1)).symm, by rw [n_move_x (t := (lo, fo, ln, fn)) (fun z9 => absurd (z9.symm.trans (e_move_x ⟨hro, hro2⟩ (by rw [rsel_0, rsel_1]; exact fun z9 => hg z9.1))) (by decide))]; exact hR⟩ hP hD hS (Nat.le_of_ble_eq_true rfl) (Nat.le_of_ble_eq_true rfl) dX5_move_64
                  ·
                    rw [← nI_0] at h
                    have h : 1 = 0 := (nI_eq (a := 1) (b := 0) (by omega) (by omega)).mp h
                    exact absurd h (by decide)
              ·
                rw [← nI_0] at h
                have h : ¬ 0 = 0 := fun z9 => h ((nI_eq (a := 0) (b := 0) (by omega) (by omega)).mpr z9)
                exact absurd rfl h
            ·
              rw [← nI_0] at h
              have h : ¬ 0 = 0 := fun z9 => h ((nI_eq (a := 0) (b := 0) (by omega) (by omega)).mpr z9)
              exact absurd rfl h
        ·
          refine lv_iload_n hx hb dX5_move_8 rfl (lv_at hl 3 rfl) ?_
          refine ds_calli (wc := []) (wr := [(mo, .inr (5, [.int er, .ref aO, .ref aT, .ref aM, .ref aZ, .ref aY, .ref aK, .ref aF, .ref aL, .int (nI c), .int isd, .int wd])), (aO, .inl (cI, 2400, .inl O)), (aM, .inl (cI, 1200, .inl M)), (aZ, .inl (cI, 2, .inl Z))]) (wo := (fun u75 : Unit => [])) (wn := (fun u75 : Unit => [(mo, .inr (5, [.int er, .ref aO, .ref aT, .ref aM, .ref aZ, .ref aY, .ref aK, .ref aF, .ref aL, .int (nI c), .int isd, .int wd])), (aO, .inl (cI, 2400, .inl O)), (aM, .inl (cI, 1200, .inl M)), (aZ, .inl (cI, 2, .inl Z))])) (isC := []) (isR := [0, 1, 2, 3]) hP hD hS hA ⟨rfl, rfl, by decide, by decide, by decide⟩ [0, 1, 2, 3] (by decide) (fun _ => rfl) (fun hPc hDc => va_runS (As := [.int z]) (rest := [.ref mo]) ⟨hx, hb, hml, hown, ht⟩ (m_no1 Ll D cI cL z (fun z9 => hr2 (Or.inl z9)) (fun z9 => hr2 (Or.inr z9)) H.size) ⟨(callB_of 1 ht g_X5_no rfl rfl rfl (ht _ iw_136) (ht _ iw_135) hd_X5_no ⟨Nat.le_of_ble_eq_true rfl, Nat.le_of_ble_eq_true rfl⟩), (ht _ iw_137)⟩ (ds_pS hPc hDc hK) rfl rfl hl.1 rfl (lv_room (Nat.le_of_ble_eq_true rfl)) dX5_move_9 ⟨Nat.le_of_ble_eq_true rfl, Nat.le_of_ble_eq_true rfl⟩) (fun r74 u75 H locs hp76 hP hD hS => ?_)
          have hP : va_P D vwCl [(mo, .inr (5, [.int er, .ref aO, .ref aT, .ref aM, .ref aZ, .ref aY, .ref aK, .ref aF, .ref aL, .int (nI c), .int isd, .int wd])), (aO, .inl (cI, 2400, .inl O)), (aM, .inl (cI, 1200, .inl M)), (aZ, .inl (cI, 2, .inl Z))] H := hP
          have hD : va_D A [(mo, .inr (5, [.int er, .ref aO, .ref aT, .ref aM, .ref aZ, .ref aY, .ref aK, .ref aF, .ref aL, .int (nI c), .int isd, .int wd])), (aO, .inl (cI, 2400, .inl O)), (aM, .inl (cI, 1200, .inl M)), (aZ, .inl (cI, 2, .inl Z))] := hD
          have hp76 : r74 = nI 1 := hp76
          replace hp76 := Eq.symm hp76
          subst hp76
          refine lv_if_eq (tgt := 19) hx hb dX5_move_12 (by decide) (fun h => ?_) (fun h => ?_)
          ·
            rw [← nI_0] at h
            have h : 1 = 0 := (nI_eq (a := 1) (b := 0) (by omega) (by omega)).mp h
            exact absurd h (by decide)
          ·
            rw [← nI_0] at h
            have h : ¬ 1 = 0 := fun z9 => h ((nI_eq (a := 1) (b := 0) (by omega) (by omega)).mpr z9)
            refine lv_iconst (v := nI 1) hx hb dX5_move_15 (by decide +kernel) ?_
            refine lv_goto (tgt := 20) hx hb dX5_move_16 (by decide) ?_
            refine lv_iconst (v := nI 1) hx hb dX5_move_20 (by decide +kernel) ?_
            refine ds_calli (wc := [(mo, .inr (5, [.int er, .ref aO, .ref aT, .ref aM, .ref aZ, .ref aY, .ref aK, .ref aF, .ref aL, .int (nI c), .int isd, .int wd]))]) (wr := [(aO, .inl (cI, 2400, .inl O)), (aM, .inl (cI, 1200, .inl M)), (aZ, .inl (cI, 2, .inl Z))]) (wo := (fun u78 : Unit => [(mo, .inr (5, [.int (nI 1), .ref aO, .ref aT, .ref aM, .ref aZ, .ref aY, .ref aK, .ref aF, .ref aL, .int (nI c), .int isd, .int wd]))])) (wn := (fun u78 : Unit => [(mo, .inr (5, [.int (nI 1), .ref aO, .ref aT, .ref aM, .ref aZ, .ref aY, .ref aK, .ref aF, .ref aL, .int (nI c), .int isd, .int wd])), (aO, .inl (cI, 2400, .inl O)), (aM, .inl (cI, 1200, .inl M)), (aZ, .inl (cI, 2, .inl Z))])) (isC := [0]) (isR := [1, 2, 3]) hP hD hS hA ⟨rfl, rfl, by decide, by decide, by decide⟩ [3, 0, 1, 2] (by decide) (fun _ => rfl) (fun hPc hDc => va_runV (As := [.int (nI 1), .int (nI 1)]) (rest := []) ⟨hx, hb, hml, hown, ht⟩ (m_fails1 Ll D cI cL mo aO aT aM aZ aY aK aF aL er c isd wd 1  H.size) ⟨(callB_of 2 ht g_X5_fails rfl rfl rfl (ht _ iw_136) (ht _ iw_138) hd_X5_fails ⟨Nat.le_of_ble_eq_true rfl, Nat.le_of_ble_eq_true rfl⟩), (ht _ iw_139), (ht _ iw_140)⟩ (ds_pV hPc hDc hK (q0 := 0) rfl rfl) rfl rfl hl.1 rfl (lv_room (Nat.le_of_ble_eq_true rfl)) dX5_move_21 ⟨Nat.le_of_ble_eq_true rfl, Nat.le_of_ble_eq_true rfl⟩) (fun r77 u78 H locs hp79 hP hD hS => ?_)
            have hP : va_P D vwCl [(mo, .inr (5, [.int (nI 1), .ref aO, .ref aT, .ref aM, .ref aZ, .ref aY, .ref aK, .ref aF, .ref aL, .int (nI c), .int isd, .int wd])), (aO, .inl (cI, 2400, .inl O)), (aM, .inl (cI, 1200, .inl M)), (aZ, .inl (cI, 2, .inl Z))] H := hP
            have hD : va_D A [(mo, .inr (5, [.int (nI 1), .ref aO, .ref aT, .ref aM, .ref aZ, .ref aY, .ref aK, .ref aF, .ref aL, .int (nI c), .int isd, .int wd])), (aO, .inl (cI, 2400, .inl O)), (aM, .inl (cI, 1200, .inl M)), (aZ, .inl (cI, 2, .inl Z))] := hD
            have hp79 : r77 = nI 1 := hp79
            replace hp79 := Eq.symm hp79
            subst hp79
            refine lv_if_eq (tgt := 28) hx hb dX5_move_24 (by decide) (fun h => ?_) (fun h => ?_)
            ·
              rw [← nI_0] at h
              have h : 1 = 0 := (nI_eq (a := 1) (b := 0) (by omega) (by omega)).mp h
              exact absurd h (by decide)
            ·
              rw [← nI_0] at h
              have h : ¬ 1 = 0 := fun z9 => h ((nI_eq (a := 1) (b := 0) (by omega) (by omega)).mpr z9)
              exact ds_vret hx hb hr hlk (nI 1, O, M) ⟨(e_move_r (fun z9 => hr2 z9.2)).symm, by rw [n_move_x (t := (lo, fo, ln, fn)) (fun z9 => absurd (z9.symm.trans (e_move_r (fun z9 => hr2 z9.2))) (by decide))]; exact hR⟩ hP hD hS (Nat.le_of_ble_eq_true rfl) (Nat.le_of_ble_eq_true rfl) dX5_move_27
    ·
      have hl : lv_has ls 7 [(0, .ref mo), (1, .int (nI 1)), (2, .int y), (3, .int z), (4, .int v), (5, .int w)] := hl
      refine lv_aload_n hx hb dX5_move_0 rfl (lv_at hl 0 rfl) ?_
      refine lv_iload_n hx hb dX5_move_1 rfl (lv_at hl 1 rfl) ?_
      refine ds_calli (wc := []) (wr := [(mo, .inr (5, [.int er, .ref aO, .ref aT, .ref aM, .ref aZ, .ref aY, .ref aK, .ref aF, .ref aL, .int (nI c), .int isd, .int wd])), (aO, .inl (cI, 2400, .inl O)), (aM, .inl (cI, 1200, .inl M)), (aZ, .inl (cI, 2, .inl Z))]) (wo := (fun u81 : Unit => [])) (wn := (fun u81 : Unit => [(mo, .inr (5, [.int er, .ref aO, .ref aT, .ref aM, .ref aZ, .ref aY, .ref aK, .ref aF, .ref aL, .int (nI c), .int isd, .int wd])), (aO, .inl (cI, 2400, .inl O)), (aM, .inl (cI, 1200, .inl M)), (aZ, .inl (cI, 2, .inl Z))])) (isC := []) (isR := [0, 1, 2, 3]) hP hD hS hA ⟨rfl, rfl, by decide, by decide, by decide⟩ [0, 1, 2, 3] (by decide) (fun _ => rfl) (fun hPc hDc => va_runS (As := [.int (nI 1)]) (rest := [.ref mo]) ⟨hx, hb, hml, hown, ht⟩ (m_no0 Ll D cI cL 1 (by decide) H.size) ⟨(callB_of 1 ht g_X5_no rfl rfl rfl (ht _ iw_136) (ht _ iw_135) hd_X5_no ⟨Nat.le_of_ble_eq_true rfl, Nat.le_of_ble_eq_true rfl⟩), (ht _ iw_137)⟩ (ds_pS hPc hDc hK) rfl rfl hl.1 rfl (lv_room (Nat.le_of_ble_eq_true rfl)) dX5_move_2 ⟨Nat.le_of_ble_eq_true rfl, Nat.le_of_ble_eq_true rfl⟩) (fun r80 u81 H locs hp82 hP hD hS => ?_)
      have hP : va_P D vwCl [(mo, .inr (5, [.int er, .ref aO, .ref aT, .ref aM, .ref aZ, .ref aY, .ref aK, .ref aF, .ref aL, .int (nI c), .int isd, .int wd])), (aO, .inl (cI, 2400, .inl O)), (aM, .inl (cI, 1200, .inl M)), (aZ, .inl (cI, 2, .inl Z))] H := hP
      have hD : va_D A [(mo, .inr (5, [.int er, .ref aO, .ref aT, .ref aM, .ref aZ, .ref aY, .ref aK, .ref aF, .ref aL, .int (nI c), .int isd, .int wd])), (aO, .inl (cI, 2400, .inl O)), (aM, .inl (cI, 1200, .inl M)), (aZ, .inl (cI, 2, .inl Z))] := hD
      have hp82 : r80 = nI 0 := hp82
      replace hp82 := Eq.symm hp82
      subst hp82
      refine lv_if_ne (tgt := 15) hx hb dX5_move_5 (by decide) (fun h => ?_) (fun h => ?_)
      ·
        rw [← nI_0] at h
        have h : ¬ 0 = 0 := fun z9 => h ((nI_eq (a := 0) (b := 0) (by omega) (by omega)).mpr z9)
        exact absurd rfl h
      ·
        rw [← nI_0] at h
        have h : 0 = 0 := (nI_eq (a := 0) (b := 0) (by omega) (by omega)).mp h
        by_cases hr2 : rok z
        ·
          have hro2 := hr2
          rcases hr2 with rfl | rfl
          ·
            have hl : lv_has ls 7 [(0, .ref mo), (1, .int (nI 1)), (2, .int y), (3, .int (nI 0)), (4, .int v), (5, .int w)] := hl
            refine lv_iload_n hx hb dX5_move_8 rfl (lv_at hl 3 rfl) ?_
            refine ds_calli (wc := []) (wr := [(mo, .inr (5, [.int er, .ref aO, .ref aT, .ref aM, .ref aZ, .ref aY, .ref aK, .ref aF, .ref aL, .int (nI c), .int isd, .int wd])), (aO, .inl (cI, 2400, .inl O)), (aM, .inl (cI, 1200, .inl M)), (aZ, .inl (cI, 2, .inl Z))]) (wo := (fun u84 : Unit => [])) (wn := (fun u84 : Unit => [(mo, .inr (5, [.int er, .ref aO, .ref aT, .ref aM, .ref aZ, .ref aY, .ref aK, .ref aF, .ref aL, .int (nI c), .int isd, .int wd])), (aO, .inl (cI, 2400, .inl O)), (aM, .inl (cI, 1200, .inl M)), (aZ, .inl (cI, 2, .inl Z))])) (isC := []) (isR := [0, 1, 2, 3]) hP hD hS hA ⟨rfl, rfl, by decide, by decide, by decide⟩ [0, 1, 2, 3] (by decide) (fun _ => rfl) (fun hPc hDc => va_runS (As := [.int (nI 0)]) (rest := [.ref mo]) ⟨hx, hb, hml, hown, ht⟩ (m_no0 Ll D cI cL 0 (by decide) H.size) ⟨(callB_of 1 ht g_X5_no rfl rfl rfl (ht _ iw_136) (ht _ iw_135) hd_X5_no ⟨Nat.le_of_ble_eq_true rfl, Nat.le_of_ble_eq_true rfl⟩), (ht _ iw_137)⟩ (ds_pS hPc hDc hK) rfl rfl hl.1 rfl (lv_room (Nat.le_of_ble_eq_true rfl)) dX5_move_9 ⟨Nat.le_of_ble_eq_true rfl, Nat.le_of_ble_eq_true rfl⟩) (fun r83 u84 H locs hp85 hP hD hS => ?_)
            have hP : va_P D vwCl [(mo, .inr (5, [.int er, .ref aO, .ref aT, .ref aM, .ref aZ, .ref aY, .ref aK, .ref aF, .ref aL, .int (nI c), .int isd, .int wd])), (aO, .inl (cI, 2400, .inl O)), (aM, .inl (cI, 1200, .inl M)), (aZ, .inl (cI, 2, .inl Z))] H := hP
            have hD : va_D A [(mo, .inr (5, [.int er, .ref aO, .ref aT, .ref aM, .ref aZ, .ref aY, .ref aK, .ref aF, .ref aL, .int (nI c), .int isd, .int wd])), (aO, .inl (cI, 2400, .inl O)), (aM, .inl (cI, 1200, .inl M)), (aZ, .inl (cI, 2, .inl Z))] := hD
            have hp85 : r83 = nI 0 := hp85
            replace hp85 := Eq.symm hp85
            subst hp85
            refine lv_if_eq (tgt := 19) hx hb dX5_move_12 (by decide) (fun h => ?_) (fun h => ?_)
            ·
              rw [← nI_0] at h
              have h : 0 = 0 := (nI_eq (a := 0) (b := 0) (by omega) (by omega)).mp h
              refine lv_iconst (v := nI 0) hx hb dX5_move_19 (by decide +kernel) ?_
              refine lv_iconst (v := nI 1) hx hb dX5_move_20 (by decide +kernel) ?_
              refine ds_calli (wc := [(mo, .inr (5, [.int er, .ref aO, .ref aT, .ref aM, .ref aZ, .ref aY, .ref aK, .ref aF, .ref aL, .int (nI c), .int isd, .int wd]))]) (wr := [(aO, .inl (cI, 2400, .inl O)), (aM, .inl (cI, 1200, .inl M)), (aZ, .inl (cI, 2, .inl Z))]) (wo := (fun u87 : Unit => [(mo, .inr (5, [.int (nI 0), .ref aO, .ref aT, .ref aM, .ref aZ, .ref aY, .ref aK, .ref aF, .ref aL, .int (nI c), .int isd, .int wd]))])) (wn := (fun u87 : Unit => [(mo, .inr (5, [.int (nI 0), .ref aO, .ref aT, .ref aM, .ref aZ, .ref aY, .ref aK, .ref aF, .ref aL, .int (nI c), .int isd, .int wd])), (aO, .inl (cI, 2400, .inl O)), (aM, .inl (cI, 1200, .inl M)), (aZ, .inl (cI, 2, .inl Z))])) (isC := [0]) (isR := [1, 2, 3]) hP hD hS hA ⟨rfl, rfl, by decide, by decide, by decide⟩ [3, 0, 1, 2] (by decide) (fun _ => rfl) (fun hPc hDc => va_runV (As := [.int (nI 0), .int (nI 1)]) (rest := []) ⟨hx, hb, hml, hown, ht⟩ (m_fails0 Ll D cI cL mo aO aT aM aZ aY aK aF aL er c isd wd 1  H.size) ⟨(callB_of 2 ht g_X5_fails rfl rfl rfl (ht _ iw_136) (ht _ iw_138) hd_X5_fails ⟨Nat.le_of_ble_eq_true rfl, Nat.le_of_ble_eq_true rfl⟩), (ht _ iw_139), (ht _ iw_140)⟩ (ds_pV hPc hDc hK (q0 := 0) rfl rfl) rfl rfl hl.1 rfl (lv_room (Nat.le_of_ble_eq_true rfl)) dX5_move_21 ⟨Nat.le_of_ble_eq_true rfl, Nat.le_of_ble_eq_true rfl⟩) (fun r86 u87 H locs hp88 hP hD hS => ?_)
              have hP : va_P D vwCl [(mo, .inr (5, [.int (nI 0), .ref aO, .ref aT, .ref aM, .ref aZ, .ref aY, .ref aK, .ref aF, .ref aL, .int (nI c), .int isd, .int wd])), (aO, .inl (cI, 2400, .inl O)), (aM, .inl (cI, 1200, .inl M)), (aZ, .inl (cI, 2, .inl Z))] H := hP
              have hD : va_D A [(mo, .inr (5, [.int (nI 0), .ref aO, .ref aT, .ref aM, .ref aZ, .ref aY, .ref aK, .ref aF, .ref aL, .int (nI c), .int isd, .int wd])), (aO, .inl (cI, 2400, .inl O)), (aM, .inl (cI, 1200, .inl M)), (aZ, .inl (cI, 2, .inl Z))] := hD
              have hp88 : r86 = nI 0 := hp88
              replace hp88 := Eq.symm hp88
              subst hp88
              refine lv_if_eq (tgt := 28) hx hb dX5_move_24 (by decide) (fun h => ?_) (fun h => ?_)
              ·
                rw [← nI_0] at h
                have h : 0 = 0 := (nI_eq (a := 0) (b := 0) (by omega) (by omega)).mp h
                by_cases hg : gok y w ln
                ·
                  obtain ⟨p, m, hpm, e8, e9⟩ := gok_nat (by omega) hg
                  subst e8 e9
                  have hl : lv_has ls 7 [(0, .ref mo), (1, .int (nI 1)), (2, .int (nI p)), (3, .int (nI 0)), (4, .int v), (5, .int (nI m))] := hl
                  refine lv_aload_n hx hb dX5_move_28 rfl (lv_at hl 0 rfl) ?_
                  refine lv_aload_n hx hb dX5_move_29 rfl (lv_at hl 0 rfl) ?_
                  refine lv_iload_n hx hb dX5_move_30 rfl (lv_at hl 1 rfl) ?_
                  refine lv_iload_n hx hb dX5_move_31 rfl (lv_at hl 2 rfl) ?_
                  refine lv_iload hx hb dX5_move_32 (lv_at hl 5 rfl) ?_
                  refine ds_calli (wc := [(mo, .inr (5, [.int (nI 0), .ref aO, .ref aT, .ref aM, .ref aZ, .ref aY, .ref aK, .ref aF, .ref aL, .int (nI c), .int isd, .int wd])), (aZ, .inl (cI, 2, .inl Z))]) (wr := [(aO, .inl (cI, 2400, .inl O)), (aM, .inl (cI, 1200, .inl M))]) (wo := (fun u90 : Unit => [(mo, .inr (5, [.int (nI 0), .ref aO, .ref aT, .ref aM, .ref aZ, .ref aY, .ref aK, .ref aF, .ref aL, .int (nI c), .int isd, .int wd])), (aZ, .inl (cI, 2, .inl Z))])) (wn := (fun u90 : Unit => [(mo, .inr (5, [.int (nI 0), .ref aO, .ref aT, .ref aM, .ref aZ, .ref aY, .ref aK, .ref aF, .ref aL, .int (nI c), .int isd, .int wd])), (aO, .inl (cI, 2400, .inl O)), (aM, .inl (cI, 1200, .inl M)), (aZ, .inl (cI, 2, .inl Z))])) (isC := [0, 3]) (isR := [1, 2]) hP hD hS hA ⟨rfl, rfl, by decide, by decide, by decide⟩ [2, 0, 1, 3] (by decide) (fun _ => rfl) (fun hPc hDc => va_runV (As := [.int (nI 1), .int (nI p), .int (nI m)]) (rest := [.ref mo]) ⟨hx, hb, hml, hown, ht⟩ (m_lacks01 Ll D cI cL mo aO aT aM aZ aY aK aF aL (nI 0) c isd wd Z ln p m hZ.2.2.2 (by omega) hpm H.size) ⟨(callB_of 3 ht g_X5_lacks rfl rfl rfl (ht _ iw_136) (ht _ iw_144) hd_X5_lacks ⟨Nat.le_of_ble_eq_true rfl, Nat.le_of_ble_eq_true rfl⟩), (ht _ iw_145), (ht _ iw_146)⟩ (ds_pV hPc hDc hK (q0 := 0) rfl rfl) rfl rfl hl.1 rfl (lv_room (Nat.le_of_ble_eq_true rfl)) dX5_move_34 ⟨Nat.le_of_ble_eq_true rfl, Nat.le_of_ble_eq_true rfl⟩) (fun r89 u90 H locs hp91 hP hD hS => ?_)
                  have hP : va_P D vwCl [(mo, .inr (5, [.int (nI 0), .ref aO, .ref aT, .ref aM, .ref aZ, .ref aY, .ref aK, .ref aF, .ref aL, .int (nI c), .int isd, .int wd])), (aO, .inl (cI, 2400, .inl O)), (aM, .inl (cI, 1200, .inl M)), (aZ, .inl (cI, 2, .inl Z))] H := hP
                  have hD : va_D A [(mo, .inr (5, [.int (nI 0), .ref aO, .ref aT, .ref aM, .ref aZ, .ref aY, .ref aK, .ref aF, .ref aL, .int (nI c), .int isd, .int wd])), (aO, .inl (cI, 2400, .inl O)), (aM, .inl (cI, 1200, .inl M)), (aZ, .inl (cI, 2, .inl Z))] := hD
                  have hp91 : r89 = nI 0 := hp91
                  replace hp91 := Eq.symm hp91
                  subst hp91
                  refine lv_if_ne (tgt := 52) hx hb dX5_move_37 (by decide) (fun h => ?_) (fun h => ?_)
                  ·
                    rw [← nI_0] at h
                    have h : ¬ 0 = 0 := fun z9 => h ((nI_eq (a := 0) (b := 0) (by omega) (by omega)).mpr z9)
                    exact absurd rfl h
                  ·
                    rw [← nI_0] at h
                    have h : 0 = 0 := (nI_eq (a := 0) (b := 0) (by omega) (by omega)).mp h
                    by_cases hg2 : gok v (nI m) lo
                    ·
                      obtain ⟨q, m9, hqm, e8, e9⟩ := gok_nat (by omega) hg2
                      have e7 : m9 = m := by
                        have h31 : m9 < 2 ^ 31 := by omega
                        exact ((nI_eq h31 (by omega)).mp e9.symm)
                      subst e7 e8
                      have hl : lv_has ls 7 [(0, .ref mo), (1, .int (nI 1)), (2, .int (nI p)), (3, .int (nI 0)), (4, .int (nI q)), (5, .int (nI m9))] := hl
                      refine lv_aload_n hx hb dX5_move_40 rfl (lv_at hl 0 rfl) ?_
                      refine lv_iload_n hx hb dX5_move_41 rfl (lv_at hl 3 rfl) ?_
                      refine lv_iload hx hb dX5_move_42 (lv_at hl 4 rfl) ?_
                      refine lv_iload hx hb dX5_move_44 (lv_at hl 5 rfl) ?_
                      refine ds_calli (wc := [(mo, .inr (5, [.int (nI 0), .ref aO, .ref aT, .ref aM, .ref aZ, .ref aY, .ref aK, .ref aF, .ref aL, .int (nI c), .int isd, .int wd])), (aZ, .inl (cI, 2, .inl Z))]) (wr := [(aO, .inl (cI, 2400, .inl O)), (aM, .inl (cI, 1200, .inl M))]) (wo := (fun u93 : Unit => [(mo, .inr (5, [.int (nI 0), .ref aO, .ref aT, .ref aM, .ref aZ, .ref aY, .ref aK, .ref aF, .ref aL, .int (nI c), .int isd, .int wd])), (aZ, .inl (cI, 2, .inl Z))])) (wn := (fun u93 : Unit => [(mo, .inr (5, [.int (nI 0), .ref aO, .ref aT, .ref aM, .ref aZ, .ref aY, .ref aK, .ref aF, .ref aL, .int (nI c), .int isd, .int wd])), (aO, .inl (cI, 2400, .inl O)), (aM, .inl (cI, 1200, .inl M)), (aZ, .inl (cI, 2, .inl Z))])) (isC := [0, 3]) (isR := [1, 2]) hP hD hS hA ⟨rfl, rfl, by decide, by decide, by decide⟩ [2, 0, 1, 3] (by decide) (fun _ => rfl) (fun hPc hDc => va_runV (As := [.int (nI 0), .int (nI q), .int (nI m9)]) (rest := [.ref mo]) ⟨hx, hb, hml, hown, ht⟩ (m_lacks00 Ll D cI cL mo aO aT aM aZ aY aK aF aL (nI 0) c isd wd Z lo q m9 hZ.2.2.1 (by omega) hqm H.size) ⟨(callB_of 3 ht g_X5_lacks rfl rfl rfl (ht _ iw_136) (ht _ iw_144) hd_X5_lacks ⟨Nat.le_of_ble_eq_true rfl, Nat.le_of_ble_eq_true rfl⟩), (ht _ iw_145), (ht _ iw_146)⟩ (ds_pV hPc hDc hK (q0 := 0) rfl rfl) rfl rfl hl.1 rfl (lv_room (Nat.le_of_ble_eq_true rfl)) dX5_move_46 ⟨Nat.le_of_ble_eq_true rfl, Nat.le_of_ble_eq_true rfl⟩) (fun r92 u93 H locs hp94 hP hD hS => ?_)
                      have hP : va_P D vwCl [(mo, .inr (5, [.int (nI 0), .ref aO, .ref aT, .ref aM, .ref aZ, .ref aY, .ref aK, .ref aF, .ref aL, .int (nI c), .int isd, .int wd])), (aO, .inl (cI, 2400, .inl O)), (aM, .inl (cI, 1200, .inl M)), (aZ, .inl (cI, 2, .inl Z))] H := hP
                      have hD : va_D A [(mo, .inr (5, [.int (nI 0), .ref aO, .ref aT, .ref aM, .ref aZ, .ref aY, .ref aK, .ref aF, .ref aL, .int (nI c), .int isd, .int wd])), (aO, .inl (cI, 2400, .inl O)), (aM, .inl (cI, 1200, .inl M)), (aZ, .inl (cI, 2, .inl Z))] := hD
                      have hp94 : r92 = nI 0 := hp94
                      replace hp94 := Eq.symm hp94
                      subst hp94
                      refine lv_if_eq (tgt := 56) hx hb dX5_move_49 (by decide) (fun h => ?_) (fun h => ?_)
                      ·
                        rw [← nI_0] at h
                        have h : 0 = 0 := (nI_eq (a := 0) (b := 0) (by omega) (by omega)).mp h
                        refine lv_iconst (v := nI 0) hx hb dX5_move_56 (by decide +kernel) ?_
                        refine lv_iconst (v := nI 2) hx hb dX5_move_57 (by decide +kernel) ?_
                        refine ds_calli (wc := [(mo, .inr (5, [.int (nI 0), .ref aO, .ref aT, .ref aM, .ref aZ, .ref aY, .ref aK, .ref aF, .ref aL, .int (nI c), .int isd, .int wd]))]) (wr := [(aO, .inl (cI, 2400, .inl O)), (aM, .inl (cI, 1200, .inl M)), (aZ, .inl (cI, 2, .inl Z))]) (wo := (fun u96 : Unit => [(mo, .inr (5, [.int (nI 0), .ref aO, .ref aT, .ref aM, .ref aZ, .ref aY, .ref aK, .ref aF, .ref aL, .int (nI c), .int isd, .int wd]))])) (wn := (fun u96 : Unit => [(mo, .inr (5, [.int (nI 0), .ref aO, .ref aT, .ref aM, .ref aZ, .ref aY, .ref aK, .ref aF, .ref aL, .int (nI c), .int isd, .int wd])), (aO, .inl (cI, 2400, .inl O)), (aM, .inl (cI, 1200, .inl M)), (aZ, .inl (cI, 2, .inl Z))])) (isC := [0]) (isR := [1, 2, 3]) hP hD hS hA ⟨rfl, rfl, by decide, by decide, by decide⟩ [3, 0, 1, 2] (by decide) (fun _ => rfl) (fun hPc hDc => va_runV (As := [.int (nI 0), .int (nI 2)]) (rest := []) ⟨hx, hb, hml, hown, ht⟩ (m_fails0 Ll D cI cL mo aO aT aM aZ aY aK aF aL (nI 0) c isd wd 2  H.size) ⟨(callB_of 2 ht g_X5_fails rfl rfl rfl (ht _ iw_136) (ht _ iw_138) hd_X5_fails ⟨Nat.le_of_ble_eq_true rfl, Nat.le_of_ble_eq_true rfl⟩), (ht _ iw_139), (ht _ iw_140)⟩ (ds_pV hPc hDc hK (q0 := 0) rfl rfl) rfl rfl hl.1 rfl (lv_room (Nat.le_of_ble_eq_true rfl)) dX5_move_58 ⟨Nat.le_of_ble_eq_true rfl, Nat.le_of_ble_eq_true rfl⟩) (fun r95 u96 H locs hp97 hP hD hS => ?_)
                        have hP : va_P D vwCl [(mo, .inr (5, [.int (nI 0), .ref aO, .ref aT, .ref aM, .ref aZ, .ref aY, .ref aK, .ref aF, .ref aL, .int (nI c), .int isd, .int wd])), (aO, .inl (cI, 2400, .inl O)), (aM, .inl (cI, 1200, .inl M)), (aZ, .inl (cI, 2, .inl Z))] H := hP
                        have hD : va_D A [(mo, .inr (5, [.int (nI 0), .ref aO, .ref aT, .ref aM, .ref aZ, .ref aY, .ref aK, .ref aF, .ref aL, .int (nI c), .int isd, .int wd])), (aO, .inl (cI, 2400, .inl O)), (aM, .inl (cI, 1200, .inl M)), (aZ, .inl (cI, 2, .inl Z))] := hD
                        have hp97 : r95 = nI 0 := hp97
                        replace hp97 := Eq.symm hp97
                        subst hp97
                        refine lv_if_eq (tgt := 65) hx hb dX5_move_61 (by decide) (fun h => ?_) (fun h => ?_)
                        ·
                          rw [← nI_0] at h
                          have h : 0 = 0 := (nI_eq (a := 0) (b := 0) (by omega) (by omega)).mp h
                          refine lv_iconst (v := nI 0) hx hb dX5_move_65 (by decide +kernel) ?_
                          refine lv_istore (lv' := [(6, .int (nI 0)), (0, .ref mo), (1, .int (nI 1)), (2, .int (nI p)), (3, .int (nI 0)), (4, .int (nI q)), (5, .int (nI m9))]) hx hb dX5_move_66 hl (Nat.le_of_ble_eq_true rfl) rfl (fun ls hl => ?_)
                          have hP : va_P D vwCl [(mo, .inr (5, [.int (nI 0), .ref aO, .ref aT, .ref aM, .ref aZ, .ref aY, .ref aK, .ref aF, .ref aL, .int (nI c), .int isd, .int wd])), (aO, .inl (cI, 2400, .inl O)), (aM, .inl (cI, 1200, .inl (va_cpy O M (1200 + p) 0 0))), (aZ, .inl (cI, 2, .inl Z))] H := by rw [cpy_0]; exact hP
                          have hD : va_D A [(mo, .inr (5, [.int (nI 0), .ref aO, .ref aT, .ref aM, .ref aZ, .ref aY, .ref aK, .ref aF, .ref aL, .int (nI c), .int isd, .int wd])), (aO, .inl (cI, 2400, .inl O)), (aM, .inl (cI, 1200, .inl (va_cpy O M (1200 + p) 0 0))), (aZ, .inl (cI, 2, .inl Z))] := by rw [cpy_0]; exact hD
                          have loop98 : ∀ (k99 : Nat) (i : Nat) (H : Heap) (locs : List Loc) (ls : Array Slot), (i ≤ m9) → m9 - i < k99 → va_P D vwCl [(mo, .inr (5, [.int (nI 0), .ref aO, .ref aT, .ref aM, .ref aZ, .ref aY, .ref aK, .ref aF, .ref aL, .int (nI c), .int isd, .int wd])), (aO, .inl (cI, 2400, .inl O)), (aM, .inl (cI, 1200, .inl (va_cpy O M (1200 + p) 0 i))), (aZ, .inl (cI, 2, .inl Z))] H → va_D A [(mo, .inr (5, [.int (nI 0), .ref aO, .ref aT, .ref aM, .ref aZ, .ref aY, .ref aK, .ref aF, .ref aL, .int (nI c), .int isd, .int wd])), (aO, .inl (cI, 2400, .inl O)), (aM, .inl (cI, 1200, .inl (va_cpy O M (1200 + p) 0 i))), (aZ, .inl (cI, 2, .inl Z))] → va_S A Ss.heap H locs → lv_has ls 7 [(0, .ref mo), (1, .int (nI 1)), (2, .int (nI p)), (3, .int (nI 0)), (4, .int (nI q)), (5, .int (nI m9)), (6, .int (nI i))] → W Pp Ll Ee { frames := 1, cells := 0, slots := 0, locals := 23 } Ss Mm Aa Bb Me Cc H locs 0 0 (MQ Bb (ds_Qv D (fun (u : Int32 × (Nat → Int32) × (Nat → Int32)) => u.1 = e_move (nI 1) (nI p) 0 (nI q) (nI m9) lo ln ∧ mQ (n_move (nI 1) (nI p) 0 (nI q) (nI m9) (lo, fo, ln, fn)) u.2.1 Z) (fun u : Int32 × (Nat → Int32) × (Nat → Int32) => [(mo, .inr (5, [.int u.1, .ref aO, .ref aT, .ref aM, .ref aZ, .ref aY, .ref aK, .ref aF, .ref aL, .int (nI c), .int isd, .int wd])), (aO, .inl (cI, 2400, .inl u.2.1)), (aM, .inl (cI, 1200, .inl u.2.2)), (aZ, .inl (cI, 2, .inl Z))]) A) Aa Ss 0 0 A) (F0 Mm 68 ls []) := by
                            intro k99
                            induction k99 with
                            | zero => intro i H locs ls hi hm101; exact absurd hm101 (Nat.not_lt_zero _)
                            | succ k99 ih100 =>
                              intro i H locs ls hi hm101 hP hD hS hl
                              refine lv_iload hx hb dX5_move_68 (lv_at hl 6 rfl) ?_
                              refine lv_iload hx hb dX5_move_70 (lv_at hl 5 rfl) ?_
                              refine lv_icmp_ge (tgt := 103) hx hb dX5_move_72 (by decide) (fun h => ?_) (fun h => ?_)
                              ·
                                have h : m9 ≤ i := (nI_leI (a := m9) (b := i) (by omega) (by omega)).mp h
                                have e9 : m9 = i := (by omega)
                                subst e9
                                refine lv_iconst (v := nI 0) hx hb dX5_move_103 (by decide +kernel) ?_
                                refine lv_istore (lv' := [(6, .int (nI 0)), (0, .ref mo), (1, .int (nI 1)), (2, .int (nI p)), (3, .int (nI 0)), (4, .int (nI q)), (5, .int (nI m9))]) hx hb dX5_move_104 hl (Nat.le_of_ble_eq_true rfl) rfl (fun ls hl => ?_)
                                have hP : va_P D vwCl [(mo, .inr (5, [.int (nI 0), .ref aO, .ref aT, .ref aM, .ref aZ, .ref aY, .ref aK, .ref aF, .ref aL, .int (nI c), .int isd, .int wd])), (aO, .inl (cI, 2400, .inl (va_cpy (va_cpy O M (1200 + p) 0 m9) O 0 (q) 0))), (aM, .inl (cI, 1200, .inl (va_cpy O M (1200 + p) 0 m9))), (aZ, .inl (cI, 2, .inl Z))] H := by rw [cpy_0 (f := va_cpy O M (1200 + p) 0 m9)]; exact hP
                                have hD : va_D A [(mo, .inr (5, [.int (nI 0), .ref aO, .ref aT, .ref aM, .ref aZ, .ref aY, .ref aK, .ref aF, .ref aL, .int (nI c), .int isd, .int wd])), (aO, .inl (cI, 2400, .inl (va_cpy (va_cpy O M (1200 + p) 0 m9) O 0 (q) 0))), (aM, .inl (cI, 1200, .inl (va_cpy O M (1200 + p) 0 m9))), (aZ, .inl (cI, 2, .inl Z))] := by rw [cpy_0 (f := va_cpy O M (1200 + p) 0 m9)]; exact hD
                                have loop102 : ∀ (k103 : Nat) (i : Nat) (H : Heap) (locs : List Loc) (ls : Array Slot), (i ≤ m9) → m9 - i < k103 → va_P D vwCl [(mo, .inr (5, [.int (nI 0), .ref aO, .ref aT, .ref aM, .ref aZ, .ref aY, .ref aK, .ref aF, .ref aL, .int (nI c), .int isd, .int wd])), (aO, .inl (cI, 2400, .inl (va_cpy (va_cpy O M (1200 + p) 0 m9) O 0 (q) i))), (aM, .inl (cI, 1200, .inl (va_cpy O M (1200 + p) 0 m9))), (aZ, .inl (cI, 2, .inl Z))] H → va_D A [(mo, .inr (5, [.int (nI 0), .ref aO, .ref aT, .ref aM, .ref aZ, .ref aY, .ref aK, .ref aF, .ref aL, .int (nI c), .int isd, .int wd])), (aO, .inl (cI, 2400, .inl (va_cpy (va_cpy O M (1200 + p) 0 m9) O 0 (q) i))), (aM, .inl (cI, 1200, .inl (va_cpy O M (1200 + p) 0 m9))), (aZ, .inl (cI, 2, .inl Z))] → va_S A Ss.heap H locs → lv_has ls 7 [(0, .ref mo), (1, .int (nI 1)), (2, .int (nI p)), (3, .int (nI 0)), (4, .int (nI q)), (5, .int (nI m9)), (6, .int (nI i))] → W Pp Ll Ee { frames := 1, cells := 0, slots := 0, locals := 23 } Ss Mm Aa Bb Me Cc H locs 0 0 (MQ Bb (ds_Qv D (fun (u : Int32 × (Nat → Int32) × (Nat → Int32)) => u.1 = e_move (nI 1) (nI p) 0 (nI q) (nI m9) lo ln ∧ mQ (n_move (nI 1) (nI p) 0 (nI q) (nI m9) (lo, fo, ln, fn)) u.2.1 Z) (fun u : Int32 × (Nat → Int32) × (Nat → Int32) => [(mo, .inr (5, [.int u.1, .ref aO, .ref aT, .ref aM, .ref aZ, .ref aY, .ref aK, .ref aF, .ref aL, .int (nI c), .int isd, .int wd])), (aO, .inl (cI, 2400, .inl u.2.1)), (aM, .inl (cI, 1200, .inl u.2.2)), (aZ, .inl (cI, 2, .inl Z))]) A) Aa Ss 0 0 A) (F0 Mm 106 ls []) := by
                                  intro k103
                                  induction k103 with
                                  | zero => intro i H locs ls hi hm105; exact absurd hm105 (Nat.not_lt_zero _)
                                  | succ k103 ih104 =>
                                    intro i H locs ls hi hm105 hP hD hS hl
                                    refine lv_iload hx hb dX5_move_106 (lv_at hl 6 rfl) ?_
                                    refine lv_iload hx hb dX5_move_108 (lv_at hl 5 rfl) ?_
                                    refine lv_icmp_ge (tgt := 142) hx hb dX5_move_110 (by decide) (fun h => ?_) (fun h => ?_)
                                    ·
                                      have h : m9 ≤ i := (nI_leI (a := m9) (b := i) (by omega) (by omega)).mp h
                                      have e9 : m9 = i := (by omega)
                                      subst e9
                                      exact ds_vret hx hb hr hlk (nI 0, va_cpy (va_cpy O M (1200 + p) 0 m9) O 0 (q) m9, va_cpy O M (1200 + p) 0 m9) ⟨(n_move_ok0 hZ.1 hZ.2.1 hro (by rw [rsel_1]; exact hpm) hqm (fo := fo) (fn := fn)).2.symm, mQ_move10 hpm hqm hR⟩ hP hD hS (Nat.le_of_ble_eq_true rfl) (Nat.le_of_ble_eq_true rfl) dX5_move_142
                                    ·
                                      have h : ¬ m9 ≤ i := fun z9 => h ((nI_leI (a := m9) (b := i) (by omega) (by omega)).mpr z9)
                                      refine lv_aload_n hx hb dX5_move_113 rfl (lv_at hl 0 rfl) ?_
                                      refine va_get (D := D) (ci := 5) (v := .ref aO) (C := RX5) (T := TX5) (N := 12) hx hb ht inA_X5 hown hK.1 hP 0 rfl rfl 1 (by decide) (ht _ iw_122) (fun _ h9 => h9) rfl dX5_move_114 ?_
                                      refine lv_sipush (v := nI 1200) hx hb dX5_move_117 (by decide +kernel) ?_
                                      refine lv_iload_n hx hb dX5_move_120 rfl (lv_at hl 3 rfl) ?_
                                      refine lv_imul hx hb dX5_move_121 ?_
                                      refine ds_top (z := nI (1200 * 0)) (pk_mul _ _) ?_
                                      refine lv_iload hx hb dX5_move_122 (lv_at hl 4 rfl) ?_
                                      refine lv_iadd hx hb dX5_move_124 ?_
                                      refine ds_top (z := nI ((1200 * 0) + q)) (nI_add _ _) ?_
                                      refine lv_iload hx hb dX5_move_125 (lv_at hl 6 rfl) ?_
                                      refine lv_iadd hx hb dX5_move_127 ?_
                                      refine ds_top (z := nI (((1200 * 0) + q) + i)) (nI_add _ _) ?_
                                      refine ds_top (z := nI (q + i)) (congrArg nI (by omega)) ?_
                                      refine lv_aload_n hx hb dX5_move_128 rfl (lv_at hl 0 rfl) ?_
                                      refine va_get (D := D) (ci := 5) (v := .ref aM) (C := RX5) (T := TX5) (N := 12) hx hb ht inA_X5 hown hK.1 hP 0 rfl rfl 3 (by decide) (ht _ iw_124) (fun _ h9 => h9) rfl dX5_move_129 ?_
                                      refine lv_iload hx hb dX5_move_132 (lv_at hl 6 rfl) ?_
                                      refine ds_iald (k := i) hx hb hK hP 2 rfl (by omega) (by omega) dX5_move_134 ?_
                                      refine ds_iast (k := q + i) hx hb hK hP hD hS 1 rfl (by omega) (by omega) dX5_move_135 (fun H locs hP hD hS => ?_)
                                      have hP : va_P D vwCl [(mo, .inr (5, [.int (nI 0), .ref aO, .ref aT, .ref aM, .ref aZ, .ref aY, .ref aK, .ref aF, .ref aL, .int (nI c), .int isd, .int wd])), (aO, .inl (cI, 2400, .inl (upd (va_cpy (va_cpy O M (1200 + p) 0 m9) O 0 (q) i) (q + i) ((va_cpy O M (1200 + p) 0 m9) i)))), (aM, .inl (cI, 1200, .inl (va_cpy O M (1200 + p) 0 m9))), (aZ, .inl (cI, 2, .inl Z))] H := hP
                                      have hD : va_D A [(mo, .inr (5, [.int (nI 0), .ref aO, .ref aT, .ref aM, .ref aZ, .ref aY, .ref aK, .ref aF, .ref aL, .int (nI c), .int isd, .int wd])), (aO, .inl (cI, 2400, .inl (upd (va_cpy (va_cpy O M (1200 + p) 0 m9) O 0 (q) i) (q + i) ((va_cpy O M (1200 + p) 0 m9) i)))), (aM, .inl (cI, 1200, .inl (va_cpy O M (1200 + p) 0 m9))), (aZ, .inl (cI, 2, .inl Z))] := hD
                                      refine lv_iinc (k := 6) (v := nI (i + 1)) (lv' := [(6, .int (nI (i + 1))), (0, .ref mo), (1, .int (nI 1)), (2, .int (nI p)), (3, .int (nI 0)), (4, .int (nI q)), (5, .int (nI m9))]) hx hb dX5_move_136 hl rfl (by rw [nI_succ]; rfl) (Nat.le_of_ble_eq_true rfl) rfl (fun ls hl => ?_)
                                      refine lv_goto (tgt := 106) hx hb dX5_move_139 (by decide) ?_
                                      have hP : va_P D vwCl [(mo, .inr (5, [.int (nI 0), .ref aO, .ref aT, .ref aM, .ref aZ, .ref aY, .ref aK, .ref aF, .ref aL, .int (nI c), .int isd, .int wd])), (aO, .inl (cI, 2400, .inl (va_cpy (va_cpy O M (1200 + p) 0 m9) O 0 (q) (i + 1)))), (aM, .inl (cI, 1200, .inl (va_cpy O M (1200 + p) 0 m9))), (aZ, .inl (cI, 2, .inl Z))] H := by rw [cpy_s (f := va_cpy O M (1200 + p) 0 m9), Nat.zero_add]; exact hP
                                      have hD : va_D A [(mo, .inr (5, [.int (nI 0), .ref aO, .ref aT, .ref aM, .ref aZ, .ref aY, .ref aK, .ref aF, .ref aL, .int (nI c), .int isd, .int wd])), (aO, .inl (cI, 2400, .inl (va_cpy (va_cpy O M (1200 + p) 0 m9) O 0 (q) (i + 1)))), (aM, .inl (cI, 1200, .inl (va_cpy O M (1200 + p) 0 m9))), (aZ, .inl (cI, 2, .inl Z))] := by rw [cpy_s (f := va_cpy O M (1200 + p) 0 m9), Nat.zero_add]; exact hD
                                      exact ih104 (i + 1) H locs ls (by omega) (by omega) hP hD hS (lv_sub hl [1, 2, 3, 4, 5, 6, 0] rfl)
                                exact loop102 _ 0 H locs ls (Nat.zero_le _) (Nat.lt_succ_self _) hP hD hS (lv_sub hl [1, 2, 3, 4, 5, 6, 0] rfl)
                              ·
                                have h : ¬ m9 ≤ i := fun z9 => h ((nI_leI (a := m9) (b := i) (by omega) (by omega)).mpr z9)
                                refine lv_aload_n hx hb dX5_move_75 rfl (lv_at hl 0 rfl) ?_
                                refine va_get (D := D) (ci := 5) (v := .ref aM) (C := RX5) (T := TX5) (N := 12) hx hb ht inA_X5 hown hK.1 hP 0 rfl rfl 3 (by decide) (ht _ iw_124) (fun _ h9 => h9) rfl dX5_move_76 ?_
                                refine lv_iload hx hb dX5_move_79 (lv_at hl 6 rfl) ?_
                                refine lv_aload_n hx hb dX5_move_81 rfl (lv_at hl 0 rfl) ?_
                                refine va_get (D := D) (ci := 5) (v := .ref aO) (C := RX5) (T := TX5) (N := 12) hx hb ht inA_X5 hown hK.1 hP 0 rfl rfl 1 (by decide) (ht _ iw_122) (fun _ h9 => h9) rfl dX5_move_82 ?_
                                refine lv_sipush (v := nI 1200) hx hb dX5_move_85 (by decide +kernel) ?_
                                refine lv_iload_n hx hb dX5_move_88 rfl (lv_at hl 1 rfl) ?_
                                refine lv_imul hx hb dX5_move_89 ?_
                                refine ds_top (z := nI (1200 * 1)) (pk_mul _ _) ?_
                                refine lv_iload_n hx hb dX5_move_90 rfl (lv_at hl 2 rfl) ?_
                                refine lv_iadd hx hb dX5_move_91 ?_
                                refine ds_top (z := nI ((1200 * 1) + p)) (nI_add _ _) ?_
                                refine lv_iload hx hb dX5_move_92 (lv_at hl 6 rfl) ?_
                                refine lv_iadd hx hb dX5_move_94 ?_
                                refine ds_top (z := nI (((1200 * 1) + p) + i)) (nI_add _ _) ?_
                                refine ds_top (z := nI ((1200 + p) + i)) (congrArg nI (by omega)) ?_
                                refine ds_iald (k := (1200 + p) + i) hx hb hK hP 1 rfl (by omega) (by omega) dX5_move_95 ?_
                                refine ds_iast (k := i) hx hb hK hP hD hS 2 rfl (by omega) (by omega) dX5_move_96 (fun H locs hP hD hS => ?_)
                                have hP : va_P D vwCl [(mo, .inr (5, [.int (nI 0), .ref aO, .ref aT, .ref aM, .ref aZ, .ref aY, .ref aK, .ref aF, .ref aL, .int (nI c), .int isd, .int wd])), (aO, .inl (cI, 2400, .inl O)), (aM, .inl (cI, 1200, .inl (upd (va_cpy O M (1200 + p) 0 i) i (O ((1200 + p) + i))))), (aZ, .inl (cI, 2, .inl Z))] H := hP
                                have hD : va_D A [(mo, .inr (5, [.int (nI 0), .ref aO, .ref aT, .ref aM, .ref aZ, .ref aY, .ref aK, .ref aF, .ref aL, .int (nI c), .int isd, .int wd])), (aO, .inl (cI, 2400, .inl O)), (aM, .inl (cI, 1200, .inl (upd (va_cpy O M (1200 + p) 0 i) i (O ((1200 + p) + i))))), (aZ, .inl (cI, 2, .inl Z))] := hD
                                refine lv_iinc (k := 6) (v := nI (i + 1)) (lv' := [(6, .int (nI (i + 1))), (0, .ref mo), (1, .int (nI 1)), (2, .int (nI p)), (3, .int (nI 0)), (4, .int (nI q)), (5, .int (nI m9))]) hx hb dX5_move_97 hl rfl (by rw [nI_succ]; rfl) (Nat.le_of_ble_eq_true rfl) rfl (fun ls hl => ?_)
                                refine lv_goto (tgt := 68) hx hb dX5_move_100 (by decide) ?_
                                have hP : va_P D vwCl [(mo, .inr (5, [.int (nI 0), .ref aO, .ref aT, .ref aM, .ref aZ, .ref aY, .ref aK, .ref aF, .ref aL, .int (nI c), .int isd, .int wd])), (aO, .inl (cI, 2400, .inl O)), (aM, .inl (cI, 1200, .inl (va_cpy O M (1200 + p) 0 (i + 1)))), (aZ, .inl (cI, 2, .inl Z))] H := by rw [cpy_s, Nat.zero_add]; exact hP
                                have hD : va_D A [(mo, .inr (5, [.int (nI 0), .ref aO, .ref aT, .ref aM, .ref aZ, .ref aY, .ref aK, .ref aF, .ref aL, .int (nI c), .int isd, .int wd])), (aO, .inl (cI, 2400, .inl O)), (aM, .inl (cI, 1200, .inl (va_cpy O M (1200 + p) 0 (i + 1)))), (aZ, .inl (cI, 2, .inl Z))] := by rw [cpy_s, Nat.zero_add]; exact hD
                                exact ih100 (i + 1) H locs ls (by omega) (by omega) hP hD hS (lv_sub hl [1, 2, 3, 4, 5, 6, 0] rfl)
                          exact loop98 _ 0 H locs ls (Nat.zero_le _) (Nat.lt_succ_self _) hP hD hS (lv_sub hl [1, 2, 3, 4, 5, 6, 0] rfl)
                        ·
                          rw [← nI_0] at h
                          have h : ¬ 0 = 0 := fun z9 => h ((nI_eq (a := 0) (b := 0) (by omega) (by omega)).mpr z9)
                          exact absurd rfl h
                      ·
                        rw [← nI_0] at h
                        have h : ¬ 0 = 0 := fun z9 => h ((nI_eq (a := 0) (b := 0) (by omega) (by omega)).mpr z9)
                        exact absurd rfl h
                    ·
                      refine lv_aload_n hx hb dX5_move_40 rfl (lv_at hl 0 rfl) ?_
                      refine lv_iload_n hx hb dX5_move_41 rfl (lv_at hl 3 rfl) ?_
                      refine lv_iload hx hb dX5_move_42 (lv_at hl 4 rfl) ?_
                      refine lv_iload hx hb dX5_move_44 (lv_at hl 5 rfl) ?_
                      refine ds_calli (wc := [(mo, .inr (5, [.int (nI 0), .ref aO, .ref aT, .ref aM, .ref aZ, .ref aY, .ref aK, .ref aF, .ref aL, .int (nI c), .int isd, .int wd])), (aZ, .inl (cI, 2, .inl Z))]) (wr := [(aO, .inl (cI, 2400, .inl O)), (aM, .inl (cI, 1200, .inl M))]) (wo := (fun u107 : Unit => [(mo, .inr (5, [.int (nI 0), .ref aO, .ref aT, .ref aM, .ref aZ, .ref aY, .ref aK, .ref aF, .ref aL, .int (nI c), .int isd, .int wd])), (aZ, .inl (cI, 2, .inl Z))])) (wn := (fun u107 : Unit => [(mo, .inr (5, [.int (nI 0), .ref aO, .ref aT, .ref aM, .ref aZ, .ref aY, .ref aK, .ref aF, .ref aL, .int (nI c), .int isd, .int wd])), (aO, .inl (cI, 2400, .inl O)), (aM, .inl (cI, 1200, .inl M)), (aZ, .inl (cI, 2, .inl Z))])) (isC := [0, 3]) (isR := [1, 2]) hP hD hS hA ⟨rfl, rfl, by decide, by decide, by decide⟩ [2, 0, 1, 3] (by decide) (fun _ => rfl) (fun hPc hDc => va_runV (As := [.int (nI 0), .int v, .int (nI m)]) (rest := [.ref mo]) ⟨hx, hb, hml, hown, ht⟩ (m_lacks10 Ll D cI cL mo aO aT aM aZ aY aK aF aL (nI 0) c isd wd Z lo v (nI m) hZ.2.2.1 (by omega) (Classical.not_not.mp hg2) H.size) ⟨(callB_of 3 ht g_X5_lacks rfl rfl rfl (ht _ iw_136) (ht _ iw_144) hd_X5_lacks ⟨Nat.le_of_ble_eq_true rfl, Nat.le_of_ble_eq_true rfl⟩), (ht _ iw_145), (ht _ iw_146)⟩ (ds_pV hPc hDc hK (q0 := 0) rfl rfl) rfl rfl hl.1 rfl (lv_room (Nat.le_of_ble_eq_true rfl)) dX5_move_46 ⟨Nat.le_of_ble_eq_true rfl, Nat.le_of_ble_eq_true rfl⟩) (fun r106 u107 H locs hp108 hP hD hS => ?_)
                      have hP : va_P D vwCl [(mo, .inr (5, [.int (nI 0), .ref aO, .ref aT, .ref aM, .ref aZ, .ref aY, .ref aK, .ref aF, .ref aL, .int (nI c), .int isd, .int wd])), (aO, .inl (cI, 2400, .inl O)), (aM, .inl (cI, 1200, .inl M)), (aZ, .inl (cI, 2, .inl Z))] H := hP
                      have hD : va_D A [(mo, .inr (5, [.int (nI 0), .ref aO, .ref aT, .ref aM, .ref aZ, .ref aY, .ref aK, .ref aF, .ref aL, .int (nI c), .int isd, .int wd])), (aO, .inl (cI, 2400, .inl O)), (aM, .inl (cI, 1200, .inl M)), (aZ, .inl (cI, 2, .inl Z))] := hD
                      have hp108 : r106 = nI 1 := hp108
                      replace hp108 := Eq.symm hp108
                      subst hp108
                      refine lv_if_eq (tgt := 56) hx hb dX5_move_49 (by decide) (fun h => ?_) (fun h => ?_)
                      ·
                        rw [← nI_0] at h
                        have h : 1 = 0 := (nI_eq (a := 1) (b := 0) (by omega) (by omega)).mp h
                        exact absurd h (by decide)
                      ·
                        rw [← nI_0] at h
                        have h : ¬ 1 = 0 := fun z9 => h ((nI_eq (a := 1) (b := 0) (by omega) (by omega)).mpr z9)
                        refine lv_iconst (v := nI 1) hx hb dX5_move_52 (by decide +kernel) ?_
                        refine lv_goto (tgt := 57) hx hb dX5_move_53 (by decide) ?_
                        refine lv_iconst (v := nI 2) hx hb dX5_move_57 (by decide +kernel) ?_
                        refine ds_calli (wc := [(mo, .inr (5, [.int (nI 0), .ref aO, .ref aT, .ref aM, .ref aZ, .ref aY, .ref aK, .ref aF, .ref aL, .int (nI c), .int isd, .int wd]))]) (wr := [(aO, .inl (cI, 2400, .inl O)), (aM, .inl (cI, 1200, .inl M)), (aZ, .inl (cI, 2, .inl Z))]) (wo := (fun u110 : Unit => [(mo, .inr (5, [.int (nI 2), .ref aO, .ref aT, .ref aM, .ref aZ, .ref aY, .ref aK, .ref aF, .ref aL, .int (nI c), .int isd, .int wd]))])) (wn := (fun u110 : Unit => [(mo, .inr (5, [.int (nI 2), .ref aO, .ref aT, .ref aM, .ref aZ, .ref aY, .ref aK, .ref aF, .ref aL, .int (nI c), .int isd, .int wd])), (aO, .inl (cI, 2400, .inl O)), (aM, .inl (cI, 1200, .inl M)), (aZ, .inl (cI, 2, .inl Z))])) (isC := [0]) (isR := [1, 2, 3]) hP hD hS hA ⟨rfl, rfl, by decide, by decide, by decide⟩ [3, 0, 1, 2] (by decide) (fun _ => rfl) (fun hPc hDc => va_runV (As := [.int (nI 1), .int (nI 2)]) (rest := []) ⟨hx, hb, hml, hown, ht⟩ (m_fails1 Ll D cI cL mo aO aT aM aZ aY aK aF aL (nI 0) c isd wd 2  H.size) ⟨(callB_of 2 ht g_X5_fails rfl rfl rfl (ht _ iw_136) (ht _ iw_138) hd_X5_fails ⟨Nat.le_of_ble_eq_true rfl, Nat.le_of_ble_eq_true rfl⟩), (ht _ iw_139), (ht _ iw_140)⟩ (ds_pV hPc hDc hK (q0 := 0) rfl rfl) rfl rfl hl.1 rfl (lv_room (Nat.le_of_ble_eq_true rfl)) dX5_move_58 ⟨Nat.le_of_ble_eq_true rfl, Nat.le_of_ble_eq_true rfl⟩) (fun r109 u110 H locs hp111 hP hD hS => ?_)
                        have hP : va_P D vwCl [(mo, .inr (5, [.int (nI 2), .ref aO, .ref aT, .ref aM, .ref aZ, .ref aY, .ref aK, .ref aF, .ref aL, .int (nI c), .int isd, .int wd])), (aO, .inl (cI, 2400, .inl O)), (aM, .inl (cI, 1200, .inl M)), (aZ, .inl (cI, 2, .inl Z))] H := hP
                        have hD : va_D A [(mo, .inr (5, [.int (nI 2), .ref aO, .ref aT, .ref aM, .ref aZ, .ref aY, .ref aK, .ref aF, .ref aL, .int (nI c), .int isd, .int wd])), (aO, .inl (cI, 2400, .inl O)), (aM, .inl (cI, 1200, .inl M)), (aZ, .inl (cI, 2, .inl Z))] := hD
                        have hp111 : r109 = nI 1 := hp111
                        replace hp111 := Eq.symm hp111
                        subst hp111
                        refine lv_if_eq (tgt := 65) hx hb dX5_move_61 (by decide) (fun h => ?_) (fun h => ?_)
                        ·
                          rw [← nI_0] at h
                          have h : 1 = 0 := (nI_eq (a := 1) (b := 0) (by omega) (by omega)).mp h
                          exact absurd h (by decide)
                        ·
                          rw [← nI_0] at h
                          have h : ¬ 1 = 0 := fun z9 => h ((nI_eq (a := 1) (b := 0) (by omega) (by omega)).mpr z9)
                          exact ds_vret hx hb hr hlk (nI 2, O, M) ⟨(e_move_x ⟨hro, hro2⟩ (by rw [rsel_1, rsel_0]; exact fun z9 => hg2 z9.2)).symm, by rw [n_move_x (t := (lo, fo, ln, fn)) (fun z9 => absurd (z9.symm.trans (e_move_x ⟨hro, hro2⟩ (by rw [rsel_1, rsel_0]; exact fun z9 => hg2 z9.2))) (by decide))]; exact hR⟩ hP hD hS (Nat.le_of_ble_eq_true rfl) (Nat.le_of_ble_eq_true rfl) dX5_move_64
                ·
                  refine lv_aload_n hx hb dX5_move_28 rfl (lv_at hl 0 rfl) ?_
                  refine lv_aload_n hx hb dX5_move_29 rfl (lv_at hl 0 rfl) ?_
                  refine lv_iload_n hx hb dX5_move_30 rfl (lv_at hl 1 rfl) ?_
                  refine lv_iload_n hx hb dX5_move_31 rfl (lv_at hl 2 rfl) ?_
                  refine lv_iload hx hb dX5_move_32 (lv_at hl 5 rfl) ?_
                  refine ds_calli (wc := [(mo, .inr (5, [.int (nI 0), .ref aO, .ref aT, .ref aM, .ref aZ, .ref aY, .ref aK, .ref aF, .ref aL, .int (nI c), .int isd, .int wd])), (aZ, .inl (cI, 2, .inl Z))]) (wr := [(aO, .inl (cI, 2400, .inl O)), (aM, .inl (cI, 1200, .inl M))]) (wo := (fun u113 : Unit => [(mo, .inr (5, [.int (nI 0), .ref aO, .ref aT, .ref aM, .ref aZ, .ref aY, .ref aK, .ref aF, .ref aL, .int (nI c), .int isd, .int wd])), (aZ, .inl (cI, 2, .inl Z))])) (wn := (fun u113 : Unit => [(mo, .inr (5, [.int (nI 0), .ref aO, .ref aT, .ref aM, .ref aZ, .ref aY, .ref aK, .ref aF, .ref aL, .int (nI c), .int isd, .int wd])), (aO, .inl (cI, 2400, .inl O)), (aM, .inl (cI, 1200, .inl M)), (aZ, .inl (cI, 2, .inl Z))])) (isC := [0, 3]) (isR := [1, 2]) hP hD hS hA ⟨rfl, rfl, by decide, by decide, by decide⟩ [2, 0, 1, 3] (by decide) (fun _ => rfl) (fun hPc hDc => va_runV (As := [.int (nI 1), .int y, .int w]) (rest := [.ref mo]) ⟨hx, hb, hml, hown, ht⟩ (m_lacks11 Ll D cI cL mo aO aT aM aZ aY aK aF aL (nI 0) c isd wd Z ln y w hZ.2.2.2 (by omega) (Classical.not_not.mp hg) H.size) ⟨(callB_of 3 ht g_X5_lacks rfl rfl rfl (ht _ iw_136) (ht _ iw_144) hd_X5_lacks ⟨Nat.le_of_ble_eq_true rfl, Nat.le_of_ble_eq_true rfl⟩), (ht _ iw_145), (ht _ iw_146)⟩ (ds_pV hPc hDc hK (q0 := 0) rfl rfl) rfl rfl hl.1 rfl (lv_room (Nat.le_of_ble_eq_true rfl)) dX5_move_34 ⟨Nat.le_of_ble_eq_true rfl, Nat.le_of_ble_eq_true rfl⟩) (fun r112 u113 H locs hp114 hP hD hS => ?_)
                  have hP : va_P D vwCl [(mo, .inr (5, [.int (nI 0), .ref aO, .ref aT, .ref aM, .ref aZ, .ref aY, .ref aK, .ref aF, .ref aL, .int (nI c), .int isd, .int wd])), (aO, .inl (cI, 2400, .inl O)), (aM, .inl (cI, 1200, .inl M)), (aZ, .inl (cI, 2, .inl Z))] H := hP
                  have hD : va_D A [(mo, .inr (5, [.int (nI 0), .ref aO, .ref aT, .ref aM, .ref aZ, .ref aY, .ref aK, .ref aF, .ref aL, .int (nI c), .int isd, .int wd])), (aO, .inl (cI, 2400, .inl O)), (aM, .inl (cI, 1200, .inl M)), (aZ, .inl (cI, 2, .inl Z))] := hD
                  have hp114 : r112 = nI 1 := hp114
                  replace hp114 := Eq.symm hp114
                  subst hp114
                  refine lv_if_ne (tgt := 52) hx hb dX5_move_37 (by decide) (fun h => ?_) (fun h => ?_)
                  ·
                    rw [← nI_0] at h
                    have h : ¬ 1 = 0 := fun z9 => h ((nI_eq (a := 1) (b := 0) (by omega) (by omega)).mpr z9)
                    refine lv_iconst (v := nI 1) hx hb dX5_move_52 (by decide +kernel) ?_
                    refine lv_goto (tgt := 57) hx hb dX5_move_53 (by decide) ?_
                    refine lv_iconst (v := nI 2) hx hb dX5_move_57 (by decide +kernel) ?_
                    refine ds_calli (wc := [(mo, .inr (5, [.int (nI 0), .ref aO, .ref aT, .ref aM, .ref aZ, .ref aY, .ref aK, .ref aF, .ref aL, .int (nI c), .int isd, .int wd]))]) (wr := [(aO, .inl (cI, 2400, .inl O)), (aM, .inl (cI, 1200, .inl M)), (aZ, .inl (cI, 2, .inl Z))]) (wo := (fun u116 : Unit => [(mo, .inr (5, [.int (nI 2), .ref aO, .ref aT, .ref aM, .ref aZ, .ref aY, .ref aK, .ref aF, .ref aL, .int (nI c), .int isd, .int wd]))])) (wn := (fun u116 : Unit => [(mo, .inr (5, [.int (nI 2), .ref aO, .ref aT, .ref aM, .ref aZ, .ref aY, .ref aK, .ref aF, .ref aL, .int (nI c), .int isd, .int wd])), (aO, .inl (cI, 2400, .inl O)), (aM, .inl (cI, 1200, .inl M)), (aZ, .inl (cI, 2, .inl Z))])) (isC := [0]) (isR := [1, 2, 3]) hP hD hS hA ⟨rfl, rfl, by decide, by decide, by decide⟩ [3, 0, 1, 2] (by decide) (fun _ => rfl) (fun hPc hDc => va_runV (As := [.int (nI 1), .int (nI 2)]) (rest := []) ⟨hx, hb, hml, hown, ht⟩ (m_fails1 Ll D cI cL mo aO aT aM aZ aY aK aF aL (nI 0) c isd wd 2  H.size) ⟨(callB_of 2 ht g_X5_fails rfl rfl rfl (ht _ iw_136) (ht _ iw_138) hd_X5_fails ⟨Nat.le_of_ble_eq_true rfl, Nat.le_of_ble_eq_true rfl⟩), (ht _ iw_139), (ht _ iw_140)⟩ (ds_pV hPc hDc hK (q0 := 0) rfl rfl) rfl rfl hl.1 rfl (lv_room (Nat.le_of_ble_eq_true rfl)) dX5_move_58 ⟨Nat.le_of_ble_eq_true rfl, Nat.le_of_ble_eq_true rfl⟩) (fun r115 u116 H locs hp117 hP hD hS => ?_)
                    have hP : va_P D vwCl [(mo, .inr (5, [.int (nI 2), .ref aO, .ref aT, .ref aM, .ref aZ, .ref aY, .ref aK, .ref aF, .ref aL, .int (nI c), .int isd, .int wd])), (aO, .inl (cI, 2400, .inl O)), (aM, .inl (cI, 1200, .inl M)), (aZ, .inl (cI, 2, .inl Z))] H := hP
                    have hD : va_D A [(mo, .inr (5, [.int (nI 2), .ref aO, .ref aT, .ref aM, .ref aZ, .ref aY, .ref aK, .ref aF, .ref aL, .int (nI c), .int isd, .int wd])), (aO, .inl (cI, 2400, .inl O)), (aM, .inl (cI, 1200, .inl M)), (aZ, .inl (cI, 2, .inl Z))] := hD
                    have hp117 : r115 = nI 1 := hp117
                    replace hp117 := Eq.symm hp117
                    subst hp117
                    refine lv_if_eq (tgt := 65) hx hb dX5_move_61 (by decide) (fun h => ?_) (fun h => ?_)
                    ·
                      rw [← nI_0] at h
                      have h : 1 = 0 := (nI_eq (a := 1) (b := 0) (by omega) (by omega)).mp h
                      exact absurd h (by decide)
                    ·
                      rw [← nI_0] at h
                      have h : ¬ 1 = 0 := fun z9 => h ((nI_eq (a := 1) (b := 0) (by omega) (by omega)).mpr z9)
                      exact ds_vret hx hb hr hlk (nI 2, O, M) ⟨(e_move_x ⟨hro, hro2⟩ (by rw [rsel_1, rsel_0]; exact fun z9 => hg z9.1)).symm, by rw [n_move_x (t := (lo, fo, ln, fn)) (fun z9 => absurd (z9.symm.trans (e_move_x ⟨hro, hro2⟩ (by rw [rsel_1, rsel_0]; exact fun z9 => hg z9.1))) (by decide))]; exact hR⟩ hP hD hS (Nat.le_of_ble_eq_true rfl) (Nat.le_of_ble_eq_true rfl) dX5_move_64
                  ·
                    rw [← nI_0] at h
                    have h : 1 = 0 := (nI_eq (a := 1) (b := 0) (by omega) (by omega)).mp h
                    exact absurd h (by decide)
              ·
                rw [← nI_0] at h
                have h : ¬ 0 = 0 := fun z9 => h ((nI_eq (a := 0) (b := 0) (by omega) (by omega)).mpr z9)
                exact absurd rfl h
            ·
              rw [← nI_0] at h
              have h : ¬ 0 = 0 := fun z9 => h ((nI_eq (a := 0) (b := 0) (by omega) (by omega)).mpr z9)
              exact absurd rfl h
          ·
            have hl : lv_has ls 7 [(0, .ref mo), (1, .int (nI 1)), (2, .int y), (3, .int (nI 1)), (4, .int v), (5, .int w)] := hl
            refine lv_iload_n hx hb dX5_move_8 rfl (lv_at hl 3 rfl) ?_
            refine ds_calli (wc := []) (wr := [(mo, .inr (5, [.int er, .ref aO, .ref aT, .ref aM, .ref aZ, .ref aY, .ref aK, .ref aF, .ref aL, .int (nI c), .int isd, .int wd])), (aO, .inl (cI, 2400, .inl O)), (aM, .inl (cI, 1200, .inl M)), (aZ, .inl (cI, 2, .inl Z))]) (wo := (fun u119 : Unit => [])) (wn := (fun u119 : Unit => [(mo, .inr (5, [.int er, .ref aO, .ref aT, .ref aM, .ref aZ, .ref aY, .ref aK, .ref aF, .ref aL, .int (nI c), .int isd, .int wd])), (aO, .inl (cI, 2400, .inl O)), (aM, .inl (cI, 1200, .inl M)), (aZ, .inl (cI, 2, .inl Z))])) (isC := []) (isR := [0, 1, 2, 3]) hP hD hS hA ⟨rfl, rfl, by decide, by decide, by decide⟩ [0, 1, 2, 3] (by decide) (fun _ => rfl) (fun hPc hDc => va_runS (As := [.int (nI 1)]) (rest := [.ref mo]) ⟨hx, hb, hml, hown, ht⟩ (m_no0 Ll D cI cL 1 (by decide) H.size) ⟨(callB_of 1 ht g_X5_no rfl rfl rfl (ht _ iw_136) (ht _ iw_135) hd_X5_no ⟨Nat.le_of_ble_eq_true rfl, Nat.le_of_ble_eq_true rfl⟩), (ht _ iw_137)⟩ (ds_pS hPc hDc hK) rfl rfl hl.1 rfl (lv_room (Nat.le_of_ble_eq_true rfl)) dX5_move_9 ⟨Nat.le_of_ble_eq_true rfl, Nat.le_of_ble_eq_true rfl⟩) (fun r118 u119 H locs hp120 hP hD hS => ?_)
            have hP : va_P D vwCl [(mo, .inr (5, [.int er, .ref aO, .ref aT, .ref aM, .ref aZ, .ref aY, .ref aK, .ref aF, .ref aL, .int (nI c), .int isd, .int wd])), (aO, .inl (cI, 2400, .inl O)), (aM, .inl (cI, 1200, .inl M)), (aZ, .inl (cI, 2, .inl Z))] H := hP
            have hD : va_D A [(mo, .inr (5, [.int er, .ref aO, .ref aT, .ref aM, .ref aZ, .ref aY, .ref aK, .ref aF, .ref aL, .int (nI c), .int isd, .int wd])), (aO, .inl (cI, 2400, .inl O)), (aM, .inl (cI, 1200, .inl M)), (aZ, .inl (cI, 2, .inl Z))] := hD
            have hp120 : r118 = nI 0 := hp120
            replace hp120 := Eq.symm hp120
            subst hp120
            refine lv_if_eq (tgt := 19) hx hb dX5_move_12 (by decide) (fun h => ?_) (fun h => ?_)
            ·
              rw [← nI_0] at h
              have h : 0 = 0 := (nI_eq (a := 0) (b := 0) (by omega) (by omega)).mp h
              refine lv_iconst (v := nI 0) hx hb dX5_move_19 (by decide +kernel) ?_
              refine lv_iconst (v := nI 1) hx hb dX5_move_20 (by decide +kernel) ?_
              refine ds_calli (wc := [(mo, .inr (5, [.int er, .ref aO, .ref aT, .ref aM, .ref aZ, .ref aY, .ref aK, .ref aF, .ref aL, .int (nI c), .int isd, .int wd]))]) (wr := [(aO, .inl (cI, 2400, .inl O)), (aM, .inl (cI, 1200, .inl M)), (aZ, .inl (cI, 2, .inl Z))]) (wo := (fun u122 : Unit => [(mo, .inr (5, [.int (nI 0), .ref aO, .ref aT, .ref aM, .ref aZ, .ref aY, .ref aK, .ref aF, .ref aL, .int (nI c), .int isd, .int wd]))])) (wn := (fun u122 : Unit => [(mo, .inr (5, [.int (nI 0), .ref aO, .ref aT, .ref aM, .ref aZ, .ref aY, .ref aK, .ref aF, .ref aL, .int (nI c), .int isd, .int wd])), (aO, .inl (cI, 2400, .inl O)), (aM, .inl (cI, 1200, .inl M)), (aZ, .inl (cI, 2, .inl Z))])) (isC := [0]) (isR := [1, 2, 3]) hP hD hS hA ⟨rfl, rfl, by decide, by decide, by decide⟩ [3, 0, 1, 2] (by decide) (fun _ => rfl) (fun hPc hDc => va_runV (As := [.int (nI 0), .int (nI 1)]) (rest := []) ⟨hx, hb, hml, hown, ht⟩ (m_fails0 Ll D cI cL mo aO aT aM aZ aY aK aF aL er c isd wd 1  H.size) ⟨(callB_of 2 ht g_X5_fails rfl rfl rfl (ht _ iw_136) (ht _ iw_138) hd_X5_fails ⟨Nat.le_of_ble_eq_true rfl, Nat.le_of_ble_eq_true rfl⟩), (ht _ iw_139), (ht _ iw_140)⟩ (ds_pV hPc hDc hK (q0 := 0) rfl rfl) rfl rfl hl.1 rfl (lv_room (Nat.le_of_ble_eq_true rfl)) dX5_move_21 ⟨Nat.le_of_ble_eq_true rfl, Nat.le_of_ble_eq_true rfl⟩) (fun r121 u122 H locs hp123 hP hD hS => ?_)
              have hP : va_P D vwCl [(mo, .inr (5, [.int (nI 0), .ref aO, .ref aT, .ref aM, .ref aZ, .ref aY, .ref aK, .ref aF, .ref aL, .int (nI c), .int isd, .int wd])), (aO, .inl (cI, 2400, .inl O)), (aM, .inl (cI, 1200, .inl M)), (aZ, .inl (cI, 2, .inl Z))] H := hP
              have hD : va_D A [(mo, .inr (5, [.int (nI 0), .ref aO, .ref aT, .ref aM, .ref aZ, .ref aY, .ref aK, .ref aF, .ref aL, .int (nI c), .int isd, .int wd])), (aO, .inl (cI, 2400, .inl O)), (aM, .inl (cI, 1200, .inl M)), (aZ, .inl (cI, 2, .inl Z))] := hD
              have hp123 : r121 = nI 0 := hp123
              replace hp123 := Eq.symm hp123
              subst hp123
              refine lv_if_eq (tgt := 28) hx hb dX5_move_24 (by decide) (fun h => ?_) (fun h => ?_)
              ·
                rw [← nI_0] at h
                have h : 0 = 0 := (nI_eq (a := 0) (b := 0) (by omega) (by omega)).mp h
                by_cases hg : gok y w ln
                ·
                  obtain ⟨p, m, hpm, e8, e9⟩ := gok_nat (by omega) hg
                  subst e8 e9
                  have hl : lv_has ls 7 [(0, .ref mo), (1, .int (nI 1)), (2, .int (nI p)), (3, .int (nI 1)), (4, .int v), (5, .int (nI m))] := hl
                  refine lv_aload_n hx hb dX5_move_28 rfl (lv_at hl 0 rfl) ?_
                  refine lv_aload_n hx hb dX5_move_29 rfl (lv_at hl 0 rfl) ?_
                  refine lv_iload_n hx hb dX5_move_30 rfl (lv_at hl 1 rfl) ?_
                  refine lv_iload_n hx hb dX5_move_31 rfl (lv_at hl 2 rfl) ?_
                  refine lv_iload hx hb dX5_move_32 (lv_at hl 5 rfl) ?_
                  refine ds_calli (wc := [(mo, .inr (5, [.int (nI 0), .ref aO, .ref aT, .ref aM, .ref aZ, .ref aY, .ref aK, .ref aF, .ref aL, .int (nI c), .int isd, .int wd])), (aZ, .inl (cI, 2, .inl Z))]) (wr := [(aO, .inl (cI, 2400, .inl O)), (aM, .inl (cI, 1200, .inl M))]) (wo := (fun u125 : Unit => [(mo, .inr (5, [.int (nI 0), .ref aO, .ref aT, .ref aM, .ref aZ, .ref aY, .ref aK, .ref aF, .ref aL, .int (nI c), .int isd, .int wd])), (aZ, .inl (cI, 2, .inl Z))])) (wn := (fun u125 : Unit => [(mo, .inr (5, [.int (nI 0), .ref aO, .ref aT, .ref aM, .ref aZ, .ref aY, .ref aK, .ref aF, .ref aL, .int (nI c), .int isd, .int wd])), (aO, .inl (cI, 2400, .inl O)), (aM, .inl (cI, 1200, .inl M)), (aZ, .inl (cI, 2, .inl Z))])) (isC := [0, 3]) (isR := [1, 2]) hP hD hS hA ⟨rfl, rfl, by decide, by decide, by decide⟩ [2, 0, 1, 3] (by decide) (fun _ => rfl) (fun hPc hDc => va_runV (As := [.int (nI 1), .int (nI p), .int (nI m)]) (rest := [.ref mo]) ⟨hx, hb, hml, hown, ht⟩ (m_lacks01 Ll D cI cL mo aO aT aM aZ aY aK aF aL (nI 0) c isd wd Z ln p m hZ.2.2.2 (by omega) hpm H.size) ⟨(callB_of 3 ht g_X5_lacks rfl rfl rfl (ht _ iw_136) (ht _ iw_144) hd_X5_lacks ⟨Nat.le_of_ble_eq_true rfl, Nat.le_of_ble_eq_true rfl⟩), (ht _ iw_145), (ht _ iw_146)⟩ (ds_pV hPc hDc hK (q0 := 0) rfl rfl) rfl rfl hl.1 rfl (lv_room (Nat.le_of_ble_eq_true rfl)) dX5_move_34 ⟨Nat.le_of_ble_eq_true rfl, Nat.le_of_ble_eq_true rfl⟩) (fun r124 u125 H locs hp126 hP hD hS => ?_)
                  have hP : va_P D vwCl [(mo, .inr (5, [.int (nI 0), .ref aO, .ref aT, .ref aM, .ref aZ, .ref aY, .ref aK, .ref aF, .ref aL, .int (nI c), .int isd, .int wd])), (aO, .inl (cI, 2400, .inl O)), (aM, .inl (cI, 1200, .inl M)), (aZ, .inl (cI, 2, .inl Z))] H := hP
                  have hD : va_D A [(mo, .inr (5, [.int (nI 0), .ref aO, .ref aT, .ref aM, .ref aZ, .ref aY, .ref aK, .ref aF, .ref aL, .int (nI c), .int isd, .int wd])), (aO, .inl (cI, 2400, .inl O)), (aM, .inl (cI, 1200, .inl M)), (aZ, .inl (cI, 2, .inl Z))] := hD
                  have hp126 : r124 = nI 0 := hp126
                  replace hp126 := Eq.symm hp126
                  subst hp126
                  refine lv_if_ne (tgt := 52) hx hb dX5_move_37 (by decide) (fun h => ?_) (fun h => ?_)
                  ·
                    rw [← nI_0] at h
                    have h : ¬ 0 = 0 := fun z9 => h ((nI_eq (a := 0) (b := 0) (by omega) (by omega)).mpr z9)
                    exact absurd rfl h
                  ·
                    rw [← nI_0] at h
                    have h : 0 = 0 := (nI_eq (a := 0) (b := 0) (by omega) (by omega)).mp h
                    by_cases hg2 : gok v (nI m) ln
                    ·
                      obtain ⟨q, m9, hqm, e8, e9⟩ := gok_nat (by omega) hg2
                      have e7 : m9 = m := by
                        have h31 : m9 < 2 ^ 31 := by omega
                        exact ((nI_eq h31 (by omega)).mp e9.symm)
                      subst e7 e8
                      have hl : lv_has ls 7 [(0, .ref mo), (1, .int (nI 1)), (2, .int (nI p)), (3, .int (nI 1)), (4, .int (nI q)), (5, .int (nI m9))] := hl
                      refine lv_aload_n hx hb dX5_move_40 rfl (lv_at hl 0 rfl) ?_
                      refine lv_iload_n hx hb dX5_move_41 rfl (lv_at hl 3 rfl) ?_
                      refine lv_iload hx hb dX5_move_42 (lv_at hl 4 rfl) ?_
                      refine lv_iload hx hb dX5_move_44 (lv_at hl 5 rfl) ?_
                      refine ds_calli (wc := [(mo, .inr (5, [.int (nI 0), .ref aO, .ref aT, .ref aM, .ref aZ, .ref aY, .ref aK, .ref aF, .ref aL, .int (nI c), .int isd, .int wd])), (aZ, .inl (cI, 2, .inl Z))]) (wr := [(aO, .inl (cI, 2400, .inl O)), (aM, .inl (cI, 1200, .inl M))]) (wo := (fun u128 : Unit => [(mo, .inr (5, [.int (nI 0), .ref aO, .ref aT, .ref aM, .ref aZ, .ref aY, .ref aK, .ref aF, .ref aL, .int (nI c), .int isd, .int wd])), (aZ, .inl (cI, 2, .inl Z))])) (wn := (fun u128 : Unit => [(mo, .inr (5, [.int (nI 0), .ref aO, .ref aT, .ref aM, .ref aZ, .ref aY, .ref aK, .ref aF, .ref aL, .int (nI c), .int isd, .int wd])), (aO, .inl (cI, 2400, .inl O)), (aM, .inl (cI, 1200, .inl M)), (aZ, .inl (cI, 2, .inl Z))])) (isC := [0, 3]) (isR := [1, 2]) hP hD hS hA ⟨rfl, rfl, by decide, by decide, by decide⟩ [2, 0, 1, 3] (by decide) (fun _ => rfl) (fun hPc hDc => va_runV (As := [.int (nI 1), .int (nI q), .int (nI m9)]) (rest := [.ref mo]) ⟨hx, hb, hml, hown, ht⟩ (m_lacks01 Ll D cI cL mo aO aT aM aZ aY aK aF aL (nI 0) c isd wd Z ln q m9 hZ.2.2.2 (by omega) hqm H.size) ⟨(callB_of 3 ht g_X5_lacks rfl rfl rfl (ht _ iw_136) (ht _ iw_144) hd_X5_lacks ⟨Nat.le_of_ble_eq_true rfl, Nat.le_of_ble_eq_true rfl⟩), (ht _ iw_145), (ht _ iw_146)⟩ (ds_pV hPc hDc hK (q0 := 0) rfl rfl) rfl rfl hl.1 rfl (lv_room (Nat.le_of_ble_eq_true rfl)) dX5_move_46 ⟨Nat.le_of_ble_eq_true rfl, Nat.le_of_ble_eq_true rfl⟩) (fun r127 u128 H locs hp129 hP hD hS => ?_)
                      have hP : va_P D vwCl [(mo, .inr (5, [.int (nI 0), .ref aO, .ref aT, .ref aM, .ref aZ, .ref aY, .ref aK, .ref aF, .ref aL, .int (nI c), .int isd, .int wd])), (aO, .inl (cI, 2400, .inl O)), (aM, .inl (cI, 1200, .inl M)), (aZ, .inl (cI, 2, .inl Z))] H := hP
                      have hD : va_D A [(mo, .inr (5, [.int (nI 0), .ref aO, .ref aT, .ref aM, .ref aZ, .ref aY, .ref aK, .ref aF, .ref aL, .int (nI c), .int isd, .int wd])), (aO, .inl (cI, 2400, .inl O)), (aM, .inl (cI, 1200, .inl M)), (aZ, .inl (cI, 2, .inl Z))] := hD
                      have hp129 : r127 = nI 0 := hp129
                      replace hp129 := Eq.symm hp129
                      subst hp129
                      refine lv_if_eq (tgt := 56) hx hb dX5_move_49 (by decide) (fun h => ?_) (fun h => ?_)
                      ·
                        rw [← nI_0] at h
                        have h : 0 = 0 := (nI_eq (a := 0) (b := 0) (by omega) (by omega)).mp h
                        refine lv_iconst (v := nI 0) hx hb dX5_move_56 (by decide +kernel) ?_
                        refine lv_iconst (v := nI 2) hx hb dX5_move_57 (by decide +kernel) ?_
                        refine ds_calli (wc := [(mo, .inr (5, [.int (nI 0), .ref aO, .ref aT, .ref aM, .ref aZ, .ref aY, .ref aK, .ref aF, .ref aL, .int (nI c), .int isd, .int wd]))]) (wr := [(aO, .inl (cI, 2400, .inl O)), (aM, .inl (cI, 1200, .inl M)), (aZ, .inl (cI, 2, .inl Z))]) (wo := (fun u131 : Unit => [(mo, .inr (5, [.int (nI 0), .ref aO, .ref aT, .ref aM, .ref aZ, .ref aY, .ref aK, .ref aF, .ref aL, .int (nI c), .int isd, .int wd]))])) (wn := (fun u131 : Unit => [(mo, .inr (5, [.int (nI 0), .ref aO, .ref aT, .ref aM, .ref aZ, .ref aY, .ref aK, .ref aF, .ref aL, .int (nI c), .int isd, .int wd])), (aO, .inl (cI, 2400, .inl O)), (aM, .inl (cI, 1200, .inl M)), (aZ, .inl (cI, 2, .inl Z))])) (isC := [0]) (isR := [1, 2, 3]) hP hD hS hA ⟨rfl, rfl, by decide, by decide, by decide⟩ [3, 0, 1, 2] (by decide) (fun _ => rfl) (fun hPc hDc => va_runV (As := [.int (nI 0), .int (nI 2)]) (rest := []) ⟨hx, hb, hml, hown, ht⟩ (m_fails0 Ll D cI cL mo aO aT aM aZ aY aK aF aL (nI 0) c isd wd 2  H.size) ⟨(callB_of 2 ht g_X5_fails rfl rfl rfl (ht _ iw_136) (ht _ iw_138) hd_X5_fails ⟨Nat.le_of_ble_eq_true rfl, Nat.le_of_ble_eq_true rfl⟩), (ht _ iw_139), (ht _ iw_140)⟩ (ds_pV hPc hDc hK (q0 := 0) rfl rfl) rfl rfl hl.1 rfl (lv_room (Nat.le_of_ble_eq_true rfl)) dX5_move_58 ⟨Nat.le_of_ble_eq_true rfl, Nat.le_of_ble_eq_true rfl⟩) (fun r130 u131 H locs hp132 hP hD hS => ?_)
                        have hP : va_P D vwCl [(mo, .inr (5, [.int (nI 0), .ref aO, .ref aT, .ref aM, .ref aZ, .ref aY, .ref aK, .ref aF, .ref aL, .int (nI c), .int isd, .int wd])), (aO, .inl (cI, 2400, .inl O)), (aM, .inl (cI, 1200, .inl M)), (aZ, .inl (cI, 2, .inl Z))] H := hP
                        have hD : va_D A [(mo, .inr (5, [.int (nI 0), .ref aO, .ref aT, .ref aM, .ref aZ, .ref aY, .ref aK, .ref aF, .ref aL, .int (nI c), .int isd, .int wd])), (aO, .inl (cI, 2400, .inl O)), (aM, .inl (cI, 1200, .inl M)), (aZ, .inl (cI, 2, .inl Z))] := hD
                        have hp132 : r130 = nI 0 := hp132
                        replace hp132 := Eq.symm hp132
                        subst hp132
                        refine lv_if_eq (tgt := 65) hx hb dX5_move_61 (by decide) (fun h => ?_) (fun h => ?_)
                        ·
                          rw [← nI_0] at h
                          have h : 0 = 0 := (nI_eq (a := 0) (b := 0) (by omega) (by omega)).mp h
                          refine lv_iconst (v := nI 0) hx hb dX5_move_65 (by decide +kernel) ?_
                          refine lv_istore (lv' := [(6, .int (nI 0)), (0, .ref mo), (1, .int (nI 1)), (2, .int (nI p)), (3, .int (nI 1)), (4, .int (nI q)), (5, .int (nI m9))]) hx hb dX5_move_66 hl (Nat.le_of_ble_eq_true rfl) rfl (fun ls hl => ?_)
                          have hP : va_P D vwCl [(mo, .inr (5, [.int (nI 0), .ref aO, .ref aT, .ref aM, .ref aZ, .ref aY, .ref aK, .ref aF, .ref aL, .int (nI c), .int isd, .int wd])), (aO, .inl (cI, 2400, .inl O)), (aM, .inl (cI, 1200, .inl (va_cpy O M (1200 + p) 0 0))), (aZ, .inl (cI, 2, .inl Z))] H := by rw [cpy_0]; exact hP
                          have hD : va_D A [(mo, .inr (5, [.int (nI 0), .ref aO, .ref aT, .ref aM, .ref aZ, .ref aY, .ref aK, .ref aF, .ref aL, .int (nI c), .int isd, .int wd])), (aO, .inl (cI, 2400, .inl O)), (aM, .inl (cI, 1200, .inl (va_cpy O M (1200 + p) 0 0))), (aZ, .inl (cI, 2, .inl Z))] := by rw [cpy_0]; exact hD
                          have loop133 : ∀ (k134 : Nat) (i : Nat) (H : Heap) (locs : List Loc) (ls : Array Slot), (i ≤ m9) → m9 - i < k134 → va_P D vwCl [(mo, .inr (5, [.int (nI 0), .ref aO, .ref aT, .ref aM, .ref aZ, .ref aY, .ref aK, .ref aF, .ref aL, .int (nI c), .int isd, .int wd])), (aO, .inl (cI, 2400, .inl O)), (aM, .inl (cI, 1200, .inl (va_cpy O M (1200 + p) 0 i))), (aZ, .inl (cI, 2, .inl Z))] H → va_D A [(mo, .inr (5, [.int (nI 0), .ref aO, .ref aT, .ref aM, .ref aZ, .ref aY, .ref aK, .ref aF, .ref aL, .int (nI c), .int isd, .int wd])), (aO, .inl (cI, 2400, .inl O)), (aM, .inl (cI, 1200, .inl (va_cpy O M (1200 + p) 0 i))), (aZ, .inl (cI, 2, .inl Z))] → va_S A Ss.heap H locs → lv_has ls 7 [(0, .ref mo), (1, .int (nI 1)), (2, .int (nI p)), (3, .int (nI 1)), (4, .int (nI q)), (5, .int (nI m9)), (6, .int (nI i))] → W Pp Ll Ee { frames := 1, cells := 0, slots := 0, locals := 23 } Ss Mm Aa Bb Me Cc H locs 0 0 (MQ Bb (ds_Qv D (fun (u : Int32 × (Nat → Int32) × (Nat → Int32)) => u.1 = e_move (nI 1) (nI p) (nI 1) (nI q) (nI m9) lo ln ∧ mQ (n_move (nI 1) (nI p) (nI 1) (nI q) (nI m9) (lo, fo, ln, fn)) u.2.1 Z) (fun u : Int32 × (Nat → Int32) × (Nat → Int32) => [(mo, .inr (5, [.int u.1, .ref aO, .ref aT, .ref aM, .ref aZ, .ref aY, .ref aK, .ref aF, .ref aL, .int (nI c), .int isd, .int wd])), (aO, .inl (cI, 2400, .inl u.2.1)), (aM, .inl (cI, 1200, .inl u.2.2)), (aZ, .inl (cI, 2, .inl Z))]) A) Aa Ss 0 0 A) (F0 Mm 68 ls []) := by
                            intro k134
                            induction k134 with
                            | zero => intro i H locs ls hi hm136; exact absurd hm136 (Nat.not_lt_zero _)
                            | succ k134 ih135 =>
                              intro i H locs ls hi hm136 hP hD hS hl
                              refine lv_iload hx hb dX5_move_68 (lv_at hl 6 rfl) ?_
                              refine lv_iload hx hb dX5_move_70 (lv_at hl 5 rfl) ?_
                              refine lv_icmp_ge (tgt := 103) hx hb dX5_move_72 (by decide) (fun h => ?_) (fun h => ?_)
                              ·
                                have h : m9 ≤ i := (nI_leI (a := m9) (b := i) (by omega) (by omega)).mp h
                                have e9 : m9 = i := (by omega)
                                subst e9
                                refine lv_iconst (v := nI 0) hx hb dX5_move_103 (by decide +kernel) ?_
                                refine lv_istore (lv' := [(6, .int (nI 0)), (0, .ref mo), (1, .int (nI 1)), (2, .int (nI p)), (3, .int (nI 1)), (4, .int (nI q)), (5, .int (nI m9))]) hx hb dX5_move_104 hl (Nat.le_of_ble_eq_true rfl) rfl (fun ls hl => ?_)
                                have hP : va_P D vwCl [(mo, .inr (5, [.int (nI 0), .ref aO, .ref aT, .ref aM, .ref aZ, .ref aY, .ref aK, .ref aF, .ref aL, .int (nI c), .int isd, .int wd])), (aO, .inl (cI, 2400, .inl (va_cpy (va_cpy O M (1200 + p) 0 m9) O 0 (1200 + q) 0))), (aM, .inl (cI, 1200, .inl (va_cpy O M (1200 + p) 0 m9))), (aZ, .inl (cI, 2, .inl Z))] H := by rw [cpy_0 (f := va_cpy O M (1200 + p) 0 m9)]; exact hP
                                have hD : va_D A [(mo, .inr (5, [.int (nI 0), .ref aO, .ref aT, .ref aM, .ref aZ, .ref aY, .ref aK, .ref aF, .ref aL, .int (nI c), .int isd, .int wd])), (aO, .inl (cI, 2400, .inl (va_cpy (va_cpy O M (1200 + p) 0 m9) O 0 (1200 + q) 0))), (aM, .inl (cI, 1200, .inl (va_cpy O M (1200 + p) 0 m9))), (aZ, .inl (cI, 2, .inl Z))] := by rw [cpy_0 (f := va_cpy O M (1200 + p) 0 m9)]; exact hD
                                have loop137 : ∀ (k138 : Nat) (i : Nat) (H : Heap) (locs : List Loc) (ls : Array Slot), (i ≤ m9) → m9 - i < k138 → va_P D vwCl [(mo, .inr (5, [.int (nI 0), .ref aO, .ref aT, .ref aM, .ref aZ, .ref aY, .ref aK, .ref aF, .ref aL, .int (nI c), .int isd, .int wd])), (aO, .inl (cI, 2400, .inl (va_cpy (va_cpy O M (1200 + p) 0 m9) O 0 (1200 + q) i))), (aM, .inl (cI, 1200, .inl (va_cpy O M (1200 + p) 0 m9))), (aZ, .inl (cI, 2, .inl Z))] H → va_D A [(mo, .inr (5, [.int (nI 0), .ref aO, .ref aT, .ref aM, .ref aZ, .ref aY, .ref aK, .ref aF, .ref aL, .int (nI c), .int isd, .int wd])), (aO, .inl (cI, 2400, .inl (va_cpy (va_cpy O M (1200 + p) 0 m9) O 0 (1200 + q) i))), (aM, .inl (cI, 1200, .inl (va_cpy O M (1200 + p) 0 m9))), (aZ, .inl (cI, 2, .inl Z))] → va_S A Ss.heap H locs → lv_has ls 7 [(0, .ref mo), (1, .int (nI 1)), (2, .int (nI p)), (3, .int (nI 1)), (4, .int (nI q)), (5, .int (nI m9)), (6, .int (nI i))] → W Pp Ll Ee { frames := 1, cells := 0, slots := 0, locals := 23 } Ss Mm Aa Bb Me Cc H locs 0 0 (MQ Bb (ds_Qv D (fun (u : Int32 × (Nat → Int32) × (Nat → Int32)) => u.1 = e_move (nI 1) (nI p) (nI 1) (nI q) (nI m9) lo ln ∧ mQ (n_move (nI 1) (nI p) (nI 1) (nI q) (nI m9) (lo, fo, ln, fn)) u.2.1 Z) (fun u : Int32 × (Nat → Int32) × (Nat → Int32) => [(mo, .inr (5, [.int u.1, .ref aO, .ref aT, .ref aM, .ref aZ, .ref aY, .ref aK, .ref aF, .ref aL, .int (nI c), .int isd, .int wd])), (aO, .inl (cI, 2400, .inl u.2.1)), (aM, .inl (cI, 1200, .inl u.2.2)), (aZ, .inl (cI, 2, .inl Z))]) A) Aa Ss 0 0 A) (F0 Mm 106 ls []) := by
                                  intro k138
                                  induction k138 with
                                  | zero => intro i H locs ls hi hm140; exact absurd hm140 (Nat.not_lt_zero _)
                                  | succ k138 ih139 =>
                                    intro i H locs ls hi hm140 hP hD hS hl
                                    refine lv_iload hx hb dX5_move_106 (lv_at hl 6 rfl) ?_
                                    refine lv_iload hx hb dX5_move_108 (lv_at hl 5 rfl) ?_
                                    refine lv_icmp_ge (tgt := 142) hx hb dX5_move_110 (by decide) (fun h => ?_) (fun h => ?_)
                                    ·
                                      have h : m9 ≤ i := (nI_leI (a := m9) (b := i) (by omega) (by omega)).mp h
                                      have e9 : m9 = i := (by omega)
                                      subst e9
                                      exact ds_vret hx hb hr hlk (nI 0, va_cpy (va_cpy O M (1200 + p) 0 m9) O 0 (1200 + q) m9, va_cpy O M (1200 + p) 0 m9) ⟨(n_move_ok1 hZ.1 hZ.2.1 hro (by rw [rsel_1]; exact hpm) hqm (fo := fo) (fn := fn)).2.symm, mQ_move11 hpm hqm hR⟩ hP hD hS (Nat.le_of_ble_eq_true rfl) (Nat.le_of_ble_eq_true rfl) dX5_move_142
                                    ·
                                      have h : ¬ m9 ≤ i := fun z9 => h ((nI_leI (a := m9) (b := i) (by omega) (by omega)).mpr z9)
                                      refine lv_aload_n hx hb dX5_move_113 rfl (lv_at hl 0 rfl) ?_
                                      refine va_get (D := D) (ci := 5) (v := .ref aO) (C := RX5) (T := TX5) (N := 12) hx hb ht inA_X5 hown hK.1 hP 0 rfl rfl 1 (by decide) (ht _ iw_122) (fun _ h9 => h9) rfl dX5_move_114 ?_
                                      refine lv_sipush (v := nI 1200) hx hb dX5_move_117 (by decide +kernel) ?_
                                      refine lv_iload_n hx hb dX5_move_120 rfl (lv_at hl 3 rfl) ?_
                                      refine lv_imul hx hb dX5_move_121 ?_
                                      refine ds_top (z := nI (1200 * 1)) (pk_mul _ _) ?_
                                      refine lv_iload hx hb dX5_move_122 (lv_at hl 4 rfl) ?_
                                      refine lv_iadd hx hb dX5_move_124 ?_
                                      refine ds_top (z := nI ((1200 * 1) + q)) (nI_add _ _) ?_
                                      refine lv_iload hx hb dX5_move_125 (lv_at hl 6 rfl) ?_
                                      refine lv_iadd hx hb dX5_move_127 ?_
                                      refine ds_top (z := nI (((1200 * 1) + q) + i)) (nI_add _ _) ?_
                                      refine ds_top (z := nI ((1200 + q) + i)) (congrArg nI (by omega)) ?_
                                      refine lv_aload_n hx hb dX5_move_128 rfl (lv_at hl 0 rfl) ?_
                                      refine va_get (D := D) (ci := 5) (v := .ref aM) (C := RX5) (T := TX5) (N := 12) hx hb ht inA_X5 hown hK.1 hP 0 rfl rfl 3 (by decide) (ht _ iw_124) (fun _ h9 => h9) rfl dX5_move_129 ?_
                                      refine lv_iload hx hb dX5_move_132 (lv_at hl 6 rfl) ?_
                                      refine ds_iald (k := i) hx hb hK hP 2 rfl (by omega) (by omega) dX5_move_134 ?_
                                      refine ds_iast (k := (1200 + q) + i) hx hb hK hP hD hS 1 rfl (by omega) (by omega) dX5_move_135 (fun H locs hP hD hS => ?_)
                                      have hP : va_P D vwCl [(mo, .inr (5, [.int (nI 0), .ref aO, .ref aT, .ref aM, .ref aZ, .ref aY, .ref aK, .ref aF, .ref aL, .int (nI c), .int isd, .int wd])), (aO, .inl (cI, 2400, .inl (upd (va_cpy (va_cpy O M (1200 + p) 0 m9) O 0 (1200 + q) i) ((1200 + q) + i) ((va_cpy O M (1200 + p) 0 m9) i)))), (aM, .inl (cI, 1200, .inl (va_cpy O M (1200 + p) 0 m9))), (aZ, .inl (cI, 2, .inl Z))] H := hP
                                      have hD : va_D A [(mo, .inr (5, [.int (nI 0), .ref aO, .ref aT, .ref aM, .ref aZ, .ref aY, .ref aK, .ref aF, .ref aL, .int (nI c), .int isd, .int wd])), (aO, .inl (cI, 2400, .inl (upd (va_cpy (va_cpy O M (1200 + p) 0 m9) O 0 (1200 + q) i) ((1200 + q) + i) ((va_cpy O M (1200 + p) 0 m9) i)))), (aM, .inl (cI, 1200, .inl (va_cpy O M (1200 + p) 0 m9))), (aZ, .inl (cI, 2, .inl Z))] := hD
                                      refine lv_iinc (k := 6) (v := nI (i + 1)) (lv' := [(6, .int (nI (i + 1))), (0, .ref mo), (1, .int (nI 1)), (2, .int (nI p)), (3, .int (nI 1)), (4, .int (nI q)), (5, .int (nI m9))]) hx hb dX5_move_136 hl rfl (by rw [nI_succ]; rfl) (Nat.le_of_ble_eq_true rfl) rfl (fun ls hl => ?_)
                                      refine lv_goto (tgt := 106) hx hb dX5_move_139 (by decide) ?_
                                      have hP : va_P D vwCl [(mo, .inr (5, [.int (nI 0), .ref aO, .ref aT, .ref aM, .ref aZ, .ref aY, .ref aK, .ref aF, .ref aL, .int (nI c), .int isd, .int wd])), (aO, .inl (cI, 2400, .inl (va_cpy (va_cpy O M (1200 + p) 0 m9) O 0 (1200 + q) (i + 1)))), (aM, .inl (cI, 1200, .inl (va_cpy O M (1200 + p) 0 m9))), (aZ, .inl (cI, 2, .inl Z))] H := by rw [cpy_s (f := va_cpy O M (1200 + p) 0 m9), Nat.zero_add]; exact hP
                                      have hD : va_D A [(mo, .inr (5, [.int (nI 0), .ref aO, .ref aT, .ref aM, .ref aZ, .ref aY, .ref aK, .ref aF, .ref aL, .int (nI c), .int isd, .int wd])), (aO, .inl (cI, 2400, .inl (va_cpy (va_cpy O M (1200 + p) 0 m9) O 0 (1200 + q) (i + 1)))), (aM, .inl (cI, 1200, .inl (va_cpy O M (1200 + p) 0 m9))), (aZ, .inl (cI, 2, .inl Z))] := by rw [cpy_s (f := va_cpy O M (1200 + p) 0 m9), Nat.zero_add]; exact hD
                                      exact ih139 (i + 1) H locs ls (by omega) (by omega) hP hD hS (lv_sub hl [1, 2, 3, 4, 5, 6, 0] rfl)
                                exact loop137 _ 0 H locs ls (Nat.zero_le _) (Nat.lt_succ_self _) hP hD hS (lv_sub hl [1, 2, 3, 4, 5, 6, 0] rfl)
                              ·
                                have h : ¬ m9 ≤ i := fun z9 => h ((nI_leI (a := m9) (b := i) (by omega) (by omega)).mpr z9)
                                refine lv_aload_n hx hb dX5_move_75 rfl (lv_at hl 0 rfl) ?_
                                refine va_get (D := D) (ci := 5) (v := .ref aM) (C := RX5) (T := TX5) (N := 12) hx hb ht inA_X5 hown hK.1 hP 0 rfl rfl 3 (by decide) (ht _ iw_124) (fun _ h9 => h9) rfl dX5_move_76 ?_
                                refine lv_iload hx hb dX5_move_79 (lv_at hl 6 rfl) ?_
                                refine lv_aload_n hx hb dX5_move_81 rfl (lv_at hl 0 rfl) ?_
                                refine va_get (D := D) (ci := 5) (v := .ref aO) (C := RX5) (T := TX5) (N := 12) hx hb ht inA_X5 hown hK.1 hP 0 rfl rfl 1 (by decide) (ht _ iw_122) (fun _ h9 => h9) rfl dX5_move_82 ?_
                                refine lv_sipush (v := nI 1200) hx hb dX5_move_85 (by decide +kernel) ?_
                                refine lv_iload_n hx hb dX5_move_88 rfl (lv_at hl 1 rfl) ?_
                                refine lv_imul hx hb dX5_move_89 ?_
                                refine ds_top (z := nI (1200 * 1)) (pk_mul _ _) ?_
                                refine lv_iload_n hx hb dX5_move_90 rfl (lv_at hl 2 rfl) ?_
                                refine lv_iadd hx hb dX5_move_91 ?_
                                refine ds_top (z := nI ((1200 * 1) + p)) (nI_add _ _) ?_
                                refine lv_iload hx hb dX5_move_92 (lv_at hl 6 rfl) ?_
                                refine lv_iadd hx hb dX5_move_94 ?_
                                refine ds_top (z := nI (((1200 * 1) + p) + i)) (nI_add _ _) ?_
                                refine ds_top (z := nI ((1200 + p) + i)) (congrArg nI (by omega)) ?_
                                refine ds_iald (k := (1200 + p) + i) hx hb hK hP 1 rfl (by omega) (by omega) dX5_move_95 ?_
                                refine ds_iast (k := i) hx hb hK hP hD hS 2 rfl (by omega) (by omega) dX5_move_96 (fun H locs hP hD hS => ?_)
                                have hP : va_P D vwCl [(mo, .inr (5, [.int (nI 0), .ref aO, .ref aT, .ref aM, .ref aZ, .ref aY, .ref aK, .ref aF, .ref aL, .int (nI c), .int isd, .int wd])), (aO, .inl (cI, 2400, .inl O)), (aM, .inl (cI, 1200, .inl (upd (va_cpy O M (1200 + p) 0 i) i (O ((1200 + p) + i))))), (aZ, .inl (cI, 2, .inl Z))] H := hP
                                have hD : va_D A [(mo, .inr (5, [.int (nI 0), .ref aO, .ref aT, .ref aM, .ref aZ, .ref aY, .ref aK, .ref aF, .ref aL, .int (nI c), .int isd, .int wd])), (aO, .inl (cI, 2400, .inl O)), (aM, .inl (cI, 1200, .inl (upd (va_cpy O M (1200 + p) 0 i) i (O ((1200 + p) + i))))), (aZ, .inl (cI, 2, .inl Z))] := hD
                                refine lv_iinc (k := 6) (v := nI (i + 1)) (lv' := [(6, .int (nI (i + 1))), (0, .ref mo), (1, .int (nI 1)), (2, .int (nI p)), (3, .int (nI 1)), (4, .int (nI q)), (5, .int (nI m9))]) hx hb dX5_move_97 hl rfl (by rw [nI_succ]; rfl) (Nat.le_of_ble_eq_true rfl) rfl (fun ls hl => ?_)
                                refine lv_goto (tgt := 68) hx hb dX5_move_100 (by decide) ?_
                                have hP : va_P D vwCl [(mo, .inr (5, [.int (nI 0), .ref aO, .ref aT, .ref aM, .ref aZ, .ref aY, .ref aK, .ref aF, .ref aL, .int (nI c), .int isd, .int wd])), (aO, .inl (cI, 2400, .inl O)), (aM, .inl (cI, 1200, .inl (va_cpy O M (1200 + p) 0 (i + 1)))), (aZ, .inl (cI, 2, .inl Z))] H := by rw [cpy_s, Nat.zero_add]; exact hP
                                have hD : va_D A [(mo, .inr (5, [.int (nI 0), .ref aO, .ref aT, .ref aM, .ref aZ, .ref aY, .ref aK, .ref aF, .ref aL, .int (nI c), .int isd, .int wd])), (aO, .inl (cI, 2400, .inl O)), (aM, .inl (cI, 1200, .inl (va_cpy O M (1200 + p) 0 (i + 1)))), (aZ, .inl (cI, 2, .inl Z))] := by rw [cpy_s, Nat.zero_add]; exact hD
                                exact ih135 (i + 1) H locs ls (by omega) (by omega) hP hD hS (lv_sub hl [1, 2, 3, 4, 5, 6, 0] rfl)
                          exact loop133 _ 0 H locs ls (Nat.zero_le _) (Nat.lt_succ_self _) hP hD hS (lv_sub hl [1, 2, 3, 4, 5, 6, 0] rfl)
                        ·
                          rw [← nI_0] at h
                          have h : ¬ 0 = 0 := fun z9 => h ((nI_eq (a := 0) (b := 0) (by omega) (by omega)).mpr z9)
                          exact absurd rfl h
                      ·
                        rw [← nI_0] at h
                        have h : ¬ 0 = 0 := fun z9 => h ((nI_eq (a := 0) (b := 0) (by omega) (by omega)).mpr z9)
                        exact absurd rfl h
                    ·
                      refine lv_aload_n hx hb dX5_move_40 rfl (lv_at hl 0 rfl) ?_
                      refine lv_iload_n hx hb dX5_move_41 rfl (lv_at hl 3 rfl) ?_
                      refine lv_iload hx hb dX5_move_42 (lv_at hl 4 rfl) ?_
                      refine lv_iload hx hb dX5_move_44 (lv_at hl 5 rfl) ?_
                      refine ds_calli (wc := [(mo, .inr (5, [.int (nI 0), .ref aO, .ref aT, .ref aM, .ref aZ, .ref aY, .ref aK, .ref aF, .ref aL, .int (nI c), .int isd, .int wd])), (aZ, .inl (cI, 2, .inl Z))]) (wr := [(aO, .inl (cI, 2400, .inl O)), (aM, .inl (cI, 1200, .inl M))]) (wo := (fun u142 : Unit => [(mo, .inr (5, [.int (nI 0), .ref aO, .ref aT, .ref aM, .ref aZ, .ref aY, .ref aK, .ref aF, .ref aL, .int (nI c), .int isd, .int wd])), (aZ, .inl (cI, 2, .inl Z))])) (wn := (fun u142 : Unit => [(mo, .inr (5, [.int (nI 0), .ref aO, .ref aT, .ref aM, .ref aZ, .ref aY, .ref aK, .ref aF, .ref aL, .int (nI c), .int isd, .int wd])), (aO, .inl (cI, 2400, .inl O)), (aM, .inl (cI, 1200, .inl M)), (aZ, .inl (cI, 2, .inl Z))])) (isC := [0, 3]) (isR := [1, 2]) hP hD hS hA ⟨rfl, rfl, by decide, by decide, by decide⟩ [2, 0, 1, 3] (by decide) (fun _ => rfl) (fun hPc hDc => va_runV (As := [.int (nI 1), .int v, .int (nI m)]) (rest := [.ref mo]) ⟨hx, hb, hml, hown, ht⟩ (m_lacks11 Ll D cI cL mo aO aT aM aZ aY aK aF aL (nI 0) c isd wd Z ln v (nI m) hZ.2.2.2 (by omega) (Classical.not_not.mp hg2) H.size) ⟨(callB_of 3 ht g_X5_lacks rfl rfl rfl (ht _ iw_136) (ht _ iw_144) hd_X5_lacks ⟨Nat.le_of_ble_eq_true rfl, Nat.le_of_ble_eq_true rfl⟩), (ht _ iw_145), (ht _ iw_146)⟩ (ds_pV hPc hDc hK (q0 := 0) rfl rfl) rfl rfl hl.1 rfl (lv_room (Nat.le_of_ble_eq_true rfl)) dX5_move_46 ⟨Nat.le_of_ble_eq_true rfl, Nat.le_of_ble_eq_true rfl⟩) (fun r141 u142 H locs hp143 hP hD hS => ?_)
                      have hP : va_P D vwCl [(mo, .inr (5, [.int (nI 0), .ref aO, .ref aT, .ref aM, .ref aZ, .ref aY, .ref aK, .ref aF, .ref aL, .int (nI c), .int isd, .int wd])), (aO, .inl (cI, 2400, .inl O)), (aM, .inl (cI, 1200, .inl M)), (aZ, .inl (cI, 2, .inl Z))] H := hP
                      have hD : va_D A [(mo, .inr (5, [.int (nI 0), .ref aO, .ref aT, .ref aM, .ref aZ, .ref aY, .ref aK, .ref aF, .ref aL, .int (nI c), .int isd, .int wd])), (aO, .inl (cI, 2400, .inl O)), (aM, .inl (cI, 1200, .inl M)), (aZ, .inl (cI, 2, .inl Z))] := hD
                      have hp143 : r141 = nI 1 := hp143
                      replace hp143 := Eq.symm hp143
                      subst hp143
                      refine lv_if_eq (tgt := 56) hx hb dX5_move_49 (by decide) (fun h => ?_) (fun h => ?_)
                      ·
                        rw [← nI_0] at h
                        have h : 1 = 0 := (nI_eq (a := 1) (b := 0) (by omega) (by omega)).mp h
                        exact absurd h (by decide)
                      ·
                        rw [← nI_0] at h
                        have h : ¬ 1 = 0 := fun z9 => h ((nI_eq (a := 1) (b := 0) (by omega) (by omega)).mpr z9)
                        refine lv_iconst (v := nI 1) hx hb dX5_move_52 (by decide +kernel) ?_
                        refine lv_goto (tgt := 57) hx hb dX5_move_53 (by decide) ?_
                        refine lv_iconst (v := nI 2) hx hb dX5_move_57 (by decide +kernel) ?_
                        refine ds_calli (wc := [(mo, .inr (5, [.int (nI 0), .ref aO, .ref aT, .ref aM, .ref aZ, .ref aY, .ref aK, .ref aF, .ref aL, .int (nI c), .int isd, .int wd]))]) (wr := [(aO, .inl (cI, 2400, .inl O)), (aM, .inl (cI, 1200, .inl M)), (aZ, .inl (cI, 2, .inl Z))]) (wo := (fun u145 : Unit => [(mo, .inr (5, [.int (nI 2), .ref aO, .ref aT, .ref aM, .ref aZ, .ref aY, .ref aK, .ref aF, .ref aL, .int (nI c), .int isd, .int wd]))])) (wn := (fun u145 : Unit => [(mo, .inr (5, [.int (nI 2), .ref aO, .ref aT, .ref aM, .ref aZ, .ref aY, .ref aK, .ref aF, .ref aL, .int (nI c), .int isd, .int wd])), (aO, .inl (cI, 2400, .inl O)), (aM, .inl (cI, 1200, .inl M)), (aZ, .inl (cI, 2, .inl Z))])) (isC := [0]) (isR := [1, 2, 3]) hP hD hS hA ⟨rfl, rfl, by decide, by decide, by decide⟩ [3, 0, 1, 2] (by decide) (fun _ => rfl) (fun hPc hDc => va_runV (As := [.int (nI 1), .int (nI 2)]) (rest := []) ⟨hx, hb, hml, hown, ht⟩ (m_fails1 Ll D cI cL mo aO aT aM aZ aY aK aF aL (nI 0) c isd wd 2  H.size) ⟨(callB_of 2 ht g_X5_fails rfl rfl rfl (ht _ iw_136) (ht _ iw_138) hd_X5_fails ⟨Nat.le_of_ble_eq_true rfl, Nat.le_of_ble_eq_true rfl⟩), (ht _ iw_139), (ht _ iw_140)⟩ (ds_pV hPc hDc hK (q0 := 0) rfl rfl) rfl rfl hl.1 rfl (lv_room (Nat.le_of_ble_eq_true rfl)) dX5_move_58 ⟨Nat.le_of_ble_eq_true rfl, Nat.le_of_ble_eq_true rfl⟩) (fun r144 u145 H locs hp146 hP hD hS => ?_)
                        have hP : va_P D vwCl [(mo, .inr (5, [.int (nI 2), .ref aO, .ref aT, .ref aM, .ref aZ, .ref aY, .ref aK, .ref aF, .ref aL, .int (nI c), .int isd, .int wd])), (aO, .inl (cI, 2400, .inl O)), (aM, .inl (cI, 1200, .inl M)), (aZ, .inl (cI, 2, .inl Z))] H := hP
                        have hD : va_D A [(mo, .inr (5, [.int (nI 2), .ref aO, .ref aT, .ref aM, .ref aZ, .ref aY, .ref aK, .ref aF, .ref aL, .int (nI c), .int isd, .int wd])), (aO, .inl (cI, 2400, .inl O)), (aM, .inl (cI, 1200, .inl M)), (aZ, .inl (cI, 2, .inl Z))] := hD
                        have hp146 : r144 = nI 1 := hp146
                        replace hp146 := Eq.symm hp146
                        subst hp146
                        refine lv_if_eq (tgt := 65) hx hb dX5_move_61 (by decide) (fun h => ?_) (fun h => ?_)
                        ·
                          rw [← nI_0] at h
                          have h : 1 = 0 := (nI_eq (a := 1) (b := 0) (by omega) (by omega)).mp h
                          exact absurd h (by decide)
                        ·
                          rw [← nI_0] at h
                          have h : ¬ 1 = 0 := fun z9 => h ((nI_eq (a := 1) (b := 0) (by omega) (by omega)).mpr z9)
                          exact ds_vret hx hb hr hlk (nI 2, O, M) ⟨(e_move_x ⟨hro, hro2⟩ (by rw [rsel_1]; exact fun z9 => hg2 z9.2)).symm, by rw [n_move_x (t := (lo, fo, ln, fn)) (fun z9 => absurd (z9.symm.trans (e_move_x ⟨hro, hro2⟩ (by rw [rsel_1]; exact fun z9 => hg2 z9.2))) (by decide))]; exact hR⟩ hP hD hS (Nat.le_of_ble_eq_true rfl) (Nat.le_of_ble_eq_true rfl) dX5_move_64
                ·
                  refine lv_aload_n hx hb dX5_move_28 rfl (lv_at hl 0 rfl) ?_
                  refine lv_aload_n hx hb dX5_move_29 rfl (lv_at hl 0 rfl) ?_
                  refine lv_iload_n hx hb dX5_move_30 rfl (lv_at hl 1 rfl) ?_
                  refine lv_iload_n hx hb dX5_move_31 rfl (lv_at hl 2 rfl) ?_
                  refine lv_iload hx hb dX5_move_32 (lv_at hl 5 rfl) ?_
                  refine ds_calli (wc := [(mo, .inr (5, [.int (nI 0), .ref aO, .ref aT, .ref aM, .ref aZ, .ref aY, .ref aK, .ref aF, .ref aL, .int (nI c), .int isd, .int wd])), (aZ, .inl (cI, 2, .inl Z))]) (wr := [(aO, .inl (cI, 2400, .inl O)), (aM, .inl (cI, 1200, .inl M))]) (wo := (fun u148 : Unit => [(mo, .inr (5, [.int (nI 0), .ref aO, .ref aT, .ref aM, .ref aZ, .ref aY, .ref aK, .ref aF, .ref aL, .int (nI c), .int isd, .int wd])), (aZ, .inl (cI, 2, .inl Z))])) (wn := (fun u148 : Unit => [(mo, .inr (5, [.int (nI 0), .ref aO, .ref aT, .ref aM, .ref aZ, .ref aY, .ref aK, .ref aF, .ref aL, .int (nI c), .int isd, .int wd])), (aO, .inl (cI, 2400, .inl O)), (aM, .inl (cI, 1200, .inl M)), (aZ, .inl (cI, 2, .inl Z))])) (isC := [0, 3]) (isR := [1, 2]) hP hD hS hA ⟨rfl, rfl, by decide, by decide, by decide⟩ [2, 0, 1, 3] (by decide) (fun _ => rfl) (fun hPc hDc => va_runV (As := [.int (nI 1), .int y, .int w]) (rest := [.ref mo]) ⟨hx, hb, hml, hown, ht⟩ (m_lacks11 Ll D cI cL mo aO aT aM aZ aY aK aF aL (nI 0) c isd wd Z ln y w hZ.2.2.2 (by omega) (Classical.not_not.mp hg) H.size) ⟨(callB_of 3 ht g_X5_lacks rfl rfl rfl (ht _ iw_136) (ht _ iw_144) hd_X5_lacks ⟨Nat.le_of_ble_eq_true rfl, Nat.le_of_ble_eq_true rfl⟩), (ht _ iw_145), (ht _ iw_146)⟩ (ds_pV hPc hDc hK (q0 := 0) rfl rfl) rfl rfl hl.1 rfl (lv_room (Nat.le_of_ble_eq_true rfl)) dX5_move_34 ⟨Nat.le_of_ble_eq_true rfl, Nat.le_of_ble_eq_true rfl⟩) (fun r147 u148 H locs hp149 hP hD hS => ?_)
                  have hP : va_P D vwCl [(mo, .inr (5, [.int (nI 0), .ref aO, .ref aT, .ref aM, .ref aZ, .ref aY, .ref aK, .ref aF, .ref aL, .int (nI c), .int isd, .int wd])), (aO, .inl (cI, 2400, .inl O)), (aM, .inl (cI, 1200, .inl M)), (aZ, .inl (cI, 2, .inl Z))] H := hP
                  have hD : va_D A [(mo, .inr (5, [.int (nI 0), .ref aO, .ref aT, .ref aM, .ref aZ, .ref aY, .ref aK, .ref aF, .ref aL, .int (nI c), .int isd, .int wd])), (aO, .inl (cI, 2400, .inl O)), (aM, .inl (cI, 1200, .inl M)), (aZ, .inl (cI, 2, .inl Z))] := hD
                  have hp149 : r147 = nI 1 := hp149
                  replace hp149 := Eq.symm hp149
                  subst hp149
                  refine lv_if_ne (tgt := 52) hx hb dX5_move_37 (by decide) (fun h => ?_) (fun h => ?_)
                  ·
                    rw [← nI_0] at h
                    have h : ¬ 1 = 0 := fun z9 => h ((nI_eq (a := 1) (b := 0) (by omega) (by omega)).mpr z9)
                    refine lv_iconst (v := nI 1) hx hb dX5_move_52 (by decide +kernel) ?_
                    refine lv_goto (tgt := 57) hx hb dX5_move_53 (by decide) ?_
                    refine lv_iconst (v := nI 2) hx hb dX5_move_57 (by decide +kernel) ?_
                    refine ds_calli (wc := [(mo, .inr (5, [.int (nI 0), .ref aO, .ref aT, .ref aM, .ref aZ, .ref aY, .ref aK, .ref aF, .ref aL, .int (nI c), .int isd, .int wd]))]) (wr := [(aO, .inl (cI, 2400, .inl O)), (aM, .inl (cI, 1200, .inl M)), (aZ, .inl (cI, 2, .inl Z))]) (wo := (fun u151 : Unit => [(mo, .inr (5, [.int (nI 2), .ref aO, .ref aT, .ref aM, .ref aZ, .ref aY, .ref aK, .ref aF, .ref aL, .int (nI c), .int isd, .int wd]))])) (wn := (fun u151 : Unit => [(mo, .inr (5, [.int (nI 2), .ref aO, .ref aT, .ref aM, .ref aZ, .ref aY, .ref aK, .ref aF, .ref aL, .int (nI c), .int isd, .int wd])), (aO, .inl (cI, 2400, .inl O)), (aM, .inl (cI, 1200, .inl M)), (aZ, .inl (cI, 2, .inl Z))])) (isC := [0]) (isR := [1, 2, 3]) hP hD hS hA ⟨rfl, rfl, by decide, by decide, by decide⟩ [3, 0, 1, 2] (by decide) (fun _ => rfl) (fun hPc hDc => va_runV (As := [.int (nI 1), .int (nI 2)]) (rest := []) ⟨hx, hb, hml, hown, ht⟩ (m_fails1 Ll D cI cL mo aO aT aM aZ aY aK aF aL (nI 0) c isd wd 2  H.size) ⟨(callB_of 2 ht g_X5_fails rfl rfl rfl (ht _ iw_136) (ht _ iw_138) hd_X5_fails ⟨Nat.le_of_ble_eq_true rfl, Nat.le_of_ble_eq_true rfl⟩), (ht _ iw_139), (ht _ iw_140)⟩ (ds_pV hPc hDc hK (q0 := 0) rfl rfl) rfl rfl hl.1 rfl (lv_room (Nat.le_of_ble_eq_true rfl)) dX5_move_58 ⟨Nat.le_of_ble_eq_true rfl, Nat.le_of_ble_eq_true rfl⟩) (fun r150 u151 H locs hp152 hP hD hS => ?_)
                    have hP : va_P D vwCl [(mo, .inr (5, [.int (nI 2), .ref aO, .ref aT, .ref aM, .ref aZ, .ref aY, .ref aK, .ref aF, .ref aL, .int (nI c), .int isd, .int wd])), (aO, .inl (cI, 2400, .inl O)), (aM, .inl (cI, 1200, .inl M)), (aZ, .inl (cI, 2, .inl Z))] H := hP
                    have hD : va_D A [(mo, .inr (5, [.int (nI 2), .ref aO, .ref aT, .ref aM, .ref aZ, .ref aY, .ref aK, .ref aF, .ref aL, .int (nI c), .int isd, .int wd])), (aO, .inl (cI, 2400, .inl O)), (aM, .inl (cI, 1200, .inl M)), (aZ, .inl (cI, 2, .inl Z))] := hD
                    have hp152 : r150 = nI 1 := hp152
                    replace hp152 := Eq.symm hp152
                    subst hp152
                    refine lv_if_eq (tgt := 65) hx hb dX5_move_61 (by decide) (fun h => ?_) (fun h => ?_)
                    ·
                      rw [← nI_0] at h
                      have h : 1 = 0 := (nI_eq (a := 1) (b := 0) (by omega) (by omega)).mp h
                      exact absurd h (by decide)
                    ·
                      rw [← nI_0] at h
                      have h : ¬ 1 = 0 := fun z9 => h ((nI_eq (a := 1) (b := 0) (by omega) (by omega)).mpr z9)
                      exact ds_vret hx hb hr hlk (nI 2, O, M) ⟨(e_move_x ⟨hro, hro2⟩ (by rw [rsel_1]; exact fun z9 => hg z9.1)).symm, by rw [n_move_x (t := (lo, fo, ln, fn)) (fun z9 => absurd (z9.symm.trans (e_move_x ⟨hro, hro2⟩ (by rw [rsel_1]; exact fun z9 => hg z9.1))) (by decide))]; exact hR⟩ hP hD hS (Nat.le_of_ble_eq_true rfl) (Nat.le_of_ble_eq_true rfl) dX5_move_64
                  ·
                    rw [← nI_0] at h
                    have h : 1 = 0 := (nI_eq (a := 1) (b := 0) (by omega) (by omega)).mp h
                    exact absurd h (by decide)
              ·
                rw [← nI_0] at h
                have h : ¬ 0 = 0 := fun z9 => h ((nI_eq (a := 0) (b := 0) (by omega) (by omega)).mpr z9)
                exact absurd rfl h
            ·
              rw [← nI_0] at h
              have h : ¬ 0 = 0 := fun z9 => h ((nI_eq (a := 0) (b := 0) (by omega) (by omega)).mpr z9)
              exact absurd rfl h
        ·
          refine lv_iload_n hx hb dX5_move_8 rfl (lv_at hl 3 rfl) ?_
          refine ds_calli (wc := []) (wr := [(mo, .inr (5, [.int er, .ref aO, .ref aT, .ref aM, .ref aZ, .ref aY, .ref aK, .ref aF, .ref aL, .int (nI c), .int isd, .int wd])), (aO, .inl (cI, 2400, .inl O)), (aM, .inl (cI, 1200, .inl M)), (aZ, .inl (cI, 2, .inl Z))]) (wo := (fun u154 : Unit => [])) (wn := (fun u154 : Unit => [(mo, .inr (5, [.int er, .ref aO, .ref aT, .ref aM, .ref aZ, .ref aY, .ref aK, .ref aF, .ref aL, .int (nI c), .int isd, .int wd])), (aO, .inl (cI, 2400, .inl O)), (aM, .inl (cI, 1200, .inl M)), (aZ, .inl (cI, 2, .inl Z))])) (isC := []) (isR := [0, 1, 2, 3]) hP hD hS hA ⟨rfl, rfl, by decide, by decide, by decide⟩ [0, 1, 2, 3] (by decide) (fun _ => rfl) (fun hPc hDc => va_runS (As := [.int z]) (rest := [.ref mo]) ⟨hx, hb, hml, hown, ht⟩ (m_no1 Ll D cI cL z (fun z9 => hr2 (Or.inl z9)) (fun z9 => hr2 (Or.inr z9)) H.size) ⟨(callB_of 1 ht g_X5_no rfl rfl rfl (ht _ iw_136) (ht _ iw_135) hd_X5_no ⟨Nat.le_of_ble_eq_true rfl, Nat.le_of_ble_eq_true rfl⟩), (ht _ iw_137)⟩ (ds_pS hPc hDc hK) rfl rfl hl.1 rfl (lv_room (Nat.le_of_ble_eq_true rfl)) dX5_move_9 ⟨Nat.le_of_ble_eq_true rfl, Nat.le_of_ble_eq_true rfl⟩) (fun r153 u154 H locs hp155 hP hD hS => ?_)
          have hP : va_P D vwCl [(mo, .inr (5, [.int er, .ref aO, .ref aT, .ref aM, .ref aZ, .ref aY, .ref aK, .ref aF, .ref aL, .int (nI c), .int isd, .int wd])), (aO, .inl (cI, 2400, .inl O)), (aM, .inl (cI, 1200, .inl M)), (aZ, .inl (cI, 2, .inl Z))] H := hP
          have hD : va_D A [(mo, .inr (5, [.int er, .ref aO, .ref aT, .ref aM, .ref aZ, .ref aY, .ref aK, .ref aF, .ref aL, .int (nI c), .int isd, .int wd])), (aO, .inl (cI, 2400, .inl O)), (aM, .inl (cI, 1200, .inl M)), (aZ, .inl (cI, 2, .inl Z))] := hD
          have hp155 : r153 = nI 1 := hp155
          replace hp155 := Eq.symm hp155
          subst hp155
          refine lv_if_eq (tgt := 19) hx hb dX5_move_12 (by decide) (fun h => ?_) (fun h => ?_)
          ·
            rw [← nI_0] at h
            have h : 1 = 0 := (nI_eq (a := 1) (b := 0) (by omega) (by omega)).mp h
            exact absurd h (by decide)
          ·
            rw [← nI_0] at h
            have h : ¬ 1 = 0 := fun z9 => h ((nI_eq (a := 1) (b := 0) (by omega) (by omega)).mpr z9)
            refine lv_iconst (v := nI 1) hx hb dX5_move_15 (by decide +kernel) ?_
            refine lv_goto (tgt := 20) hx hb dX5_move_16 (by decide) ?_
            refine lv_iconst (v := nI 1) hx hb dX5_move_20 (by decide +kernel) ?_
            refine ds_calli (wc := [(mo, .inr (5, [.int er, .ref aO, .ref aT, .ref aM, .ref aZ, .ref aY, .ref aK, .ref aF, .ref aL, .int (nI c), .int isd, .int wd]))]) (wr := [(aO, .inl (cI, 2400, .inl O)), (aM, .inl (cI, 1200, .inl M)), (aZ, .inl (cI, 2, .inl Z))]) (wo := (fun u157 : Unit => [(mo, .inr (5, [.int (nI 1), .ref aO, .ref aT, .ref aM, .ref aZ, .ref aY, .ref aK, .ref aF, .ref aL, .int (nI c), .int isd, .int wd]))])) (wn := (fun u157 : Unit => [(mo, .inr (5, [.int (nI 1), .ref aO, .ref aT, .ref aM, .ref aZ, .ref aY, .ref aK, .ref aF, .ref aL, .int (nI c), .int isd, .int wd])), (aO, .inl (cI, 2400, .inl O)), (aM, .inl (cI, 1200, .inl M)), (aZ, .inl (cI, 2, .inl Z))])) (isC := [0]) (isR := [1, 2, 3]) hP hD hS hA ⟨rfl, rfl, by decide, by decide, by decide⟩ [3, 0, 1, 2] (by decide) (fun _ => rfl) (fun hPc hDc => va_runV (As := [.int (nI 1), .int (nI 1)]) (rest := []) ⟨hx, hb, hml, hown, ht⟩ (m_fails1 Ll D cI cL mo aO aT aM aZ aY aK aF aL er c isd wd 1  H.size) ⟨(callB_of 2 ht g_X5_fails rfl rfl rfl (ht _ iw_136) (ht _ iw_138) hd_X5_fails ⟨Nat.le_of_ble_eq_true rfl, Nat.le_of_ble_eq_true rfl⟩), (ht _ iw_139), (ht _ iw_140)⟩ (ds_pV hPc hDc hK (q0 := 0) rfl rfl) rfl rfl hl.1 rfl (lv_room (Nat.le_of_ble_eq_true rfl)) dX5_move_21 ⟨Nat.le_of_ble_eq_true rfl, Nat.le_of_ble_eq_true rfl⟩) (fun r156 u157 H locs hp158 hP hD hS => ?_)
            have hP : va_P D vwCl [(mo, .inr (5, [.int (nI 1), .ref aO, .ref aT, .ref aM, .ref aZ, .ref aY, .ref aK, .ref aF, .ref aL, .int (nI c), .int isd, .int wd])), (aO, .inl (cI, 2400, .inl O)), (aM, .inl (cI, 1200, .inl M)), (aZ, .inl (cI, 2, .inl Z))] H := hP
            have hD : va_D A [(mo, .inr (5, [.int (nI 1), .ref aO, .ref aT, .ref aM, .ref aZ, .ref aY, .ref aK, .ref aF, .ref aL, .int (nI c), .int isd, .int wd])), (aO, .inl (cI, 2400, .inl O)), (aM, .inl (cI, 1200, .inl M)), (aZ, .inl (cI, 2, .inl Z))] := hD
            have hp158 : r156 = nI 1 := hp158
            replace hp158 := Eq.symm hp158
            subst hp158
            refine lv_if_eq (tgt := 28) hx hb dX5_move_24 (by decide) (fun h => ?_) (fun h => ?_)
            ·
              rw [← nI_0] at h
              have h : 1 = 0 := (nI_eq (a := 1) (b := 0) (by omega) (by omega)).mp h
              exact absurd h (by decide)
            ·
              rw [← nI_0] at h
              have h : ¬ 1 = 0 := fun z9 => h ((nI_eq (a := 1) (b := 0) (by omega) (by omega)).mpr z9)
              exact ds_vret hx hb hr hlk (nI 1, O, M) ⟨(e_move_r (fun z9 => hr2 z9.2)).symm, by rw [n_move_x (t := (lo, fo, ln, fn)) (fun z9 => absurd (z9.symm.trans (e_move_r (fun z9 => hr2 z9.2))) (by decide))]; exact hR⟩ hP hD hS (Nat.le_of_ble_eq_true rfl) (Nat.le_of_ble_eq_true rfl) dX5_move_27
  ·
    refine lv_aload_n hx hb dX5_move_0 rfl (lv_at hl 0 rfl) ?_
    refine lv_iload_n hx hb dX5_move_1 rfl (lv_at hl 1 rfl) ?_
    refine ds_calli (wc := []) (wr := [(mo, .inr (5, [.int er, .ref aO, .ref aT, .ref aM, .ref aZ, .ref aY, .ref aK, .ref aF, .ref aL, .int (nI c), .int isd, .int wd])), (aO, .inl (cI, 2400, .inl O)), (aM, .inl (cI, 1200, .inl M)), (aZ, .inl (cI, 2, .inl Z))]) (wo := (fun u160 : Unit => [])) (wn := (fun u160 : Unit => [(mo, .inr (5, [.int er, .ref aO, .ref aT, .ref aM, .ref aZ, .ref aY, .ref aK, .ref aF, .ref aL, .int (nI c), .int isd, .int wd])), (aO, .inl (cI, 2400, .inl O)), (aM, .inl (cI, 1200, .inl M)), (aZ, .inl (cI, 2, .inl Z))])) (isC := []) (isR := [0, 1, 2, 3]) hP hD hS hA ⟨rfl, rfl, by decide, by decide, by decide⟩ [0, 1, 2, 3] (by decide) (fun _ => rfl) (fun hPc hDc => va_runS (As := [.int x]) (rest := [.ref mo]) ⟨hx, hb, hml, hown, ht⟩ (m_no1 Ll D cI cL x (fun z => hrk (Or.inl z)) (fun z => hrk (Or.inr z)) H.size) ⟨(callB_of 1 ht g_X5_no rfl rfl rfl (ht _ iw_136) (ht _ iw_135) hd_X5_no ⟨Nat.le_of_ble_eq_true rfl, Nat.le_of_ble_eq_true rfl⟩), (ht _ iw_137)⟩ (ds_pS hPc hDc hK) rfl rfl hl.1 rfl (lv_room (Nat.le_of_ble_eq_true rfl)) dX5_move_2 ⟨Nat.le_of_ble_eq_true rfl, Nat.le_of_ble_eq_true rfl⟩) (fun r159 u160 H locs hp161 hP hD hS => ?_)
    have hP : va_P D vwCl [(mo, .inr (5, [.int er, .ref aO, .ref aT, .ref aM, .ref aZ, .ref aY, .ref aK, .ref aF, .ref aL, .int (nI c), .int isd, .int wd])), (aO, .inl (cI, 2400, .inl O)), (aM, .inl (cI, 1200, .inl M)), (aZ, .inl (cI, 2, .inl Z))] H := hP
    have hD : va_D A [(mo, .inr (5, [.int er, .ref aO, .ref aT, .ref aM, .ref aZ, .ref aY, .ref aK, .ref aF, .ref aL, .int (nI c), .int isd, .int wd])), (aO, .inl (cI, 2400, .inl O)), (aM, .inl (cI, 1200, .inl M)), (aZ, .inl (cI, 2, .inl Z))] := hD
    have hp161 : r159 = nI 1 := hp161
    replace hp161 := Eq.symm hp161
    subst hp161
    refine lv_if_ne (tgt := 15) hx hb dX5_move_5 (by decide) (fun h => ?_) (fun h => ?_)
    ·
      rw [← nI_0] at h
      have h : ¬ 1 = 0 := fun z9 => h ((nI_eq (a := 1) (b := 0) (by omega) (by omega)).mpr z9)
      refine lv_iconst (v := nI 1) hx hb dX5_move_15 (by decide +kernel) ?_
      refine lv_goto (tgt := 20) hx hb dX5_move_16 (by decide) ?_
      refine lv_iconst (v := nI 1) hx hb dX5_move_20 (by decide +kernel) ?_
      refine ds_calli (wc := [(mo, .inr (5, [.int er, .ref aO, .ref aT, .ref aM, .ref aZ, .ref aY, .ref aK, .ref aF, .ref aL, .int (nI c), .int isd, .int wd]))]) (wr := [(aO, .inl (cI, 2400, .inl O)), (aM, .inl (cI, 1200, .inl M)), (aZ, .inl (cI, 2, .inl Z))]) (wo := (fun u163 : Unit => [(mo, .inr (5, [.int (nI 1), .ref aO, .ref aT, .ref aM, .ref aZ, .ref aY, .ref aK, .ref aF, .ref aL, .int (nI c), .int isd, .int wd]))])) (wn := (fun u163 : Unit => [(mo, .inr (5, [.int (nI 1), .ref aO, .ref aT, .ref aM, .ref aZ, .ref aY, .ref aK, .ref aF, .ref aL, .int (nI c), .int isd, .int wd])), (aO, .inl (cI, 2400, .inl O)), (aM, .inl (cI, 1200, .inl M)), (aZ, .inl (cI, 2, .inl Z))])) (isC := [0]) (isR := [1, 2, 3]) hP hD hS hA ⟨rfl, rfl, by decide, by decide, by decide⟩ [3, 0, 1, 2] (by decide) (fun _ => rfl) (fun hPc hDc => va_runV (As := [.int (nI 1), .int (nI 1)]) (rest := []) ⟨hx, hb, hml, hown, ht⟩ (m_fails1 Ll D cI cL mo aO aT aM aZ aY aK aF aL er c isd wd 1  H.size) ⟨(callB_of 2 ht g_X5_fails rfl rfl rfl (ht _ iw_136) (ht _ iw_138) hd_X5_fails ⟨Nat.le_of_ble_eq_true rfl, Nat.le_of_ble_eq_true rfl⟩), (ht _ iw_139), (ht _ iw_140)⟩ (ds_pV hPc hDc hK (q0 := 0) rfl rfl) rfl rfl hl.1 rfl (lv_room (Nat.le_of_ble_eq_true rfl)) dX5_move_21 ⟨Nat.le_of_ble_eq_true rfl, Nat.le_of_ble_eq_true rfl⟩) (fun r162 u163 H locs hp164 hP hD hS => ?_)
      have hP : va_P D vwCl [(mo, .inr (5, [.int (nI 1), .ref aO, .ref aT, .ref aM, .ref aZ, .ref aY, .ref aK, .ref aF, .ref aL, .int (nI c), .int isd, .int wd])), (aO, .inl (cI, 2400, .inl O)), (aM, .inl (cI, 1200, .inl M)), (aZ, .inl (cI, 2, .inl Z))] H := hP
      have hD : va_D A [(mo, .inr (5, [.int (nI 1), .ref aO, .ref aT, .ref aM, .ref aZ, .ref aY, .ref aK, .ref aF, .ref aL, .int (nI c), .int isd, .int wd])), (aO, .inl (cI, 2400, .inl O)), (aM, .inl (cI, 1200, .inl M)), (aZ, .inl (cI, 2, .inl Z))] := hD
      have hp164 : r162 = nI 1 := hp164
      replace hp164 := Eq.symm hp164
      subst hp164
      refine lv_if_eq (tgt := 28) hx hb dX5_move_24 (by decide) (fun h => ?_) (fun h => ?_)
      ·
        rw [← nI_0] at h
        have h : 1 = 0 := (nI_eq (a := 1) (b := 0) (by omega) (by omega)).mp h
        exact absurd h (by decide)
      ·
        rw [← nI_0] at h
        have h : ¬ 1 = 0 := fun z9 => h ((nI_eq (a := 1) (b := 0) (by omega) (by omega)).mpr z9)
        exact ds_vret hx hb hr hlk (nI 1, O, M) ⟨(e_move_r (fun z9 => hrk z9.1)).symm, by rw [n_move_x (t := (lo, fo, ln, fn)) (fun z9 => absurd (z9.symm.trans (e_move_r (fun z9 => hrk z9.1))) (by decide))]; exact hR⟩ hP hD hS (Nat.le_of_ble_eq_true rfl) (Nat.le_of_ble_eq_true rfl) dX5_move_27
    ·
      rw [← nI_0] at h
      have h : 1 = 0 := (nI_eq (a := 1) (b := 0) (by omega) (by omega)).mp h
      exact absurd h (by decide)
