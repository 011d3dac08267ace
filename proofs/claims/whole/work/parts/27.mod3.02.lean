set_option maxHeartbeats 4000000 in
set_option maxRecDepth 100000 in
theorem c_X5_token (Ll : Launch) (D : va_G) (cI cL : ClassId) (mo : Nat) (aO : Nat) (aT : Nat) (aM : Nat) (aZ : Nat) (aY : Nat) (aK : Nat) (aF : Nat) (aL : Nat) (er : Int32) (c : Nat) (isd : Int32) (wd : Int32) (gk : Nat → Int32) (gf : Nat → Int32) (gl : Nat → Int32) (fk : Nat → Int32) (ff : Nat → Int32) (fl : Nat → Int32) (x : Int32) (y : Int32) (hT : mT c fk ff fl gk gf gl) (sz : Nat) : Met Ll yX5_token wsX5_token { frames := 1, cells := 0, slots := 0, locals := 22 } (ds_P D cI cL [.ref mo, .int x, .int y] [(mo, .inr (5, [.int er, .ref aO, .ref aT, .ref aM, .ref aZ, .ref aY, .ref aK, .ref aF, .ref aL, .int (nI c), .int isd, .int wd])), (aK, .inl (cI, 1200, .inl gk)), (aF, .inl (cI, 1200, .inl gf)), (aL, .inl (cI, 1200, .inl gl))] sz) (ds_Qi D (fun (r : Int32) (u : Int32) => u = e_token x y c ∧ (e_token x y c = 0 → r = v_token x y fk ff fl)) (fun u : Int32 => [(mo, .inr (5, [.int u, .ref aO, .ref aT, .ref aM, .ref aZ, .ref aY, .ref aK, .ref aF, .ref aL, .int (nI c), .int isd, .int wd])), (aK, .inl (cI, 1200, .inl gk)), (aF, .inl (cI, 1200, .inl gf)), (aL, .inl (cI, 1200, .inl gl))]) (va_A [(mo, .inr (5, [.int er, .ref aO, .ref aT, .ref aM, .ref aZ, .ref aY, .ref aK, .ref aF, .ref aL, .int (nI c), .int isd, .int wd])), (aK, .inl (cI, 1200, .inl gk)), (aF, .inl (cI, 1200, .inl gf)), (aL, .inl (cI, 1200, .inl gl))] sz)) 0 0 (va_A [(mo, .inr (5, [.int er, .ref aO, .ref aT, .ref aM, .ref aZ, .ref aY, .ref aK, .ref aF, .ref aL, .int (nI c), .int isd, .int wd])), (aK, .inl (cI, 1200, .inl gk)), (aF, .inl (cI, 1200, .inl gf)), (aL, .inl (cI, 1200, .inl gl))] sz) := by
  refine ds_enter (Qf := (fun A9 => ds_Qi D (fun (r : Int32) (u : Int32) => u = e_token x y c ∧ (e_token x y c = 0 → r = v_token x y fk ff fl)) (fun u : Int32 => [(mo, .inr (5, [.int u, .ref aO, .ref aT, .ref aM, .ref aZ, .ref aY, .ref aK, .ref aF, .ref aL, .int (nI c), .int isd, .int wd])), (aK, .inl (cI, 1200, .inl gk)), (aF, .inl (cI, 1200, .inl gf)), (aL, .inl (cI, 1200, .inl gl))]) A9)) (cc := cX5_token) (maxL := 3) (ret := (some .int)) (by decide) rfl (Nat.le_of_ble_eq_true rfl) ?_
  intro Pp Ee Ss Mm Aa Bb Me Cc hx hb hml hr ht hown hlk hnm A H locs hA hP hD hS hK ls hl
  have hl : lv_has ls 3 [(0, .ref mo), (1, .int x), (2, .int y)] := hl
  change Ss.vm.findClass RX5 = some Mm.cls at hown
  by_cases hw : wok y
  ·
    have hwo := hw
    rcases wok_nat hw with rfl | rfl | rfl
    ·
      have hl : lv_has ls 3 [(0, .ref mo), (1, .int x), (2, .int (nI 0))] := hl
      refine lv_aload_n hx hb dX5_token_0 rfl (lv_at hl 0 rfl) ?_
      refine lv_iload_n hx hb dX5_token_1 rfl (lv_at hl 2 rfl) ?_
      refine lv_if_lt (tgt := 10) hx hb dX5_token_2 (by decide) (fun h => ?_) (fun h => ?_)
      ·
        rw [← nI_0] at h
        have h : 0 < 0 := (nI_ltI (a := 0) (b := 0) (by omega) (by omega)).mp h
        exact absurd h (by decide)
      ·
        rw [← nI_0] at h
        have h : ¬ 0 < 0 := fun z9 => h ((nI_ltI (a := 0) (b := 0) (by omega) (by omega)).mpr z9)
        refine lv_iload_n hx hb dX5_token_5 rfl (lv_at hl 2 rfl) ?_
        refine lv_iconst (v := nI 2) hx hb dX5_token_6 (by decide +kernel) ?_
        refine lv_icmp_le (tgt := 14) hx hb dX5_token_7 (by decide) (fun h => ?_) (fun h => ?_)
        ·
          have h : 0 ≤ 2 := (nI_leI (a := 0) (b := 2) (by omega) (by omega)).mp h
          refine lv_iconst (v := nI 0) hx hb dX5_token_14 (by decide +kernel) ?_
          refine lv_iconst (v := nI 1) hx hb dX5_token_15 (by decide +kernel) ?_
          refine ds_calli (wc := [(mo, .inr (5, [.int er, .ref aO, .ref aT, .ref aM, .ref aZ, .ref aY, .ref aK, .ref aF, .ref aL, .int (nI c), .int isd, .int wd]))]) (wr := [(aK, .inl (cI, 1200, .inl gk)), (aF, .inl (cI, 1200, .inl gf)), (aL, .inl (cI, 1200, .inl gl))]) (wo := (fun u2 : Unit => [(mo, .inr (5, [.int (nI 0), .ref aO, .ref aT, .ref aM, .ref aZ, .ref aY, .ref aK, .ref aF, .ref aL, .int (nI c), .int isd, .int wd]))])) (wn := (fun u2 : Unit => [(mo, .inr (5, [.int (nI 0), .ref aO, .ref aT, .ref aM, .ref aZ, .ref aY, .ref aK, .ref aF, .ref aL, .int (nI c), .int isd, .int wd])), (aK, .inl (cI, 1200, .inl gk)), (aF, .inl (cI, 1200, .inl gf)), (aL, .inl (cI, 1200, .inl gl))])) (isC := [0]) (isR := [1, 2, 3]) hP hD hS hA ⟨rfl, rfl, by decide, by decide, by decide⟩ [3, 0, 1, 2] (by decide) (fun _ => rfl) (fun hPc hDc => va_runV (As := [.int (nI 0), .int (nI 1)]) (rest := []) ⟨hx, hb, hml, hown, ht⟩ (m_fails0 Ll D cI cL mo aO aT aM aZ aY aK aF aL er c isd wd 1  H.size) ⟨(callB_of 2 ht g_X5_fails rfl rfl rfl (ht _ iw_136) (ht _ iw_138) hd_X5_fails ⟨Nat.le_of_ble_eq_true rfl, Nat.le_of_ble_eq_true rfl⟩), (ht _ iw_139), (ht _ iw_140)⟩ (ds_pV hPc hDc hK (q0 := 0) rfl rfl) rfl rfl hl.1 rfl (lv_room (Nat.le_of_ble_eq_true rfl)) dX5_token_16 ⟨Nat.le_of_ble_eq_true rfl, Nat.le_of_ble_eq_true rfl⟩) (fun r1 u2 H locs hp3 hP hD hS => ?_)
          have hP : va_P D vwCl [(mo, .inr (5, [.int (nI 0), .ref aO, .ref aT, .ref aM, .ref aZ, .ref aY, .ref aK, .ref aF, .ref aL, .int (nI c), .int isd, .int wd])), (aK, .inl (cI, 1200, .inl gk)), (aF, .inl (cI, 1200, .inl gf)), (aL, .inl (cI, 1200, .inl gl))] H := hP
          have hD : va_D A [(mo, .inr (5, [.int (nI 0), .ref aO, .ref aT, .ref aM, .ref aZ, .ref aY, .ref aK, .ref aF, .ref aL, .int (nI c), .int isd, .int wd])), (aK, .inl (cI, 1200, .inl gk)), (aF, .inl (cI, 1200, .inl gf)), (aL, .inl (cI, 1200, .inl gl))] := hD
          have hp3 : r1 = nI 0 := hp3
          replace hp3 := Eq.symm hp3
          subst hp3
          refine lv_if_eq (tgt := 24) hx hb dX5_token_19 (by decide) (fun h => ?_) (fun h => ?_)
          ·
            rw [← nI_0] at h
            have h : 0 = 0 := (nI_eq (a := 0) (b := 0) (by omega) (by omega)).mp h
            by_cases hi : iok x c
            ·
              obtain ⟨q, hq, e9⟩ := iok_nat hT.1 hi
              subst e9
              have hj := hT.2 q hq
              have hc1 := hT.1
              have hl : lv_has ls 3 [(0, .ref mo), (1, .int (nI q)), (2, .int (nI 0))] := hl
              refine lv_aload_n hx hb dX5_token_24 rfl (lv_at hl 0 rfl) ?_
              refine lv_iload_n hx hb dX5_token_25 rfl (lv_at hl 1 rfl) ?_
              refine lv_if_lt (tgt := 37) hx hb dX5_token_26 (by decide) (fun h => ?_) (fun h => ?_)
              ·
                rw [← nI_0] at h
                have h : q < 0 := (nI_ltI (a := q) (b := 0) (by omega) (by omega)).mp h
                exfalso; omega
              ·
                rw [← nI_0] at h
                have h : ¬ q < 0 := fun z9 => h ((nI_ltI (a := q) (b := 0) (by omega) (by omega)).mpr z9)
                refine lv_iload_n hx hb dX5_token_29 rfl (lv_at hl 1 rfl) ?_
                refine lv_aload_n hx hb dX5_token_30 rfl (lv_at hl 0 rfl) ?_
                refine va_get (D := D) (ci := 5) (v := .int (nI c)) (C := RX5) (T := TX5) (N := 12) hx hb ht inA_X5 hown hK.1 hP 0 rfl rfl 9 (by decide) (ht _ iw_180) (fun _ h9 => h9) rfl dX5_token_31 ?_
                refine lv_icmp_lt (tgt := 41) hx hb dX5_token_34 (by decide) (fun h => ?_) (fun h => ?_)
                ·
                  have h : q < c := (nI_ltI (a := q) (b := c) (by omega) (by omega)).mp h
                  refine lv_iconst (v := nI 0) hx hb dX5_token_41 (by decide +kernel) ?_
                  refine lv_iconst (v := nI 2) hx hb dX5_token_42 (by decide +kernel) ?_
                  refine ds_calli (wc := [(mo, .inr (5, [.int (nI 0), .ref aO, .ref aT, .ref aM, .ref aZ, .ref aY, .ref aK, .ref aF, .ref aL, .int (nI c), .int isd, .int wd]))]) (wr := [(aK, .inl (cI, 1200, .inl gk)), (aF, .inl (cI, 1200, .inl gf)), (aL, .inl (cI, 1200, .inl gl))]) (wo := (fun u5 : Unit => [(mo, .inr (5, [.int (nI 0), .ref aO, .ref aT, .ref aM, .ref aZ, .ref aY, .ref aK, .ref aF, .ref aL, .int (nI c), .int isd, .int wd]))])) (wn := (fun u5 : Unit => [(mo, .inr (5, [.int (nI 0), .ref aO, .ref aT, .ref aM, .ref aZ, .ref aY, .ref aK, .ref aF, .ref aL, .int (nI c), .int isd, .int wd])), (aK, .inl (cI, 1200, .inl gk)), (aF, .inl (cI, 1200, .inl gf)), (aL, .inl (cI, 1200, .inl gl))])) (isC := [0]) (isR := [1, 2, 3]) hP hD hS hA ⟨rfl, rfl, by decide, by decide, by decide⟩ [3, 0, 1, 2] (by decide) (fun _ => rfl) (fun hPc hDc => va_runV (As := [.int (nI 0), .int (nI 2)]) (rest := []) ⟨hx, hb, hml, hown, ht⟩ (m_fails0 Ll D cI cL mo aO aT aM aZ aY aK aF aL (nI 0) c isd wd 2  H.size) ⟨(callB_of 2 ht g_X5_fails rfl rfl rfl (ht _ iw_136) (ht _ iw_138) hd_X5_fails ⟨Nat.le_of_ble_eq_true rfl, Nat.le_of_ble_eq_true rfl⟩), (ht _ iw_139), (ht _ iw_140)⟩ (ds_pV hPc hDc hK (q0 := 0) rfl rfl) rfl rfl hl.1 rfl (lv_room (Nat.le_of_ble_eq_true rfl)) dX5_token_43 ⟨Nat.le_of_ble_eq_true rfl, Nat.le_of_ble_eq_true rfl⟩) (fun r4 u5 H locs hp6 hP hD hS => ?_)
                  have hP : va_P D vwCl [(mo, .inr (5, [.int (nI 0), .ref aO, .ref aT, .ref aM, .ref aZ, .ref aY, .ref aK, .ref aF, .ref aL, .int (nI c), .int isd, .int wd])), (aK, .inl (cI, 1200, .inl gk)), (aF, .inl (cI, 1200, .inl gf)), (aL, .inl (cI, 1200, .inl gl))] H := hP
                  have hD : va_D A [(mo, .inr (5, [.int (nI 0), .ref aO, .ref aT, .ref aM, .ref aZ, .ref aY, .ref aK, .ref aF, .ref aL, .int (nI c), .int isd, .int wd])), (aK, .inl (cI, 1200, .inl gk)), (aF, .inl (cI, 1200, .inl gf)), (aL, .inl (cI, 1200, .inl gl))] := hD
                  have hp6 : r4 = nI 0 := hp6
                  replace hp6 := Eq.symm hp6
                  subst hp6
                  refine lv_if_eq (tgt := 51) hx hb dX5_token_46 (by decide) (fun h => ?_) (fun h => ?_)
                  ·
                    rw [← nI_0] at h
                    have h : 0 = 0 := (nI_eq (a := 0) (b := 0) (by omega) (by omega)).mp h
                    refine lv_iload_n hx hb dX5_token_51 rfl (lv_at hl 2 rfl) ?_
                    refine lv_if_ne (tgt := 64) hx hb dX5_token_52 (by decide) (fun h => ?_) (fun h => ?_)
                    ·
                      rw [← nI_0] at h
                      have h : ¬ 0 = 0 := fun z9 => h ((nI_eq (a := 0) (b := 0) (by omega) (by omega)).mpr z9)
                      exact absurd rfl h
                    ·
                      rw [← nI_0] at h
                      have h : 0 = 0 := (nI_eq (a := 0) (b := 0) (by omega) (by omega)).mp h
                      refine lv_aload_n hx hb dX5_token_55 rfl (lv_at hl 0 rfl) ?_
                      refine va_get (D := D) (ci := 5) (v := .ref aK) (C := RX5) (T := TX5) (N := 12) hx hb ht inA_X5 hown hK.1 hP 0 rfl rfl 6 (by decide) (ht _ iw_127) (fun _ h9 => h9) rfl dX5_token_56 ?_
                      refine lv_iload_n hx hb dX5_token_59 rfl (lv_at hl 1 rfl) ?_
                      refine ds_iald (k := q) hx hb hK hP 1 rfl (by omega) (by omega) dX5_token_60 ?_
                      refine lv_goto (tgt := 84) hx hb dX5_token_61 (by decide) ?_
                      exact ds_iret hx hb hr hlk rfl (nI 0) ⟨(e_token_ok hwo (iok_of hq hT.1)).symm, fun _ => by rw [v_token_0 (by omega)]; exact hj.1⟩ hP hD hS (Nat.le_of_ble_eq_true rfl) (Nat.le_of_ble_eq_true rfl) dX5_token_84
                  ·
                    rw [← nI_0] at h
                    have h : ¬ 0 = 0 := fun z9 => h ((nI_eq (a := 0) (b := 0) (by omega) (by omega)).mpr z9)
                    exact absurd rfl h
                ·
                  have h : ¬ q < c := fun z9 => h ((nI_ltI (a := q) (b := c) (by omega) (by omega)).mpr z9)
                  exfalso; omega
            ·
              have hi9 := Classical.not_not.mp hi
              refine lv_aload_n hx hb dX5_token_24 rfl (lv_at hl 0 rfl) ?_
              refine lv_iload_n hx hb dX5_token_25 rfl (lv_at hl 1 rfl) ?_
              refine lv_if_lt (tgt := 37) hx hb dX5_token_26 (by decide) (fun h0 => ?_) (fun h0 => ?_)
              ·
                refine lv_iconst (v := nI 1) hx hb dX5_token_37 (by decide +kernel) ?_
                refine lv_goto (tgt := 42) hx hb dX5_token_38 (by decide) ?_
                refine lv_iconst (v := nI 2) hx hb dX5_token_42 (by decide +kernel) ?_
                refine ds_calli (wc := [(mo, .inr (5, [.int (nI 0), .ref aO, .ref aT, .ref aM, .ref aZ, .ref aY, .ref aK, .ref aF, .ref aL, .int (nI c), .int isd, .int wd]))]) (wr := [(aK, .inl (cI, 1200, .inl gk)), (aF, .inl (cI, 1200, .inl gf)), (aL, .inl (cI, 1200, .inl gl))]) (wo := (fun u8 : Unit => [(mo, .inr (5, [.int (nI 2), .ref aO, .ref aT, .ref aM, .ref aZ, .ref aY, .ref aK, .ref aF, .ref aL, .int (nI c), .int isd, .int wd]))])) (wn := (fun u8 : Unit => [(mo, .inr (5, [.int (nI 2), .ref aO, .ref aT, .ref aM, .ref aZ, .ref aY, .ref aK, .ref aF, .ref aL, .int (nI c), .int isd, .int wd])), (aK, .inl (cI, 1200, .inl gk)), (aF, .inl (cI, 1200, .inl gf)), (aL, .inl (cI, 1200, .inl gl))])) (isC := [0]) (isR := [1, 2, 3]) hP hD hS hA ⟨rfl, rfl, by decide, by decide, by decide⟩ [3, 0, 1, 2] (by decide) (fun _ => rfl) (fun hPc hDc => va_runV (As := [.int (nI 1), .int (nI 2)]) (rest := []) ⟨hx, hb, hml, hown, ht⟩ (m_fails1 Ll D cI cL mo aO aT aM aZ aY aK aF aL (nI 0) c isd wd 2  H.size) ⟨(callB_of 2 ht g_X5_fails rfl rfl rfl (ht _ iw_136) (ht _ iw_138) hd_X5_fails ⟨Nat.le_of_ble_eq_true rfl, Nat.le_of_ble_eq_true rfl⟩), (ht _ iw_139), (ht _ iw_140)⟩ (ds_pV hPc hDc hK (q0 := 0) rfl rfl) rfl rfl hl.1 rfl (lv_room (Nat.le_of_ble_eq_true rfl)) dX5_token_43 ⟨Nat.le_of_ble_eq_true rfl, Nat.le_of_ble_eq_true rfl⟩) (fun r7 u8 H locs hp9 hP hD hS => ?_)
                have hP : va_P D vwCl [(mo, .inr (5, [.int (nI 2), .ref aO, .ref aT, .ref aM, .ref aZ, .ref aY, .ref aK, .ref aF, .ref aL, .int (nI c), .int isd, .int wd])), (aK, .inl (cI, 1200, .inl gk)), (aF, .inl (cI, 1200, .inl gf)), (aL, .inl (cI, 1200, .inl gl))] H := hP
                have hD : va_D A [(mo, .inr (5, [.int (nI 2), .ref aO, .ref aT, .ref aM, .ref aZ, .ref aY, .ref aK, .ref aF, .ref aL, .int (nI c), .int isd, .int wd])), (aK, .inl (cI, 1200, .inl gk)), (aF, .inl (cI, 1200, .inl gf)), (aL, .inl (cI, 1200, .inl gl))] := hD
                have hp9 : r7 = nI 1 := hp9
                replace hp9 := Eq.symm hp9
                subst hp9
                refine lv_if_eq (tgt := 51) hx hb dX5_token_46 (by decide) (fun h => ?_) (fun h => ?_)
                ·
                  rw [← nI_0] at h
                  have h : 1 = 0 := (nI_eq (a := 1) (b := 0) (by omega) (by omega)).mp h
                  exact absurd h (by decide)
                ·
                  rw [← nI_0] at h
                  have h : ¬ 1 = 0 := fun z9 => h ((nI_eq (a := 1) (b := 0) (by omega) (by omega)).mpr z9)
                  refine lv_iconst (v := nI 0) hx hb dX5_token_49 (by decide +kernel) ?_
                  exact ds_iret hx hb hr hlk rfl (nI 2) ⟨(e_token_x hwo hi).symm, fun z => absurd (z.symm.trans (e_token_x hwo hi)) (by decide)⟩ hP hD hS (Nat.le_of_ble_eq_true rfl) (Nat.le_of_ble_eq_true rfl) dX5_token_50
              ·
                refine lv_iload_n hx hb dX5_token_29 rfl (lv_at hl 1 rfl) ?_
                refine lv_aload_n hx hb dX5_token_30 rfl (lv_at hl 0 rfl) ?_
                refine va_get (D := D) (ci := 5) (v := .int (nI c)) (C := RX5) (T := TX5) (N := 12) hx hb ht inA_X5 hown hK.1 hP 0 rfl rfl 9 (by decide) (ht _ iw_180) (fun _ h9 => h9) rfl dX5_token_31 ?_
                refine lv_icmp_lt (tgt := 41) hx hb dX5_token_34 (by decide) (fun h => ?_) (fun h => ?_)
                ·
                  exact absurd (hi9.resolve_left h0) (Int32.not_le.mpr h)
                ·
                  refine lv_iconst (v := nI 1) hx hb dX5_token_37 (by decide +kernel) ?_
                  refine lv_goto (tgt := 42) hx hb dX5_token_38 (by decide) ?_
                  refine lv_iconst (v := nI 2) hx hb dX5_token_42 (by decide +kernel) ?_
                  refine ds_calli (wc := [(mo, .inr (5, [.int (nI 0), .ref aO, .ref aT, .ref aM, .ref aZ, .ref aY, .ref aK, .ref aF, .ref aL, .int (nI c), .int isd, .int wd]))]) (wr := [(aK, .inl (cI, 1200, .inl gk)), (aF, .inl (cI, 1200, .inl gf)), (aL, .inl (cI, 1200, .inl gl))]) (wo := (fun u11 : Unit => [(mo, .inr (5, [.int (nI 2), .ref aO, .ref aT, .ref aM, .ref aZ, .ref aY, .ref aK, .ref aF, .ref aL, .int (nI c), .int isd, .int wd]))])) (wn := (fun u11 : Unit => [(mo, .inr (5, [.int (nI 2), .ref aO, .ref aT, .ref aM, .ref aZ, .ref aY, .ref aK, .ref aF, .ref aL, .int (nI c), .int isd, .int wd])), (aK, .inl (cI, 1200, .inl gk)), (aF, .inl (cI, 1200, .inl gf)), (aL, .inl (cI, 1200, .inl gl))])) (isC := [0]) (isR := [1, 2, 3]) hP hD hS hA ⟨rfl, rfl, by decide, by decide, by decide⟩ [3, 0, 1, 2] (by decide) (fun _ => rfl) (fun hPc hDc => va_runV (As := [.int (nI 1), .int (nI 2)]) (rest := []) ⟨hx, hb, hml, hown, ht⟩ (m_fails1 Ll D cI cL mo aO aT aM aZ aY aK aF aL (nI 0) c isd wd 2  H.size) ⟨(callB_of 2 ht g_X5_fails rfl rfl rfl (ht _ iw_136) (ht _ iw_138) hd_X5_fails ⟨Nat.le_of_ble_eq_true rfl, Nat.le_of_ble_eq_true rfl⟩), (ht _ iw_139), (ht _ iw_140)⟩ (ds_pV hPc hDc hK (q0 := 0) rfl rfl) rfl rfl hl.1 rfl (lv_room (Nat.le_of_ble_eq_true rfl)) dX5_token_43 ⟨Nat.le_of_ble_eq_true rfl, Nat.le_of_ble_eq_true rfl⟩) (fun r10 u11 H locs hp12 hP hD hS => ?_)
                  have hP : va_P D vwCl [(mo, .inr (5, [.int (nI 2), .ref aO, .ref aT, .ref aM, .ref aZ, .ref aY, .ref aK, .ref aF, .ref aL, .int (nI c), .int isd, .int wd])), (aK, .inl (cI, 1200, .inl gk)), (aF, .inl (cI, 1200, .inl gf)), (aL, .inl (cI, 1200, .inl gl))] H := hP
                  have hD : va_D A [(mo, .inr (5, [.int (nI 2), .ref aO, .ref aT, .ref aM, .ref aZ, .ref aY, .ref aK, .ref aF, .ref aL, .int (nI c), .int isd, .int wd])), (aK, .inl (cI, 1200, .inl gk)), (aF, .inl (cI, 1200, .inl gf)), (aL, .inl (cI, 1200, .inl gl))] := hD
                  have hp12 : r10 = nI 1 := hp12
                  replace hp12 := Eq.symm hp12
                  subst hp12
                  refine lv_if_eq (tgt := 51) hx hb dX5_token_46 (by decide) (fun h => ?_) (fun h => ?_)
                  ·
                    rw [← nI_0] at h
                    have h : 1 = 0 := (nI_eq (a := 1) (b := 0) (by omega) (by omega)).mp h
                    exact absurd h (by decide)
                  ·
                    rw [← nI_0] at h
                    have h : ¬ 1 = 0 := fun z9 => h ((nI_eq (a := 1) (b := 0) (by omega) (by omega)).mpr z9)
                    refine lv_iconst (v := nI 0) hx hb dX5_token_49 (by decide +kernel) ?_
                    exact ds_iret hx hb hr hlk rfl (nI 2) ⟨(e_token_x hwo hi).symm, fun z => absurd (z.symm.trans (e_token_x hwo hi)) (by decide)⟩ hP hD hS (Nat.le_of_ble_eq_true rfl) (Nat.le_of_ble_eq_true rfl) dX5_token_50
          ·
            rw [← nI_0] at h
            have h : ¬ 0 = 0 := fun z9 => h ((nI_eq (a := 0) (b := 0) (by omega) (by omega)).mpr z9)
            exact absurd rfl h
        ·
          have h : ¬ 0 ≤ 2 := fun z9 => h ((nI_leI (a := 0) (b := 2) (by omega) (by omega)).mpr z9)
          exact absurd (by decide) h
    ·
      have hl : lv_has ls 3 [(0, .ref mo), (1, .int x), (2, .int (nI 1))] := hl
      refine lv_aload_n hx hb dX5_token_0 rfl (lv_at hl 0 rfl) ?_
      refine lv_iload_n hx hb dX5_token_1 rfl (lv_at hl 2 rfl) ?_
      refine lv_if_lt (tgt := 10) hx hb dX5_token_2 (by decide) (fun h => ?_) (fun h => ?_)
      ·
        rw [← nI_0] at h
        have h : 1 < 0 := (nI_ltI (a := 1) (b := 0) (by omega) (by omega)).mp h
        exact absurd h (by decide)
      ·
        rw [← nI_0] at h
        have h : ¬ 1 < 0 := fun z9 => h ((nI_ltI (a := 1) (b := 0) (by omega) (by omega)).mpr z9)
        refine lv_iload_n hx hb dX5_token_5 rfl (lv_at hl 2 rfl) ?_
        refine lv_iconst (v := nI 2) hx hb dX5_token_6 (by decide +kernel) ?_
        refine lv_icmp_le (tgt := 14) hx hb dX5_token_7 (by decide) (fun h => ?_) (fun h => ?_)
        ·
          have h : 1 ≤ 2 := (nI_leI (a := 1) (b := 2) (by omega) (by omega)).mp h
          refine lv_iconst (v := nI 0) hx hb dX5_token_14 (by decide +kernel) ?_
          refine lv_iconst (v := nI 1) hx hb dX5_token_15 (by decide +kernel) ?_
          refine ds_calli (wc := [(mo, .inr (5, [.int er, .ref aO, .ref aT, .ref aM, .ref aZ, .ref aY, .ref aK, .ref aF, .ref aL, .int (nI c), .int isd, .int wd]))]) (wr := [(aK, .inl (cI, 1200, .inl gk)), (aF, .inl (cI, 1200, .inl gf)), (aL, .inl (cI, 1200, .inl gl))]) (wo := (fun u14 : Unit => [(mo, .inr (5, [.int (nI 0), .ref aO, .ref aT, .ref aM, .ref aZ, .ref aY, .ref aK, .ref aF, .ref aL, .int (nI c), .int isd, .int wd]))])) (wn := (fun u14 : Unit => [(mo, .inr (5, [.int (nI 0), .ref aO, .ref aT, .ref aM, .ref aZ, .ref aY, .ref aK, .ref aF, .ref aL, .int (nI c), .int isd, .int wd])), (aK, .inl (cI, 1200, .inl gk)), (aF, .inl (cI, 1200, .inl gf)), (aL, .inl (cI, 1200, .inl gl))])) (isC := [0]) (isR := [1, 2, 3]) hP hD hS hA ⟨rfl, rfl, by decide, by decide, by decide⟩ [3, 0, 1, 2] (by decide) (fun _ => rfl) (fun hPc hDc => va_runV (As := [.int (nI 0), .int (nI 1)]) (rest := []) ⟨hx, hb, hml, hown, ht⟩ (m_fails0 Ll D cI cL mo aO aT aM aZ aY aK aF aL er c isd wd 1  H.size) ⟨(callB_of 2 ht g_X5_fails rfl rfl rfl (ht _ iw_136) (ht _ iw_138) hd_X5_fails ⟨Nat.le_of_ble_eq_true rfl, Nat.le_of_ble_eq_true rfl⟩), (ht _ iw_139), (ht _ iw_140)⟩ (ds_pV hPc hDc hK (q0 := 0) rfl rfl) rfl rfl hl.1 rfl (lv_room (Nat.le_of_ble_eq_true rfl)) dX5_token_16 ⟨Nat.le_of_ble_eq_true rfl, Nat.le_of_ble_eq_true rfl⟩) (fun r13 u14 H locs hp15 hP hD hS => ?_)
          have hP : va_P D vwCl [(mo, .inr (5, [.int (nI 0), .ref aO, .ref aT, .ref aM, .ref aZ, .ref aY, .ref aK, .ref aF, .ref aL, .int (nI c), .int isd, .int wd])), (aK, .inl (cI, 1200, .inl gk)), (aF, .inl (cI, 1200, .inl gf)), (aL, .inl (cI, 1200, .inl gl))] H := hP
          have hD : va_D A [(mo, .inr (5, [.int (nI 0), .ref aO, .ref aT, .ref aM, .ref aZ, .ref aY, .ref aK, .ref aF, .ref aL, .int (nI c), .int isd, .int wd])), (aK, .inl (cI, 1200, .inl gk)), (aF, .inl (cI, 1200, .inl gf)), (aL, .inl (cI, 1200, .inl gl))] := hD
          have hp15 : r13 = nI 0 := hp15
          replace hp15 := Eq.symm hp15
          subst hp15
          refine lv_if_eq (tgt := 24) hx hb dX5_token_19 (by decide) (fun h => ?_) (fun h => ?_)
          ·
            rw [← nI_0] at h
            have h : 0 = 0 := (nI_eq (a := 0) (b := 0) (by omega) (by omega)).mp h
            by_cases hi : iok x c
            ·
              obtain ⟨q, hq, e9⟩ := iok_nat hT.1 hi
              subst e9
              have hj := hT.2 q hq
              have hc1 := hT.1
              have hl : lv_has ls 3 [(0, .ref mo), (1, .int (nI q)), (2, .int (nI 1))] := hl
              refine lv_aload_n hx hb dX5_token_24 rfl (lv_at hl 0 rfl) ?_
              refine lv_iload_n hx hb dX5_token_25 rfl (lv_at hl 1 rfl) ?_
              refine lv_if_lt (tgt := 37) hx hb dX5_token_26 (by decide) (fun h => ?_) (fun h => ?_)
              ·
                rw [← nI_0] at h
                have h : q < 0 := (nI_ltI (a := q) (b := 0) (by omega) (by omega)).mp h
                exfalso; omega
              ·
                rw [← nI_0] at h
                have h : ¬ q < 0 := fun z9 => h ((nI_ltI (a := q) (b := 0) (by omega) (by omega)).mpr z9)
                refine lv_iload_n hx hb dX5_token_29 rfl (lv_at hl 1 rfl) ?_
                refine lv_aload_n hx hb dX5_token_30 rfl (lv_at hl 0 rfl) ?_
                refine va_get (D := D) (ci := 5) (v := .int (nI c)) (C := RX5) (T := TX5) (N := 12) hx hb ht inA_X5 hown hK.1 hP 0 rfl rfl 9 (by decide) (ht _ iw_180) (fun _ h9 => h9) rfl dX5_token_31 ?_
                refine lv_icmp_lt (tgt := 41) hx hb dX5_token_34 (by decide) (fun h => ?_) (fun h => ?_)
                ·
                  have h : q < c := (nI_ltI (a := q) (b := c) (by omega) (by omega)).mp h
                  refine lv_iconst (v := nI 0) hx hb dX5_token_41 (by decide +kernel) ?_
                  refine lv_iconst (v := nI 2) hx hb dX5_token_42 (by decide +kernel) ?_
                  refine ds_calli (wc := [(mo, .inr (5, [.int (nI 0), .ref aO, .ref aT, .ref aM, .ref aZ, .ref aY, .ref aK, .ref aF, .ref aL, .int (nI c), .int isd, .int wd]))]) (wr := [(aK, .inl (cI, 1200, .inl gk)), (aF, .inl (cI, 1200, .inl gf)), (aL, .inl (cI, 1200, .inl gl))]) (wo := (fun u17 : Unit => [(mo, .inr (5, [.int (nI 0), .ref aO, .ref aT, .ref aM, .ref aZ, .ref aY, .ref aK, .ref aF, .ref aL, .int (nI c), .int isd, .int wd]))])) (wn := (fun u17 : Unit => [(mo, .inr (5, [.int (nI 0), .ref aO, .ref aT, .ref aM, .ref aZ, .ref aY, .ref aK, .ref aF, .ref aL, .int (nI c), .int isd, .int wd])), (aK, .inl (cI, 1200, .inl gk)), (aF, .inl (cI, 1200, .inl gf)), (aL, .inl (cI, 1200, .inl gl))])) (isC := [0]) (isR := [1, 2, 3]) hP hD hS hA ⟨rfl, rfl, by decide, by decide, by decide⟩ [3, 0, 1, 2] (by decide) (fun _ => rfl) (fun hPc hDc => va_runV (As := [.int (nI 0), .int (nI 2)]) (rest := []) ⟨hx, hb, hml, hown, ht⟩ (m_fails0 Ll D cI cL mo aO aT aM aZ aY aK aF aL (nI 0) c isd wd 2  H.size) ⟨(callB_of 2 ht g_X5_fails rfl rfl rfl (ht _ iw_136) (ht _ iw_138) hd_X5_fails ⟨Nat.le_of_ble_eq_true rfl, Nat.le_of_ble_eq_true rfl⟩), (ht _ iw_139), (ht _ iw_140)⟩ (ds_pV hPc hDc hK (q0 := 0) rfl rfl) rfl rfl hl.1 rfl (lv_room (Nat.le_of_ble_eq_true rfl)) dX5_token_43 ⟨Nat.le_of_ble_eq_true rfl, Nat.le_of_ble_eq_true rfl⟩) (fun r16 u17 H locs hp18 hP hD hS => ?_)
                  have hP : va_P D vwCl [(mo, .inr (5, [.int (nI 0), .ref aO, .ref aT, .ref aM, .ref aZ, .ref aY, .ref aK, .ref aF, .ref aL, .int (nI c), .int isd, .int wd])), (aK, .inl (cI, 1200, .inl gk)), (aF, .inl (cI, 1200, .inl gf)), (aL, .inl (cI, 1200, .inl gl))] H := hP
                  have hD : va_D A [(mo, .inr (5, [.int (nI 0), .ref aO, .ref aT, .ref aM, .ref aZ, .ref aY, .ref aK, .ref aF, .ref aL, .int (nI c), .int isd, .int wd])), (aK, .inl (cI, 1200, .inl gk)), (aF, .inl (cI, 1200, .inl gf)), (aL, .inl (cI, 1200, .inl gl))] := hD
                  have hp18 : r16 = nI 0 := hp18
                  replace hp18 := Eq.symm hp18
                  subst hp18
                  refine lv_if_eq (tgt := 51) hx hb dX5_token_46 (by decide) (fun h => ?_) (fun h => ?_)
                  ·
                    rw [← nI_0] at h
                    have h : 0 = 0 := (nI_eq (a := 0) (b := 0) (by omega) (by omega)).mp h
                    refine lv_iload_n hx hb dX5_token_51 rfl (lv_at hl 2 rfl) ?_
                    refine lv_if_ne (tgt := 64) hx hb dX5_token_52 (by decide) (fun h => ?_) (fun h => ?_)
                    ·
                      rw [← nI_0] at h
                      have h : ¬ 1 = 0 := fun z9 => h ((nI_eq (a := 1) (b := 0) (by omega) (by omega)).mpr z9)
                      refine lv_iload_n hx hb dX5_token_64 rfl (lv_at hl 2 rfl) ?_
                      refine lv_iconst (v := nI 1) hx hb dX5_token_65 (by decide +kernel) ?_
                      refine lv_icmp_ne (tgt := 78) hx hb dX5_token_66 (by decide) (fun h => ?_) (fun h => ?_)
                      ·
                        have h : ¬ 1 = 1 := fun z9 => h ((nI_eq (a := 1) (b := 1) (by omega) (by omega)).mpr z9)
                        exact absurd rfl h
                      ·
                        have h : 1 = 1 := (nI_eq (a := 1) (b := 1) (by omega) (by omega)).mp h
                        refine lv_aload_n hx hb dX5_token_69 rfl (lv_at hl 0 rfl) ?_
                        refine va_get (D := D) (ci := 5) (v := .ref aF) (C := RX5) (T := TX5) (N := 12) hx hb ht inA_X5 hown hK.1 hP 0 rfl rfl 7 (by decide) (ht _ iw_128) (fun _ h9 => h9) rfl dX5_token_70 ?_
                        refine lv_iload_n hx hb dX5_token_73 rfl (lv_at hl 1 rfl) ?_
                        refine ds_iald (k := q) hx hb hK hP 2 rfl (by omega) (by omega) dX5_token_74 ?_
                        refine lv_goto (tgt := 84) hx hb dX5_token_75 (by decide) ?_
                        exact ds_iret hx hb hr hlk rfl (nI 0) ⟨(e_token_ok hwo (iok_of hq hT.1)).symm, fun _ => by rw [v_token_1 (by omega)]; exact hj.2.1⟩ hP hD hS (Nat.le_of_ble_eq_true rfl) (Nat.le_of_ble_eq_true rfl) dX5_token_84
                    ·
                      rw [← nI_0] at h
                      have h : 1 = 0 := (nI_eq (a := 1) (b := 0) (by omega) (by omega)).mp h
                      exact absurd h (by decide)
                  ·
                    rw [← nI_0] at h
                    have h : ¬ 0 = 0 := fun z9 => h ((nI_eq (a := 0) (b := 0) (by omega) (by omega)).mpr z9)
                    exact absurd rfl h
                ·
                  have h : ¬ q < c := fun z9 => h ((nI_ltI (a := q) (b := c) (by omega) (by omega)).mpr z9)
                  exfalso; omega
            ·
              have hi9 := Classical.not_not.mp hi
              refine lv_aload_n hx hb dX5_token_24 rfl (lv_at hl 0 rfl) ?_
              refine lv_iload_n hx hb dX5_token_25 rfl (lv_at hl 1 rfl) ?_
              refine lv_if_lt (tgt := 37) hx hb dX5_token_26 (by decide) (fun h0 => ?_) (fun h0 => ?_)
              ·
                refine lv_iconst (v := nI 1) hx hb dX5_token_37 (by decide +kernel) ?_
                refine lv_goto (tgt := 42) hx hb dX5_token_38 (by decide) ?_
                refine lv_iconst (v := nI 2) hx hb dX5_token_42 (by decide +kernel) ?_
                refine ds_calli (wc := [(mo, .inr (5, [.int (nI 0), .ref aO, .ref aT, .ref aM, .ref aZ, .ref aY, .ref aK, .ref aF, .ref aL, .int (nI c), .int isd, .int wd]))]) (wr := [(aK, .inl (cI, 1200, .inl gk)), (aF, .inl (cI, 1200, .inl gf)), (aL, .inl (cI, 1200, .inl gl))]) (wo := (fun u20 : Unit => [(mo, .inr (5, [.int (nI 2), .ref aO, .ref aT, .ref aM, .ref aZ, .ref aY, .ref aK, .ref aF, .ref aL, .int (nI c), .int isd, .int wd]))])) (wn := (fun u20 : Unit => [(mo, .inr (5, [.int (nI 2), .ref aO, .ref aT, .ref aM, .ref aZ, .ref aY, .ref aK, .ref aF, .ref aL, .int (nI c), .int isd, .int wd])), (aK, .inl (cI, 1200, .inl gk)), (aF, .inl (cI, 1200, .inl gf)), (aL, .inl (cI, 1200, .inl gl))])) (isC := [0]) (isR := [1, 2, 3]) hP hD hS hA ⟨rfl, rfl, by decide, by decide, by decide⟩ [3, 0, 1, 2] (by decide) (fun _ => rfl) (fun hPc hDc => va_runV (As := [.int (nI 1), .int (nI 2)]) (rest := []) ⟨hx, hb, hml, hown, ht⟩ (m_fails1 Ll D cI cL mo aO aT aM aZ aY aK aF aL (nI 0) c isd wd 2  H.size) ⟨(callB_of 2 ht g_X5_fails rfl rfl rfl (ht _ iw_136) (ht _ iw_138) hd_X5_fails ⟨Nat.le_of_ble_eq_true rfl, Nat.le_of_ble_eq_true rfl⟩), (ht _ iw_139), (ht _ iw_140)⟩ (ds_pV hPc hDc hK (q0 := 0) rfl rfl) rfl rfl hl.1 rfl (lv_room (Nat.le_of_ble_eq_true rfl)) dX5_token_43 ⟨Nat.le_of_ble_eq_true rfl, Nat.le_of_ble_eq_true rfl⟩) (fun r19 u20 H locs hp21 hP hD hS => ?_)
                have hP : va_P D vwCl [(mo, .inr (5, [.int (nI 2), .ref aO, .ref aT, .ref aM, .ref aZ, .ref aY, .ref aK, .ref aF, .ref aL, .int (nI c), .int isd, .int wd])), (aK, .inl (cI, 1200, .inl gk)), (aF, .inl (cI, 1200, .inl gf)), (aL, .inl (cI, 1200, .inl gl))] H := hP
                have hD : va_D A [(mo, .inr (5, [.int (nI 2), .ref aO, .ref aT, .ref aM, .ref aZ, .ref aY, .ref aK, .ref aF, .ref aL, .int (nI c), .int isd, .int wd])), (aK, .inl (cI, 1200, .inl gk)), (aF, .inl (cI, 1200, .inl gf)), (aL, .inl (cI, 1200, .inl gl))] := hD
                have hp21 : r19 = nI 1 := hp21
                replace hp21 := Eq.symm hp21
                subst hp21
                refine lv_if_eq (tgt := 51) hx hb dX5_token_46 (by decide) (fun h => ?_) (fun h => ?_)
                ·
                  rw [← nI_0] at h
                  have h : 1 = 0 := (nI_eq (a := 1) (b := 0) (by omega) (by omega)).mp h
                  exact absurd h (by decide)
                ·
                  rw [← nI_0] at h
                  have h : ¬ 1 = 0 := fun z9 => h ((nI_eq (a := 1) (b := 0) (by omega) (by omega)).mpr z9)
                  refine lv_iconst (v := nI 0) hx hb dX5_token_49 (by decide +kernel) ?_
                  exact ds_iret hx hb hr hlk rfl (nI 2) ⟨(e_token_x hwo hi).symm, fun z => absurd (z.symm.trans (e_token_x hwo hi)) (by decide)⟩ hP hD hS (Nat.le_of_ble_eq_true rfl) (Nat.le_of_ble_eq_true rfl) dX5_token_50
              ·
                refine lv_iload_n hx hb dX5_token_29 rfl (lv_at hl 1 rfl) ?_
                refine lv_aload_n hx hb dX5_token_30 rfl (lv_at hl 0 rfl) ?_
                refine va_get (D := D) (ci := 5) (v := .int (nI c)) (C := RX5) (T := TX5) (N := 12) hx hb ht inA_X5 hown hK.1 hP 0 rfl rfl 9 (by decide) (ht _ iw_180) (fun _ h9 => h9) rfl dX5_token_31 ?_
                refine lv_icmp_lt (tgt := 41) hx hb dX5_token_34 (by decide) (fun h => ?_) (fun h => ?_)
                ·
                  exact absurd (hi9.resolve_left h0) (Int32.not_le.mpr h)
                ·
                  refine lv_iconst (v := nI 1) hx hb dX5_token_37 (by decide +kernel) ?_
                  refine lv_goto (tgt := 42) hx hb dX5_token_38 (by decide) ?_
                  refine lv_iconst (v := nI 2) hx hb dX5_token_42 (by decide +kernel) ?_
                  refine ds_calli (wc := [(mo, .inr (5, [.int (nI 0), .ref aO, .ref aT, .ref aM, .ref aZ, .ref aY, .ref aK, .ref aF, .ref aL, .int (nI c), .int isd, .int wd]))]) (wr := [(aK, .inl (cI, 1200, .inl gk)), (aF, .inl (cI, 1200, .inl gf)), (aL, .inl (cI, 1200, .inl gl))]) (wo := (fun u23 : Unit => [(mo, .inr (5, [.int (nI 2), .ref aO, .ref aT, .ref aM, .ref aZ, .ref aY, .ref aK, .ref aF, .ref aL, .int (nI c), .int isd, .int wd]))])) (wn := (fun u23 : Unit => [(mo, .inr (5, [.int (nI 2), .ref aO, .ref aT, .ref aM, .ref aZ, .ref aY, .ref aK, .ref aF, .ref aL, .int (nI c), .int isd, .int wd])), (aK, .inl (cI, 1200, .inl gk)), (aF, .inl (cI, 1200, .inl gf)), (aL, .inl (cI, 1200, .inl gl))])) (isC := [0]) (isR := [1, 2, 3]) hP hD hS hA ⟨rfl, rfl, by decide, by decide, by decide⟩ [3, 0, 1, 2] (by decide) (fun _ => rfl) (fun hPc hDc => va_runV (As := [.int (nI 1), .int (nI 2)]) (rest := []) ⟨hx, hb, hml, hown, ht⟩ (m_fails1 Ll D cI cL mo aO aT aM aZ aY aK aF aL (nI 0) c isd wd 2  H.size) ⟨(callB_of 2 ht g_X5_fails rfl rfl rfl (ht _ iw_136) (ht _ iw_138) hd_X5_fails ⟨Nat.le_of_ble_eq_true rfl, Nat.le_of_ble_eq_true rfl⟩), (ht _ iw_139), (ht _ iw_140)⟩ (ds_pV hPc hDc hK (q0 := 0) rfl rfl) rfl rfl hl.1 rfl (lv_room (Nat.le_of_ble_eq_true rfl)) dX5_token_43 ⟨Nat.le_of_ble_eq_true rfl, Nat.le_of_ble_eq_true rfl⟩) (fun r22 u23 H locs hp24 hP hD hS => ?_)
                  have hP : va_P D vwCl [(mo, .inr (5, [.int (nI 2), .ref aO, .ref aT, .ref aM, .ref aZ, .ref aY, .ref aK, .ref aF, .ref aL, .int (nI c), .int isd, .int wd])), (aK, .inl (cI, 1200, .inl gk)), (aF, .inl (cI, 1200, .inl gf)), (aL, .inl (cI, 1200, .inl gl))] H := hP
                  have hD : va_D A [(mo, .inr (5, [.int (nI 2), .ref aO, .ref aT, .ref aM, .ref aZ, .ref aY, .ref aK, .ref aF, .ref aL, .int (nI c), .int isd, .int wd])), (aK, .inl (cI, 1200, .inl gk)), (aF, .inl (cI, 1200, .inl gf)), (aL, .inl (cI, 1200, .inl gl))] := hD
                  have hp24 : r22 = nI 1 := hp24
                  replace hp24 := Eq.symm hp24
                  subst hp24
                  refine lv_if_eq (tgt := 51) hx hb dX5_token_46 (by decide) (fun h => ?_) (fun h => ?_)
                  ·
                    rw [← nI_0] at h
                    have h : 1 = 0 := (nI_eq (a := 1) (b := 0) (by omega) (by omega)).mp h
                    exact absurd h (by decide)
                  ·
                    rw [← nI_0] at h
                    have h : ¬ 1 = 0 := fun z9 => h ((nI_eq (a := 1) (b := 0) (by omega) (by omega)).mpr z9)
                    refine lv_iconst (v := nI 0) hx hb dX5_token_49 (by decide +kernel) ?_
                    exact ds_iret hx hb hr hlk rfl (nI 2) ⟨(e_token_x hwo hi).symm, fun z => absurd (z.symm.trans (e_token_x hwo hi)) (by decide)⟩ hP hD hS (Nat.le_of_ble_eq_true rfl) (Nat.le_of_ble_eq_true rfl) dX5_token_50
          ·
            rw [← nI_0] at h
            have h : ¬ 0 = 0 := fun z9 => h ((nI_eq (a := 0) (b := 0) (by omega) (by omega)).mpr z9)
            exact absurd rfl h
        ·
          have h : ¬ 1 ≤ 2 := fun z9 => h ((nI_leI (a := 1) (b := 2) (by omega) (by omega)).mpr z9)
          exact absurd (by decide) h
    ·
      have hl : lv_has ls 3 [(0, .ref mo), (1, .int x), (2, .int (nI 2))] := hl
      refine lv_aload_n hx hb dX5_token_0 rfl (lv_at hl 0 rfl) ?_
      refine lv_iload_n hx hb dX5_token_1 rfl (lv_at hl 2 rfl) ?_
      refine lv_if_lt (tgt := 10) hx hb dX5_token_2 (by decide) (fun h => ?_) (fun h => ?_)
      ·
        rw [← nI_0] at h
        have h : 2 < 0 := (nI_ltI (a := 2) (b := 0) (by omega) (by omega)).mp h
        exact absurd h (by decide)
      ·
        rw [← nI_0] at h
        have h : ¬ 2 < 0 := fun z9 => h ((nI_ltI (a := 2) (b := 0) (by omega) (by omega)).mpr z9)
        refine lv_iload_n hx hb dX5_token_5 rfl (lv_at hl 2 rfl) ?_
        refine lv_iconst (v := nI 2) hx hb dX5_token_6 (by decide +kernel) ?_
        refine lv_icmp_le (tgt := 14) hx hb dX5_token_7 (by decide) (fun h => ?_) (fun h => ?_)
        ·
          have h : 2 ≤ 2 := (nI_leI (a := 2) (b := 2) (by omega) (by omega)).mp h
          refine lv_iconst (v := nI 0) hx hb dX5_token_14 (by decide +kernel) ?_
          refine lv_iconst (v := nI 1) hx hb dX5_token_15 (by decide +kernel) ?_
          refine ds_calli (wc := [(mo, .inr (5, [.int er, .ref aO, .ref aT, .ref aM, .ref aZ, .ref aY, .ref aK, .ref aF, .ref aL, .int (nI c), .int isd, .int wd]))]) (wr := [(aK, .inl (cI, 1200, .inl gk)), (aF, .inl (cI, 1200, .inl gf)), (aL, .inl (cI, 1200, .inl gl))]) (wo := (fun u26 : Unit => [(mo, .inr (5, [.int (nI 0), .ref aO, .ref aT, .ref aM, .ref aZ, .ref aY, .ref aK, .ref aF, .ref aL, .int (nI c), .int isd, .int wd]))])) (wn := (fun u26 : Unit => [(mo, .inr (5, [.int (nI 0), .ref aO, .ref aT, .ref aM, .ref aZ, .ref aY, .ref aK, .ref aF, .ref aL, .int (nI c), .int isd, .int wd])), (aK, .inl (cI, 1200, .inl gk)), (aF, .inl (cI, 1200, .inl gf)), (aL, .inl (cI, 1200, .inl gl))])) (isC := [0]) (isR := [1, 2, 3]) hP hD hS hA ⟨rfl, rfl, by decide, by decide, by decide⟩ [3, 0, 1, 2] (by decide) (fun _ => rfl) (fun hPc hDc => va_runV (As := [.int (nI 0), .int (nI 1)]) (rest := []) ⟨hx, hb, hml, hown, ht⟩ (m_fails0 Ll D cI cL mo aO aT aM aZ aY aK aF aL er c isd wd 1  H.size) ⟨(callB_of 2 ht g_X5_fails rfl rfl rfl (ht _ iw_136) (ht _ iw_138) hd_X5_fails ⟨Nat.le_of_ble_eq_true rfl, Nat.le_of_ble_eq_true rfl⟩), (ht _ iw_139), (ht _ iw_140)⟩ (ds_pV hPc hDc hK (q0 := 0) rfl rfl) rfl rfl hl.1 rfl (lv_room (Nat.le_of_ble_eq_true rfl)) dX5_token_16 ⟨Nat.le_of_ble_eq_true rfl, Nat.le_of_ble_eq_true rfl⟩) (fun r25 u26 H locs hp27 hP hD hS => ?_)
          have hP : va_P D vwCl [(mo, .inr (5, [.int (nI 0), .ref aO, .ref aT, .ref aM, .ref aZ, .ref aY, .ref aK, .ref aF, .ref aL, .int (nI c), .int isd, .int wd])), (aK, .inl (cI, 1200, .inl gk)), (aF, .inl (cI, 1200, .inl gf)), (aL, .inl (cI, 1200, .inl gl))] H := hP
          have hD : va_D A [(mo, .inr (5, [.int (nI 0), .ref aO, .ref aT, .ref aM, .ref aZ, .ref aY, .ref aK, .ref aF, .ref aL, .int (nI c), .int isd, .int wd])), (aK, .inl (cI, 1200, .inl gk)), (aF, .inl (cI, 1200, .inl gf)), (aL, .inl (cI, 1200, .inl gl))] := hD
          have hp27 : r25 = nI 0 := hp27
          replace hp27 := Eq.symm hp27
          subst hp27
          refine lv_if_eq (tgt := 24) hx hb dX5_token_19 (by decide) (fun h => ?_) (fun h => ?_)
          ·
            rw [← nI_0] at h
            have h : 0 = 0 := (nI_eq (a := 0) (b := 0) (by omega) (by omega)).mp h
            by_cases hi : iok x c
            ·
              obtain ⟨q, hq, e9⟩ := iok_nat hT.1 hi
              subst e9
              have hj := hT.2 q hq
              have hc1 := hT.1
              have hl : lv_has ls 3 [(0, .ref mo), (1, .int (nI q)), (2, .int (nI 2))] := hl
              refine lv_aload_n hx hb dX5_token_24 rfl (lv_at hl 0 rfl) ?_
              refine lv_iload_n hx hb dX5_token_25 rfl (lv_at hl 1 rfl) ?_
              refine lv_if_lt (tgt := 37) hx hb dX5_token_26 (by decide) (fun h => ?_) (fun h => ?_)
              ·
                rw [← nI_0] at h
                have h : q < 0 := (nI_ltI (a := q) (b := 0) (by omega) (by omega)).mp h
                exfalso; omega
              ·
                rw [← nI_0] at h
                have h : ¬ q < 0 := fun z9 => h ((nI_ltI (a := q) (b := 0) (by omega) (by omega)).mpr z9)
                refine lv_iload_n hx hb dX5_token_29 rfl (lv_at hl 1 rfl) ?_
                refine lv_aload_n hx hb dX5_token_30 rfl (lv_at hl 0 rfl) ?_
                refine va_get (D := D) (ci := 5) (v := .int (nI c)) (C := RX5) (T := TX5) (N := 12) hx hb ht inA_X5 hown hK.1 hP 0 rfl rfl 9 (by decide) (ht _ iw_180) (fun _ h9 => h9) rfl dX5_token_31 ?_
                refine lv_icmp_lt (tgt := 41) hx hb dX5_token_34 (by decide) (fun h => ?_) (fun h => ?_)
                ·
                  have h : q < c := (nI_ltI (a := q) (b := c) (by omega) (by omega)).mp h
                  refine lv_iconst (v := nI 0) hx hb dX5_token_41 (by decide +kernel) ?_
                  refine lv_iconst (v := nI 2) hx hb dX5_token_42 (by decide +kernel) ?_
                  refine ds_calli (wc := [(mo, .inr (5, [.int (nI 0), .ref aO, .ref aT, .ref aM, .ref aZ, .ref aY, .ref aK, .ref aF, .ref aL, .int (nI c), .int isd, .int wd]))]) (wr := [(aK, .inl (cI, 1200, .inl gk)), (aF, .inl (cI, 1200, .inl gf)), (aL, .inl (cI, 1200, .inl gl))]) (wo := (fun u29 : Unit => [(mo, .inr (5, [.int (nI 0), .ref aO, .ref aT, .ref aM, .ref aZ, .ref aY, .ref aK, .ref aF, .ref aL, .int (nI c), .int isd, .int wd]))])) (wn := (fun u29 : Unit => [(mo, .inr (5, [.int (nI 0), .ref aO, .ref aT, .ref aM, .ref aZ, .ref aY, .ref aK, .ref aF, .ref aL, .int (nI c), .int isd, .int wd])), (aK, .inl (cI, 1200, .inl gk)), (aF, .inl (cI, 1200, .inl gf)), (aL, .inl (cI, 1200, .inl gl))])) (isC := [0]) (isR := [1, 2, 3]) hP hD hS hA ⟨rfl, rfl, by decide, by decide, by decide⟩ [3, 0, 1, 2] (by decide) (fun _ => rfl) (fun hPc hDc => va_runV (As := [.int (nI 0), .int (nI 2)]) (rest := []) ⟨hx, hb, hml, hown, ht⟩ (m_fails0 Ll D cI cL mo aO aT aM aZ aY aK aF aL (nI 0) c isd wd 2  H.size) ⟨(callB_of 2 ht g_X5_fails rfl rfl rfl (ht _ iw_136) (ht _ iw_138) hd_X5_fails ⟨Nat.le_of_ble_eq_true rfl, Nat.le_of_ble_eq_true rfl⟩), (ht _ iw_139), (ht _ iw_140)⟩ (ds_pV hPc hDc hK (q0 := 0) rfl rfl) rfl rfl hl.1 rfl (lv_room (Nat.le_of_ble_eq_true rfl)) dX5_token_43 ⟨Nat.le_of_ble_eq_true rfl, Nat.le_of_ble_eq_true rfl⟩) (fun r28 u29 H locs hp30 hP hD hS => ?_)
                  have hP : va_P D vwCl [(mo, .inr (5, [.int (nI 0), .ref aO, .ref aT, .ref aM, .ref aZ, .ref aY, .ref aK, .ref aF, .ref aL, .int (nI c), .int isd, .int wd])), (aK, .inl (cI, 1200, .inl gk)), (aF, .inl (cI, 1200, .inl gf)), (aL, .inl (cI, 1200, .inl gl))] H := hP
                  have hD : va_D A [(mo, .inr (5, [.int (nI 0), .ref aO, .ref aT, .ref aM, .ref aZ, .ref aY, .ref aK, .ref aF, .ref aL, .int (nI c), .int isd, .int wd])), (aK, .inl (cI, 1200, .inl gk)), (aF, .inl (cI, 1200, .inl gf)), (aL, .inl (cI, 1200, .inl gl))] := hD
                  have hp30 : r28 = nI 0 := hp30
                  replace hp30 := Eq.symm hp30
                  subst hp30
                  refine lv_if_eq (tgt := 51) hx hb dX5_token_46 (by decide) (fun h => ?_) (fun h => ?_)
                  ·
                    rw [← nI_0] at h
                    have h : 0 = 0 := (nI_eq (a := 0) (b := 0) (by omega) (by omega)).mp h
                    refine lv_iload_n hx hb dX5_token_51 rfl (lv_at hl 2 rfl) ?_
                    refine lv_if_ne (tgt := 64) hx hb dX5_token_52 (by decide) (fun h => ?_) (fun h => ?_)
                    ·
                      rw [← nI_0] at h
                      have h : ¬ 2 = 0 := fun z9 => h ((nI_eq (a := 2) (b := 0) (by omega) (by omega)).mpr z9)
                      refine lv_iload_n hx hb dX5_token_64 rfl (lv_at hl 2 rfl) ?_
                      refine lv_iconst (v := nI 1) hx hb dX5_token_65 (by decide +kernel) ?_
                      refine lv_icmp_ne (tgt := 78) hx hb dX5_token_66 (by decide) (fun h => ?_) (fun h => ?_)
                      ·
                        have h : ¬ 2 = 1 := fun z9 => h ((nI_eq (a := 2) (b := 1) (by omega) (by omega)).mpr z9)
                        refine lv_aload_n hx hb dX5_token_78 rfl (lv_at hl 0 rfl) ?_
                        refine va_get (D := D) (ci := 5) (v := .ref aL) (C := RX5) (T := TX5) (N := 12) hx hb ht inA_X5 hown hK.1 hP 0 rfl rfl 8 (by decide) (ht _ iw_129) (fun _ h9 => h9) rfl dX5_token_79 ?_
                        refine lv_iload_n hx hb dX5_token_82 rfl (lv_at hl 1 rfl) ?_
                        refine ds_iald (k := q) hx hb hK hP 3 rfl (by omega) (by omega) dX5_token_83 ?_
                        exact ds_iret hx hb hr hlk rfl (nI 0) ⟨(e_token_ok hwo (iok_of hq hT.1)).symm, fun _ => by rw [v_token_2 (by omega)]; exact hj.2.2⟩ hP hD hS (Nat.le_of_ble_eq_true rfl) (Nat.le_of_ble_eq_true rfl) dX5_token_84
                      ·
                        have h : 2 = 1 := (nI_eq (a := 2) (b := 1) (by omega) (by omega)).mp h
                        exact absurd h (by decide)
                    ·
                      rw [← nI_0] at h
                      have h : 2 = 0 := (nI_eq (a := 2) (b := 0) (by omega) (by omega)).mp h
                      exact absurd h (by decide)
                  ·
                    rw [← nI_0] at h
                    have h : ¬ 0 = 0 := fun z9 => h ((nI_eq (a := 0) (b := 0) (by omega) (by omega)).mpr z9)
                    exact absurd rfl h
                ·
                  have h : ¬ q < c := fun z9 => h ((nI_ltI (a := q) (b := c) (by omega) (by omega)).mpr z9)
                  exfalso; omega
            ·
              have hi9 := Classical.not_not.mp hi
              refine lv_aload_n hx hb dX5_token_24 rfl (lv_at hl 0 rfl) ?_
              refine lv_iload_n hx hb dX5_token_25 rfl (lv_at hl 1 rfl) ?_
              refine lv_if_lt (tgt := 37) hx hb dX5_token_26 (by decide) (fun h0 => ?_) (fun h0 => ?_)
              ·
                refine lv_iconst (v := nI 1) hx hb dX5_token_37 (by decide +kernel) ?_
                refine lv_goto (tgt := 42) hx hb dX5_token_38 (by decide) ?_
                refine lv_iconst (v := nI 2) hx hb dX5_token_42 (by decide +kernel) ?_
                refine ds_calli (wc := [(mo, .inr (5, [.int (nI 0), .ref aO, .ref aT, .ref aM, .ref aZ, .ref aY, .ref aK, .ref aF, .ref aL, .int (nI c), .int isd, .int wd]))]) (wr := [(aK, .inl (cI, 1200, .inl gk)), (aF, .inl (cI, 1200, .inl gf)), (aL, .inl (cI, 1200, .inl gl))]) (wo := (fun u32 : Unit => [(mo, .inr (5, [.int (nI 2), .ref aO, .ref aT, .ref aM, .ref aZ, .ref aY, .ref aK, .ref aF, .ref aL, .int (nI c), .int isd, .int wd]))])) (wn := (fun u32 : Unit => [(mo, .inr (5, [.int (nI 2), .ref aO, .ref aT, .ref aM, .ref aZ, .ref aY, .ref aK, .ref aF, .ref aL, .int (nI c), .int isd, .int wd])), (aK, .inl (cI, 1200, .inl gk)), (aF, .inl (cI, 1200, .inl gf)), (aL, .inl (cI, 1200, .inl gl))])) (isC := [0]) (isR := [1, 2, 3]) hP hD hS hA ⟨rfl, rfl, by decide, by decide, by decide⟩ [3, 0, 1, 2] (by decide) (fun _ => rfl) (fun hPc hDc => va_runV (As := [.int (nI 1), .int (nI 2)]) (rest := []) ⟨hx, hb, hml, hown, ht⟩ (m_fails1 Ll D cI cL mo aO aT aM aZ aY aK aF aL (nI 0) c isd wd 2  H.size) ⟨(callB_of 2 ht g_X5_fails rfl rfl rfl (ht _ iw_136) (ht _ iw_138) hd_X5_fails ⟨Nat.le_of_ble_eq_true rfl, Nat.le_of_ble_eq_true rfl⟩), (ht _ iw_139), (ht _ iw_140)⟩ (ds_pV hPc hDc hK (q0 := 0) rfl rfl) rfl rfl hl.1 rfl (lv_room (Nat.le_of_ble_eq_true rfl)) dX5_token_43 ⟨Nat.le_of_ble_eq_true rfl, Nat.le_of_ble_eq_true rfl⟩) (fun r31 u32 H locs hp33 hP hD hS => ?_)
                have hP : va_P D vwCl [(mo, .inr (5, [.int (nI 2), .ref aO, .ref aT, .ref aM, .ref aZ, .ref aY, .ref aK, .ref aF, .ref aL, .int (nI c), .int isd, .int wd])), (aK, .inl (cI, 1200, .inl gk)), (aF, .inl (cI, 1200, .inl gf)), (aL, .inl (cI, 1200, .inl gl))] H := hP
                have hD : va_D A [(mo, .inr (5, [.int (nI 2), .ref aO, .ref aT, .ref aM, .ref aZ, .ref aY, .ref aK, .ref aF, .ref aL, .int (nI c), .int isd, .int wd])), (aK, .inl (cI, 1200, .inl gk)), (aF, .inl (cI, 1200, .inl gf)), (aL, .inl (cI, 1200, .inl gl))] := hD
                have hp33 : r31 = nI 1 := hp33
                replace hp33 := Eq.symm hp33
                subst hp33
                refine lv_if_eq (tgt := 51) hx hb dX5_token_46 (by decide) (fun h => ?_) (fun h => ?_)
                ·
                  rw [← nI_0] at h
                  have h : 1 = 0 := (nI_eq (a := 1) (b := 0) (by omega) (by omega)).mp h
                  exact absurd h (by decide)
                ·
                  rw [← nI_0] at h
                  have h : ¬ 1 = 0 := fun z9 => h ((nI_eq (a := 1) (b := 0) (by omega) (by omega)).mpr z9)
                  refine lv_iconst (v := nI 0) hx hb dX5_token_49 (by decide +kernel) ?_
                  exact ds_iret hx hb hr hlk rfl (nI 2) ⟨(e_token_x hwo hi).symm, fun z => absurd (z.symm.trans (e_token_x hwo hi)) (by decide)⟩ hP hD hS (Nat.le_of_ble_eq_true rfl) (Nat.le_of_ble_eq_true rfl) dX5_token_50
              ·
                refine lv_iload_n hx hb dX5_token_29 rfl (lv_at hl 1 rfl) ?_
                refine lv_aload_n hx hb dX5_token_30 rfl (lv_at hl 0 rfl) ?_
                refine va_get (D := D) (ci := 5) (v := .int (nI c)) (C := RX5) (T := TX5) (N := 12) hx hb ht inA_X5 hown hK.1 hP 0 rfl rfl 9 (by decide) (ht _ iw_180) (fun _ h9 => h9) rfl dX5_token_31 ?_
                refine lv_icmp_lt (tgt := 41) hx hb dX5_token_34 (by decide) (fun h => ?_) (fun h => ?_)
                ·
                  exact absurd (hi9.resolve_left h0) (Int32.not_le.mpr h)
                ·
                  refine lv_iconst (v := nI 1) hx hb dX5_token_37 (by decide +kernel) ?_
                  refine lv_goto (tgt := 42) hx hb dX5_token_38 (by decide) ?_
                  refine lv_iconst (v := nI 2) hx hb dX5_token_42 (by decide +kernel) ?_
                  refine ds_calli (wc := [(mo, .inr (5, [.int (nI 0), .ref aO, .ref aT, .ref aM, .ref aZ, .ref aY, .ref aK, .ref aF, .ref aL, .int (nI c), .int isd, .int wd]))]) (wr := [(aK, .inl (cI, 1200, .inl gk)), (aF, .inl (cI, 1200, .inl gf)), (aL, .inl (cI, 1200, .inl gl))]) (wo := (fun u35 : Unit => [(mo, .inr (5, [.int (nI 2), .ref aO, .ref aT, .ref aM, .ref aZ, .ref aY, .ref aK, .ref aF, .ref aL, .int (nI c), .int isd, .int wd]))])) (wn := (fun u35 : Unit => [(mo, .inr (5, [.int (nI 2), .ref aO, .ref aT, .ref aM, .ref aZ, .ref aY, .ref aK, .ref aF, .ref aL, .int (nI c), .int isd, .int wd])), (aK, .inl (cI, 1200, .inl gk)), (aF, .inl (cI, 1200, .inl gf)), (aL, .inl (cI, 1200, .inl gl))])) (isC := [0]) (isR := [1, 2, 3]) hP hD hS hA ⟨rfl, rfl, by decide, by decide, by decide⟩ [3, 0, 1, 2] (by decide) (fun _ => rfl) (fun hPc hDc => va_runV (As := [.int (nI 1), .int (nI 2)]) (rest := []) ⟨hx, hb, hml, hown, ht⟩ (m_fails1 Ll D cI cL mo aO aT aM aZ aY aK aF aL (nI 0) c isd wd 2  H.size) ⟨(callB_of 2 ht g_X5_fails rfl rfl rfl (ht _ iw_136) (ht _ iw_138) hd_X5_fails ⟨Nat.le_of_ble_eq_true rfl, Nat.le_of_ble_eq_true rfl⟩), (ht _ iw_139), (ht _ iw_140)⟩ (ds_pV hPc hDc hK (q0 := 0) rfl rfl) rfl rfl hl.1 rfl (lv_room (Nat.le_of_ble_eq_true rfl)) dX5_token_43 ⟨Nat.le_of_ble_eq_true rfl, Nat.le_of_ble_eq_true rfl⟩) (fun r34 u35 H locs hp36 hP hD hS => ?_)
                  have hP : va_P D vwCl [(mo, .inr (5, [.int (nI 2), .ref aO, .ref aT, .ref aM, .ref aZ, .ref aY, .ref aK, .ref aF, .ref aL, .int (nI c), .int isd, .int wd])), (aK, .inl (cI, 1200, .inl gk)), (aF, .inl (cI, 1200, .inl gf)), (aL, .inl (cI, 1200, .inl gl))] H := hP
                  have hD : va_D A [(mo, .inr (5, [.int (nI 2), .ref aO, .ref aT, .ref aM, .ref aZ, .ref aY, .ref aK, .ref aF, .ref aL, .int (nI c), .int isd, .int wd])), (aK, .inl (cI, 1200, .inl gk)), (aF, .inl (cI, 1200, .inl gf)), (aL, .inl (cI, 1200, .inl gl))] := hD
                  have hp36 : r34 = nI 1 := hp36
                  replace hp36 := Eq.symm hp36
                  subst hp36
                  refine lv_if_eq (tgt := 51) hx hb dX5_token_46 (by decide) (fun h => ?_) (fun h => ?_)
                  ·
                    rw [← nI_0] at h
                    have h : 1 = 0 := (nI_eq (a := 1) (b := 0) (by omega) (by omega)).mp h
                    exact absurd h (by decide)
                  ·
                    rw [← nI_0] at h
                    have h : ¬ 1 = 0 := fun z9 => h ((nI_eq (a := 1) (b := 0) (by omega) (by omega)).mpr z9)
                    refine lv_iconst (v := nI 0) hx hb dX5_token_49 (by decide +kernel) ?_
                    exact ds_iret hx hb hr hlk rfl (nI 2) ⟨(e_token_x hwo hi).symm, fun z => absurd (z.symm.trans (e_token_x hwo hi)) (by decide)⟩ hP hD hS (Nat.le_of_ble_eq_true rfl) (Nat.le_of_ble_eq_true rfl) dX5_token_50
          ·
            rw [← nI_0] at h
            have h : ¬ 0 = 0 := fun z9 => h ((nI_eq (a := 0) (b := 0) (by omega) (by omega)).mpr z9)
            exact absurd rfl h
        ·
          have h : ¬ 2 ≤ 2 := fun z9 => h ((nI_leI (a := 2) (b := 2) (by omega) (by omega)).mpr z9)
          exact absurd (by decide) h
  ·
    refine lv_aload_n hx hb dX5_token_0 rfl (lv_at hl 0 rfl) ?_
    refine lv_iload_n hx hb dX5_token_1 rfl (lv_at hl 2 rfl) ?_
    refine lv_if_lt (tgt := 10) hx hb dX5_token_2 (by decide) (fun h0 => ?_) (fun h0 => ?_)
    ·
      refine lv_iconst (v := nI 1) hx hb dX5_token_10 (by decide +kernel) ?_
      refine lv_goto (tgt := 15) hx hb dX5_token_11 (by decide) ?_
      refine lv_iconst (v := nI 1) hx hb dX5_token_15 (by decide +kernel) ?_
      refine ds_calli (wc := [(mo, .inr (5, [.int er, .ref aO, .ref aT, .ref aM, .ref aZ, .ref aY, .ref aK, .ref aF, .ref aL, .int (nI c), .int isd, .int wd]))]) (wr := [(aK, .inl (cI, 1200, .inl gk)), (aF, .inl (cI, 1200, .inl gf)), (aL, .inl (cI, 1200, .inl gl))]) (wo := (fun u38 : Unit => [(mo, .inr (5, [.int (nI 1), .ref aO, .ref aT, .ref aM, .ref aZ, .ref aY, .ref aK, .ref aF, .ref aL, .int (nI c), .int isd, .int wd]))])) (wn := (fun u38 : Unit => [(mo, .inr (5, [.int (nI 1), .ref aO, .ref aT, .ref aM, .ref aZ, .ref aY, .ref aK, .ref aF, .ref aL, .int (nI c), .int isd, .int wd])), (aK, .inl (cI, 1200, .inl gk)), (aF, .inl (cI, 1200, .inl gf)), (aL, .inl (cI, 1200, .inl gl))])) (isC := [0]) (isR := [1, 2, 3]) hP hD hS hA ⟨rfl, rfl, by decide, by decide, by decide⟩ [3, 0, 1, 2] (by decide) (fun _ => rfl) (fun hPc hDc => va_runV (As := [.int (nI 1), .int (nI 1)]) (rest := []) ⟨hx, hb, hml, hown, ht⟩ (m_fails1 Ll D cI cL mo aO aT aM aZ aY aK aF aL er c isd wd 1  H.size) ⟨(callB_of 2 ht g_X5_fails rfl rfl rfl (ht _ iw_136) (ht _ iw_138) hd_X5_fails ⟨Nat.le_of_ble_eq_true rfl, Nat.le_of_ble_eq_true rfl⟩), (ht _ iw_139), (ht _ iw_140)⟩ (ds_pV hPc hDc hK (q0 := 0) rfl rfl) rfl rfl hl.1 rfl (lv_room (Nat.le_of_ble_eq_true rfl)) dX5_token_16 ⟨Nat.le_of_ble_eq_true rfl, Nat.le_of_ble_eq_true rfl⟩) (fun r37 u38 H locs hp39 hP hD hS => ?_)
      have hP : va_P D vwCl [(mo, .inr (5, [.int (nI 1), .ref aO, .ref aT, .ref aM, .ref aZ, .ref aY, .ref aK, .ref aF, .ref aL, .int (nI c), .int isd, .int wd])), (aK, .inl (cI, 1200, .inl gk)), (aF, .inl (cI, 1200, .inl gf)), (aL, .inl (cI, 1200, .inl gl))] H := hP
      have hD : va_D A [(mo, .inr (5, [.int (nI 1), .ref aO, .ref aT, .ref aM, .ref aZ, .ref aY, .ref aK, .ref aF, .ref aL, .int (nI c), .int isd, .int wd])), (aK, .inl (cI, 1200, .inl gk)), (aF, .inl (cI, 1200, .inl gf)), (aL, .inl (cI, 1200, .inl gl))] := hD
      have hp39 : r37 = nI 1 := hp39
      replace hp39 := Eq.symm hp39
      subst hp39
      refine lv_if_eq (tgt := 24) hx hb dX5_token_19 (by decide) (fun h => ?_) (fun h => ?_)
      ·
        rw [← nI_0] at h
        have h : 1 = 0 := (nI_eq (a := 1) (b := 0) (by omega) (by omega)).mp h
        exact absurd h (by decide)
      ·
        rw [← nI_0] at h
        have h : ¬ 1 = 0 := fun z9 => h ((nI_eq (a := 1) (b := 0) (by omega) (by omega)).mpr z9)
        refine lv_iconst (v := nI 0) hx hb dX5_token_22 (by decide +kernel) ?_
        exact ds_iret hx hb hr hlk rfl (nI 1) ⟨(e_token_w hw).symm, fun z => absurd (z.symm.trans (e_token_w hw)) (by decide)⟩ hP hD hS (Nat.le_of_ble_eq_true rfl) (Nat.le_of_ble_eq_true rfl) dX5_token_23
    ·
      refine lv_iload_n hx hb dX5_token_5 rfl (lv_at hl 2 rfl) ?_
      refine lv_iconst (v := nI 2) hx hb dX5_token_6 (by decide +kernel) ?_
      refine lv_icmp_le (tgt := 14) hx hb dX5_token_7 (by decide) (fun h => ?_) (fun h => ?_)
      ·
        exact absurd (fun z => z.elim h0 (Int32.not_lt.mpr h)) hw
      ·
        refine lv_iconst (v := nI 1) hx hb dX5_token_10 (by decide +kernel) ?_
        refine lv_goto (tgt := 15) hx hb dX5_token_11 (by decide) ?_
        refine lv_iconst (v := nI 1) hx hb dX5_token_15 (by decide +kernel) ?_
        refine ds_calli (wc := [(mo, .inr (5, [.int er, .ref aO, .ref aT, .ref aM, .ref aZ, .ref aY, .ref aK, .ref aF, .ref aL, .int (nI c), .int isd, .int wd]))]) (wr := [(aK, .inl (cI, 1200, .inl gk)), (aF, .inl (cI, 1200, .inl gf)), (aL, .inl (cI, 1200, .inl gl))]) (wo := (fun u41 : Unit => [(mo, .inr (5, [.int (nI 1), .ref aO, .ref aT, .ref aM, .ref aZ, .ref aY, .ref aK, .ref aF, .ref aL, .int (nI c), .int isd, .int wd]))])) (wn := (fun u41 : Unit => [(mo, .inr (5, [.int (nI 1), .ref aO, .ref aT, .ref aM, .ref aZ, .ref aY, .ref aK, .ref aF, .ref aL, .int (nI c), .int isd, .int wd])), (aK, .inl (cI, 1200, .inl gk)), (aF, .inl (cI, 1200, .inl gf)), (aL, .inl (cI, 1200, .inl gl))])) (isC := [0]) (isR := [1, 2, 3]) hP hD hS hA ⟨rfl, rfl, by decide, by decide, by decide⟩ [3, 0, 1, 2] (by decide) (fun _ => rfl) (fun hPc hDc => va_runV (As := [.int (nI 1), .int (nI 1)]) (rest := []) ⟨hx, hb, hml, hown, ht⟩ (m_fails1 Ll D cI cL mo aO aT aM aZ aY aK aF aL er c isd wd 1  H.size) ⟨(callB_of 2 ht g_X5_fails rfl rfl rfl (ht _ iw_136) (ht _ iw_138) hd_X5_fails ⟨Nat.le_of_ble_eq_true rfl, Nat.le_of_ble_eq_true rfl⟩), (ht _ iw_139), (ht _ iw_140)⟩ (ds_pV hPc hDc hK (q0 := 0) rfl rfl) rfl rfl hl.1 rfl (lv_room (Nat.le_of_ble_eq_true rfl)) dX5_token_16 ⟨Nat.le_of_ble_eq_true rfl, Nat.le_of_ble_eq_true rfl⟩) (fun r40 u41 H locs hp42 hP hD hS => ?_)
        have hP : va_P D vwCl [(mo, .inr (5, [.int (nI 1), .ref aO, .ref aT, .ref aM, .ref aZ, .ref aY, .ref aK, .ref aF, .ref aL, .int (nI c), .int isd, .int wd])), (aK, .inl (cI, 1200, .inl gk)), (aF, .inl (cI, 1200, .inl gf)), (aL, .inl (cI, 1200, .inl gl))] H := hP
        have hD : va_D A [(mo, .inr (5, [.int (nI 1), .ref aO, .ref aT, .ref aM, .ref aZ, .ref aY, .ref aK, .ref aF, .ref aL, .int (nI c), .int isd, .int wd])), (aK, .inl (cI, 1200, .inl gk)), (aF, .inl (cI, 1200, .inl gf)), (aL, .inl (cI, 1200, .inl gl))] := hD
        have hp42 : r40 = nI 1 := hp42
        replace hp42 := Eq.symm hp42
        subst hp42
        refine lv_if_eq (tgt := 24) hx hb dX5_token_19 (by decide) (fun h => ?_) (fun h => ?_)
        ·
          rw [← nI_0] at h
          have h : 1 = 0 := (nI_eq (a := 1) (b := 0) (by omega) (by omega)).mp h
          exact absurd h (by decide)
        ·
          rw [← nI_0] at h
          have h : ¬ 1 = 0 := fun z9 => h ((nI_eq (a := 1) (b := 0) (by omega) (by omega)).mpr z9)
          refine lv_iconst (v := nI 0) hx hb dX5_token_22 (by decide +kernel) ?_
          exact ds_iret hx hb hr hlk rfl (nI 1) ⟨(e_token_w hw).symm, fun z => absurd (z.symm.trans (e_token_w hw)) (by decide)⟩ hP hD hS (Nat.le_of_ble_eq_true rfl) (Nat.le_of_ble_eq_true rfl) dX5_token_23
