set_option maxHeartbeats 4000000 in
set_option maxRecDepth 100000 in
theorem c_X5_find (Ll : Launch) (D : va_G) (cI cL : ClassId) (mo : Nat) (aO : Nat) (aT : Nat) (aM : Nat) (aZ : Nat) (aY : Nat) (aK : Nat) (aF : Nat) (aL : Nat) (er : Int32) (c : Nat) (isd : Int32) (wd : Int32) (O : Nat → Int32) (Z : Nat → Int32) (lo : Nat) (ln : Nat) (fo : Nat → Int32) (fn : Nat → Int32) (x : Int32) (y : Int32) (z : Int32) (v : Int32) (hR : mR lo ln fo fn O Z) (sz : Nat) : Met Ll yX5_find wsX5_find { frames := 2, cells := 0, slots := 0, locals := 53 } (ds_P D cI cL [.ref mo, .int x, .int y, .int z, .int v] [(mo, .inr (5, [.int er, .ref aO, .ref aT, .ref aM, .ref aZ, .ref aY, .ref aK, .ref aF, .ref aL, .int (nI c), .int isd, .int wd])), (aO, .inl (cI, 2400, .inl O)), (aZ, .inl (cI, 2, .inl Z))] sz) (ds_Qi D (fun (r : Int32) (u : Int32) => u = e_find x y z v lo ∧ (e_find x y z v lo = 0 → r = v_find x.toNatClampNeg y.toNatClampNeg z.toNatClampNeg v.toNatClampNeg (lo, fo, ln, fn))) (fun u : Int32 => [(mo, .inr (5, [.int u, .ref aO, .ref aT, .ref aM, .ref aZ, .ref aY, .ref aK, .ref aF, .ref aL, .int (nI c), .int isd, .int wd])), (aO, .inl (cI, 2400, .inl O)), (aZ, .inl (cI, 2, .inl Z))]) (va_A [(mo, .inr (5, [.int er, .ref aO, .ref aT, .ref aM, .ref aZ, .ref aY, .ref aK, .ref aF, .ref aL, .int (nI c), .int isd, .int wd])), (aO, .inl (cI, 2400, .inl O)), (aZ, .inl (cI, 2, .inl Z))] sz)) 0 0 (va_A [(mo, .inr (5, [.int er, .ref aO, .ref aT, .ref aM, .ref aZ, .ref aY, .ref aK, .ref aF, .ref aL, .int (nI c), .int isd, .int wd])), (aO, .inl (cI, 2400, .inl O)), (aZ, .inl (cI, 2, .inl Z))] sz) := by
  refine ds_enter (Qf := (fun A9 => ds_Qi D (fun (r : Int32) (u : Int32) => u = e_find x y z v lo ∧ (e_find x y z v lo = 0 → r = v_find x.toNatClampNeg y.toNatClampNeg z.toNatClampNeg v.toNatClampNeg (lo, fo, ln, fn))) (fun u : Int32 => [(mo, .inr (5, [.int u, .ref aO, .ref aT, .ref aM, .ref aZ, .ref aY, .ref aK, .ref aF, .ref aL, .int (nI c), .int isd, .int wd])), (aO, .inl (cI, 2400, .inl O)), (aZ, .inl (cI, 2, .inl Z))]) A9)) (cc := cX5_find) (maxL := 6) (ret := (some .int)) (by decide) rfl (Nat.le_of_ble_eq_true rfl) ?_
  intro Pp Ee Ss Mm Aa Bb Me Cc hx hb hml hr ht hown hlk hnm A H locs hA hP hD hS hK ls hl
  have hl : lv_has ls 6 [(0, .ref mo), (1, .int x), (2, .int y), (3, .int z), (4, .int v)] := hl
  change Ss.vm.findClass RX5 = some Mm.cls at hown
  have hZ := mR_len hR
  by_cases hb9 : bok x y
  ·
    obtain ⟨s, b, h2, h3, h4, e8, e9⟩ := bok_nat hb9
    subst e8 e9
    have hb3 := bn_300 hZ.1 h2
    have hl : lv_has ls 6 [(0, .ref mo), (1, .int (nI s)), (2, .int (nI b)), (3, .int z), (4, .int v)] := hl
    refine lv_aload_n hx hb dX5_find_0 rfl (lv_at hl 0 rfl) ?_
    refine lv_iload_n hx hb dX5_find_1 rfl (lv_at hl 1 rfl) ?_
    refine lv_iload_n hx hb dX5_find_2 rfl (lv_at hl 2 rfl) ?_
    refine ds_calli (wc := []) (wr := [(mo, .inr (5, [.int er, .ref aO, .ref aT, .ref aM, .ref aZ, .ref aY, .ref aK, .ref aF, .ref aL, .int (nI c), .int isd, .int wd])), (aO, .inl (cI, 2400, .inl O)), (aZ, .inl (cI, 2, .inl Z))]) (wo := (fun u2 : Unit => [])) (wn := (fun u2 : Unit => [(mo, .inr (5, [.int er, .ref aO, .ref aT, .ref aM, .ref aZ, .ref aY, .ref aK, .ref aF, .ref aL, .int (nI c), .int isd, .int wd])), (aO, .inl (cI, 2400, .inl O)), (aZ, .inl (cI, 2, .inl Z))])) (isC := []) (isR := [0, 1, 2]) hP hD hS hA ⟨rfl, rfl, by decide, by decide, by decide⟩ [0, 1, 2] (by decide) (fun _ => rfl) (fun hPc hDc => va_runS (As := [.int (nI s), .int (nI b)]) (rest := [.ref mo]) ⟨hx, hb, hml, hown, ht⟩ (m_bad0 Ll D cI cL s b h2 h3 h4 H.size) ⟨(callB_of 2 ht g_X5_bad rfl rfl rfl (ht _ iw_136) (ht _ iw_170) hd_X5_bad ⟨Nat.le_of_ble_eq_true rfl, Nat.le_of_ble_eq_true rfl⟩), (ht _ iw_171)⟩ (ds_pS hPc hDc hK) rfl rfl hl.1 rfl (lv_room (Nat.le_of_ble_eq_true rfl)) dX5_find_3 ⟨Nat.le_of_ble_eq_true rfl, Nat.le_of_ble_eq_true rfl⟩) (fun r1 u2 H locs hp3 hP hD hS => ?_)
    have hP : va_P D vwCl [(mo, .inr (5, [.int er, .ref aO, .ref aT, .ref aM, .ref aZ, .ref aY, .ref aK, .ref aF, .ref aL, .int (nI c), .int isd, .int wd])), (aO, .inl (cI, 2400, .inl O)), (aZ, .inl (cI, 2, .inl Z))] H := hP
    have hD : va_D A [(mo, .inr (5, [.int er, .ref aO, .ref aT, .ref aM, .ref aZ, .ref aY, .ref aK, .ref aF, .ref aL, .int (nI c), .int isd, .int wd])), (aO, .inl (cI, 2400, .inl O)), (aZ, .inl (cI, 2, .inl Z))] := hD
    have hp3 : r1 = nI 0 := hp3
    replace hp3 := Eq.symm hp3
    subst hp3
    refine lv_iconst (v := nI 1) hx hb dX5_find_6 (by decide +kernel) ?_
    refine ds_calli (wc := [(mo, .inr (5, [.int er, .ref aO, .ref aT, .ref aM, .ref aZ, .ref aY, .ref aK, .ref aF, .ref aL, .int (nI c), .int isd, .int wd]))]) (wr := [(aO, .inl (cI, 2400, .inl O)), (aZ, .inl (cI, 2, .inl Z))]) (wo := (fun u5 : Unit => [(mo, .inr (5, [.int (nI 0), .ref aO, .ref aT, .ref aM, .ref aZ, .ref aY, .ref aK, .ref aF, .ref aL, .int (nI c), .int isd, .int wd]))])) (wn := (fun u5 : Unit => [(mo, .inr (5, [.int (nI 0), .ref aO, .ref aT, .ref aM, .ref aZ, .ref aY, .ref aK, .ref aF, .ref aL, .int (nI c), .int isd, .int wd])), (aO, .inl (cI, 2400, .inl O)), (aZ, .inl (cI, 2, .inl Z))])) (isC := [0]) (isR := [1, 2]) hP hD hS hA ⟨rfl, rfl, by decide, by decide, by decide⟩ [2, 0, 1] (by decide) (fun _ => rfl) (fun hPc hDc => va_runV (As := [.int (nI 0), .int (nI 1)]) (rest := []) ⟨hx, hb, hml, hown, ht⟩ (m_fails0 Ll D cI cL mo aO aT aM aZ aY aK aF aL er c isd wd 1  H.size) ⟨(callB_of 2 ht g_X5_fails rfl rfl rfl (ht _ iw_136) (ht _ iw_138) hd_X5_fails ⟨Nat.le_of_ble_eq_true rfl, Nat.le_of_ble_eq_true rfl⟩), (ht _ iw_139), (ht _ iw_140)⟩ (ds_pV hPc hDc hK (q0 := 0) rfl rfl) rfl rfl hl.1 rfl (lv_room (Nat.le_of_ble_eq_true rfl)) dX5_find_7 ⟨Nat.le_of_ble_eq_true rfl, Nat.le_of_ble_eq_true rfl⟩) (fun r4 u5 H locs hp6 hP hD hS => ?_)
    have hP : va_P D vwCl [(mo, .inr (5, [.int (nI 0), .ref aO, .ref aT, .ref aM, .ref aZ, .ref aY, .ref aK, .ref aF, .ref aL, .int (nI c), .int isd, .int wd])), (aO, .inl (cI, 2400, .inl O)), (aZ, .inl (cI, 2, .inl Z))] H := hP
    have hD : va_D A [(mo, .inr (5, [.int (nI 0), .ref aO, .ref aT, .ref aM, .ref aZ, .ref aY, .ref aK, .ref aF, .ref aL, .int (nI c), .int isd, .int wd])), (aO, .inl (cI, 2400, .inl O)), (aZ, .inl (cI, 2, .inl Z))] := hD
    have hp6 : r4 = nI 0 := hp6
    replace hp6 := Eq.symm hp6
    subst hp6
    refine lv_if_eq (tgt := 15) hx hb dX5_find_10 (by decide) (fun h => ?_) (fun h => ?_)
    ·
      rw [← nI_0] at h
      have h : 0 = 0 := (nI_eq (a := 0) (b := 0) (by omega) (by omega)).mp h
      by_cases hf : ¬ (z < 0 ∨ nI (bn lo s) ≤ z ∨ v < 0)
      ·
        obtain ⟨k, p0, hk, hp0, e8, e9⟩ := find_nat hb3 hf
        subst e8 e9
        have hl : lv_has ls 6 [(0, .ref mo), (1, .int (nI s)), (2, .int (nI b)), (3, .int (nI k)), (4, .int (nI p0))] := hl
        have hin := bl_in (n := lo) (s := s) (i := k) (by omega) hk
        refine lv_aload_n hx hb dX5_find_15 rfl (lv_at hl 0 rfl) ?_
        refine lv_iload_n hx hb dX5_find_16 rfl (lv_at hl 3 rfl) ?_
        refine lv_if_lt (tgt := 34) hx hb dX5_find_17 (by decide) (fun h => ?_) (fun h => ?_)
        ·
          rw [← nI_0] at h
          have h : k < 0 := (nI_ltI (a := k) (b := 0) (by omega) (by omega)).mp h
          exfalso; omega
        ·
          rw [← nI_0] at h
          have h : ¬ k < 0 := fun z9 => h ((nI_ltI (a := k) (b := 0) (by omega) (by omega)).mpr z9)
          refine lv_iload_n hx hb dX5_find_20 rfl (lv_at hl 3 rfl) ?_
          refine lv_aload_n hx hb dX5_find_21 rfl (lv_at hl 0 rfl) ?_
          refine lv_iload_n hx hb dX5_find_22 rfl (lv_at hl 1 rfl) ?_
          refine ds_calli (wc := [(mo, .inr (5, [.int (nI 0), .ref aO, .ref aT, .ref aM, .ref aZ, .ref aY, .ref aK, .ref aF, .ref aL, .int (nI c), .int isd, .int wd])), (aZ, .inl (cI, 2, .inl Z))]) (wr := [(aO, .inl (cI, 2400, .inl O))]) (wo := (fun u8 : Unit => [(mo, .inr (5, [.int (nI 0), .ref aO, .ref aT, .ref aM, .ref aZ, .ref aY, .ref aK, .ref aF, .ref aL, .int (nI c), .int isd, .int wd])), (aZ, .inl (cI, 2, .inl Z))])) (wn := (fun u8 : Unit => [(mo, .inr (5, [.int (nI 0), .ref aO, .ref aT, .ref aM, .ref aZ, .ref aY, .ref aK, .ref aF, .ref aL, .int (nI c), .int isd, .int wd])), (aO, .inl (cI, 2400, .inl O)), (aZ, .inl (cI, 2, .inl Z))])) (isC := [0, 2]) (isR := [1]) hP hD hS hA ⟨rfl, rfl, by decide, by decide, by decide⟩ [1, 0, 2] (by decide) (fun _ => rfl) (fun hPc hDc => va_runV (As := [.int (nI s)]) (rest := [.int (nI k), .ref mo]) ⟨hx, hb, hml, hown, ht⟩ (c_X5_blocks Ll D cI cL mo aO aT aM aZ aY aK aF aL (nI 0) c isd wd Z lo s hZ.2.2.1 hZ.1 h2 h3 H.size) ⟨(callB_of 1 ht g_X5_blocks rfl rfl rfl (ht _ iw_136) (ht _ iw_172) hd_X5_blocks ⟨Nat.le_of_ble_eq_true rfl, Nat.le_of_ble_eq_true rfl⟩), (ht _ iw_173), (ht _ iw_174)⟩ (ds_pV hPc hDc hK (q0 := 0) rfl rfl) rfl rfl hl.1 rfl (lv_room (Nat.le_of_ble_eq_true rfl)) dX5_find_23 ⟨Nat.le_of_ble_eq_true rfl, Nat.le_of_ble_eq_true rfl⟩) (fun r7 u8 H locs hp9 hP hD hS => ?_)
          have hP : va_P D vwCl [(mo, .inr (5, [.int (nI 0), .ref aO, .ref aT, .ref aM, .ref aZ, .ref aY, .ref aK, .ref aF, .ref aL, .int (nI c), .int isd, .int wd])), (aO, .inl (cI, 2400, .inl O)), (aZ, .inl (cI, 2, .inl Z))] H := hP
          have hD : va_D A [(mo, .inr (5, [.int (nI 0), .ref aO, .ref aT, .ref aM, .ref aZ, .ref aY, .ref aK, .ref aF, .ref aL, .int (nI c), .int isd, .int wd])), (aO, .inl (cI, 2400, .inl O)), (aZ, .inl (cI, 2, .inl Z))] := hD
          have hp9 : r7 = nI (bn lo s) := hp9
          replace hp9 := Eq.symm hp9
          subst hp9
          refine lv_icmp_ge (tgt := 34) hx hb dX5_find_26 (by decide) (fun h => ?_) (fun h => ?_)
          ·
            have h : (bn lo s) ≤ k := (nI_leI (a := (bn lo s)) (b := k) (by omega) (by omega)).mp h
            exfalso; omega
          ·
            have h : ¬ (bn lo s) ≤ k := fun z9 => h ((nI_leI (a := (bn lo s)) (b := k) (by omega) (by omega)).mpr z9)
            refine lv_iload hx hb dX5_find_29 (lv_at hl 4 rfl) ?_
            refine lv_if_ge (tgt := 38) hx hb dX5_find_31 (by decide) (fun h => ?_) (fun h => ?_)
            ·
              rw [← nI_0] at h
              have h : 0 ≤ p0 := (nI_leI (a := 0) (b := p0) (by omega) (by omega)).mp h
              refine lv_iconst (v := nI 0) hx hb dX5_find_38 (by decide +kernel) ?_
              refine lv_iconst (v := nI 2) hx hb dX5_find_39 (by decide +kernel) ?_
              refine ds_calli (wc := [(mo, .inr (5, [.int (nI 0), .ref aO, .ref aT, .ref aM, .ref aZ, .ref aY, .ref aK, .ref aF, .ref aL, .int (nI c), .int isd, .int wd]))]) (wr := [(aO, .inl (cI, 2400, .inl O)), (aZ, .inl (cI, 2, .inl Z))]) (wo := (fun u11 : Unit => [(mo, .inr (5, [.int (nI 0), .ref aO, .ref aT, .ref aM, .ref aZ, .ref aY, .ref aK, .ref aF, .ref aL, .int (nI c), .int isd, .int wd]))])) (wn := (fun u11 : Unit => [(mo, .inr (5, [.int (nI 0), .ref aO, .ref aT, .ref aM, .ref aZ, .ref aY, .ref aK, .ref aF, .ref aL, .int (nI c), .int isd, .int wd])), (aO, .inl (cI, 2400, .inl O)), (aZ, .inl (cI, 2, .inl Z))])) (isC := [0]) (isR := [1, 2]) hP hD hS hA ⟨rfl, rfl, by decide, by decide, by decide⟩ [2, 0, 1] (by decide) (fun _ => rfl) (fun hPc hDc => va_runV (As := [.int (nI 0), .int (nI 2)]) (rest := []) ⟨hx, hb, hml, hown, ht⟩ (m_fails0 Ll D cI cL mo aO aT aM aZ aY aK aF aL (nI 0) c isd wd 2  H.size) ⟨(callB_of 2 ht g_X5_fails rfl rfl rfl (ht _ iw_136) (ht _ iw_138) hd_X5_fails ⟨Nat.le_of_ble_eq_true rfl, Nat.le_of_ble_eq_true rfl⟩), (ht _ iw_139), (ht _ iw_140)⟩ (ds_pV hPc hDc hK (q0 := 0) rfl rfl) rfl rfl hl.1 rfl (lv_room (Nat.le_of_ble_eq_true rfl)) dX5_find_40 ⟨Nat.le_of_ble_eq_true rfl, Nat.le_of_ble_eq_true rfl⟩) (fun r10 u11 H locs hp12 hP hD hS => ?_)
              have hP : va_P D vwCl [(mo, .inr (5, [.int (nI 0), .ref aO, .ref aT, .ref aM, .ref aZ, .ref aY, .ref aK, .ref aF, .ref aL, .int (nI c), .int isd, .int wd])), (aO, .inl (cI, 2400, .inl O)), (aZ, .inl (cI, 2, .inl Z))] H := hP
              have hD : va_D A [(mo, .inr (5, [.int (nI 0), .ref aO, .ref aT, .ref aM, .ref aZ, .ref aY, .ref aK, .ref aF, .ref aL, .int (nI c), .int isd, .int wd])), (aO, .inl (cI, 2400, .inl O)), (aZ, .inl (cI, 2, .inl Z))] := hD
              have hp12 : r10 = nI 0 := hp12
              replace hp12 := Eq.symm hp12
              subst hp12
              refine lv_if_eq (tgt := 48) hx hb dX5_find_43 (by decide) (fun h => ?_) (fun h => ?_)
              ·
                rw [← nI_0] at h
                have h : 0 = 0 := (nI_eq (a := 0) (b := 0) (by omega) (by omega)).mp h
                refine lv_iload hx hb dX5_find_48 (lv_at hl 4 rfl) ?_
                refine lv_istore (lv' := [(5, .int (nI p0)), (0, .ref mo), (1, .int (nI s)), (2, .int (nI b)), (3, .int (nI k)), (4, .int (nI p0))]) hx hb dX5_find_50 hl (Nat.le_of_ble_eq_true rfl) rfl (fun ls hl => ?_)
                have loop13 : ∀ (k14 : Nat) (p : Nat) (H : Heap) (locs : List Loc) (ls : Array Slot), (p < 2 ^ 31) → (fsN (fun q => decide (ft fo fn ln (ds_mask b) (k * s) q (bl lo s k))) p0 (ln - p0) = fsN (fun q => decide (ft fo fn ln (ds_mask b) (k * s) q (bl lo s k))) p (ln - p)) → ln + 1 - p < k14 → va_P D vwCl [(mo, .inr (5, [.int (nI 0), .ref aO, .ref aT, .ref aM, .ref aZ, .ref aY, .ref aK, .ref aF, .ref aL, .int (nI c), .int isd, .int wd])), (aO, .inl (cI, 2400, .inl O)), (aZ, .inl (cI, 2, .inl Z))] H → va_D A [(mo, .inr (5, [.int (nI 0), .ref aO, .ref aT, .ref aM, .ref aZ, .ref aY, .ref aK, .ref aF, .ref aL, .int (nI c), .int isd, .int wd])), (aO, .inl (cI, 2400, .inl O)), (aZ, .inl (cI, 2, .inl Z))] → va_S A Ss.heap H locs → lv_has ls 6 [(0, .ref mo), (1, .int (nI s)), (2, .int (nI b)), (3, .int (nI k)), (5, .int (nI p))] → W Pp Ll Ee { frames := 2, cells := 0, slots := 0, locals := 53 } Ss Mm Aa Bb Me Cc H locs 0 0 (MQ Bb (ds_Qi D (fun (r : Int32) (u : Int32) => u = e_find (nI s) (nI b) (nI k) (nI p0) lo ∧ (e_find (nI s) (nI b) (nI k) (nI p0) lo = 0 → r = v_find (nI s).toNatClampNeg (nI b).toNatClampNeg (nI k).toNatClampNeg (nI p0).toNatClampNeg (lo, fo, ln, fn))) (fun u : Int32 => [(mo, .inr (5, [.int u, .ref aO, .ref aT, .ref aM, .ref aZ, .ref aY, .ref aK, .ref aF, .ref aL, .int (nI c), .int isd, .int wd])), (aO, .inl (cI, 2400, .inl O)), (aZ, .inl (cI, 2, .inl Z))]) A) Aa Ss 0 0 A) (F0 Mm 52 ls []) := by
                  intro k14
                  induction k14 with
                  | zero => intro p H locs ls hp1 hne hm16; exact absurd hm16 (Nat.not_lt_zero _)
                  | succ k14 ih15 =>
                    intro p H locs ls hp1 hne hm16 hP hD hS hl
                    refine lv_iload hx hb dX5_find_52 (lv_at hl 4 rfl) ?_
                    refine lv_aload_n hx hb dX5_find_54 rfl (lv_at hl 0 rfl) ?_
                    refine va_get (D := D) (ci := 5) (v := .ref aZ) (C := RX5) (T := TX5) (N := 12) hx hb ht inA_X5 hown hK.1 hP 0 rfl rfl 4 (by decide) (ht _ iw_125) (fun _ h9 => h9) rfl dX5_find_55 ?_
                    refine lv_iconst (v := nI 1) hx hb dX5_find_58 (by decide +kernel) ?_
                    refine ds_iald (k := 1) hx hb hK hP 2 rfl (by omega) (by omega) dX5_find_59 ?_
                    refine ds_top (z := nI ln) hZ.2.2.2 ?_
                    refine lv_icmp_ge (tgt := 84) hx hb dX5_find_60 (by decide) (fun h => ?_) (fun h => ?_)
                    ·
                      have h : ln ≤ p := (nI_leI (a := ln) (b := p) (by omega) (by omega)).mp h
                      refine lv_iconst (v := -1) hx hb dX5_find_84 (by decide +kernel) ?_
                      exact ds_iret hx hb hr hlk rfl (nI 0) ⟨(e_find_ok (bok_of h2 h3 h4) h3 hf).symm, fun _ => by unfold v_find; rw [nI_clamp (by omega), nI_clamp (by omega), nI_clamp (by omega), nI_clamp (by omega)]; show _ = oI (fsN (fun q => decide (ft fo fn ln (ds_mask b) (k * s) q (bl lo s k))) p0 (ln - p0)); rw [hne, fsN_end (by omega)]; rfl⟩ hP hD hS (Nat.le_of_ble_eq_true rfl) (Nat.le_of_ble_eq_true rfl) dX5_find_85
                    ·
                      have h : ¬ ln ≤ p := fun z9 => h ((nI_leI (a := ln) (b := p) (by omega) (by omega)).mpr z9)
                      refine lv_aload_n hx hb dX5_find_63 rfl (lv_at hl 0 rfl) ?_
                      refine lv_iload_n hx hb dX5_find_64 rfl (lv_at hl 1 rfl) ?_
                      refine lv_iload_n hx hb dX5_find_65 rfl (lv_at hl 2 rfl) ?_
                      refine lv_iload_n hx hb dX5_find_66 rfl (lv_at hl 3 rfl) ?_
                      refine lv_iload hx hb dX5_find_67 (lv_at hl 4 rfl) ?_
                      refine ds_calli (wc := [(mo, .inr (5, [.int (nI 0), .ref aO, .ref aT, .ref aM, .ref aZ, .ref aY, .ref aK, .ref aF, .ref aL, .int (nI c), .int isd, .int wd])), (aO, .inl (cI, 2400, .inl O)), (aZ, .inl (cI, 2, .inl Z))]) (wr := []) (wo := (fun u18 : Unit => [(mo, .inr (5, [.int (nI 0), .ref aO, .ref aT, .ref aM, .ref aZ, .ref aY, .ref aK, .ref aF, .ref aL, .int (nI c), .int isd, .int wd])), (aO, .inl (cI, 2400, .inl O)), (aZ, .inl (cI, 2, .inl Z))])) (wn := (fun u18 : Unit => [(mo, .inr (5, [.int (nI 0), .ref aO, .ref aT, .ref aM, .ref aZ, .ref aY, .ref aK, .ref aF, .ref aL, .int (nI c), .int isd, .int wd])), (aO, .inl (cI, 2400, .inl O)), (aZ, .inl (cI, 2, .inl Z))])) (isC := [0, 1, 2]) (isR := []) hP hD hS hA ⟨rfl, rfl, by decide, by decide, by decide⟩ [0, 1, 2] (by decide) (fun _ => rfl) (fun hPc hDc => va_runV (As := [.int (nI s), .int (nI b), .int (nI k), .int (nI p)]) (rest := []) ⟨hx, hb, hml, hown, ht⟩ (c_X5_fits Ll D cI cL mo aO aT aM aZ aY aK aF aL (nI 0) c isd wd O Z lo ln fo fn s b k p hR h2 h3 h4 hk (by omega) H.size) ⟨(callB_of 4 ht g_X5_fits rfl rfl rfl (ht _ iw_136) (ht _ iw_175) hd_X5_fits ⟨Nat.le_of_ble_eq_true rfl, Nat.le_of_ble_eq_true rfl⟩), (ht _ iw_176), (ht _ iw_177)⟩ (ds_pV hPc hDc hK (q0 := 0) rfl rfl) rfl rfl hl.1 rfl (lv_room (Nat.le_of_ble_eq_true rfl)) dX5_find_69 ⟨Nat.le_of_ble_eq_true rfl, Nat.le_of_ble_eq_true rfl⟩) (fun r17 u18 H locs hp19 hP hD hS => ?_)
                      have hP : va_P D vwCl [(mo, .inr (5, [.int (nI 0), .ref aO, .ref aT, .ref aM, .ref aZ, .ref aY, .ref aK, .ref aF, .ref aL, .int (nI c), .int isd, .int wd])), (aO, .inl (cI, 2400, .inl O)), (aZ, .inl (cI, 2, .inl Z))] H := hP
                      have hD : va_D A [(mo, .inr (5, [.int (nI 0), .ref aO, .ref aT, .ref aM, .ref aZ, .ref aY, .ref aK, .ref aF, .ref aL, .int (nI c), .int isd, .int wd])), (aO, .inl (cI, 2400, .inl O)), (aZ, .inl (cI, 2, .inl Z))] := hD
                      have hp19 : (r17 = 1 ∧ ft fo fn ln (ds_mask b) (k * s) p (bl lo s k)) ∨ (r17 = 0 ∧ ¬ ft fo fn ln (ds_mask b) (k * s) p (bl lo s k)) := hp19
                      rcases hp19 with ⟨e9, hf2⟩ | ⟨e9, hf2⟩
                      ·
                        subst e9
                        refine lv_if_eq (tgt := 78) hx hb dX5_find_72 (by decide) (fun h0 => ?_) (fun h0 => ?_)
                        ·
                          exact absurd h0 (by decide)
                        ·
                          refine lv_iload hx hb dX5_find_75 (lv_at hl 4 rfl) ?_
                          exact ds_iret hx hb hr hlk rfl (nI 0) ⟨(e_find_ok (bok_of h2 h3 h4) h3 hf).symm, fun _ => by unfold v_find; rw [nI_clamp (by omega), nI_clamp (by omega), nI_clamp (by omega), nI_clamp (by omega)]; show _ = oI (fsN (fun q => decide (ft fo fn ln (ds_mask b) (k * s) q (bl lo s k))) p0 (ln - p0)); rw [hne, fsN_yes (by omega) (decide_eq_true hf2)]; rfl⟩ hP hD hS (Nat.le_of_ble_eq_true rfl) (Nat.le_of_ble_eq_true rfl) dX5_find_77
                      ·
                        subst e9
                        refine lv_if_eq (tgt := 78) hx hb dX5_find_72 (by decide) (fun h0 => ?_) (fun h0 => ?_)
                        ·
                          refine lv_iinc (k := 4) (v := nI (p + 1)) (lv' := [(5, .int (nI (p + 1))), (0, .ref mo), (1, .int (nI s)), (2, .int (nI b)), (3, .int (nI k))]) hx hb dX5_find_78 hl rfl (by rw [nI_succ]; rfl) (Nat.le_of_ble_eq_true rfl) rfl (fun ls hl => ?_)
                          refine lv_goto (tgt := 52) hx hb dX5_find_81 (by decide) ?_
                          exact ih15 (p + 1) H locs ls (by omega) (hne.trans (fsN_no (by omega) (fun z => hf2 (of_decide_eq_true z)))) (by omega) hP hD hS (lv_sub hl [1, 2, 3, 4, 0] rfl)
                        ·
                          exact absurd rfl h0
                exact loop13 _ p0 H locs ls hp0 rfl (Nat.lt_succ_self _) hP hD hS (lv_sub hl [1, 2, 3, 4, 0] rfl)
              ·
                rw [← nI_0] at h
                have h : ¬ 0 = 0 := fun z9 => h ((nI_eq (a := 0) (b := 0) (by omega) (by omega)).mpr z9)
                exact absurd rfl h
            ·
              rw [← nI_0] at h
              have h : ¬ 0 ≤ p0 := fun z9 => h ((nI_leI (a := 0) (b := p0) (by omega) (by omega)).mpr z9)
              exfalso; omega
      ·
        have hf9 := Classical.not_not.mp hf
        refine lv_aload_n hx hb dX5_find_15 rfl (lv_at hl 0 rfl) ?_
        refine lv_iload_n hx hb dX5_find_16 rfl (lv_at hl 3 rfl) ?_
        refine lv_if_lt (tgt := 34) hx hb dX5_find_17 (by decide) (fun h0 => ?_) (fun h0 => ?_)
        ·
          refine lv_iconst (v := nI 1) hx hb dX5_find_34 (by decide +kernel) ?_
          refine lv_goto (tgt := 39) hx hb dX5_find_35 (by decide) ?_
          refine lv_iconst (v := nI 2) hx hb dX5_find_39 (by decide +kernel) ?_
          refine ds_calli (wc := [(mo, .inr (5, [.int (nI 0), .ref aO, .ref aT, .ref aM, .ref aZ, .ref aY, .ref aK, .ref aF, .ref aL, .int (nI c), .int isd, .int wd]))]) (wr := [(aO, .inl (cI, 2400, .inl O)), (aZ, .inl (cI, 2, .inl Z))]) (wo := (fun u21 : Unit => [(mo, .inr (5, [.int (nI 2), .ref aO, .ref aT, .ref aM, .ref aZ, .ref aY, .ref aK, .ref aF, .ref aL, .int (nI c), .int isd, .int wd]))])) (wn := (fun u21 : Unit => [(mo, .inr (5, [.int (nI 2), .ref aO, .ref aT, .ref aM, .ref aZ, .ref aY, .ref aK, .ref aF, .ref aL, .int (nI c), .int isd, .int wd])), (aO, .inl (cI, 2400, .inl O)), (aZ, .inl (cI, 2, .inl Z))])) (isC := [0]) (isR := [1, 2]) hP hD hS hA ⟨rfl, rfl, by decide, by decide, by decide⟩ [2, 0, 1] (by decide) (fun _ => rfl) (fun hPc hDc => va_runV (As := [.int (nI 1), .int (nI 2)]) (rest := []) ⟨hx, hb, hml, hown, ht⟩ (m_fails1 Ll D cI cL mo aO aT aM aZ aY aK aF aL (nI 0) c isd wd 2  H.size) ⟨(callB_of 2 ht g_X5_fails rfl rfl rfl (ht _ iw_136) (ht _ iw_138) hd_X5_fails ⟨Nat.le_of_ble_eq_true rfl, Nat.le_of_ble_eq_true rfl⟩), (ht _ iw_139), (ht _ iw_140)⟩ (ds_pV hPc hDc hK (q0 := 0) rfl rfl) rfl rfl hl.1 rfl (lv_room (Nat.le_of_ble_eq_true rfl)) dX5_find_40 ⟨Nat.le_of_ble_eq_true rfl, Nat.le_of_ble_eq_true rfl⟩) (fun r20 u21 H locs hp22 hP hD hS => ?_)
          have hP : va_P D vwCl [(mo, .inr (5, [.int (nI 2), .ref aO, .ref aT, .ref aM, .ref aZ, .ref aY, .ref aK, .ref aF, .ref aL, .int (nI c), .int isd, .int wd])), (aO, .inl (cI, 2400, .inl O)), (aZ, .inl (cI, 2, .inl Z))] H := hP
          have hD : va_D A [(mo, .inr (5, [.int (nI 2), .ref aO, .ref aT, .ref aM, .ref aZ, .ref aY, .ref aK, .ref aF, .ref aL, .int (nI c), .int isd, .int wd])), (aO, .inl (cI, 2400, .inl O)), (aZ, .inl (cI, 2, .inl Z))] := hD
          have hp22 : r20 = nI 1 := hp22
          replace hp22 := Eq.symm hp22
          subst hp22
          refine lv_if_eq (tgt := 48) hx hb dX5_find_43 (by decide) (fun h => ?_) (fun h => ?_)
          ·
            rw [← nI_0] at h
            have h : 1 = 0 := (nI_eq (a := 1) (b := 0) (by omega) (by omega)).mp h
            exact absurd h (by decide)
          ·
            rw [← nI_0] at h
            have h : ¬ 1 = 0 := fun z9 => h ((nI_eq (a := 1) (b := 0) (by omega) (by omega)).mpr z9)
            refine lv_iconst (v := nI 0) hx hb dX5_find_46 (by decide +kernel) ?_
            exact ds_iret hx hb hr hlk rfl (nI 2) ⟨(e_find_x (bok_of h2 h3 h4) h3 hf9).symm, fun z => absurd (z.symm.trans (e_find_x (bok_of h2 h3 h4) h3 hf9)) (by decide)⟩ hP hD hS (Nat.le_of_ble_eq_true rfl) (Nat.le_of_ble_eq_true rfl) dX5_find_47
        ·
          refine lv_iload_n hx hb dX5_find_20 rfl (lv_at hl 3 rfl) ?_
          refine lv_aload_n hx hb dX5_find_21 rfl (lv_at hl 0 rfl) ?_
          refine lv_iload_n hx hb dX5_find_22 rfl (lv_at hl 1 rfl) ?_
          refine ds_calli (wc := [(mo, .inr (5, [.int (nI 0), .ref aO, .ref aT, .ref aM, .ref aZ, .ref aY, .ref aK, .ref aF, .ref aL, .int (nI c), .int isd, .int wd])), (aZ, .inl (cI, 2, .inl Z))]) (wr := [(aO, .inl (cI, 2400, .inl O))]) (wo := (fun u24 : Unit => [(mo, .inr (5, [.int (nI 0), .ref aO, .ref aT, .ref aM, .ref aZ, .ref aY, .ref aK, .ref aF, .ref aL, .int (nI c), .int isd, .int wd])), (aZ, .inl (cI, 2, .inl Z))])) (wn := (fun u24 : Unit => [(mo, .inr (5, [.int (nI 0), .ref aO, .ref aT, .ref aM, .ref aZ, .ref aY, .ref aK, .ref aF, .ref aL, .int (nI c), .int isd, .int wd])), (aO, .inl (cI, 2400, .inl O)), (aZ, .inl (cI, 2, .inl Z))])) (isC := [0, 2]) (isR := [1]) hP hD hS hA ⟨rfl, rfl, by decide, by decide, by decide⟩ [1, 0, 2] (by decide) (fun _ => rfl) (fun hPc hDc => va_runV (As := [.int (nI s)]) (rest := [.int z, .ref mo]) ⟨hx, hb, hml, hown, ht⟩ (c_X5_blocks Ll D cI cL mo aO aT aM aZ aY aK aF aL (nI 0) c isd wd Z lo s hZ.2.2.1 hZ.1 h2 h3 H.size) ⟨(callB_of 1 ht g_X5_blocks rfl rfl rfl (ht _ iw_136) (ht _ iw_172) hd_X5_blocks ⟨Nat.le_of_ble_eq_true rfl, Nat.le_of_ble_eq_true rfl⟩), (ht _ iw_173), (ht _ iw_174)⟩ (ds_pV hPc hDc hK (q0 := 0) rfl rfl) rfl rfl hl.1 rfl (lv_room (Nat.le_of_ble_eq_true rfl)) dX5_find_23 ⟨Nat.le_of_ble_eq_true rfl, Nat.le_of_ble_eq_true rfl⟩) (fun r23 u24 H locs hp25 hP hD hS => ?_)
          have hP : va_P D vwCl [(mo, .inr (5, [.int (nI 0), .ref aO, .ref aT, .ref aM, .ref aZ, .ref aY, .ref aK, .ref aF, .ref aL, .int (nI c), .int isd, .int wd])), (aO, .inl (cI, 2400, .inl O)), (aZ, .inl (cI, 2, .inl Z))] H := hP
          have hD : va_D A [(mo, .inr (5, [.int (nI 0), .ref aO, .ref aT, .ref aM, .ref aZ, .ref aY, .ref aK, .ref aF, .ref aL, .int (nI c), .int isd, .int wd])), (aO, .inl (cI, 2400, .inl O)), (aZ, .inl (cI, 2, .inl Z))] := hD
          have hp25 : r23 = nI (bn lo s) := hp25
          replace hp25 := Eq.symm hp25
          subst hp25
          refine lv_icmp_ge (tgt := 34) hx hb dX5_find_26 (by decide) (fun h6 => ?_) (fun h6 => ?_)
          ·
            refine lv_iconst (v := nI 1) hx hb dX5_find_34 (by decide +kernel) ?_
            refine lv_goto (tgt := 39) hx hb dX5_find_35 (by decide) ?_
            refine lv_iconst (v := nI 2) hx hb dX5_find_39 (by decide +kernel) ?_
            refine ds_calli (wc := [(mo, .inr (5, [.int (nI 0), .ref aO, .ref aT, .ref aM, .ref aZ, .ref aY, .ref aK, .ref aF, .ref aL, .int (nI c), .int isd, .int wd]))]) (wr := [(aO, .inl (cI, 2400, .inl O)), (aZ, .inl (cI, 2, .inl Z))]) (wo := (fun u27 : Unit => [(mo, .inr (5, [.int (nI 2), .ref aO, .ref aT, .ref aM, .ref aZ, .ref aY, .ref aK, .ref aF, .ref aL, .int (nI c), .int isd, .int wd]))])) (wn := (fun u27 : Unit => [(mo, .inr (5, [.int (nI 2), .ref aO, .ref aT, .ref aM, .ref aZ, .ref aY, .ref aK, .ref aF, .ref aL, .int (nI c), .int isd, .int wd])), (aO, .inl (cI, 2400, .inl O)), (aZ, .inl (cI, 2, .inl Z))])) (isC := [0]) (isR := [1, 2]) hP hD hS hA ⟨rfl, rfl, by decide, by decide, by decide⟩ [2, 0, 1] (by decide) (fun _ => rfl) (fun hPc hDc => va_runV (As := [.int (nI 1), .int (nI 2)]) (rest := []) ⟨hx, hb, hml, hown, ht⟩ (m_fails1 Ll D cI cL mo aO aT aM aZ aY aK aF aL (nI 0) c isd wd 2  H.size) ⟨(callB_of 2 ht g_X5_fails rfl rfl rfl (ht _ iw_136) (ht _ iw_138) hd_X5_fails ⟨Nat.le_of_ble_eq_true rfl, Nat.le_of_ble_eq_true rfl⟩), (ht _ iw_139), (ht _ iw_140)⟩ (ds_pV hPc hDc hK (q0 := 0) rfl rfl) rfl rfl hl.1 rfl (lv_room (Nat.le_of_ble_eq_true rfl)) dX5_find_40 ⟨Nat.le_of_ble_eq_true rfl, Nat.le_of_ble_eq_true rfl⟩) (fun r26 u27 H locs hp28 hP hD hS => ?_)
            have hP : va_P D vwCl [(mo, .inr (5, [.int (nI 2), .ref aO, .ref aT, .ref aM, .ref aZ, .ref aY, .ref aK, .ref aF, .ref aL, .int (nI c), .int isd, .int wd])), (aO, .inl (cI, 2400, .inl O)), (aZ, .inl (cI, 2, .inl Z))] H := hP
            have hD : va_D A [(mo, .inr (5, [.int (nI 2), .ref aO, .ref aT, .ref aM, .ref aZ, .ref aY, .ref aK, .ref aF, .ref aL, .int (nI c), .int isd, .int wd])), (aO, .inl (cI, 2400, .inl O)), (aZ, .inl (cI, 2, .inl Z))] := hD
            have hp28 : r26 = nI 1 := hp28
            replace hp28 := Eq.symm hp28
            subst hp28
            refine lv_if_eq (tgt := 48) hx hb dX5_find_43 (by decide) (fun h => ?_) (fun h => ?_)
            ·
              rw [← nI_0] at h
              have h : 1 = 0 := (nI_eq (a := 1) (b := 0) (by omega) (by omega)).mp h
              exact absurd h (by decide)
            ·
              rw [← nI_0] at h
              have h : ¬ 1 = 0 := fun z9 => h ((nI_eq (a := 1) (b := 0) (by omega) (by omega)).mpr z9)
              refine lv_iconst (v := nI 0) hx hb dX5_find_46 (by decide +kernel) ?_
              exact ds_iret hx hb hr hlk rfl (nI 2) ⟨(e_find_x (bok_of h2 h3 h4) h3 hf9).symm, fun z => absurd (z.symm.trans (e_find_x (bok_of h2 h3 h4) h3 hf9)) (by decide)⟩ hP hD hS (Nat.le_of_ble_eq_true rfl) (Nat.le_of_ble_eq_true rfl) dX5_find_47
          ·
            refine lv_iload hx hb dX5_find_29 (lv_at hl 4 rfl) ?_
            refine lv_if_ge (tgt := 38) hx hb dX5_find_31 (by decide) (fun h => ?_) (fun h => ?_)
            ·
              rcases hf9 with g | g | g
              · exact absurd g h0
              · exact absurd g h6
              · exact absurd g (Int32.not_lt.mpr h)
            ·
              refine lv_iconst (v := nI 1) hx hb dX5_find_34 (by decide +kernel) ?_
              refine lv_goto (tgt := 39) hx hb dX5_find_35 (by decide) ?_
              refine lv_iconst (v := nI 2) hx hb dX5_find_39 (by decide +kernel) ?_
              refine ds_calli (wc := [(mo, .inr (5, [.int (nI 0), .ref aO, .ref aT, .ref aM, .ref aZ, .ref aY, .ref aK, .ref aF, .ref aL, .int (nI c), .int isd, .int wd]))]) (wr := [(aO, .inl (cI, 2400, .inl O)), (aZ, .inl (cI, 2, .inl Z))]) (wo := (fun u30 : Unit => [(mo, .inr (5, [.int (nI 2), .ref aO, .ref aT, .ref aM, .ref aZ, .ref aY, .ref aK, .ref aF, .ref aL, .int (nI c), .int isd, .int wd]))])) (wn := (fun u30 : Unit => [(mo, .inr (5, [.int (nI 2), .ref aO, .ref aT, .ref aM, .ref aZ, .ref aY, .ref aK, .ref aF, .ref aL, .int (nI c), .int isd, .int wd])), (aO, .inl (cI, 2400, .inl O)), (aZ, .inl (cI, 2, .inl Z))])) (isC := [0]) (isR := [1, 2]) hP hD hS hA ⟨rfl, rfl, by decide, by decide, by decide⟩ [2, 0, 1] (by decide) (fun _ => rfl) (fun hPc hDc => va_runV (As := [.int (nI 1), .int (nI 2)]) (rest := []) ⟨hx, hb, hml, hown, ht⟩ (m_fails1 Ll D cI cL mo aO aT aM aZ aY aK aF aL (nI 0) c isd wd 2  H.size) ⟨(callB_of 2 ht g_X5_fails rfl rfl rfl (ht _ iw_136) (ht _ iw_138) hd_X5_fails ⟨Nat.le_of_ble_eq_true rfl, Nat.le_of_ble_eq_true rfl⟩), (ht _ iw_139), (ht _ iw_140)⟩ (ds_pV hPc hDc hK (q0 := 0) rfl rfl) rfl rfl hl.1 rfl (lv_room (Nat.le_of_ble_eq_true rfl)) dX5_find_40 ⟨Nat.le_of_ble_eq_true rfl, Nat.le_of_ble_eq_true rfl⟩) (fun r29 u30 H locs hp31 hP hD hS => ?_)
              have hP : va_P D vwCl [(mo, .inr (5, [.int (nI 2), .ref aO, .ref aT, .ref aM, .ref aZ, .ref aY, .ref aK, .ref aF, .ref aL, .int (nI c), .int isd, .int wd])), (aO, .inl (cI, 2400, .inl O)), (aZ, .inl (cI, 2, .inl Z))] H := hP
              have hD : va_D A [(mo, .inr (5, [.int (nI 2), .ref aO, .ref aT, .ref aM, .ref aZ, .ref aY, .ref aK, .ref aF, .ref aL, .int (nI c), .int isd, .int wd])), (aO, .inl (cI, 2400, .inl O)), (aZ, .inl (cI, 2, .inl Z))] := hD
              have hp31 : r29 = nI 1 := hp31
              replace hp31 := Eq.symm hp31
              subst hp31
              refine lv_if_eq (tgt := 48) hx hb dX5_find_43 (by decide) (fun h => ?_) (fun h => ?_)
              ·
                rw [← nI_0] at h
                have h : 1 = 0 := (nI_eq (a := 1) (b := 0) (by omega) (by omega)).mp h
                exact absurd h (by decide)
              ·
                rw [← nI_0] at h
                have h : ¬ 1 = 0 := fun z9 => h ((nI_eq (a := 1) (b := 0) (by omega) (by omega)).mpr z9)
                refine lv_iconst (v := nI 0) hx hb dX5_find_46 (by decide +kernel) ?_
                exact ds_iret hx hb hr hlk rfl (nI 2) ⟨(e_find_x (bok_of h2 h3 h4) h3 hf9).symm, fun z => absurd (z.symm.trans (e_find_x (bok_of h2 h3 h4) h3 hf9)) (by decide)⟩ hP hD hS (Nat.le_of_ble_eq_true rfl) (Nat.le_of_ble_eq_true rfl) dX5_find_47
    ·
      rw [← nI_0] at h
      have h : ¬ 0 = 0 := fun z9 => h ((nI_eq (a := 0) (b := 0) (by omega) (by omega)).mpr z9)
      exact absurd rfl h
  ·
    refine lv_aload_n hx hb dX5_find_0 rfl (lv_at hl 0 rfl) ?_
    refine lv_iload_n hx hb dX5_find_1 rfl (lv_at hl 1 rfl) ?_
    refine lv_iload_n hx hb dX5_find_2 rfl (lv_at hl 2 rfl) ?_
    refine ds_calli (wc := []) (wr := [(mo, .inr (5, [.int er, .ref aO, .ref aT, .ref aM, .ref aZ, .ref aY, .ref aK, .ref aF, .ref aL, .int (nI c), .int isd, .int wd])), (aO, .inl (cI, 2400, .inl O)), (aZ, .inl (cI, 2, .inl Z))]) (wo := (fun u33 : Unit => [])) (wn := (fun u33 : Unit => [(mo, .inr (5, [.int er, .ref aO, .ref aT, .ref aM, .ref aZ, .ref aY, .ref aK, .ref aF, .ref aL, .int (nI c), .int isd, .int wd])), (aO, .inl (cI, 2400, .inl O)), (aZ, .inl (cI, 2, .inl Z))])) (isC := []) (isR := [0, 1, 2]) hP hD hS hA ⟨rfl, rfl, by decide, by decide, by decide⟩ [0, 1, 2] (by decide) (fun _ => rfl) (fun hPc hDc => va_runS (As := [.int x, .int y]) (rest := [.ref mo]) ⟨hx, hb, hml, hown, ht⟩ (m_bad1 Ll D cI cL x y (Classical.not_not.mp hb9) H.size) ⟨(callB_of 2 ht g_X5_bad rfl rfl rfl (ht _ iw_136) (ht _ iw_170) hd_X5_bad ⟨Nat.le_of_ble_eq_true rfl, Nat.le_of_ble_eq_true rfl⟩), (ht _ iw_171)⟩ (ds_pS hPc hDc hK) rfl rfl hl.1 rfl (lv_room (Nat.le_of_ble_eq_true rfl)) dX5_find_3 ⟨Nat.le_of_ble_eq_true rfl, Nat.le_of_ble_eq_true rfl⟩) (fun r32 u33 H locs hp34 hP hD hS => ?_)
    have hP : va_P D vwCl [(mo, .inr (5, [.int er, .ref aO, .ref aT, .ref aM, .ref aZ, .ref aY, .ref aK, .ref aF, .ref aL, .int (nI c), .int isd, .int wd])), (aO, .inl (cI, 2400, .inl O)), (aZ, .inl (cI, 2, .inl Z))] H := hP
    have hD : va_D A [(mo, .inr (5, [.int er, .ref aO, .ref aT, .ref aM, .ref aZ, .ref aY, .ref aK, .ref aF, .ref aL, .int (nI c), .int isd, .int wd])), (aO, .inl (cI, 2400, .inl O)), (aZ, .inl (cI, 2, .inl Z))] := hD
    have hp34 : r32 = nI 1 := hp34
    replace hp34 := Eq.symm hp34
    subst hp34
    refine lv_iconst (v := nI 1) hx hb dX5_find_6 (by decide +kernel) ?_
    refine ds_calli (wc := [(mo, .inr (5, [.int er, .ref aO, .ref aT, .ref aM, .ref aZ, .ref aY, .ref aK, .ref aF, .ref aL, .int (nI c), .int isd, .int wd]))]) (wr := [(aO, .inl (cI, 2400, .inl O)), (aZ, .inl (cI, 2, .inl Z))]) (wo := (fun u36 : Unit => [(mo, .inr (5, [.int (nI 1), .ref aO, .ref aT, .ref aM, .ref aZ, .ref aY, .ref aK, .ref aF, .ref aL, .int (nI c), .int isd, .int wd]))])) (wn := (fun u36 : Unit => [(mo, .inr (5, [.int (nI 1), .ref aO, .ref aT, .ref aM, .ref aZ, .ref aY, .ref aK, .ref aF, .ref aL, .int (nI c), .int isd, .int wd])), (aO, .inl (cI, 2400, .inl O)), (aZ, .inl (cI, 2, .inl Z))])) (isC := [0]) (isR := [1, 2]) hP hD hS hA ⟨rfl, rfl, by decide, by decide, by decide⟩ [2, 0, 1] (by decide) (fun _ => rfl) (fun hPc hDc => va_runV (As := [.int (nI 1), .int (nI 1)]) (rest := []) ⟨hx, hb, hml, hown, ht⟩ (m_fails1 Ll D cI cL mo aO aT aM aZ aY aK aF aL er c isd wd 1  H.size) ⟨(callB_of 2 ht g_X5_fails rfl rfl rfl (ht _ iw_136) (ht _ iw_138) hd_X5_fails ⟨Nat.le_of_ble_eq_true rfl, Nat.le_of_ble_eq_true rfl⟩), (ht _ iw_139), (ht _ iw_140)⟩ (ds_pV hPc hDc hK (q0 := 0) rfl rfl) rfl rfl hl.1 rfl (lv_room (Nat.le_of_ble_eq_true rfl)) dX5_find_7 ⟨Nat.le_of_ble_eq_true rfl, Nat.le_of_ble_eq_true rfl⟩) (fun r35 u36 H locs hp37 hP hD hS => ?_)
    have hP : va_P D vwCl [(mo, .inr (5, [.int (nI 1), .ref aO, .ref aT, .ref aM, .ref aZ, .ref aY, .ref aK, .ref aF, .ref aL, .int (nI c), .int isd, .int wd])), (aO, .inl (cI, 2400, .inl O)), (aZ, .inl (cI, 2, .inl Z))] H := hP
    have hD : va_D A [(mo, .inr (5, [.int (nI 1), .ref aO, .ref aT, .ref aM, .ref aZ, .ref aY, .ref aK, .ref aF, .ref aL, .int (nI c), .int isd, .int wd])), (aO, .inl (cI, 2400, .inl O)), (aZ, .inl (cI, 2, .inl Z))] := hD
    have hp37 : r35 = nI 1 := hp37
    replace hp37 := Eq.symm hp37
    subst hp37
    refine lv_if_eq (tgt := 15) hx hb dX5_find_10 (by decide) (fun h => ?_) (fun h => ?_)
    ·
      rw [← nI_0] at h
      have h : 1 = 0 := (nI_eq (a := 1) (b := 0) (by omega) (by omega)).mp h
      exact absurd h (by decide)
    ·
      rw [← nI_0] at h
      have h : ¬ 1 = 0 := fun z9 => h ((nI_eq (a := 1) (b := 0) (by omega) (by omega)).mpr z9)
      refine lv_iconst (v := nI 0) hx hb dX5_find_13 (by decide +kernel) ?_
      exact ds_iret hx hb hr hlk rfl (nI 1) ⟨(e_find_b hb9).symm, fun z => absurd (z.symm.trans (e_find_b hb9)) (by decide)⟩ hP hD hS (Nat.le_of_ble_eq_true rfl) (Nat.le_of_ble_eq_true rfl) dX5_find_14
