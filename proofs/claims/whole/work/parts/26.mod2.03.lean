set_option maxHeartbeats 4000000 in
set_option maxRecDepth 100000 in
theorem c_X5_put (Ll : Launch) (D : va_G) (cI cL : ClassId) (mo : Nat) (aO : Nat) (aT : Nat) (aM : Nat) (aZ : Nat) (aY : Nat) (aK : Nat) (aF : Nat) (aL : Nat) (er : Int32) (c : Nat) (isd : Int32) (wd : Int32) (O : Nat → Int32) (Z : Nat → Int32) (lo : Nat) (ln : Nat) (fo : Nat → Int32) (fn : Nat → Int32) (x : Int32) (y : Int32) (v : Int64) (hR : mR lo ln fo fn O Z) (sz : Nat) : Met Ll yX5_put wsX5_put { frames := 1, cells := 0, slots := 0, locals := 22 } (ds_P D cI cL [.ref mo, .int x, .int y, .long v] [(mo, .inr (5, [.int er, .ref aO, .ref aT, .ref aM, .ref aZ, .ref aY, .ref aK, .ref aF, .ref aL, .int (nI c), .int isd, .int wd])), (aO, .inl (cI, 2400, .inl O)), (aZ, .inl (cI, 2, .inl Z))] sz) (ds_Qv D (fun (u : Int32 × (Nat → Int32)) => u.1 = e_put x y lo ln ∧ mQ (n_put x y v (lo, fo, ln, fn)) u.2 Z) (fun u : Int32 × (Nat → Int32) => [(mo, .inr (5, [.int u.1, .ref aO, .ref aT, .ref aM, .ref aZ, .ref aY, .ref aK, .ref aF, .ref aL, .int (nI c), .int isd, .int wd])), (aO, .inl (cI, 2400, .inl u.2)), (aZ, .inl (cI, 2, .inl Z))]) (va_A [(mo, .inr (5, [.int er, .ref aO, .ref aT, .ref aM, .ref aZ, .ref aY, .ref aK, .ref aF, .ref aL, .int (nI c), .int isd, .int wd])), (aO, .inl (cI, 2400, .inl O)), (aZ, .inl (cI, 2, .inl Z))] sz)) 0 0 (va_A [(mo, .inr (5, [.int er, .ref aO, .ref aT, .ref aM, .ref aZ, .ref aY, .ref aK, .ref aF, .ref aL, .int (nI c), .int isd, .int wd])), (aO, .inl (cI, 2400, .inl O)), (aZ, .inl (cI, 2, .inl Z))] sz) := by
  refine ds_enter (Qf := (fun A9 => ds_Qv D (fun (u : Int32 × (Nat → Int32)) => u.1 = e_put x y lo ln ∧ mQ (n_put x y v (lo, fo, ln, fn)) u.2 Z) (fun u : Int32 × (Nat → Int32) => [(mo, .inr (5, [.int u.1, .ref aO, .ref aT, .ref aM, .ref aZ, .ref aY, .ref aK, .ref aF, .ref aL, .int (nI c), .int isd, .int wd])), (aO, .inl (cI, 2400, .inl u.2)), (aZ, .inl (cI, 2, .inl Z))]) A9)) (cc := cX5_put) (maxL := 6) (ret := none) (by decide) rfl (Nat.le_of_ble_eq_true rfl) ?_
  intro Pp Ee Ss Mm Aa Bb Me Cc hx hb hml hr ht hown hlk hnm A H locs hA hP hD hS hK ls hl
  have hl : lv_has ls 6 [(0, .ref mo), (1, .int x), (2, .int y), (3, .long v)] := hl
  change Ss.vm.findClass RX5 = some Mm.cls at hown
  have hZ := mR_len hR
  by_cases hrk : rok x
  ·
    have hro := hrk
    rcases hrk with rfl | rfl
    ·
      have hl : lv_has ls 6 [(0, .ref mo), (1, .int (nI 0)), (2, .int y), (3, .long v)] := hl
      refine lv_aload_n hx hb dX5_put_0 rfl (lv_at hl 0 rfl) ?_
      refine lv_iload_n hx hb dX5_put_1 rfl (lv_at hl 1 rfl) ?_
      refine ds_calli (wc := []) (wr := [(mo, .inr (5, [.int er, .ref aO, .ref aT, .ref aM, .ref aZ, .ref aY, .ref aK, .ref aF, .ref aL, .int (nI c), .int isd, .int wd])), (aO, .inl (cI, 2400, .inl O)), (aZ, .inl (cI, 2, .inl Z))]) (wo := (fun u2 : Unit => [])) (wn := (fun u2 : Unit => [(mo, .inr (5, [.int er, .ref aO, .ref aT, .ref aM, .ref aZ, .ref aY, .ref aK, .ref aF, .ref aL, .int (nI c), .int isd, .int wd])), (aO, .inl (cI, 2400, .inl O)), (aZ, .inl (cI, 2, .inl Z))])) (isC := []) (isR := [0, 1, 2]) hP hD hS hA ⟨rfl, rfl, by decide, by decide, by decide⟩ [0, 1, 2] (by decide) (fun _ => rfl) (fun hPc hDc => va_runS (As := [.int (nI 0)]) (rest := [.ref mo]) ⟨hx, hb, hml, hown, ht⟩ (m_no0 Ll D cI cL 0 (by decide) H.size) ⟨(callB_of 1 ht g_X5_no rfl rfl rfl (ht _ iw_136) (ht _ iw_135) hd_X5_no ⟨Nat.le_of_ble_eq_true rfl, Nat.le_of_ble_eq_true rfl⟩), (ht _ iw_137)⟩ (ds_pS hPc hDc hK) rfl rfl hl.1 rfl (lv_room (Nat.le_of_ble_eq_true rfl)) dX5_put_2 ⟨Nat.le_of_ble_eq_true rfl, Nat.le_of_ble_eq_true rfl⟩) (fun r1 u2 H locs hp3 hP hD hS => ?_)
      have hP : va_P D vwCl [(mo, .inr (5, [.int er, .ref aO, .ref aT, .ref aM, .ref aZ, .ref aY, .ref aK, .ref aF, .ref aL, .int (nI c), .int isd, .int wd])), (aO, .inl (cI, 2400, .inl O)), (aZ, .inl (cI, 2, .inl Z))] H := hP
      have hD : va_D A [(mo, .inr (5, [.int er, .ref aO, .ref aT, .ref aM, .ref aZ, .ref aY, .ref aK, .ref aF, .ref aL, .int (nI c), .int isd, .int wd])), (aO, .inl (cI, 2400, .inl O)), (aZ, .inl (cI, 2, .inl Z))] := hD
      have hp3 : r1 = nI 0 := hp3
      replace hp3 := Eq.symm hp3
      subst hp3
      refine lv_iconst (v := nI 1) hx hb dX5_put_5 (by decide +kernel) ?_
      refine ds_calli (wc := [(mo, .inr (5, [.int er, .ref aO, .ref aT, .ref aM, .ref aZ, .ref aY, .ref aK, .ref aF, .ref aL, .int (nI c), .int isd, .int wd]))]) (wr := [(aO, .inl (cI, 2400, .inl O)), (aZ, .inl (cI, 2, .inl Z))]) (wo := (fun u5 : Unit => [(mo, .inr (5, [.int (nI 0), .ref aO, .ref aT, .ref aM, .ref aZ, .ref aY, .ref aK, .ref aF, .ref aL, .int (nI c), .int isd, .int wd]))])) (wn := (fun u5 : Unit => [(mo, .inr (5, [.int (nI 0), .ref aO, .ref aT, .ref aM, .ref aZ, .ref aY, .ref aK, .ref aF, .ref aL, .int (nI c), .int isd, .int wd])), (aO, .inl (cI, 2400, .inl O)), (aZ, .inl (cI, 2, .inl Z))])) (isC := [0]) (isR := [1, 2]) hP hD hS hA ⟨rfl, rfl, by decide, by decide, by decide⟩ [2, 0, 1] (by decide) (fun _ => rfl) (fun hPc hDc => va_runV (As := [.int (nI 0), .int (nI 1)]) (rest := []) ⟨hx, hb, hml, hown, ht⟩ (m_fails0 Ll D cI cL mo aO aT aM aZ aY aK aF aL er c isd wd 1  H.size) ⟨(callB_of 2 ht g_X5_fails rfl rfl rfl (ht _ iw_136) (ht _ iw_138) hd_X5_fails ⟨Nat.le_of_ble_eq_true rfl, Nat.le_of_ble_eq_true rfl⟩), (ht _ iw_139), (ht _ iw_140)⟩ (ds_pV hPc hDc hK (q0 := 0) rfl rfl) rfl rfl hl.1 rfl (lv_room (Nat.le_of_ble_eq_true rfl)) dX5_put_6 ⟨Nat.le_of_ble_eq_true rfl, Nat.le_of_ble_eq_true rfl⟩) (fun r4 u5 H locs hp6 hP hD hS => ?_)
      have hP : va_P D vwCl [(mo, .inr (5, [.int (nI 0), .ref aO, .ref aT, .ref aM, .ref aZ, .ref aY, .ref aK, .ref aF, .ref aL, .int (nI c), .int isd, .int wd])), (aO, .inl (cI, 2400, .inl O)), (aZ, .inl (cI, 2, .inl Z))] H := hP
      have hD : va_D A [(mo, .inr (5, [.int (nI 0), .ref aO, .ref aT, .ref aM, .ref aZ, .ref aY, .ref aK, .ref aF, .ref aL, .int (nI c), .int isd, .int wd])), (aO, .inl (cI, 2400, .inl O)), (aZ, .inl (cI, 2, .inl Z))] := hD
      have hp6 : r4 = nI 0 := hp6
      replace hp6 := Eq.symm hp6
      subst hp6
      refine lv_if_eq (tgt := 13) hx hb dX5_put_9 (by decide) (fun h => ?_) (fun h => ?_)
      ·
        rw [← nI_0] at h
        have h : 0 = 0 := (nI_eq (a := 0) (b := 0) (by omega) (by omega)).mp h
        by_cases hi : iok y lo
        ·
          obtain ⟨q, hq, e9⟩ := iok_nat (by omega) hi
          subst e9
          have hl : lv_has ls 6 [(0, .ref mo), (1, .int (nI 0)), (2, .int (nI q)), (3, .long v)] := hl
          refine lv_aload_n hx hb dX5_put_13 rfl (lv_at hl 0 rfl) ?_
          refine lv_iload_n hx hb dX5_put_14 rfl (lv_at hl 2 rfl) ?_
          refine lv_if_lt (tgt := 28) hx hb dX5_put_15 (by decide) (fun h => ?_) (fun h => ?_)
          ·
            rw [← nI_0] at h
            have h : q < 0 := (nI_ltI (a := q) (b := 0) (by omega) (by omega)).mp h
            exfalso; omega
          ·
            rw [← nI_0] at h
            have h : ¬ q < 0 := fun z9 => h ((nI_ltI (a := q) (b := 0) (by omega) (by omega)).mpr z9)
            refine lv_iload_n hx hb dX5_put_18 rfl (lv_at hl 2 rfl) ?_
            refine lv_aload_n hx hb dX5_put_19 rfl (lv_at hl 0 rfl) ?_
            refine va_get (D := D) (ci := 5) (v := .ref aZ) (C := RX5) (T := TX5) (N := 12) hx hb ht inA_X5 hown hK.1 hP 0 rfl rfl 4 (by decide) (ht _ iw_125) (fun _ h9 => h9) rfl dX5_put_20 ?_
            refine lv_iload_n hx hb dX5_put_23 rfl (lv_at hl 1 rfl) ?_
            refine ds_iald (k := 0) hx hb hK hP 2 rfl (by omega) (by omega) dX5_put_24 ?_
            refine ds_top (z := nI lo) hZ.2.2.1 ?_
            refine lv_icmp_lt (tgt := 32) hx hb dX5_put_25 (by decide) (fun h => ?_) (fun h => ?_)
            ·
              have h : q < lo := (nI_ltI (a := q) (b := lo) (by omega) (by omega)).mp h
              refine lv_iconst (v := nI 0) hx hb dX5_put_32 (by decide +kernel) ?_
              refine lv_iconst (v := nI 2) hx hb dX5_put_33 (by decide +kernel) ?_
              refine ds_calli (wc := [(mo, .inr (5, [.int (nI 0), .ref aO, .ref aT, .ref aM, .ref aZ, .ref aY, .ref aK, .ref aF, .ref aL, .int (nI c), .int isd, .int wd]))]) (wr := [(aO, .inl (cI, 2400, .inl O)), (aZ, .inl (cI, 2, .inl Z))]) (wo := (fun u8 : Unit => [(mo, .inr (5, [.int (nI 0), .ref aO, .ref aT, .ref aM, .ref aZ, .ref aY, .ref aK, .ref aF, .ref aL, .int (nI c), .int isd, .int wd]))])) (wn := (fun u8 : Unit => [(mo, .inr (5, [.int (nI 0), .ref aO, .ref aT, .ref aM, .ref aZ, .ref aY, .ref aK, .ref aF, .ref aL, .int (nI c), .int isd, .int wd])), (aO, .inl (cI, 2400, .inl O)), (aZ, .inl (cI, 2, .inl Z))])) (isC := [0]) (isR := [1, 2]) hP hD hS hA ⟨rfl, rfl, by decide, by decide, by decide⟩ [2, 0, 1] (by decide) (fun _ => rfl) (fun hPc hDc => va_runV (As := [.int (nI 0), .int (nI 2)]) (rest := []) ⟨hx, hb, hml, hown, ht⟩ (m_fails0 Ll D cI cL mo aO aT aM aZ aY aK aF aL (nI 0) c isd wd 2  H.size) ⟨(callB_of 2 ht g_X5_fails rfl rfl rfl (ht _ iw_136) (ht _ iw_138) hd_X5_fails ⟨Nat.le_of_ble_eq_true rfl, Nat.le_of_ble_eq_true rfl⟩), (ht _ iw_139), (ht _ iw_140)⟩ (ds_pV hPc hDc hK (q0 := 0) rfl rfl) rfl rfl hl.1 rfl (lv_room (Nat.le_of_ble_eq_true rfl)) dX5_put_34 ⟨Nat.le_of_ble_eq_true rfl, Nat.le_of_ble_eq_true rfl⟩) (fun r7 u8 H locs hp9 hP hD hS => ?_)
              have hP : va_P D vwCl [(mo, .inr (5, [.int (nI 0), .ref aO, .ref aT, .ref aM, .ref aZ, .ref aY, .ref aK, .ref aF, .ref aL, .int (nI c), .int isd, .int wd])), (aO, .inl (cI, 2400, .inl O)), (aZ, .inl (cI, 2, .inl Z))] H := hP
              have hD : va_D A [(mo, .inr (5, [.int (nI 0), .ref aO, .ref aT, .ref aM, .ref aZ, .ref aY, .ref aK, .ref aF, .ref aL, .int (nI c), .int isd, .int wd])), (aO, .inl (cI, 2400, .inl O)), (aZ, .inl (cI, 2, .inl Z))] := hD
              have hp9 : r7 = nI 0 := hp9
              replace hp9 := Eq.symm hp9
              subst hp9
              refine lv_if_eq (tgt := 41) hx hb dX5_put_37 (by decide) (fun h => ?_) (fun h => ?_)
              ·
                rw [← nI_0] at h
                have h : 0 = 0 := (nI_eq (a := 0) (b := 0) (by omega) (by omega)).mp h
                refine lv_iconst (v := nI 0) hx hb dX5_put_41 (by decide +kernel) ?_
                refine lv_istore (lv' := [(5, .int (nI 0)), (0, .ref mo), (1, .int (nI 0)), (2, .int (nI q)), (3, .long v)]) hx hb dX5_put_42 hl (Nat.le_of_ble_eq_true rfl) rfl (fun ls hl => ?_)
                have hP : va_P D vwCl [(mo, .inr (5, [.int (nI 0), .ref aO, .ref aT, .ref aM, .ref aZ, .ref aY, .ref aK, .ref aF, .ref aL, .int (nI c), .int isd, .int wd])), (aO, .inl (cI, 2400, .inl (wr O (q) v 0))), (aZ, .inl (cI, 2, .inl Z))] H := by rw [wr_0]; exact hP
                have hD : va_D A [(mo, .inr (5, [.int (nI 0), .ref aO, .ref aT, .ref aM, .ref aZ, .ref aY, .ref aK, .ref aF, .ref aL, .int (nI c), .int isd, .int wd])), (aO, .inl (cI, 2400, .inl (wr O (q) v 0))), (aZ, .inl (cI, 2, .inl Z))] := by rw [wr_0]; exact hD
                have loop10 : ∀ (k11 : Nat) (i : Nat) (H : Heap) (locs : List Loc) (ls : Array Slot), (i ≤ 8) → (i = 0 ∨ q + i ≤ lo) → 8 - i < k11 → va_P D vwCl [(mo, .inr (5, [.int (nI 0), .ref aO, .ref aT, .ref aM, .ref aZ, .ref aY, .ref aK, .ref aF, .ref aL, .int (nI c), .int isd, .int wd])), (aO, .inl (cI, 2400, .inl (wr O (q) v i))), (aZ, .inl (cI, 2, .inl Z))] H → va_D A [(mo, .inr (5, [.int (nI 0), .ref aO, .ref aT, .ref aM, .ref aZ, .ref aY, .ref aK, .ref aF, .ref aL, .int (nI c), .int isd, .int wd])), (aO, .inl (cI, 2400, .inl (wr O (q) v i))), (aZ, .inl (cI, 2, .inl Z))] → va_S A Ss.heap H locs → lv_has ls 6 [(0, .ref mo), (1, .int (nI 0)), (2, .int (nI q)), (3, .long v), (5, .int (nI i))] → W Pp Ll Ee { frames := 1, cells := 0, slots := 0, locals := 22 } Ss Mm Aa Bb Me Cc H locs 0 0 (MQ Bb (ds_Qv D (fun (u : Int32 × (Nat → Int32)) => u.1 = e_put 0 (nI q) lo ln ∧ mQ (n_put 0 (nI q) v (lo, fo, ln, fn)) u.2 Z) (fun u : Int32 × (Nat → Int32) => [(mo, .inr (5, [.int u.1, .ref aO, .ref aT, .ref aM, .ref aZ, .ref aY, .ref aK, .ref aF, .ref aL, .int (nI c), .int isd, .int wd])), (aO, .inl (cI, 2400, .inl u.2)), (aZ, .inl (cI, 2, .inl Z))]) A) Aa Ss 0 0 A) (F0 Mm 44 ls []) := by
                  intro k11
                  induction k11 with
                  | zero => intro i H locs ls hi8 hi2 hm13; exact absurd hm13 (Nat.not_lt_zero _)
                  | succ k11 ih12 =>
                    intro i H locs ls hi8 hi2 hm13 hP hD hS hl
                    refine lv_iload hx hb dX5_put_44 (lv_at hl 4 rfl) ?_
                    refine lv_bipush (v := nI 8) hx hb dX5_put_46 (by decide +kernel) ?_
                    refine lv_icmp_ge (tgt := 100) hx hb dX5_put_48 (by decide) (fun h => ?_) (fun h => ?_)
                    ·
                      have h : 8 ≤ i := (nI_leI (a := 8) (b := i) (by omega) (by omega)).mp h
                      have hP : va_P D vwCl [(mo, .inr (5, [.int (nI 0), .ref aO, .ref aT, .ref aM, .ref aZ, .ref aY, .ref aK, .ref aF, .ref aL, .int (nI c), .int isd, .int wd])), (aO, .inl (cI, 2400, .inl (wr O (q) v (min 8 (lo - q))))), (aZ, .inl (cI, 2, .inl Z))] H := by rw [show min 8 (lo - q) = i by omega]; exact hP
                      have hD : va_D A [(mo, .inr (5, [.int (nI 0), .ref aO, .ref aT, .ref aM, .ref aZ, .ref aY, .ref aK, .ref aF, .ref aL, .int (nI c), .int isd, .int wd])), (aO, .inl (cI, 2400, .inl (wr O (q) v (min 8 (lo - q))))), (aZ, .inl (cI, 2, .inl Z))] := by rw [show min 8 (lo - q) = i by omega]; exact hD
                      exact ds_vret hx hb hr hlk (nI 0, wr O (q) v (min 8 (lo - q))) ⟨(e_put_ok hro (by rw [rsel_0]; exact iok_of hq (by omega))).symm, mQ_put0 hq hR⟩ hP hD hS (Nat.le_of_ble_eq_true rfl) (Nat.le_of_ble_eq_true rfl) dX5_put_100
                    ·
                      have h : ¬ 8 ≤ i := fun z9 => h ((nI_leI (a := 8) (b := i) (by omega) (by omega)).mpr z9)
                      refine lv_iload_n hx hb dX5_put_51 rfl (lv_at hl 2 rfl) ?_
                      refine lv_iload hx hb dX5_put_52 (lv_at hl 4 rfl) ?_
                      refine lv_iadd hx hb dX5_put_54 ?_
                      refine ds_top (z := nI (q + i)) (nI_add _ _) ?_
                      refine lv_aload_n hx hb dX5_put_55 rfl (lv_at hl 0 rfl) ?_
                      refine va_get (D := D) (ci := 5) (v := .ref aZ) (C := RX5) (T := TX5) (N := 12) hx hb ht inA_X5 hown hK.1 hP 0 rfl rfl 4 (by decide) (ht _ iw_125) (fun _ h9 => h9) rfl dX5_put_56 ?_
                      refine lv_iload_n hx hb dX5_put_59 rfl (lv_at hl 1 rfl) ?_
                      refine ds_iald (k := 0) hx hb hK hP 2 rfl (by omega) (by omega) dX5_put_60 ?_
                      refine ds_top (z := nI lo) hZ.2.2.1 ?_
                      refine lv_icmp_ge (tgt := 100) hx hb dX5_put_61 (by decide) (fun h0 => ?_) (fun h0 => ?_)
                      ·
                        have h0 : lo ≤ (q + i) := (nI_leI (a := lo) (b := (q + i)) (by omega) (by omega)).mp h0
                        have hP : va_P D vwCl [(mo, .inr (5, [.int (nI 0), .ref aO, .ref aT, .ref aM, .ref aZ, .ref aY, .ref aK, .ref aF, .ref aL, .int (nI c), .int isd, .int wd])), (aO, .inl (cI, 2400, .inl (wr O (q) v (min 8 (lo - q))))), (aZ, .inl (cI, 2, .inl Z))] H := by rw [show min 8 (lo - q) = i by omega]; exact hP
                        have hD : va_D A [(mo, .inr (5, [.int (nI 0), .ref aO, .ref aT, .ref aM, .ref aZ, .ref aY, .ref aK, .ref aF, .ref aL, .int (nI c), .int isd, .int wd])), (aO, .inl (cI, 2400, .inl (wr O (q) v (min 8 (lo - q))))), (aZ, .inl (cI, 2, .inl Z))] := by rw [show min 8 (lo - q) = i by omega]; exact hD
                        exact ds_vret hx hb hr hlk (nI 0, wr O (q) v (min 8 (lo - q))) ⟨(e_put_ok hro (by rw [rsel_0]; exact iok_of hq (by omega))).symm, mQ_put0 hq hR⟩ hP hD hS (Nat.le_of_ble_eq_true rfl) (Nat.le_of_ble_eq_true rfl) dX5_put_100
                      ·
                        have h0 : ¬ lo ≤ (q + i) := fun z9 => h0 ((nI_leI (a := lo) (b := (q + i)) (by omega) (by omega)).mpr z9)
                        refine lv_aload_n hx hb dX5_put_64 rfl (lv_at hl 0 rfl) ?_
                        refine va_get (D := D) (ci := 5) (v := .ref aO) (C := RX5) (T := TX5) (N := 12) hx hb ht inA_X5 hown hK.1 hP 0 rfl rfl 1 (by decide) (ht _ iw_122) (fun _ h9 => h9) rfl dX5_put_65 ?_
                        refine lv_sipush (v := nI 1200) hx hb dX5_put_68 (by decide +kernel) ?_
                        refine lv_iload_n hx hb dX5_put_71 rfl (lv_at hl 1 rfl) ?_
                        refine lv_imul hx hb dX5_put_72 ?_
                        refine ds_top (z := nI (1200 * 0)) (pk_mul _ _) ?_
                        refine lv_iload_n hx hb dX5_put_73 rfl (lv_at hl 2 rfl) ?_
                        refine lv_iadd hx hb dX5_put_74 ?_
                        refine ds_top (z := nI ((1200 * 0) + q)) (nI_add _ _) ?_
                        refine lv_iload hx hb dX5_put_75 (lv_at hl 4 rfl) ?_
                        refine lv_iadd hx hb dX5_put_77 ?_
                        refine ds_top (z := nI (((1200 * 0) + q) + i)) (nI_add _ _) ?_
                        refine ds_top (z := nI (q + i)) (congrArg nI (by omega)) ?_
                        refine lv_lload_n hx hb dX5_put_78 rfl (lv_at hl 3 rfl) ?_
                        refine lv_bipush (v := nI 56) hx hb dX5_put_79 (by decide +kernel) ?_
                        refine lv_bipush (v := nI 8) hx hb dX5_put_81 (by decide +kernel) ?_
                        refine lv_iload hx hb dX5_put_83 (lv_at hl 4 rfl) ?_
                        refine lv_imul hx hb dX5_put_85 ?_
                        refine ds_top (z := nI (8 * i)) (pk_mul _ _) ?_
                        refine lv_isub hx hb dX5_put_86 ?_
                        refine ds_top (z := nI (56 - (8 * i))) (pk_sub (by omega)) ?_
                        refine lv_lshr (v := v >>> ((nI (56 - (8 * i))).toInt64 &&& 63)) hx hb dX5_put_87 rfl ?_
                        refine lv_l2i (v := (v >>> ((nI (56 - (8 * i))).toInt64 &&& 63)).toInt32) hx hb dX5_put_88 rfl ?_
                        refine lv_sipush (v := nI 255) hx hb dX5_put_89 (by decide +kernel) ?_
                        refine lv_iand hx hb dX5_put_92 ?_
                        refine ds_top (z := ds_oct v i) (oct_m (by omega)) ?_
                        refine ds_iast (k := q + i) hx hb hK hP hD hS 1 rfl (by omega) (by omega) dX5_put_93 (fun H locs hP hD hS => ?_)
                        have hP : va_P D vwCl [(mo, .inr (5, [.int (nI 0), .ref aO, .ref aT, .ref aM, .ref aZ, .ref aY, .ref aK, .ref aF, .ref aL, .int (nI c), .int isd, .int wd])), (aO, .inl (cI, 2400, .inl (upd (wr O (q) v i) (q + i) (ds_oct v i)))), (aZ, .inl (cI, 2, .inl Z))] H := hP
                        have hD : va_D A [(mo, .inr (5, [.int (nI 0), .ref aO, .ref aT, .ref aM, .ref aZ, .ref aY, .ref aK, .ref aF, .ref aL, .int (nI c), .int isd, .int wd])), (aO, .inl (cI, 2400, .inl (upd (wr O (q) v i) (q + i) (ds_oct v i)))), (aZ, .inl (cI, 2, .inl Z))] := hD
                        refine lv_iinc (k := 4) (v := nI (i + 1)) (lv' := [(5, .int (nI (i + 1))), (0, .ref mo), (1, .int (nI 0)), (2, .int (nI q)), (3, .long v)]) hx hb dX5_put_94 hl rfl (by rw [nI_succ]; rfl) (Nat.le_of_ble_eq_true rfl) rfl (fun ls hl => ?_)
                        refine lv_goto (tgt := 44) hx hb dX5_put_97 (by decide) ?_
                        have hP : va_P D vwCl [(mo, .inr (5, [.int (nI 0), .ref aO, .ref aT, .ref aM, .ref aZ, .ref aY, .ref aK, .ref aF, .ref aL, .int (nI c), .int isd, .int wd])), (aO, .inl (cI, 2400, .inl (wr O (q) v (i + 1)))), (aZ, .inl (cI, 2, .inl Z))] H := by rw [wr_s]; exact hP
                        have hD : va_D A [(mo, .inr (5, [.int (nI 0), .ref aO, .ref aT, .ref aM, .ref aZ, .ref aY, .ref aK, .ref aF, .ref aL, .int (nI c), .int isd, .int wd])), (aO, .inl (cI, 2400, .inl (wr O (q) v (i + 1)))), (aZ, .inl (cI, 2, .inl Z))] := by rw [wr_s]; exact hD
                        exact ih12 (i + 1) H locs ls (by omega) (by omega) (by omega) hP hD hS (lv_sub hl [1, 2, 3, 4, 0] rfl)
                exact loop10 _ 0 H locs ls (by omega) (Or.inl rfl) (Nat.lt_succ_self _) hP hD hS (lv_sub hl [1, 2, 3, 4, 0] rfl)
              ·
                rw [← nI_0] at h
                have h : ¬ 0 = 0 := fun z9 => h ((nI_eq (a := 0) (b := 0) (by omega) (by omega)).mpr z9)
                exact absurd rfl h
            ·
              have h : ¬ q < lo := fun z9 => h ((nI_ltI (a := q) (b := lo) (by omega) (by omega)).mpr z9)
              exfalso; omega
        ·
          have hi9 := Classical.not_not.mp hi
          refine lv_aload_n hx hb dX5_put_13 rfl (lv_at hl 0 rfl) ?_
          refine lv_iload_n hx hb dX5_put_14 rfl (lv_at hl 2 rfl) ?_
          refine lv_if_lt (tgt := 28) hx hb dX5_put_15 (by decide) (fun h0 => ?_) (fun h0 => ?_)
          ·
            refine lv_iconst (v := nI 1) hx hb dX5_put_28 (by decide +kernel) ?_
            refine lv_goto (tgt := 33) hx hb dX5_put_29 (by decide) ?_
            refine lv_iconst (v := nI 2) hx hb dX5_put_33 (by decide +kernel) ?_
            refine ds_calli (wc := [(mo, .inr (5, [.int (nI 0), .ref aO, .ref aT, .ref aM, .ref aZ, .ref aY, .ref aK, .ref aF, .ref aL, .int (nI c), .int isd, .int wd]))]) (wr := [(aO, .inl (cI, 2400, .inl O)), (aZ, .inl (cI, 2, .inl Z))]) (wo := (fun u15 : Unit => [(mo, .inr (5, [.int (nI 2), .ref aO, .ref aT, .ref aM, .ref aZ, .ref aY, .ref aK, .ref aF, .ref aL, .int (nI c), .int isd, .int wd]))])) (wn := (fun u15 : Unit => [(mo, .inr (5, [.int (nI 2), .ref aO, .ref aT, .ref aM, .ref aZ, .ref aY, .ref aK, .ref aF, .ref aL, .int (nI c), .int isd, .int wd])), (aO, .inl (cI, 2400, .inl O)), (aZ, .inl (cI, 2, .inl Z))])) (isC := [0]) (isR := [1, 2]) hP hD hS hA ⟨rfl, rfl, by decide, by decide, by decide⟩ [2, 0, 1] (by decide) (fun _ => rfl) (fun hPc hDc => va_runV (As := [.int (nI 1), .int (nI 2)]) (rest := []) ⟨hx, hb, hml, hown, ht⟩ (m_fails1 Ll D cI cL mo aO aT aM aZ aY aK aF aL (nI 0) c isd wd 2  H.size) ⟨(callB_of 2 ht g_X5_fails rfl rfl rfl (ht _ iw_136) (ht _ iw_138) hd_X5_fails ⟨Nat.le_of_ble_eq_true rfl, Nat.le_of_ble_eq_true rfl⟩), (ht _ iw_139), (ht _ iw_140)⟩ (ds_pV hPc hDc hK (q0 := 0) rfl rfl) rfl rfl hl.1 rfl (lv_room (Nat.le_of_ble_eq_true rfl)) dX5_put_34 ⟨Nat.le_of_ble_eq_true rfl, Nat.le_of_ble_eq_true rfl⟩) (fun r14 u15 H locs hp16 hP hD hS => ?_)
            have hP : va_P D vwCl [(mo, .inr (5, [.int (nI 2), .ref aO, .ref aT, .ref aM, .ref aZ, .ref aY, .ref aK, .ref aF, .ref aL, .int (nI c), .int isd, .int wd])), (aO, .inl (cI, 2400, .inl O)), (aZ, .inl (cI, 2, .inl Z))] H := hP
            have hD : va_D A [(mo, .inr (5, [.int (nI 2), .ref aO, .ref aT, .ref aM, .ref aZ, .ref aY, .ref aK, .ref aF, .ref aL, .int (nI c), .int isd, .int wd])), (aO, .inl (cI, 2400, .inl O)), (aZ, .inl (cI, 2, .inl Z))] := hD
            have hp16 : r14 = nI 1 := hp16
            replace hp16 := Eq.symm hp16
            subst hp16
            refine lv_if_eq (tgt := 41) hx hb dX5_put_37 (by decide) (fun h => ?_) (fun h => ?_)
            ·
              rw [← nI_0] at h
              have h : 1 = 0 := (nI_eq (a := 1) (b := 0) (by omega) (by omega)).mp h
              exact absurd h (by decide)
            ·
              rw [← nI_0] at h
              have h : ¬ 1 = 0 := fun z9 => h ((nI_eq (a := 1) (b := 0) (by omega) (by omega)).mpr z9)
              exact ds_vret hx hb hr hlk (nI 2, O) ⟨(e_put_x hro (by rw [rsel_0]; exact hi)).symm, by rw [n_put_x (t := (lo, fo, ln, fn)) (fun z => absurd (z.symm.trans (e_put_x hro (by rw [rsel_0]; exact hi))) (by decide))]; exact hR⟩ hP hD hS (Nat.le_of_ble_eq_true rfl) (Nat.le_of_ble_eq_true rfl) dX5_put_40
          ·
            refine lv_iload_n hx hb dX5_put_18 rfl (lv_at hl 2 rfl) ?_
            refine lv_aload_n hx hb dX5_put_19 rfl (lv_at hl 0 rfl) ?_
            refine va_get (D := D) (ci := 5) (v := .ref aZ) (C := RX5) (T := TX5) (N := 12) hx hb ht inA_X5 hown hK.1 hP 0 rfl rfl 4 (by decide) (ht _ iw_125) (fun _ h9 => h9) rfl dX5_put_20 ?_
            refine lv_iload_n hx hb dX5_put_23 rfl (lv_at hl 1 rfl) ?_
            refine ds_iald (k := 0) hx hb hK hP 2 rfl (by omega) (by omega) dX5_put_24 ?_
            refine ds_top (z := nI lo) hZ.2.2.1 ?_
            refine lv_icmp_lt (tgt := 32) hx hb dX5_put_25 (by decide) (fun h => ?_) (fun h => ?_)
            ·
              exact absurd (hi9.resolve_left h0) (Int32.not_le.mpr h)
            ·
              refine lv_iconst (v := nI 1) hx hb dX5_put_28 (by decide +kernel) ?_
              refine lv_goto (tgt := 33) hx hb dX5_put_29 (by decide) ?_
              refine lv_iconst (v := nI 2) hx hb dX5_put_33 (by decide +kernel) ?_
              refine ds_calli (wc := [(mo, .inr (5, [.int (nI 0), .ref aO, .ref aT, .ref aM, .ref aZ, .ref aY, .ref aK, .ref aF, .ref aL, .int (nI c), .int isd, .int wd]))]) (wr := [(aO, .inl (cI, 2400, .inl O)), (aZ, .inl (cI, 2, .inl Z))]) (wo := (fun u18 : Unit => [(mo, .inr (5, [.int (nI 2), .ref aO, .ref aT, .ref aM, .ref aZ, .ref aY, .ref aK, .ref aF, .ref aL, .int (nI c), .int isd, .int wd]))])) (wn := (fun u18 : Unit => [(mo, .inr (5, [.int (nI 2), .ref aO, .ref aT, .ref aM, .ref aZ, .ref aY, .ref aK, .ref aF, .ref aL, .int (nI c), .int isd, .int wd])), (aO, .inl (cI, 2400, .inl O)), (aZ, .inl (cI, 2, .inl Z))])) (isC := [0]) (isR := [1, 2]) hP hD hS hA ⟨rfl, rfl, by decide, by decide, by decide⟩ [2, 0, 1] (by decide) (fun _ => rfl) (fun hPc hDc => va_runV (As := [.int (nI 1), .int (nI 2)]) (rest := []) ⟨hx, hb, hml, hown, ht⟩ (m_fails1 Ll D cI cL mo aO aT aM aZ aY aK aF aL (nI 0) c isd wd 2  H.size) ⟨(callB_of 2 ht g_X5_fails rfl rfl rfl (ht _ iw_136) (ht _ iw_138) hd_X5_fails ⟨Nat.le_of_ble_eq_true rfl, Nat.le_of_ble_eq_true rfl⟩), (ht _ iw_139), (ht _ iw_140)⟩ (ds_pV hPc hDc hK (q0 := 0) rfl rfl) rfl rfl hl.1 rfl (lv_room (Nat.le_of_ble_eq_true rfl)) dX5_put_34 ⟨Nat.le_of_ble_eq_true rfl, Nat.le_of_ble_eq_true rfl⟩) (fun r17 u18 H locs hp19 hP hD hS => ?_)
              have hP : va_P D vwCl [(mo, .inr (5, [.int (nI 2), .ref aO, .ref aT, .ref aM, .ref aZ, .ref aY, .ref aK, .ref aF, .ref aL, .int (nI c), .int isd, .int wd])), (aO, .inl (cI, 2400, .inl O)), (aZ, .inl (cI, 2, .inl Z))] H := hP
              have hD : va_D A [(mo, .inr (5, [.int (nI 2), .ref aO, .ref aT, .ref aM, .ref aZ, .ref aY, .ref aK, .ref aF, .ref aL, .int (nI c), .int isd, .int wd])), (aO, .inl (cI, 2400, .inl O)), (aZ, .inl (cI, 2, .inl Z))] := hD
              have hp19 : r17 = nI 1 := hp19
              replace hp19 := Eq.symm hp19
              subst hp19
              refine lv_if_eq (tgt := 41) hx hb dX5_put_37 (by decide) (fun h => ?_) (fun h => ?_)
              ·
                rw [← nI_0] at h
                have h : 1 = 0 := (nI_eq (a := 1) (b := 0) (by omega) (by omega)).mp h
                exact absurd h (by decide)
              ·
                rw [← nI_0] at h
                have h : ¬ 1 = 0 := fun z9 => h ((nI_eq (a := 1) (b := 0) (by omega) (by omega)).mpr z9)
                exact ds_vret hx hb hr hlk (nI 2, O) ⟨(e_put_x hro (by rw [rsel_0]; exact hi)).symm, by rw [n_put_x (t := (lo, fo, ln, fn)) (fun z => absurd (z.symm.trans (e_put_x hro (by rw [rsel_0]; exact hi))) (by decide))]; exact hR⟩ hP hD hS (Nat.le_of_ble_eq_true rfl) (Nat.le_of_ble_eq_true rfl) dX5_put_40
      ·
        rw [← nI_0] at h
        have h : ¬ 0 = 0 := fun z9 => h ((nI_eq (a := 0) (b := 0) (by omega) (by omega)).mpr z9)
        exact absurd rfl h
    ·
      have hl : lv_has ls 6 [(0, .ref mo), (1, .int (nI 1)), (2, .int y), (3, .long v)] := hl
      refine lv_aload_n hx hb dX5_put_0 rfl (lv_at hl 0 rfl) ?_
      refine lv_iload_n hx hb dX5_put_1 rfl (lv_at hl 1 rfl) ?_
      refine ds_calli (wc := []) (wr := [(mo, .inr (5, [.int er, .ref aO, .ref aT, .ref aM, .ref aZ, .ref aY, .ref aK, .ref aF, .ref aL, .int (nI c), .int isd, .int wd])), (aO, .inl (cI, 2400, .inl O)), (aZ, .inl (cI, 2, .inl Z))]) (wo := (fun u21 : Unit => [])) (wn := (fun u21 : Unit => [(mo, .inr (5, [.int er, .ref aO, .ref aT, .ref aM, .ref aZ, .ref aY, .ref aK, .ref aF, .ref aL, .int (nI c), .int isd, .int wd])), (aO, .inl (cI, 2400, .inl O)), (aZ, .inl (cI, 2, .inl Z))])) (isC := []) (isR := [0, 1, 2]) hP hD hS hA ⟨rfl, rfl, by decide, by decide, by decide⟩ [0, 1, 2] (by decide) (fun _ => rfl) (fun hPc hDc => va_runS (As := [.int (nI 1)]) (rest := [.ref mo]) ⟨hx, hb, hml, hown, ht⟩ (m_no0 Ll D cI cL 1 (by decide) H.size) ⟨(callB_of 1 ht g_X5_no rfl rfl rfl (ht _ iw_136) (ht _ iw_135) hd_X5_no ⟨Nat.le_of_ble_eq_true rfl, Nat.le_of_ble_eq_true rfl⟩), (ht _ iw_137)⟩ (ds_pS hPc hDc hK) rfl rfl hl.1 rfl (lv_room (Nat.le_of_ble_eq_true rfl)) dX5_put_2 ⟨Nat.le_of_ble_eq_true rfl, Nat.le_of_ble_eq_true rfl⟩) (fun r20 u21 H locs hp22 hP hD hS => ?_)
      have hP : va_P D vwCl [(mo, .inr (5, [.int er, .ref aO, .ref aT, .ref aM, .ref aZ, .ref aY, .ref aK, .ref aF, .ref aL, .int (nI c), .int isd, .int wd])), (aO, .inl (cI, 2400, .inl O)), (aZ, .inl (cI, 2, .inl Z))] H := hP
      have hD : va_D A [(mo, .inr (5, [.int er, .ref aO, .ref aT, .ref aM, .ref aZ, .ref aY, .ref aK, .ref aF, .ref aL, .int (nI c), .int isd, .int wd])), (aO, .inl (cI, 2400, .inl O)), (aZ, .inl (cI, 2, .inl Z))] := hD
      have hp22 : r20 = nI 0 := hp22
      replace hp22 := Eq.symm hp22
      subst hp22
      refine lv_iconst (v := nI 1) hx hb dX5_put_5 (by decide +kernel) ?_
      refine ds_calli (wc := [(mo, .inr (5, [.int er, .ref aO, .ref aT, .ref aM, .ref aZ, .ref aY, .ref aK, .ref aF, .ref aL, .int (nI c), .int isd, .int wd]))]) (wr := [(aO, .inl (cI, 2400, .inl O)), (aZ, .inl (cI, 2, .inl Z))]) (wo := (fun u24 : Unit => [(mo, .inr (5, [.int (nI 0), .ref aO, .ref aT, .ref aM, .ref aZ, .ref aY, .ref aK, .ref aF, .ref aL, .int (nI c), .int isd, .int wd]))])) (wn := (fun u24 : Unit => [(mo, .inr (5, [.int (nI 0), .ref aO, .ref aT, .ref aM, .ref aZ, .ref aY, .ref aK, .ref aF, .ref aL, .int (nI c), .int isd, .int wd])), (aO, .inl (cI, 2400, .inl O)), (aZ, .inl (cI, 2, .inl Z))])) (isC := [0]) (isR := [1, 2]) hP hD hS hA ⟨rfl, rfl, by decide, by decide, by decide⟩ [2, 0, 1] (by decide) (fun _ => rfl) (fun hPc hDc => va_runV (As := [.int (nI 0), .int (nI 1)]) (rest := []) ⟨hx, hb, hml, hown, ht⟩ (m_fails0 Ll D cI cL mo aO aT aM aZ aY aK aF aL er c isd wd 1  H.size) ⟨(callB_of 2 ht g_X5_fails rfl rfl rfl (ht _ iw_136) (ht _ iw_138) hd_X5_fails ⟨Nat.le_of_ble_eq_true rfl, Nat.le_of_ble_eq_true rfl⟩), (ht _ iw_139), (ht _ iw_140)⟩ (ds_pV hPc hDc hK (q0 := 0) rfl rfl) rfl rfl hl.1 rfl (lv_room (Nat.le_of_ble_eq_true rfl)) dX5_put_6 ⟨Nat.le_of_ble_eq_true rfl, Nat.le_of_ble_eq_true rfl⟩) (fun r23 u24 H locs hp25 hP hD hS => ?_)
      have hP : va_P D vwCl [(mo, .inr (5, [.int (nI 0), .ref aO, .ref aT, .ref aM, .ref aZ, .ref aY, .ref aK, .ref aF, .ref aL, .int (nI c), .int isd, .int wd])), (aO, .inl (cI, 2400, .inl O)), (aZ, .inl (cI, 2, .inl Z))] H := hP
      have hD : va_D A [(mo, .inr (5, [.int (nI 0), .ref aO, .ref aT, .ref aM, .ref aZ, .ref aY, .ref aK, .ref aF, .ref aL, .int (nI c), .int isd, .int wd])), (aO, .inl (cI, 2400, .inl O)), (aZ, .inl (cI, 2, .inl Z))] := hD
      have hp25 : r23 = nI 0 := hp25
      replace hp25 := Eq.symm hp25
      subst hp25
      refine lv_if_eq (tgt := 13) hx hb dX5_put_9 (by decide) (fun h => ?_) (fun h => ?_)
      ·
        rw [← nI_0] at h
        have h : 0 = 0 := (nI_eq (a := 0) (b := 0) (by omega) (by omega)).mp h
        by_cases hi : iok y ln
        ·
          obtain ⟨q, hq, e9⟩ := iok_nat (by omega) hi
          subst e9
          have hl : lv_has ls 6 [(0, .ref mo), (1, .int (nI 1)), (2, .int (nI q)), (3, .long v)] := hl
          refine lv_aload_n hx hb dX5_put_13 rfl (lv_at hl 0 rfl) ?_
          refine lv_iload_n hx hb dX5_put_14 rfl (lv_at hl 2 rfl) ?_
          refine lv_if_lt (tgt := 28) hx hb dX5_put_15 (by decide) (fun h => ?_) (fun h => ?_)
          ·
            rw [← nI_0] at h
            have h : q < 0 := (nI_ltI (a := q) (b := 0) (by omega) (by omega)).mp h
            exfalso; omega
          ·
            rw [← nI_0] at h
            have h : ¬ q < 0 := fun z9 => h ((nI_ltI (a := q) (b := 0) (by omega) (by omega)).mpr z9)
            refine lv_iload_n hx hb dX5_put_18 rfl (lv_at hl 2 rfl) ?_
            refine lv_aload_n hx hb dX5_put_19 rfl (lv_at hl 0 rfl) ?_
            refine va_get (D := D) (ci := 5) (v := .ref aZ) (C := RX5) (T := TX5) (N := 12) hx hb ht inA_X5 hown hK.1 hP 0 rfl rfl 4 (by decide) (ht _ iw_125) (fun _ h9 => h9) rfl dX5_put_20 ?_
            refine lv_iload_n hx hb dX5_put_23 rfl (lv_at hl 1 rfl) ?_
            refine ds_iald (k := 1) hx hb hK hP 2 rfl (by omega) (by omega) dX5_put_24 ?_
            refine ds_top (z := nI ln) hZ.2.2.2 ?_
            refine lv_icmp_lt (tgt := 32) hx hb dX5_put_25 (by decide) (fun h => ?_) (fun h => ?_)
            ·
              have h : q < ln := (nI_ltI (a := q) (b := ln) (by omega) (by omega)).mp h
              refine lv_iconst (v := nI 0) hx hb dX5_put_32 (by decide +kernel) ?_
              refine lv_iconst (v := nI 2) hx hb dX5_put_33 (by decide +kernel) ?_
              refine ds_calli (wc := [(mo, .inr (5, [.int (nI 0), .ref aO, .ref aT, .ref aM, .ref aZ, .ref aY, .ref aK, .ref aF, .ref aL, .int (nI c), .int isd, .int wd]))]) (wr := [(aO, .inl (cI, 2400, .inl O)), (aZ, .inl (cI, 2, .inl Z))]) (wo := (fun u27 : Unit => [(mo, .inr (5, [.int (nI 0), .ref aO, .ref aT, .ref aM, .ref aZ, .ref aY, .ref aK, .ref aF, .ref aL, .int (nI c), .int isd, .int wd]))])) (wn := (fun u27 : Unit => [(mo, .inr (5, [.int (nI 0), .ref aO, .ref aT, .ref aM, .ref aZ, .ref aY, .ref aK, .ref aF, .ref aL, .int (nI c), .int isd, .int wd])), (aO, .inl (cI, 2400, .inl O)), (aZ, .inl (cI, 2, .inl Z))])) (isC := [0]) (isR := [1, 2]) hP hD hS hA ⟨rfl, rfl, by decide, by decide, by decide⟩ [2, 0, 1] (by decide) (fun _ => rfl) (fun hPc hDc => va_runV (As := [.int (nI 0), .int (nI 2)]) (rest := []) ⟨hx, hb, hml, hown, ht⟩ (m_fails0 Ll D cI cL mo aO aT aM aZ aY aK aF aL (nI 0) c isd wd 2  H.size) ⟨(callB_of 2 ht g_X5_fails rfl rfl rfl (ht _ iw_136) (ht _ iw_138) hd_X5_fails ⟨Nat.le_of_ble_eq_true rfl, Nat.le_of_ble_eq_true rfl⟩), (ht _ iw_139), (ht _ iw_140)⟩ (ds_pV hPc hDc hK (q0 := 0) rfl rfl) rfl rfl hl.1 rfl (lv_room (Nat.le_of_ble_eq_true rfl)) dX5_put_34 ⟨Nat.le_of_ble_eq_true rfl, Nat.le_of_ble_eq_true rfl⟩) (fun r26 u27 H locs hp28 hP hD hS => ?_)
              have hP : va_P D vwCl [(mo, .inr (5, [.int (nI 0), .ref aO, .ref aT, .ref aM, .ref aZ, .ref aY, .ref aK, .ref aF, .ref aL, .int (nI c), .int isd, .int wd])), (aO, .inl (cI, 2400, .inl O)), (aZ, .inl (cI, 2, .inl Z))] H := hP
              have hD : va_D A [(mo, .inr (5, [.int (nI 0), .ref aO, .ref aT, .ref aM, .ref aZ, .ref aY, .ref aK, .ref aF, .ref aL, .int (nI c), .int isd, .int wd])), (aO, .inl (cI, 2400, .inl O)), (aZ, .inl (cI, 2, .inl Z))] := hD
              have hp28 : r26 = nI 0 := hp28
              replace hp28 := Eq.symm hp28
              subst hp28
              refine lv_if_eq (tgt := 41) hx hb dX5_put_37 (by decide) (fun h => ?_) (fun h => ?_)
              ·
                rw [← nI_0] at h
                have h : 0 = 0 := (nI_eq (a := 0) (b := 0) (by omega) (by omega)).mp h
                refine lv_iconst (v := nI 0) hx hb dX5_put_41 (by decide +kernel) ?_
                refine lv_istore (lv' := [(5, .int (nI 0)), (0, .ref mo), (1, .int (nI 1)), (2, .int (nI q)), (3, .long v)]) hx hb dX5_put_42 hl (Nat.le_of_ble_eq_true rfl) rfl (fun ls hl => ?_)
                have hP : va_P D vwCl [(mo, .inr (5, [.int (nI 0), .ref aO, .ref aT, .ref aM, .ref aZ, .ref aY, .ref aK, .ref aF, .ref aL, .int (nI c), .int isd, .int wd])), (aO, .inl (cI, 2400, .inl (wr O (1200 + q) v 0))), (aZ, .inl (cI, 2, .inl Z))] H := by rw [wr_0]; exact hP
                have hD : va_D A [(mo, .inr (5, [.int (nI 0), .ref aO, .ref aT, .ref aM, .ref aZ, .ref aY, .ref aK, .ref aF, .ref aL, .int (nI c), .int isd, .int wd])), (aO, .inl (cI, 2400, .inl (wr O (1200 + q) v 0))), (aZ, .inl (cI, 2, .inl Z))] := by rw [wr_0]; exact hD
                have loop29 : ∀ (k30 : Nat) (i : Nat) (H : Heap) (locs : List Loc) (ls : Array Slot), (i ≤ 8) → (i = 0 ∨ q + i ≤ ln) → 8 - i < k30 → va_P D vwCl [(mo, .inr (5, [.int (nI 0), .ref aO, .ref aT, .ref aM, .ref aZ, .ref aY, .ref aK, .ref aF, .ref aL, .int (nI c), .int isd, .int wd])), (aO, .inl (cI, 2400, .inl (wr O (1200 + q) v i))), (aZ, .inl (cI, 2, .inl Z))] H → va_D A [(mo, .inr (5, [.int (nI 0), .ref aO, .ref aT, .ref aM, .ref aZ, .ref aY, .ref aK, .ref aF, .ref aL, .int (nI c), .int isd, .int wd])), (aO, .inl (cI, 2400, .inl (wr O (1200 + q) v i))), (aZ, .inl (cI, 2, .inl Z))] → va_S A Ss.heap H locs → lv_has ls 6 [(0, .ref mo), (1, .int (nI 1)), (2, .int (nI q)), (3, .long v), (5, .int (nI i))] → W Pp Ll Ee { frames := 1, cells := 0, slots := 0, locals := 22 } Ss Mm Aa Bb Me Cc H locs 0 0 (MQ Bb (ds_Qv D (fun (u : Int32 × (Nat → Int32)) => u.1 = e_put (nI 1) (nI q) lo ln ∧ mQ (n_put (nI 1) (nI q) v (lo, fo, ln, fn)) u.2 Z) (fun u : Int32 × (Nat → Int32) => [(mo, .inr (5, [.int u.1, .ref aO, .ref aT, .ref aM, .ref aZ, .ref aY, .ref aK, .ref aF, .ref aL, .int (nI c), .int isd, .int wd])), (aO, .inl (cI, 2400, .inl u.2)), (aZ, .inl (cI, 2, .inl Z))]) A) Aa Ss 0 0 A) (F0 Mm 44 ls []) := by
                  intro k30
                  induction k30 with
                  | zero => intro i H locs ls hi8 hi2 hm32; exact absurd hm32 (Nat.not_lt_zero _)
                  | succ k30 ih31 =>
                    intro i H locs ls hi8 hi2 hm32 hP hD hS hl
                    refine lv_iload hx hb dX5_put_44 (lv_at hl 4 rfl) ?_
                    refine lv_bipush (v := nI 8) hx hb dX5_put_46 (by decide +kernel) ?_
                    refine lv_icmp_ge (tgt := 100) hx hb dX5_put_48 (by decide) (fun h => ?_) (fun h => ?_)
                    ·
                      have h : 8 ≤ i := (nI_leI (a := 8) (b := i) (by omega) (by omega)).mp h
                      have hP : va_P D vwCl [(mo, .inr (5, [.int (nI 0), .ref aO, .ref aT, .ref aM, .ref aZ, .ref aY, .ref aK, .ref aF, .ref aL, .int (nI c), .int isd, .int wd])), (aO, .inl (cI, 2400, .inl (wr O (1200 + q) v (min 8 (ln - q))))), (aZ, .inl (cI, 2, .inl Z))] H := by rw [show min 8 (ln - q) = i by omega]; exact hP
                      have hD : va_D A [(mo, .inr (5, [.int (nI 0), .ref aO, .ref aT, .ref aM, .ref aZ, .ref aY, .ref aK, .ref aF, .ref aL, .int (nI c), .int isd, .int wd])), (aO, .inl (cI, 2400, .inl (wr O (1200 + q) v (min 8 (ln - q))))), (aZ, .inl (cI, 2, .inl Z))] := by rw [show min 8 (ln - q) = i by omega]; exact hD
                      exact ds_vret hx hb hr hlk (nI 0, wr O (1200 + q) v (min 8 (ln - q))) ⟨(e_put_ok hro (by rw [rsel_1]; exact iok_of hq (by omega))).symm, mQ_put1 hq hR⟩ hP hD hS (Nat.le_of_ble_eq_true rfl) (Nat.le_of_ble_eq_true rfl) dX5_put_100
                    ·
                      have h : ¬ 8 ≤ i := fun z9 => h ((nI_leI (a := 8) (b := i) (by omega) (by omega)).mpr z9)
                      refine lv_iload_n hx hb dX5_put_51 rfl (lv_at hl 2 rfl) ?_
                      refine lv_iload hx hb dX5_put_52 (lv_at hl 4 rfl) ?_
                      refine lv_iadd hx hb dX5_put_54 ?_
                      refine ds_top (z := nI (q + i)) (nI_add _ _) ?_
                      refine lv_aload_n hx hb dX5_put_55 rfl (lv_at hl 0 rfl) ?_
                      refine va_get (D := D) (ci := 5) (v := .ref aZ) (C := RX5) (T := TX5) (N := 12) hx hb ht inA_X5 hown hK.1 hP 0 rfl rfl 4 (by decide) (ht _ iw_125) (fun _ h9 => h9) rfl dX5_put_56 ?_
                      refine lv_iload_n hx hb dX5_put_59 rfl (lv_at hl 1 rfl) ?_
                      refine ds_iald (k := 1) hx hb hK hP 2 rfl (by omega) (by omega) dX5_put_60 ?_
                      refine ds_top (z := nI ln) hZ.2.2.2 ?_
                      refine lv_icmp_ge (tgt := 100) hx hb dX5_put_61 (by decide) (fun h0 => ?_) (fun h0 => ?_)
                      ·
                        have h0 : ln ≤ (q + i) := (nI_leI (a := ln) (b := (q + i)) (by omega) (by omega)).mp h0
                        have hP : va_P D vwCl [(mo, .inr (5, [.int (nI 0), .ref aO, .ref aT, .ref aM, .ref aZ, .ref aY, .ref aK, .ref aF, .ref aL, .int (nI c), .int isd, .int wd])), (aO, .inl (cI, 2400, .inl (wr O (1200 + q) v (min 8 (ln - q))))), (aZ, .inl (cI, 2, .inl Z))] H := by rw [show min 8 (ln - q) = i by omega]; exact hP
                        have hD : va_D A [(mo, .inr (5, [.int (nI 0), .ref aO, .ref aT, .ref aM, .ref aZ, .ref aY, .ref aK, .ref aF, .ref aL, .int (nI c), .int isd, .int wd])), (aO, .inl (cI, 2400, .inl (wr O (1200 + q) v (min 8 (ln - q))))), (aZ, .inl (cI, 2, .inl Z))] := by rw [show min 8 (ln - q) = i by omega]; exact hD
                        exact ds_vret hx hb hr hlk (nI 0, wr O (1200 + q) v (min 8 (ln - q))) ⟨(e_put_ok hro (by rw [rsel_1]; exact iok_of hq (by omega))).symm, mQ_put1 hq hR⟩ hP hD hS (Nat.le_of_ble_eq_true rfl) (Nat.le_of_ble_eq_true rfl) dX5_put_100
                      ·
                        have h0 : ¬ ln ≤ (q + i) := fun z9 => h0 ((nI_leI (a := ln) (b := (q + i)) (by omega) (by omega)).mpr z9)
                        refine lv_aload_n hx hb dX5_put_64 rfl (lv_at hl 0 rfl) ?_
                        refine va_get (D := D) (ci := 5) (v := .ref aO) (C := RX5) (T := TX5) (N := 12) hx hb ht inA_X5 hown hK.1 hP 0 rfl rfl 1 (by decide) (ht _ iw_122) (fun _ h9 => h9) rfl dX5_put_65 ?_
                        refine lv_sipush (v := nI 1200) hx hb dX5_put_68 (by decide +kernel) ?_
                        refine lv_iload_n hx hb dX5_put_71 rfl (lv_at hl 1 rfl) ?_
                        refine lv_imul hx hb dX5_put_72 ?_
                        refine ds_top (z := nI (1200 * 1)) (pk_mul _ _) ?_
                        refine lv_iload_n hx hb dX5_put_73 rfl (lv_at hl 2 rfl) ?_
                        refine lv_iadd hx hb dX5_put_74 ?_
                        refine ds_top (z := nI ((1200 * 1) + q)) (nI_add _ _) ?_
                        refine lv_iload hx hb dX5_put_75 (lv_at hl 4 rfl) ?_
                        refine lv_iadd hx hb dX5_put_77 ?_
                        refine ds_top (z := nI (((1200 * 1) + q) + i)) (nI_add _ _) ?_
                        refine ds_top (z := nI ((1200 + q) + i)) (congrArg nI (by omega)) ?_
                        refine lv_lload_n hx hb dX5_put_78 rfl (lv_at hl 3 rfl) ?_
                        refine lv_bipush (v := nI 56) hx hb dX5_put_79 (by decide +kernel) ?_
                        refine lv_bipush (v := nI 8) hx hb dX5_put_81 (by decide +kernel) ?_
                        refine lv_iload hx hb dX5_put_83 (lv_at hl 4 rfl) ?_
                        refine lv_imul hx hb dX5_put_85 ?_
                        refine ds_top (z := nI (8 * i)) (pk_mul _ _) ?_
                        refine lv_isub hx hb dX5_put_86 ?_
                        refine ds_top (z := nI (56 - (8 * i))) (pk_sub (by omega)) ?_
                        refine lv_lshr (v := v >>> ((nI (56 - (8 * i))).toInt64 &&& 63)) hx hb dX5_put_87 rfl ?_
                        refine lv_l2i (v := (v >>> ((nI (56 - (8 * i))).toInt64 &&& 63)).toInt32) hx hb dX5_put_88 rfl ?_
                        refine lv_sipush (v := nI 255) hx hb dX5_put_89 (by decide +kernel) ?_
                        refine lv_iand hx hb dX5_put_92 ?_
                        refine ds_top (z := ds_oct v i) (oct_m (by omega)) ?_
                        refine ds_iast (k := (1200 + q) + i) hx hb hK hP hD hS 1 rfl (by omega) (by omega) dX5_put_93 (fun H locs hP hD hS => ?_)
                        have hP : va_P D vwCl [(mo, .inr (5, [.int (nI 0), .ref aO, .ref aT, .ref aM, .ref aZ, .ref aY, .ref aK, .ref aF, .ref aL, .int (nI c), .int isd, .int wd])), (aO, .inl (cI, 2400, .inl (upd (wr O (1200 + q) v i) ((1200 + q) + i) (ds_oct v i)))), (aZ, .inl (cI, 2, .inl Z))] H := hP
                        have hD : va_D A [(mo, .inr (5, [.int (nI 0), .ref aO, .ref aT, .ref aM, .ref aZ, .ref aY, .ref aK, .ref aF, .ref aL, .int (nI c), .int isd, .int wd])), (aO, .inl (cI, 2400, .inl (upd (wr O (1200 + q) v i) ((1200 + q) + i) (ds_oct v i)))), (aZ, .inl (cI, 2, .inl Z))] := hD
                        refine lv_iinc (k := 4) (v := nI (i + 1)) (lv' := [(5, .int (nI (i + 1))), (0, .ref mo), (1, .int (nI 1)), (2, .int (nI q)), (3, .long v)]) hx hb dX5_put_94 hl rfl (by rw [nI_succ]; rfl) (Nat.le_of_ble_eq_true rfl) rfl (fun ls hl => ?_)
                        refine lv_goto (tgt := 44) hx hb dX5_put_97 (by decide) ?_
                        have hP : va_P D vwCl [(mo, .inr (5, [.int (nI 0), .ref aO, .ref aT, .ref aM, .ref aZ, .ref aY, .ref aK, .ref aF, .ref aL, .int (nI c), .int isd, .int wd])), (aO, .inl (cI, 2400, .inl (wr O (1200 + q) v (i + 1)))), (aZ, .inl (cI, 2, .inl Z))] H := by rw [wr_s]; exact hP
                        have hD : va_D A [(mo, .inr (5, [.int (nI 0), .ref aO, .ref aT, .ref aM, .ref aZ, .ref aY, .ref aK, .ref aF, .ref aL, .int (nI c), .int isd, .int wd])), (aO, .inl (cI, 2400, .inl (wr O (1200 + q) v (i + 1)))), (aZ, .inl (cI, 2, .inl Z))] := by rw [wr_s]; exact hD
                        exact ih31 (i + 1) H locs ls (by omega) (by omega) (by omega) hP hD hS (lv_sub hl [1, 2, 3, 4, 0] rfl)
                exact loop29 _ 0 H locs ls (by omega) (Or.inl rfl) (Nat.lt_succ_self _) hP hD hS (lv_sub hl [1, 2, 3, 4, 0] rfl)
              ·
                rw [← nI_0] at h
                have h : ¬ 0 = 0 := fun z9 => h ((nI_eq (a := 0) (b := 0) (by omega) (by omega)).mpr z9)
                exact absurd rfl h
            ·
              have h : ¬ q < ln := fun z9 => h ((nI_ltI (a := q) (b := ln) (by omega) (by omega)).mpr z9)
              exfalso; omega
        ·
          have hi9 := Classical.not_not.mp hi
          refine lv_aload_n hx hb dX5_put_13 rfl (lv_at hl 0 rfl) ?_
          refine lv_iload_n hx hb dX5_put_14 rfl (lv_at hl 2 rfl) ?_
          refine lv_if_lt (tgt := 28) hx hb dX5_put_15 (by decide) (fun h0 => ?_) (fun h0 => ?_)
          ·
            refine lv_iconst (v := nI 1) hx hb dX5_put_28 (by decide +kernel) ?_
            refine lv_goto (tgt := 33) hx hb dX5_put_29 (by decide) ?_
            refine lv_iconst (v := nI 2) hx hb dX5_put_33 (by decide +kernel) ?_
            refine ds_calli (wc := [(mo, .inr (5, [.int (nI 0), .ref aO, .ref aT, .ref aM, .ref aZ, .ref aY, .ref aK, .ref aF, .ref aL, .int (nI c), .int isd, .int wd]))]) (wr := [(aO, .inl (cI, 2400, .inl O)), (aZ, .inl (cI, 2, .inl Z))]) (wo := (fun u34 : Unit => [(mo, .inr (5, [.int (nI 2), .ref aO, .ref aT, .ref aM, .ref aZ, .ref aY, .ref aK, .ref aF, .ref aL, .int (nI c), .int isd, .int wd]))])) (wn := (fun u34 : Unit => [(mo, .inr (5, [.int (nI 2), .ref aO, .ref aT, .ref aM, .ref aZ, .ref aY, .ref aK, .ref aF, .ref aL, .int (nI c), .int isd, .int wd])), (aO, .inl (cI, 2400, .inl O)), (aZ, .inl (cI, 2, .inl Z))])) (isC := [0]) (isR := [1, 2]) hP hD hS hA ⟨rfl, rfl, by decide, by decide, by decide⟩ [2, 0, 1] (by decide) (fun _ => rfl) (fun hPc hDc => va_runV (As := [.int (nI 1), .int (nI 2)]) (rest := []) ⟨hx, hb, hml, hown, ht⟩ (m_fails1 Ll D cI cL mo aO aT aM aZ aY aK aF aL (nI 0) c isd wd 2  H.size) ⟨(callB_of 2 ht g_X5_fails rfl rfl rfl (ht _ iw_136) (ht _ iw_138) hd_X5_fails ⟨Nat.le_of_ble_eq_true rfl, Nat.le_of_ble_eq_true rfl⟩), (ht _ iw_139), (ht _ iw_140)⟩ (ds_pV hPc hDc hK (q0 := 0) rfl rfl) rfl rfl hl.1 rfl (lv_room (Nat.le_of_ble_eq_true rfl)) dX5_put_34 ⟨Nat.le_of_ble_eq_true rfl, Nat.le_of_ble_eq_true rfl⟩) (fun r33 u34 H locs hp35 hP hD hS => ?_)
            have hP : va_P D vwCl [(mo, .inr (5, [.int (nI 2), .ref aO, .ref aT, .ref aM, .ref aZ, .ref aY, .ref aK, .ref aF, .ref aL, .int (nI c), .int isd, .int wd])), (aO, .inl (cI, 2400, .inl O)), (aZ, .inl (cI, 2, .inl Z))] H := hP
            have hD : va_D A [(mo, .inr (5, [.int (nI 2), .ref aO, .ref aT, .ref aM, .ref aZ, .ref aY, .ref aK, .ref aF, .ref aL, .int (nI c), .int isd, .int wd])), (aO, .inl (cI, 2400, .inl O)), (aZ, .inl (cI, 2, .inl Z))] := hD
            have hp35 : r33 = nI 1 := hp35
            replace hp35 := Eq.symm hp35
            subst hp35
            refine lv_if_eq (tgt := 41) hx hb dX5_put_37 (by decide) (fun h => ?_) (fun h => ?_)
            ·
              rw [← nI_0] at h
              have h : 1 = 0 := (nI_eq (a := 1) (b := 0) (by omega) (by omega)).mp h
              exact absurd h (by decide)
            ·
              rw [← nI_0] at h
              have h : ¬ 1 = 0 := fun z9 => h ((nI_eq (a := 1) (b := 0) (by omega) (by omega)).mpr z9)
              exact ds_vret hx hb hr hlk (nI 2, O) ⟨(e_put_x hro (by rw [rsel_1]; exact hi)).symm, by rw [n_put_x (t := (lo, fo, ln, fn)) (fun z => absurd (z.symm.trans (e_put_x hro (by rw [rsel_1]; exact hi))) (by decide))]; exact hR⟩ hP hD hS (Nat.le_of_ble_eq_true rfl) (Nat.le_of_ble_eq_true rfl) dX5_put_40
          ·
            refine lv_iload_n hx hb dX5_put_18 rfl (lv_at hl 2 rfl) ?_
            refine lv_aload_n hx hb dX5_put_19 rfl (lv_at hl 0 rfl) ?_
            refine va_get (D := D) (ci := 5) (v := .ref aZ) (C := RX5) (T := TX5) (N := 12) hx hb ht inA_X5 hown hK.1 hP 0 rfl rfl 4 (by decide) (ht _ iw_125) (fun _ h9 => h9) rfl dX5_put_20 ?_
            refine lv_iload_n hx hb dX5_put_23 rfl (lv_at hl 1 rfl) ?_
            refine ds_iald (k := 1) hx hb hK hP 2 rfl (by omega) (by omega) dX5_put_24 ?_
            refine ds_top (z := nI ln) hZ.2.2.2 ?_
            refine lv_icmp_lt (tgt := 32) hx hb dX5_put_25 (by decide) (fun h => ?_) (fun h => ?_)
            ·
              exact absurd (hi9.resolve_left h0) (Int32.not_le.mpr h)
            ·
              refine lv_iconst (v := nI 1) hx hb dX5_put_28 (by decide +kernel) ?_
              refine lv_goto (tgt := 33) hx hb dX5_put_29 (by decide) ?_
              refine lv_iconst (v := nI 2) hx hb dX5_put_33 (by decide +kernel) ?_
              refine ds_calli (wc := [(mo, .inr (5, [.int (nI 0), .ref aO, .ref aT, .ref aM, .ref aZ, .ref aY, .ref aK, .ref aF, .ref aL, .int (nI c), .int isd, .int wd]))]) (wr := [(aO, .inl (cI, 2400, .inl O)), (aZ, .inl (cI, 2, .inl Z))]) (wo := (fun u37 : Unit => [(mo, .inr (5, [.int (nI 2), .ref aO, .ref aT, .ref aM, .ref aZ, .ref aY, .ref aK, .ref aF, .ref aL, .int (nI c), .int isd, .int wd]))])) (wn := (fun u37 : Unit => [(mo, .inr (5, [.int (nI 2), .ref aO, .ref aT, .ref aM, .ref aZ, .ref aY, .ref aK, .ref aF, .ref aL, .int (nI c), .int isd, .int wd])), (aO, .inl (cI, 2400, .inl O)), (aZ, .inl (cI, 2, .inl Z))])) (isC := [0]) (isR := [1, 2]) hP hD hS hA ⟨rfl, rfl, by decide, by decide, by decide⟩ [2, 0, 1] (by decide) (fun _ => rfl) (fun hPc hDc => va_runV (As := [.int (nI 1), .int (nI 2)]) (rest := []) ⟨hx, hb, hml, hown, ht⟩ (m_fails1 Ll D cI cL mo aO aT aM aZ aY aK aF aL (nI 0) c isd wd 2  H.size) ⟨(callB_of 2 ht g_X5_fails rfl rfl rfl (ht _ iw_136) (ht _ iw_138) hd_X5_fails ⟨Nat.le_of_ble_eq_true rfl, Nat.le_of_ble_eq_true rfl⟩), (ht _ iw_139), (ht _ iw_140)⟩ (ds_pV hPc hDc hK (q0 := 0) rfl rfl) rfl rfl hl.1 rfl (lv_room (Nat.le_of_ble_eq_true rfl)) dX5_put_34 ⟨Nat.le_of_ble_eq_true rfl, Nat.le_of_ble_eq_true rfl⟩) (fun r36 u37 H locs hp38 hP hD hS => ?_)
              have hP : va_P D vwCl [(mo, .inr (5, [.int (nI 2), .ref aO, .ref aT, .ref aM, .ref aZ, .ref aY, .ref aK, .ref aF, .ref aL, .int (nI c), .int isd, .int wd])), (aO, .inl (cI, 2400, .inl O)), (aZ, .inl (cI, 2, .inl Z))] H := hP
              have hD : va_D A [(mo, .inr (5, [.int (nI 2), .ref aO, .ref aT, .ref aM, .ref aZ, .ref aY, .ref aK, .ref aF, .ref aL, .int (nI c), .int isd, .int wd])), (aO, .inl (cI, 2400, .inl O)), (aZ, .inl (cI, 2, .inl Z))] := hD
              have hp38 : r36 = nI 1 := hp38
              replace hp38 := Eq.symm hp38
              subst hp38
              refine lv_if_eq (tgt := 41) hx hb dX5_put_37 (by decide) (fun h => ?_) (fun h => ?_)
              ·
                rw [← nI_0] at h
                have h : 1 = 0 := (nI_eq (a := 1) (b := 0) (by omega) (by omega)).mp h
                exact absurd h (by decide)
              ·
                rw [← nI_0] at h
                have h : ¬ 1 = 0 := fun z9 => h ((nI_eq (a := 1) (b := 0) (by omega) (by omega)).mpr z9)
                exact ds_vret hx hb hr hlk (nI 2, O) ⟨(e_put_x hro (by rw [rsel_1]; exact hi)).symm, by rw [n_put_x (t := (lo, fo, ln, fn)) (fun z => absurd (z.symm.trans (e_put_x hro (by rw [rsel_1]; exact hi))) (by decide))]; exact hR⟩ hP hD hS (Nat.le_of_ble_eq_true rfl) (Nat.le_of_ble_eq_true rfl) dX5_put_40
      ·
        rw [← nI_0] at h
        have h : ¬ 0 = 0 := fun z9 => h ((nI_eq (a := 0) (b := 0) (by omega) (by omega)).mpr z9)
        exact absurd rfl h
  ·
    refine lv_aload_n hx hb dX5_put_0 rfl (lv_at hl 0 rfl) ?_
    refine lv_iload_n hx hb dX5_put_1 rfl (lv_at hl 1 rfl) ?_
    refine ds_calli (wc := []) (wr := [(mo, .inr (5, [.int er, .ref aO, .ref aT, .ref aM, .ref aZ, .ref aY, .ref aK, .ref aF, .ref aL, .int (nI c), .int isd, .int wd])), (aO, .inl (cI, 2400, .inl O)), (aZ, .inl (cI, 2, .inl Z))]) (wo := (fun u40 : Unit => [])) (wn := (fun u40 : Unit => [(mo, .inr (5, [.int er, .ref aO, .ref aT, .ref aM, .ref aZ, .ref aY, .ref aK, .ref aF, .ref aL, .int (nI c), .int isd, .int wd])), (aO, .inl (cI, 2400, .inl O)), (aZ, .inl (cI, 2, .inl Z))])) (isC := []) (isR := [0, 1, 2]) hP hD hS hA ⟨rfl, rfl, by decide, by decide, by decide⟩ [0, 1, 2] (by decide) (fun _ => rfl) (fun hPc hDc => va_runS (As := [.int x]) (rest := [.ref mo]) ⟨hx, hb, hml, hown, ht⟩ (m_no1 Ll D cI cL x (fun z => hrk (Or.inl z)) (fun z => hrk (Or.inr z)) H.size) ⟨(callB_of 1 ht g_X5_no rfl rfl rfl (ht _ iw_136) (ht _ iw_135) hd_X5_no ⟨Nat.le_of_ble_eq_true rfl, Nat.le_of_ble_eq_true rfl⟩), (ht _ iw_137)⟩ (ds_pS hPc hDc hK) rfl rfl hl.1 rfl (lv_room (Nat.le_of_ble_eq_true rfl)) dX5_put_2 ⟨Nat.le_of_ble_eq_true rfl, Nat.le_of_ble_eq_true rfl⟩) (fun r39 u40 H locs hp41 hP hD hS => ?_)
    have hP : va_P D vwCl [(mo, .inr (5, [.int er, .ref aO, .ref aT, .ref aM, .ref aZ, .ref aY, .ref aK, .ref aF, .ref aL, .int (nI c), .int isd, .int wd])), (aO, .inl (cI, 2400, .inl O)), (aZ, .inl (cI, 2, .inl Z))] H := hP
    have hD : va_D A [(mo, .inr (5, [.int er, .ref aO, .ref aT, .ref aM, .ref aZ, .ref aY, .ref aK, .ref aF, .ref aL, .int (nI c), .int isd, .int wd])), (aO, .inl (cI, 2400, .inl O)), (aZ, .inl (cI, 2, .inl Z))] := hD
    have hp41 : r39 = nI 1 := hp41
    replace hp41 := Eq.symm hp41
    subst hp41
    refine lv_iconst (v := nI 1) hx hb dX5_put_5 (by decide +kernel) ?_
    refine ds_calli (wc := [(mo, .inr (5, [.int er, .ref aO, .ref aT, .ref aM, .ref aZ, .ref aY, .ref aK, .ref aF, .ref aL, .int (nI c), .int isd, .int wd]))]) (wr := [(aO, .inl (cI, 2400, .inl O)), (aZ, .inl (cI, 2, .inl Z))]) (wo := (fun u43 : Unit => [(mo, .inr (5, [.int (nI 1), .ref aO, .ref aT, .ref aM, .ref aZ, .ref aY, .ref aK, .ref aF, .ref aL, .int (nI c), .int isd, .int wd]))])) (wn := (fun u43 : Unit => [(mo, .inr (5, [.int (nI 1), .ref aO, .ref aT, .ref aM, .ref aZ, .ref aY, .ref aK, .ref aF, .ref aL, .int (nI c), .int isd, .int wd])), (aO, .inl (cI, 2400, .inl O)), (aZ, .inl (cI, 2, .inl Z))])) (isC := [0]) (isR := [1, 2]) hP hD hS hA ⟨rfl, rfl, by decide, by decide, by decide⟩ [2, 0, 1] (by decide) (fun _ => rfl) (fun hPc hDc => va_runV (As := [.int (nI 1), .int (nI 1)]) (rest := []) ⟨hx, hb, hml, hown, ht⟩ (m_fails1 Ll D cI cL mo aO aT aM aZ aY aK aF aL er c isd wd 1  H.size) ⟨(callB_of 2 ht g_X5_fails rfl rfl rfl (ht _ iw_136) (ht _ iw_138) hd_X5_fails ⟨Nat.le_of_ble_eq_true rfl, Nat.le_of_ble_eq_true rfl⟩), (ht _ iw_139), (ht _ iw_140)⟩ (ds_pV hPc hDc hK (q0 := 0) rfl rfl) rfl rfl hl.1 rfl (lv_room (Nat.le_of_ble_eq_true rfl)) dX5_put_6 ⟨Nat.le_of_ble_eq_true rfl, Nat.le_of_ble_eq_true rfl⟩) (fun r42 u43 H locs hp44 hP hD hS => ?_)
    have hP : va_P D vwCl [(mo, .inr (5, [.int (nI 1), .ref aO, .ref aT, .ref aM, .ref aZ, .ref aY, .ref aK, .ref aF, .ref aL, .int (nI c), .int isd, .int wd])), (aO, .inl (cI, 2400, .inl O)), (aZ, .inl (cI, 2, .inl Z))] H := hP
    have hD : va_D A [(mo, .inr (5, [.int (nI 1), .ref aO, .ref aT, .ref aM, .ref aZ, .ref aY, .ref aK, .ref aF, .ref aL, .int (nI c), .int isd, .int wd])), (aO, .inl (cI, 2400, .inl O)), (aZ, .inl (cI, 2, .inl Z))] := hD
    have hp44 : r42 = nI 1 := hp44
    replace hp44 := Eq.symm hp44
    subst hp44
    refine lv_if_eq (tgt := 13) hx hb dX5_put_9 (by decide) (fun h => ?_) (fun h => ?_)
    ·
      rw [← nI_0] at h
      have h : 1 = 0 := (nI_eq (a := 1) (b := 0) (by omega) (by omega)).mp h
      exact absurd h (by decide)
    ·
      rw [← nI_0] at h
      have h : ¬ 1 = 0 := fun z9 => h ((nI_eq (a := 1) (b := 0) (by omega) (by omega)).mpr z9)
      exact ds_vret hx hb hr hlk (nI 1, O) ⟨(e_put_r hrk).symm, by rw [n_put_x (t := (lo, fo, ln, fn)) (fun z => absurd (z.symm.trans (e_put_r hrk)) (by decide))]; exact hR⟩ hP hD hS (Nat.le_of_ble_eq_true rfl) (Nat.le_of_ble_eq_true rfl) dX5_put_12
