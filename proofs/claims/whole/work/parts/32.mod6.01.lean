set_option maxHeartbeats 4000000 in
set_option maxRecDepth 100000 in
theorem c_X5_delta (Ll : Launch) (D : va_G) (cI cL : ClassId) (mo : Nat) (aO : Nat) (aT : Nat) (aM : Nat) (aZ : Nat) (aY : Nat) (aK : Nat) (aF : Nat) (aL : Nat) (er : Int32) (c0 : Nat) (isd : Int32) (wd : Int32) (O : Nat → Int32) (Z : Nat → Int32) (lo : Nat) (ln : Nat) (fo : Nat → Int32) (fn : Nat → Int32) (T : Nat → Int32) (Y : Nat → Int32) (gk : Nat → Int32) (gf : Nat → Int32) (gl : Nat → Int32) (fk : Nat → Int32) (ff : Nat → Int32) (fl : Nat → Int32) (fm : Nat → Int32) (x : Int32) (y : Int32) (hR : mR lo ln fo fn O Z) (sz : Nat) : Met Ll yX5_delta wsX5_delta { frames := 2, cells := 0, slots := 0, locals := 53 } (ds_P D cI cL [.ref mo, .int x, .int y] [(mo, .inr (5, [.int er, .ref aO, .ref aT, .ref aM, .ref aZ, .ref aY, .ref aK, .ref aF, .ref aL, .int (nI c0), .int isd, .int wd])), (aO, .inl (cI, 2400, .inl O)), (aT, .inl (cI, 2400, .inl T)), (aZ, .inl (cI, 2, .inl Z)), (aY, .inl (cI, 2, .inl Y)), (aK, .inl (cI, 1200, .inl gk)), (aF, .inl (cI, 1200, .inl gf)), (aL, .inl (cI, 1200, .inl gl))] sz) (ds_Qi D (fun (r : Int32) (u : Int32 × (Nat → Int32) × (Nat → Int32) × (Nat → Int32) × (Nat → Int32) × (Nat → Int32) × Nat × Int32 × Int32) => (¬ bok x y ∧ u.1 = 1 ∧ u.2 = (T, Y, gk, gf, gl, c0, isd, wd)) ∨ (∃ s9 b9 : Nat, x = nI s9 ∧ y = nI b9 ∧ 4 ≤ s9 ∧ s9 ≤ 256 ∧ b9 ≤ 64 ∧ u.1 = 0 ∧ ∃ t : dl_T, t = dl fo fn lo ln s9 (ds_mask b9) 1200 (0, none, (fk, ff, fl, 0), fm) ∧ t.2.2.1.2.2.2 = u.2.2.2.2.2.2.1 ∧ r = nI u.2.2.2.2.2.2.1 ∧ u.2.2.2.2.2.2.2.1 = 1 ∧ u.2.2.2.2.2.2.2.2 = nI s9 ∧ mT u.2.2.2.2.2.2.1 t.2.2.1.1 t.2.2.1.2.1 t.2.2.1.2.2.1 u.2.2.2.1 u.2.2.2.2.1 u.2.2.2.2.2.1 ∧ (∃ K a n, TI O lo ln s9 (t.1, t.2.1, (t.2.2.1.1, t.2.2.1.2.1, t.2.2.1.2.2.1, u.2.2.2.2.2.2.1), t.2.2.2) K a n) ∧ u.2.2.1 0 = nI lo ∧ ∀ j, j < 2400 → u.2.1 j = O j)) (fun u : Int32 × (Nat → Int32) × (Nat → Int32) × (Nat → Int32) × (Nat → Int32) × (Nat → Int32) × Nat × Int32 × Int32 => [(mo, .inr (5, [.int u.1, .ref aO, .ref aT, .ref aM, .ref aZ, .ref aY, .ref aK, .ref aF, .ref aL, .int (nI u.2.2.2.2.2.2.1), .int u.2.2.2.2.2.2.2.1, .int u.2.2.2.2.2.2.2.2])), (aO, .inl (cI, 2400, .inl O)), (aT, .inl (cI, 2400, .inl u.2.1)), (aZ, .inl (cI, 2, .inl Z)), (aY, .inl (cI, 2, .inl u.2.2.1)), (aK, .inl (cI, 1200, .inl u.2.2.2.1)), (aF, .inl (cI, 1200, .inl u.2.2.2.2.1)), (aL, .inl (cI, 1200, .inl u.2.2.2.2.2.1))]) (va_A [(mo, .inr (5, [.int er, .ref aO, .ref aT, .ref aM, .ref aZ, .ref aY, .ref aK, .ref aF, .ref aL, .int (nI c0), .int isd, .int wd])), (aO, .inl (cI, 2400, .inl O)), (aT, .inl (cI, 2400, .inl T)), (aZ, .inl (cI, 2, .inl Z)), (aY, .inl (cI, 2, .inl Y)), (aK, .inl (cI, 1200, .inl gk)), (aF, .inl (cI, 1200, .inl gf)), (aL, .inl (cI, 1200, .inl gl))] sz)) 0 0 (va_A [(mo, .inr (5, [.int er, .ref aO, .ref aT, .ref aM, .ref aZ, .ref aY, .ref aK, .ref aF, .ref aL, .int (nI c0), .int isd, .int wd])), (aO, .inl (cI, 2400, .inl O)), (aT, .inl (cI, 2400, .inl T)), (aZ, .inl (cI, 2, .inl Z)), (aY, .inl (cI, 2, .inl Y)), (aK, .inl (cI, 1200, .inl gk)), (aF, .inl (cI, 1200, .inl gf)), (aL, .inl (cI, 1200, .inl gl))] sz) := by
  refine ds_enter (Qf := (fun A9 => ds_Qi D (fun (r : Int32) (u : Int32 × (Nat → Int32) × (Nat → Int32) × (Nat → Int32) × (Nat → Int32) × (Nat → Int32) × Nat × Int32 × Int32) => (¬ bok x y ∧ u.1 = 1 ∧ u.2 = (T, Y, gk, gf, gl, c0, isd, wd)) ∨ (∃ s9 b9 : Nat, x = nI s9 ∧ y = nI b9 ∧ 4 ≤ s9 ∧ s9 ≤ 256 ∧ b9 ≤ 64 ∧ u.1 = 0 ∧ ∃ t : dl_T, t = dl fo fn lo ln s9 (ds_mask b9) 1200 (0, none, (fk, ff, fl, 0), fm) ∧ t.2.2.1.2.2.2 = u.2.2.2.2.2.2.1 ∧ r = nI u.2.2.2.2.2.2.1 ∧ u.2.2.2.2.2.2.2.1 = 1 ∧ u.2.2.2.2.2.2.2.2 = nI s9 ∧ mT u.2.2.2.2.2.2.1 t.2.2.1.1 t.2.2.1.2.1 t.2.2.1.2.2.1 u.2.2.2.1 u.2.2.2.2.1 u.2.2.2.2.2.1 ∧ (∃ K a n, TI O lo ln s9 (t.1, t.2.1, (t.2.2.1.1, t.2.2.1.2.1, t.2.2.1.2.2.1, u.2.2.2.2.2.2.1), t.2.2.2) K a n) ∧ u.2.2.1 0 = nI lo ∧ ∀ j, j < 2400 → u.2.1 j = O j)) (fun u : Int32 × (Nat → Int32) × (Nat → Int32) × (Nat → Int32) × (Nat → Int32) × (Nat → Int32) × Nat × Int32 × Int32 => [(mo, .inr (5, [.int u.1, .ref aO, .ref aT, .ref aM, .ref aZ, .ref aY, .ref aK, .ref aF, .ref aL, .int (nI u.2.2.2.2.2.2.1), .int u.2.2.2.2.2.2.2.1, .int u.2.2.2.2.2.2.2.2])), (aO, .inl (cI, 2400, .inl O)), (aT, .inl (cI, 2400, .inl u.2.1)), (aZ, .inl (cI, 2, .inl Z)), (aY, .inl (cI, 2, .inl u.2.2.1)), (aK, .inl (cI, 1200, .inl u.2.2.2.1)), (aF, .inl (cI, 1200, .inl u.2.2.2.2.1)), (aL, .inl (cI, 1200, .inl u.2.2.2.2.2.1))]) A9)) (cc := cX5_delta) (maxL := 9) (ret := (some .int)) (by decide) rfl (Nat.le_of_ble_eq_true rfl) ?_
  intro Pp Ee Ss Mm Aa Bb Me Cc hx hb hml hr ht hown hlk hnm A H locs hA hP hD hS hK ls hl
  have hl : lv_has ls 9 [(0, .ref mo), (1, .int x), (2, .int y)] := hl
  change Ss.vm.findClass RX5 = some Mm.cls at hown
  have hZ := mR_len hR
  by_cases hb9 : bok x y
  ·
    obtain ⟨s, b, h2, h3, h4, e8, e9⟩ := bok_nat hb9
    subst e8 e9
    have hb3 := bn_300 hZ.1 h2
    have hl : lv_has ls 9 [(0, .ref mo), (1, .int (nI s)), (2, .int (nI b))] := hl
    refine lv_aload_n hx hb dX5_delta_0 rfl (lv_at hl 0 rfl) ?_
    refine lv_iload_n hx hb dX5_delta_1 rfl (lv_at hl 1 rfl) ?_
    refine lv_iload_n hx hb dX5_delta_2 rfl (lv_at hl 2 rfl) ?_
    refine ds_calli (wc := []) (wr := [(mo, .inr (5, [.int er, .ref aO, .ref aT, .ref aM, .ref aZ, .ref aY, .ref aK, .ref aF, .ref aL, .int (nI c0), .int isd, .int wd])), (aO, .inl (cI, 2400, .inl O)), (aT, .inl (cI, 2400, .inl T)), (aZ, .inl (cI, 2, .inl Z)), (aY, .inl (cI, 2, .inl Y)), (aK, .inl (cI, 1200, .inl gk)), (aF, .inl (cI, 1200, .inl gf)), (aL, .inl (cI, 1200, .inl gl))]) (wo := (fun u2 : Unit => [])) (wn := (fun u2 : Unit => [(mo, .inr (5, [.int er, .ref aO, .ref aT, .ref aM, .ref aZ, .ref aY, .ref aK, .ref aF, .ref aL, .int (nI c0), .int isd, .int wd])), (aO, .inl (cI, 2400, .inl O)), (aT, .inl (cI, 2400, .inl T)), (aZ, .inl (cI, 2, .inl Z)), (aY, .inl (cI, 2, .inl Y)), (aK, .inl (cI, 1200, .inl gk)), (aF, .inl (cI, 1200, .inl gf)), (aL, .inl (cI, 1200, .inl gl))])) (isC := []) (isR := [0, 1, 2, 3, 4, 5, 6, 7]) hP hD hS hA ⟨rfl, rfl, by decide, by decide, by decide⟩ [0, 1, 2, 3, 4, 5, 6, 7] (by decide) (fun _ => rfl) (fun hPc hDc => va_runS (As := [.int (nI s), .int (nI b)]) (rest := [.ref mo]) ⟨hx, hb, hml, hown, ht⟩ (m_bad0 Ll D cI cL s b h2 h3 h4 H.size) ⟨(callB_of 2 ht g_X5_bad rfl rfl rfl (ht _ iw_136) (ht _ iw_170) hd_X5_bad ⟨Nat.le_of_ble_eq_true rfl, Nat.le_of_ble_eq_true rfl⟩), (ht _ iw_171)⟩ (ds_pS hPc hDc hK) rfl rfl hl.1 rfl (lv_room (Nat.le_of_ble_eq_true rfl)) dX5_delta_3 ⟨Nat.le_of_ble_eq_true rfl, Nat.le_of_ble_eq_true rfl⟩) (fun r1 u2 H locs hp3 hP hD hS => ?_)
    have hP : va_P D vwCl [(mo, .inr (5, [.int er, .ref aO, .ref aT, .ref aM, .ref aZ, .ref aY, .ref aK, .ref aF, .ref aL, .int (nI c0), .int isd, .int wd])), (aO, .inl (cI, 2400, .inl O)), (aT, .inl (cI, 2400, .inl T)), (aZ, .inl (cI, 2, .inl Z)), (aY, .inl (cI, 2, .inl Y)), (aK, .inl (cI, 1200, .inl gk)), (aF, .inl (cI, 1200, .inl gf)), (aL, .inl (cI, 1200, .inl gl))] H := hP
    have hD : va_D A [(mo, .inr (5, [.int er, .ref aO, .ref aT, .ref aM, .ref aZ, .ref aY, .ref aK, .ref aF, .ref aL, .int (nI c0), .int isd, .int wd])), (aO, .inl (cI, 2400, .inl O)), (aT, .inl (cI, 2400, .inl T)), (aZ, .inl (cI, 2, .inl Z)), (aY, .inl (cI, 2, .inl Y)), (aK, .inl (cI, 1200, .inl gk)), (aF, .inl (cI, 1200, .inl gf)), (aL, .inl (cI, 1200, .inl gl))] := hD
    have hp3 : r1 = nI 0 := hp3
    replace hp3 := Eq.symm hp3
    subst hp3
    refine lv_iconst (v := nI 1) hx hb dX5_delta_6 (by decide +kernel) ?_
    refine ds_calli (wc := [(mo, .inr (5, [.int er, .ref aO, .ref aT, .ref aM, .ref aZ, .ref aY, .ref aK, .ref aF, .ref aL, .int (nI c0), .int isd, .int wd]))]) (wr := [(aO, .inl (cI, 2400, .inl O)), (aT, .inl (cI, 2400, .inl T)), (aZ, .inl (cI, 2, .inl Z)), (aY, .inl (cI, 2, .inl Y)), (aK, .inl (cI, 1200, .inl gk)), (aF, .inl (cI, 1200, .inl gf)), (aL, .inl (cI, 1200, .inl gl))]) (wo := (fun u5 : Unit => [(mo, .inr (5, [.int (nI 0), .ref aO, .ref aT, .ref aM, .ref aZ, .ref aY, .ref aK, .ref aF, .ref aL, .int (nI c0), .int isd, .int wd]))])) (wn := (fun u5 : Unit => [(mo, .inr (5, [.int (nI 0), .ref aO, .ref aT, .ref aM, .ref aZ, .ref aY, .ref aK, .ref aF, .ref aL, .int (nI c0), .int isd, .int wd])), (aO, .inl (cI, 2400, .inl O)), (aT, .inl (cI, 2400, .inl T)), (aZ, .inl (cI, 2, .inl Z)), (aY, .inl (cI, 2, .inl Y)), (aK, .inl (cI, 1200, .inl gk)), (aF, .inl (cI, 1200, .inl gf)), (aL, .inl (cI, 1200, .inl gl))])) (isC := [0]) (isR := [1, 2, 3, 4, 5, 6, 7]) hP hD hS hA ⟨rfl, rfl, by decide, by decide, by decide⟩ [7, 0, 1, 2, 3, 4, 5, 6] (by decide) (fun _ => rfl) (fun hPc hDc => va_runV (As := [.int (nI 0), .int (nI 1)]) (rest := []) ⟨hx, hb, hml, hown, ht⟩ (m_fails0 Ll D cI cL mo aO aT aM aZ aY aK aF aL er c0 isd wd 1  H.size) ⟨(callB_of 2 ht g_X5_fails rfl rfl rfl (ht _ iw_136) (ht _ iw_138) hd_X5_fails ⟨Nat.le_of_ble_eq_true rfl, Nat.le_of_ble_eq_true rfl⟩), (ht _ iw_139), (ht _ iw_140)⟩ (ds_pV hPc hDc hK (q0 := 0) rfl rfl) rfl rfl hl.1 rfl (lv_room (Nat.le_of_ble_eq_true rfl)) dX5_delta_7 ⟨Nat.le_of_ble_eq_true rfl, Nat.le_of_ble_eq_true rfl⟩) (fun r4 u5 H locs hp6 hP hD hS => ?_)
    have hP : va_P D vwCl [(mo, .inr (5, [.int (nI 0), .ref aO, .ref aT, .ref aM, .ref aZ, .ref aY, .ref aK, .ref aF, .ref aL, .int (nI c0), .int isd, .int wd])), (aO, .inl (cI, 2400, .inl O)), (aT, .inl (cI, 2400, .inl T)), (aZ, .inl (cI, 2, .inl Z)), (aY, .inl (cI, 2, .inl Y)), (aK, .inl (cI, 1200, .inl gk)), (aF, .inl (cI, 1200, .inl gf)), (aL, .inl (cI, 1200, .inl gl))] H := hP
    have hD : va_D A [(mo, .inr (5, [.int (nI 0), .ref aO, .ref aT, .ref aM, .ref aZ, .ref aY, .ref aK, .ref aF, .ref aL, .int (nI c0), .int isd, .int wd])), (aO, .inl (cI, 2400, .inl O)), (aT, .inl (cI, 2400, .inl T)), (aZ, .inl (cI, 2, .inl Z)), (aY, .inl (cI, 2, .inl Y)), (aK, .inl (cI, 1200, .inl gk)), (aF, .inl (cI, 1200, .inl gf)), (aL, .inl (cI, 1200, .inl gl))] := hD
    have hp6 : r4 = nI 0 := hp6
    replace hp6 := Eq.symm hp6
    subst hp6
    refine lv_if_eq (tgt := 15) hx hb dX5_delta_10 (by decide) (fun h => ?_) (fun h => ?_)
    ·
      rw [← nI_0] at h
      have h : 0 = 0 := (nI_eq (a := 0) (b := 0) (by omega) (by omega)).mp h
      refine lv_aload_n hx hb dX5_delta_15 rfl (lv_at hl 0 rfl) ?_
      refine lv_iconst (v := nI 1) hx hb dX5_delta_16 (by decide +kernel) ?_
      refine va_put (D := D) (ci := 5) (v := .int (nI 1)) (ty := .boolean) (C := RX5) (T := TX5) (N := 12) hx hb ht inA_X5 tyX5 tyX5_ok nmX5 hown hK.1 hP hD hS 0 rfl rfl 10 (by decide) (ht _ iw_179) (fun _ h9 => h9) rfl (by decide +kernel) (by decide +kernel) (by decide +kernel) (Nat.le_of_ble_eq_true rfl) dX5_delta_17 (fun H locs hP hD hS => ?_)
      have hP : va_P D vwCl [(mo, .inr (5, [.int (nI 0), .ref aO, .ref aT, .ref aM, .ref aZ, .ref aY, .ref aK, .ref aF, .ref aL, .int (nI c0), .int (nI 1), .int wd])), (aO, .inl (cI, 2400, .inl O)), (aT, .inl (cI, 2400, .inl T)), (aZ, .inl (cI, 2, .inl Z)), (aY, .inl (cI, 2, .inl Y)), (aK, .inl (cI, 1200, .inl gk)), (aF, .inl (cI, 1200, .inl gf)), (aL, .inl (cI, 1200, .inl gl))] H := hP
      have hD : va_D A [(mo, .inr (5, [.int (nI 0), .ref aO, .ref aT, .ref aM, .ref aZ, .ref aY, .ref aK, .ref aF, .ref aL, .int (nI c0), .int (nI 1), .int wd])), (aO, .inl (cI, 2400, .inl O)), (aT, .inl (cI, 2400, .inl T)), (aZ, .inl (cI, 2, .inl Z)), (aY, .inl (cI, 2, .inl Y)), (aK, .inl (cI, 1200, .inl gk)), (aF, .inl (cI, 1200, .inl gf)), (aL, .inl (cI, 1200, .inl gl))] := hD
      refine lv_aload_n hx hb dX5_delta_20 rfl (lv_at hl 0 rfl) ?_
      refine lv_iconst (v := nI 0) hx hb dX5_delta_21 (by decide +kernel) ?_
      refine va_put (D := D) (ci := 5) (v := .int (nI 0)) (ty := .int) (C := RX5) (T := TX5) (N := 12) hx hb ht inA_X5 tyX5 tyX5_ok nmX5 hown hK.1 hP hD hS 0 rfl rfl 9 (by decide) (ht _ iw_180) (fun _ h9 => h9) rfl (by decide +kernel) rfl rfl (Nat.le_of_ble_eq_true rfl) dX5_delta_22 (fun H locs hP hD hS => ?_)
      have hP : va_P D vwCl [(mo, .inr (5, [.int (nI 0), .ref aO, .ref aT, .ref aM, .ref aZ, .ref aY, .ref aK, .ref aF, .ref aL, .int (nI 0), .int (nI 1), .int wd])), (aO, .inl (cI, 2400, .inl O)), (aT, .inl (cI, 2400, .inl T)), (aZ, .inl (cI, 2, .inl Z)), (aY, .inl (cI, 2, .inl Y)), (aK, .inl (cI, 1200, .inl gk)), (aF, .inl (cI, 1200, .inl gf)), (aL, .inl (cI, 1200, .inl gl))] H := hP
      have hD : va_D A [(mo, .inr (5, [.int (nI 0), .ref aO, .ref aT, .ref aM, .ref aZ, .ref aY, .ref aK, .ref aF, .ref aL, .int (nI 0), .int (nI 1), .int wd])), (aO, .inl (cI, 2400, .inl O)), (aT, .inl (cI, 2400, .inl T)), (aZ, .inl (cI, 2, .inl Z)), (aY, .inl (cI, 2, .inl Y)), (aK, .inl (cI, 1200, .inl gk)), (aF, .inl (cI, 1200, .inl gf)), (aL, .inl (cI, 1200, .inl gl))] := hD
      refine lv_aload_n hx hb dX5_delta_25 rfl (lv_at hl 0 rfl) ?_
      refine lv_iload_n hx hb dX5_delta_26 rfl (lv_at hl 1 rfl) ?_
      refine ds_calli (wc := [(mo, .inr (5, [.int (nI 0), .ref aO, .ref aT, .ref aM, .ref aZ, .ref aY, .ref aK, .ref aF, .ref aL, .int (nI 0), .int (nI 1), .int wd])), (aZ, .inl (cI, 2, .inl Z))]) (wr := [(aO, .inl (cI, 2400, .inl O)), (aT, .inl (cI, 2400, .inl T)), (aY, .inl (cI, 2, .inl Y)), (aK, .inl (cI, 1200, .inl gk)), (aF, .inl (cI, 1200, .inl gf)), (aL, .inl (cI, 1200, .inl gl))]) (wo := (fun u8 : Unit => [(mo, .inr (5, [.int (nI 0), .ref aO, .ref aT, .ref aM, .ref aZ, .ref aY, .ref aK, .ref aF, .ref aL, .int (nI 0), .int (nI 1), .int wd])), (aZ, .inl (cI, 2, .inl Z))])) (wn := (fun u8 : Unit => [(mo, .inr (5, [.int (nI 0), .ref aO, .ref aT, .ref aM, .ref aZ, .ref aY, .ref aK, .ref aF, .ref aL, .int (nI 0), .int (nI 1), .int wd])), (aO, .inl (cI, 2400, .inl O)), (aT, .inl (cI, 2400, .inl T)), (aZ, .inl (cI, 2, .inl Z)), (aY, .inl (cI, 2, .inl Y)), (aK, .inl (cI, 1200, .inl gk)), (aF, .inl (cI, 1200, .inl gf)), (aL, .inl (cI, 1200, .inl gl))])) (isC := [0, 3]) (isR := [1, 2, 4, 5, 6, 7]) hP hD hS hA ⟨rfl, rfl, by decide, by decide, by decide⟩ [6, 0, 1, 7, 2, 3, 4, 5] (by decide) (fun _ => rfl) (fun hPc hDc => va_runV (As := [.int (nI s)]) (rest := []) ⟨hx, hb, hml, hown, ht⟩ (c_X5_blocks Ll D cI cL mo aO aT aM aZ aY aK aF aL (nI 0) 0 (nI 1) wd Z lo s hZ.2.2.1 hZ.1 h2 h3 H.size) ⟨(callB_of 1 ht g_X5_blocks rfl rfl rfl (ht _ iw_136) (ht _ iw_172) hd_X5_blocks ⟨Nat.le_of_ble_eq_true rfl, Nat.le_of_ble_eq_true rfl⟩), (ht _ iw_173), (ht _ iw_174)⟩ (ds_pV hPc hDc hK (q0 := 0) rfl rfl) rfl rfl hl.1 rfl (lv_room (Nat.le_of_ble_eq_true rfl)) dX5_delta_27 ⟨Nat.le_of_ble_eq_true rfl, Nat.le_of_ble_eq_true rfl⟩) (fun r7 u8 H locs hp9 hP hD hS => ?_)
      have hP : va_P D vwCl [(mo, .inr (5, [.int (nI 0), .ref aO, .ref aT, .ref aM, .ref aZ, .ref aY, .ref aK, .ref aF, .ref aL, .int (nI 0), .int (nI 1), .int wd])), (aO, .inl (cI, 2400, .inl O)), (aT, .inl (cI, 2400, .inl T)), (aZ, .inl (cI, 2, .inl Z)), (aY, .inl (cI, 2, .inl Y)), (aK, .inl (cI, 1200, .inl gk)), (aF, .inl (cI, 1200, .inl gf)), (aL, .inl (cI, 1200, .inl gl))] H := hP
      have hD : va_D A [(mo, .inr (5, [.int (nI 0), .ref aO, .ref aT, .ref aM, .ref aZ, .ref aY, .ref aK, .ref aF, .ref aL, .int (nI 0), .int (nI 1), .int wd])), (aO, .inl (cI, 2400, .inl O)), (aT, .inl (cI, 2400, .inl T)), (aZ, .inl (cI, 2, .inl Z)), (aY, .inl (cI, 2, .inl Y)), (aK, .inl (cI, 1200, .inl gk)), (aF, .inl (cI, 1200, .inl gf)), (aL, .inl (cI, 1200, .inl gl))] := hD
      have hp9 : r7 = nI (bn lo s) := hp9
      replace hp9 := Eq.symm hp9
      subst hp9
      refine lv_istore_n (lv' := [(3, .int (nI (bn lo s))), (0, .ref mo), (1, .int (nI s)), (2, .int (nI b))]) hx hb dX5_delta_30 rfl hl (Nat.le_of_ble_eq_true rfl) rfl (fun ls hl => ?_)
      refine lv_iconst (v := nI 0) hx hb dX5_delta_31 (by decide +kernel) ?_
      refine lv_istore (lv' := [(4, .int (nI 0)), (3, .int (nI (bn lo s))), (0, .ref mo), (1, .int (nI s)), (2, .int (nI b))]) hx hb dX5_delta_32 hl (Nat.le_of_ble_eq_true rfl) rfl (fun ls hl => ?_)
      refine lv_iconst (v := -1) hx hb dX5_delta_34 (by decide +kernel) ?_
      refine lv_istore (lv' := [(5, .int (-1)), (4, .int (nI 0)), (3, .int (nI (bn lo s))), (0, .ref mo), (1, .int (nI s)), (2, .int (nI b))]) hx hb dX5_delta_35 hl (Nat.le_of_ble_eq_true rfl) rfl (fun ls hl => ?_)
      have loop10 : ∀ (k11 : Nat) (p : Nat) (i : Nat) (c : Nat) (bf : Option Nat) (ek : Nat → Int32) (ef : Nat → Int32) (el : Nat → Int32) (em : Nat → Int32) (g1 : Nat → Int32) (g2 : Nat → Int32) (g3 : Nat → Int32) (H : Heap) (locs : List Loc) (ls : Array Slot), (i ≤ p) → (p ≤ ln) → (c ≤ i) → (∀ b, bf = some b → b < 300) → (mT c ek ef el g1 g2 g3) → (∃ K a n, TI O lo ln s (p, bf, (ek, ef, el, c), em) K a n) → (dl fo fn lo ln s (ds_mask b) (1200 - i) (p, bf, (ek, ef, el, c), em) = dl fo fn lo ln s (ds_mask b) 1200 (0, none, (fk, ff, fl, 0), fm)) → 1200 - i < k11 → va_P D vwCl [(mo, .inr (5, [.int (nI 0), .ref aO, .ref aT, .ref aM, .ref aZ, .ref aY, .ref aK, .ref aF, .ref aL, .int (nI c), .int (nI 1), .int wd])), (aO, .inl (cI, 2400, .inl O)), (aT, .inl (cI, 2400, .inl T)), (aZ, .inl (cI, 2, .inl Z)), (aY, .inl (cI, 2, .inl Y)), (aK, .inl (cI, 1200, .inl g1)), (aF, .inl (cI, 1200, .inl g2)), (aL, .inl (cI, 1200, .inl g3))] H → va_D A [(mo, .inr (5, [.int (nI 0), .ref aO, .ref aT, .ref aM, .ref aZ, .ref aY, .ref aK, .ref aF, .ref aL, .int (nI c), .int (nI 1), .int wd])), (aO, .inl (cI, 2400, .inl O)), (aT, .inl (cI, 2400, .inl T)), (aZ, .inl (cI, 2, .inl Z)), (aY, .inl (cI, 2, .inl Y)), (aK, .inl (cI, 1200, .inl g1)), (aF, .inl (cI, 1200, .inl g2)), (aL, .inl (cI, 1200, .inl g3))] → va_S A Ss.heap H locs → lv_has ls 9 [(0, .ref mo), (1, .int (nI s)), (2, .int (nI b)), (3, .int (nI (bn lo s))), (4, .int (nI p)), (5, .int (oI bf))] → W Pp Ll Ee { frames := 2, cells := 0, slots := 0, locals := 53 } Ss Mm Aa Bb Me Cc H locs 0 0 (MQ Bb (ds_Qi D (fun (r : Int32) (u : Int32 × (Nat → Int32) × (Nat → Int32) × (Nat → Int32) × (Nat → Int32) × (Nat → Int32) × Nat × Int32 × Int32) => (¬ bok (nI s) (nI b) ∧ u.1 = 1 ∧ u.2 = (T, Y, gk, gf, gl, c0, isd, wd)) ∨ (∃ s9 b9 : Nat, (nI s) = nI s9 ∧ (nI b) = nI b9 ∧ 4 ≤ s9 ∧ s9 ≤ 256 ∧ b9 ≤ 64 ∧ u.1 = 0 ∧ ∃ t : dl_T, t = dl fo fn lo ln s9 (ds_mask b9) 1200 (0, none, (fk, ff, fl, 0), fm) ∧ t.2.2.1.2.2.2 = u.2.2.2.2.2.2.1 ∧ r = nI u.2.2.2.2.2.2.1 ∧ u.2.2.2.2.2.2.2.1 = 1 ∧ u.2.2.2.2.2.2.2.2 = nI s9 ∧ mT u.2.2.2.2.2.2.1 t.2.2.1.1 t.2.2.1.2.1 t.2.2.1.2.2.1 u.2.2.2.1 u.2.2.2.2.1 u.2.2.2.2.2.1 ∧ (∃ K a n, TI O lo ln s9 (t.1, t.2.1, (t.2.2.1.1, t.2.2.1.2.1, t.2.2.1.2.2.1, u.2.2.2.2.2.2.1), t.2.2.2) K a n) ∧ u.2.2.1 0 = nI lo ∧ ∀ j, j < 2400 → u.2.1 j = O j)) (fun u : Int32 × (Nat → Int32) × (Nat → Int32) × (Nat → Int32) × (Nat → Int32) × (Nat → Int32) × Nat × Int32 × Int32 => [(mo, .inr (5, [.int u.1, .ref aO, .ref aT, .ref aM, .ref aZ, .ref aY, .ref aK, .ref aF, .ref aL, .int (nI u.2.2.2.2.2.2.1), .int u.2.2.2.2.2.2.2.1, .int u.2.2.2.2.2.2.2.2])), (aO, .inl (cI, 2400, .inl O)), (aT, .inl (cI, 2400, .inl u.2.1)), (aZ, .inl (cI, 2, .inl Z)), (aY, .inl (cI, 2, .inl u.2.2.1)), (aK, .inl (cI, 1200, .inl u.2.2.2.1)), (aF, .inl (cI, 1200, .inl u.2.2.2.2.1)), (aL, .inl (cI, 1200, .inl u.2.2.2.2.2.1))]) A) Aa Ss 0 0 A) (F0 Mm 37 ls []) := by
        intro k11
        induction k11 with
        | zero => intro p i c bf ek ef el em g1 g2 g3 H locs ls hi hp hc hbf hT hTI hrun hm13; exact absurd hm13 (Nat.not_lt_zero _)
        | succ k11 ih12 =>
          intro p i c bf ek ef el em g1 g2 g3 H locs ls hi hp hc hbf hT hTI hrun hm13 hP hD hS hl
          refine lv_iload hx hb dX5_delta_37 (lv_at hl 4 rfl) ?_
          refine lv_aload_n hx hb dX5_delta_39 rfl (lv_at hl 0 rfl) ?_
          refine va_get (D := D) (ci := 5) (v := .ref aZ) (C := RX5) (T := TX5) (N := 12) hx hb ht inA_X5 hown hK.1 hP 0 rfl rfl 4 (by decide) (ht _ iw_125) (fun _ h9 => h9) rfl dX5_delta_40 ?_
          refine lv_iconst (v := nI 1) hx hb dX5_delta_43 (by decide +kernel) ?_
          refine ds_iald (k := 1) hx hb hK hP 3 rfl (by omega) (by omega) dX5_delta_44 ?_
          refine ds_top (z := nI ln) hZ.2.2.2 ?_
          refine lv_icmp_ge (tgt := 291) hx hb dX5_delta_45 (by decide) (fun hpl => ?_) (fun hpl => ?_)
          ·
            have hpl : ln ≤ p := (nI_leI (a := ln) (b := p) (by omega) (by omega)).mp hpl
            have hfin : (p, bf, (ek, ef, el, c), em) = dl fo fn lo ln s (ds_mask b) 1200 (0, none, (fk, ff, fl, 0), fm) := by rw [← hrun, dl_end (by show ln ≤ p; omega)]
            refine lv_iconst (v := nI 0) hx hb dX5_delta_291 (by decide +kernel) ?_
            refine lv_istore (lv' := [(6, .int (nI 0)), (0, .ref mo), (1, .int (nI s)), (2, .int (nI b)), (3, .int (nI (bn lo s))), (4, .int (nI p)), (5, .int (oI bf))]) hx hb dX5_delta_292 hl (Nat.le_of_ble_eq_true rfl) rfl (fun ls hl => ?_)
            have hP : va_P D vwCl [(mo, .inr (5, [.int (nI 0), .ref aO, .ref aT, .ref aM, .ref aZ, .ref aY, .ref aK, .ref aF, .ref aL, .int (nI c), .int (nI 1), .int wd])), (aO, .inl (cI, 2400, .inl O)), (aT, .inl (cI, 2400, .inl (va_cpy O T 0 0 0))), (aZ, .inl (cI, 2, .inl Z)), (aY, .inl (cI, 2, .inl Y)), (aK, .inl (cI, 1200, .inl g1)), (aF, .inl (cI, 1200, .inl g2)), (aL, .inl (cI, 1200, .inl g3))] H := by rw [cpy_0]; exact hP
            have hD : va_D A [(mo, .inr (5, [.int (nI 0), .ref aO, .ref aT, .ref aM, .ref aZ, .ref aY, .ref aK, .ref aF, .ref aL, .int (nI c), .int (nI 1), .int wd])), (aO, .inl (cI, 2400, .inl O)), (aT, .inl (cI, 2400, .inl (va_cpy O T 0 0 0))), (aZ, .inl (cI, 2, .inl Z)), (aY, .inl (cI, 2, .inl Y)), (aK, .inl (cI, 1200, .inl g1)), (aF, .inl (cI, 1200, .inl g2)), (aL, .inl (cI, 1200, .inl g3))] := by rw [cpy_0]; exact hD
            have loop14 : ∀ (k15 : Nat) (q : Nat) (H : Heap) (locs : List Loc) (ls : Array Slot), (q ≤ 2400) → 2400 - q < k15 → va_P D vwCl [(mo, .inr (5, [.int (nI 0), .ref aO, .ref aT, .ref aM, .ref aZ, .ref aY, .ref aK, .ref aF, .ref aL, .int (nI c), .int (nI 1), .int wd])), (aO, .inl (cI, 2400, .inl O)), (aT, .inl (cI, 2400, .inl (va_cpy O T 0 0 q))), (aZ, .inl (cI, 2, .inl Z)), (aY, .inl (cI, 2, .inl Y)), (aK, .inl (cI, 1200, .inl g1)), (aF, .inl (cI, 1200, .inl g2)), (aL, .inl (cI, 1200, .inl g3))] H → va_D A [(mo, .inr (5, [.int (nI 0), .ref aO, .ref aT, .ref aM, .ref aZ, .ref aY, .ref aK, .ref aF, .ref aL, .int (nI c), .int (nI 1), .int wd])), (aO, .inl (cI, 2400, .inl O)), (aT, .inl (cI, 2400, .inl (va_cpy O T 0 0 q))), (aZ, .inl (cI, 2, .inl Z)), (aY, .inl (cI, 2, .inl Y)), (aK, .inl (cI, 1200, .inl g1)), (aF, .inl (cI, 1200, .inl g2)), (aL, .inl (cI, 1200, .inl g3))] → va_S A Ss.heap H locs → lv_has ls 9 [(0, .ref mo), (1, .int (nI s)), (6, .int (nI q))] → W Pp Ll Ee { frames := 2, cells := 0, slots := 0, locals := 53 } Ss Mm Aa Bb Me Cc H locs 0 0 (MQ Bb (ds_Qi D (fun (r : Int32) (u : Int32 × (Nat → Int32) × (Nat → Int32) × (Nat → Int32) × (Nat → Int32) × (Nat → Int32) × Nat × Int32 × Int32) => (¬ bok (nI s) (nI b) ∧ u.1 = 1 ∧ u.2 = (T, Y, gk, gf, gl, c0, isd, wd)) ∨ (∃ s9 b9 : Nat, (nI s) = nI s9 ∧ (nI b) = nI b9 ∧ 4 ≤ s9 ∧ s9 ≤ 256 ∧ b9 ≤ 64 ∧ u.1 = 0 ∧ ∃ t : dl_T, t = dl fo fn lo ln s9 (ds_mask b9) 1200 (0, none, (fk, ff, fl, 0), fm) ∧ t.2.2.1.2.2.2 = u.2.2.2.2.2.2.1 ∧ r = nI u.2.2.2.2.2.2.1 ∧ u.2.2.2.2.2.2.2.1 = 1 ∧ u.2.2.2.2.2.2.2.2 = nI s9 ∧ mT u.2.2.2.2.2.2.1 t.2.2.1.1 t.2.2.1.2.1 t.2.2.1.2.2.1 u.2.2.2.1 u.2.2.2.2.1 u.2.2.2.2.2.1 ∧ (∃ K a n, TI O lo ln s9 (t.1, t.2.1, (t.2.2.1.1, t.2.2.1.2.1, t.2.2.1.2.2.1, u.2.2.2.2.2.2.1), t.2.2.2) K a n) ∧ u.2.2.1 0 = nI lo ∧ ∀ j, j < 2400 → u.2.1 j = O j)) (fun u : Int32 × (Nat → Int32) × (Nat → Int32) × (Nat → Int32) × (Nat → Int32) × (Nat → Int32) × Nat × Int32 × Int32 => [(mo, .inr (5, [.int u.1, .ref aO, .ref aT, .ref aM, .ref aZ, .ref aY, .ref aK, .ref aF, .ref aL, .int (nI u.2.2.2.2.2.2.1), .int u.2.2.2.2.2.2.2.1, .int u.2.2.2.2.2.2.2.2])), (aO, .inl (cI, 2400, .inl O)), (aT, .inl (cI, 2400, .inl u.2.1)), (aZ, .inl (cI, 2, .inl Z)), (aY, .inl (cI, 2, .inl u.2.2.1)), (aK, .inl (cI, 1200, .inl u.2.2.2.1)), (aF, .inl (cI, 1200, .inl u.2.2.2.2.1)), (aL, .inl (cI, 1200, .inl u.2.2.2.2.2.1))]) A) Aa Ss 0 0 A) (F0 Mm 294 ls []) := by
              intro k15
              induction k15 with
              | zero => intro q H locs ls hq hm17; exact absurd hm17 (Nat.not_lt_zero _)
              | succ k15 ih16 =>
                intro q H locs ls hq hm17 hP hD hS hl
                refine lv_iload hx hb dX5_delta_294 (lv_at hl 2 rfl) ?_
                refine lv_sipush (v := nI 2400) hx hb dX5_delta_296 (by decide +kernel) ?_
                refine lv_icmp_ge (tgt := 322) hx hb dX5_delta_299 (by decide) (fun h => ?_) (fun h => ?_)
                ·
                  have h : 2400 ≤ q := (nI_leI (a := 2400) (b := q) (by omega) (by omega)).mp h
                  have e9 : 2400 = q := (by omega)
                  subst e9
                  refine lv_aload_n hx hb dX5_delta_322 rfl (lv_at hl 0 rfl) ?_
                  refine va_get (D := D) (ci := 5) (v := .ref aY) (C := RX5) (T := TX5) (N := 12) hx hb ht inA_X5 hown hK.1 hP 0 rfl rfl 5 (by decide) (ht _ iw_126) (fun _ h9 => h9) rfl dX5_delta_323 ?_
                  refine lv_iconst (v := nI 0) hx hb dX5_delta_326 (by decide +kernel) ?_
                  refine lv_aload_n hx hb dX5_delta_327 rfl (lv_at hl 0 rfl) ?_
                  refine va_get (D := D) (ci := 5) (v := .ref aZ) (C := RX5) (T := TX5) (N := 12) hx hb ht inA_X5 hown hK.1 hP 0 rfl rfl 4 (by decide) (ht _ iw_125) (fun _ h9 => h9) rfl dX5_delta_328 ?_
                  refine lv_iconst (v := nI 0) hx hb dX5_delta_331 (by decide +kernel) ?_
                  refine ds_iald (k := 0) hx hb hK hP 3 rfl (by omega) (by omega) dX5_delta_332 ?_
                  refine ds_top (z := nI lo) hZ.2.2.1 ?_
                  refine ds_iast (k := 0) hx hb hK hP hD hS 4 rfl (by omega) (by omega) dX5_delta_333 (fun H locs hP hD hS => ?_)
                  have hP : va_P D vwCl [(mo, .inr (5, [.int (nI 0), .ref aO, .ref aT, .ref aM, .ref aZ, .ref aY, .ref aK, .ref aF, .ref aL, .int (nI c), .int (nI 1), .int wd])), (aO, .inl (cI, 2400, .inl O)), (aT, .inl (cI, 2400, .inl (va_cpy O T 0 0 2400))), (aZ, .inl (cI, 2, .inl Z)), (aY, .inl (cI, 2, .inl (upd Y 0 (nI lo)))), (aK, .inl (cI, 1200, .inl g1)), (aF, .inl (cI, 1200, .inl g2)), (aL, .inl (cI, 1200, .inl g3))] H := hP
                  have hD : va_D A [(mo, .inr (5, [.int (nI 0), .ref aO, .ref aT, .ref aM, .ref aZ, .ref aY, .ref aK, .ref aF, .ref aL, .int (nI c), .int (nI 1), .int wd])), (aO, .inl (cI, 2400, .inl O)), (aT, .inl (cI, 2400, .inl (va_cpy O T 0 0 2400))), (aZ, .inl (cI, 2, .inl Z)), (aY, .inl (cI, 2, .inl (upd Y 0 (nI lo)))), (aK, .inl (cI, 1200, .inl g1)), (aF, .inl (cI, 1200, .inl g2)), (aL, .inl (cI, 1200, .inl g3))] := hD
                  refine lv_aload_n hx hb dX5_delta_334 rfl (lv_at hl 0 rfl) ?_
                  refine va_get (D := D) (ci := 5) (v := .ref aY) (C := RX5) (T := TX5) (N := 12) hx hb ht inA_X5 hown hK.1 hP 0 rfl rfl 5 (by decide) (ht _ iw_126) (fun _ h9 => h9) rfl dX5_delta_335 ?_
                  refine lv_iconst (v := nI 1) hx hb dX5_delta_338 (by decide +kernel) ?_
                  refine lv_aload_n hx hb dX5_delta_339 rfl (lv_at hl 0 rfl) ?_
                  refine va_get (D := D) (ci := 5) (v := .ref aZ) (C := RX5) (T := TX5) (N := 12) hx hb ht inA_X5 hown hK.1 hP 0 rfl rfl 4 (by decide) (ht _ iw_125) (fun _ h9 => h9) rfl dX5_delta_340 ?_
                  refine lv_iconst (v := nI 1) hx hb dX5_delta_343 (by decide +kernel) ?_
                  refine ds_iald (k := 1) hx hb hK hP 3 rfl (by omega) (by omega) dX5_delta_344 ?_
                  refine ds_top (z := nI ln) hZ.2.2.2 ?_
                  refine ds_iast (k := 1) hx hb hK hP hD hS 4 rfl (by omega) (by omega) dX5_delta_345 (fun H locs hP hD hS => ?_)
                  have hP : va_P D vwCl [(mo, .inr (5, [.int (nI 0), .ref aO, .ref aT, .ref aM, .ref aZ, .ref aY, .ref aK, .ref aF, .ref aL, .int (nI c), .int (nI 1), .int wd])), (aO, .inl (cI, 2400, .inl O)), (aT, .inl (cI, 2400, .inl (va_cpy O T 0 0 2400))), (aZ, .inl (cI, 2, .inl Z)), (aY, .inl (cI, 2, .inl (upd (upd Y 0 (nI lo)) 1 (nI ln)))), (aK, .inl (cI, 1200, .inl g1)), (aF, .inl (cI, 1200, .inl g2)), (aL, .inl (cI, 1200, .inl g3))] H := hP
                  have hD : va_D A [(mo, .inr (5, [.int (nI 0), .ref aO, .ref aT, .ref aM, .ref aZ, .ref aY, .ref aK, .ref aF, .ref aL, .int (nI c), .int (nI 1), .int wd])), (aO, .inl (cI, 2400, .inl O)), (aT, .inl (cI, 2400, .inl (va_cpy O T 0 0 2400))), (aZ, .inl (cI, 2, .inl Z)), (aY, .inl (cI, 2, .inl (upd (upd Y 0 (nI lo)) 1 (nI ln)))), (aK, .inl (cI, 1200, .inl g1)), (aF, .inl (cI, 1200, .inl g2)), (aL, .inl (cI, 1200, .inl g3))] := hD
                  refine lv_aload_n hx hb dX5_delta_346 rfl (lv_at hl 0 rfl) ?_
                  refine lv_iload_n hx hb dX5_delta_347 rfl (lv_at hl 1 rfl) ?_
                  refine va_put (D := D) (ci := 5) (v := .int (nI s)) (ty := .int) (C := RX5) (T := TX5) (N := 12) hx hb ht inA_X5 tyX5 tyX5_ok nmX5 hown hK.1 hP hD hS 0 rfl rfl 11 (by decide) (ht _ iw_181) (fun _ h9 => h9) rfl (by decide +kernel) rfl rfl (Nat.le_of_ble_eq_true rfl) dX5_delta_348 (fun H locs hP hD hS => ?_)
                  have hP : va_P D vwCl [(mo, .inr (5, [.int (nI 0), .ref aO, .ref aT, .ref aM, .ref aZ, .ref aY, .ref aK, .ref aF, .ref aL, .int (nI c), .int (nI 1), .int (nI s)])), (aO, .inl (cI, 2400, .inl O)), (aT, .inl (cI, 2400, .inl (va_cpy O T 0 0 2400))), (aZ, .inl (cI, 2, .inl Z)), (aY, .inl (cI, 2, .inl (upd (upd Y 0 (nI lo)) 1 (nI ln)))), (aK, .inl (cI, 1200, .inl g1)), (aF, .inl (cI, 1200, .inl g2)), (aL, .inl (cI, 1200, .inl g3))] H := hP
                  have hD : va_D A [(mo, .inr (5, [.int (nI 0), .ref aO, .ref aT, .ref aM, .ref aZ, .ref aY, .ref aK, .ref aF, .ref aL, .int (nI c), .int (nI 1), .int (nI s)])), (aO, .inl (cI, 2400, .inl O)), (aT, .inl (cI, 2400, .inl (va_cpy O T 0 0 2400))), (aZ, .inl (cI, 2, .inl Z)), (aY, .inl (cI, 2, .inl (upd (upd Y 0 (nI lo)) 1 (nI ln)))), (aK, .inl (cI, 1200, .inl g1)), (aF, .inl (cI, 1200, .inl g2)), (aL, .inl (cI, 1200, .inl g3))] := hD
                  refine lv_aload_n hx hb dX5_delta_351 rfl (lv_at hl 0 rfl) ?_
                  refine va_get (D := D) (ci := 5) (v := .int (nI c)) (C := RX5) (T := TX5) (N := 12) hx hb ht inA_X5 hown hK.1 hP 0 rfl rfl 9 (by decide) (ht _ iw_180) (fun _ h9 => h9) rfl dX5_delta_352 ?_
                  exact ds_iret hx hb hr hlk rfl (nI 0, va_cpy O T 0 0 2400, upd (upd Y 0 (nI lo)) 1 (nI ln), g1, g2, g3, c, nI 1, nI s) (Or.inr ⟨s, b, rfl, rfl, h2, h3, h4, rfl, (p, bf, (ek, ef, el, c), em), hfin, rfl, rfl, rfl, rfl, hT, hTI, (upd2_0 : upd (upd Y 0 (nI lo)) 1 (nI ln) 0 = nI lo), fun j hj => cpy_all hj⟩) hP hD hS (Nat.le_of_ble_eq_true rfl) (Nat.le_of_ble_eq_true rfl) dX5_delta_355
                ·
                  have h : ¬ 2400 ≤ q := fun z9 => h ((nI_leI (a := 2400) (b := q) (by omega) (by omega)).mpr z9)
                  refine lv_aload_n hx hb dX5_delta_302 rfl (lv_at hl 0 rfl) ?_
                  refine va_get (D := D) (ci := 5) (v := .ref aT) (C := RX5) (T := TX5) (N := 12) hx hb ht inA_X5 hown hK.1 hP 0 rfl rfl 2 (by decide) (ht _ iw_123) (fun _ h9 => h9) rfl dX5_delta_303 ?_
                  refine lv_iload hx hb dX5_delta_306 (lv_at hl 2 rfl) ?_
                  refine lv_aload_n hx hb dX5_delta_308 rfl (lv_at hl 0 rfl) ?_
                  refine va_get (D := D) (ci := 5) (v := .ref aO) (C := RX5) (T := TX5) (N := 12) hx hb ht inA_X5 hown hK.1 hP 0 rfl rfl 1 (by decide) (ht _ iw_122) (fun _ h9 => h9) rfl dX5_delta_309 ?_
                  refine lv_iload hx hb dX5_delta_312 (lv_at hl 2 rfl) ?_
                  refine ds_iald (k := q) hx hb hK hP 1 rfl (by omega) (by omega) dX5_delta_314 ?_
                  refine ds_iast (k := q) hx hb hK hP hD hS 2 rfl (by omega) (by omega) dX5_delta_315 (fun H locs hP hD hS => ?_)
                  have hP : va_P D vwCl [(mo, .inr (5, [.int (nI 0), .ref aO, .ref aT, .ref aM, .ref aZ, .ref aY, .ref aK, .ref aF, .ref aL, .int (nI c), .int (nI 1), .int wd])), (aO, .inl (cI, 2400, .inl O)), (aT, .inl (cI, 2400, .inl (upd (va_cpy O T 0 0 q) q (O q)))), (aZ, .inl (cI, 2, .inl Z)), (aY, .inl (cI, 2, .inl Y)), (aK, .inl (cI, 1200, .inl g1)), (aF, .inl (cI, 1200, .inl g2)), (aL, .inl (cI, 1200, .inl g3))] H := hP
                  have hD : va_D A [(mo, .inr (5, [.int (nI 0), .ref aO, .ref aT, .ref aM, .ref aZ, .ref aY, .ref aK, .ref aF, .ref aL, .int (nI c), .int (nI 1), .int wd])), (aO, .inl (cI, 2400, .inl O)), (aT, .inl (cI, 2400, .inl (upd (va_cpy O T 0 0 q) q (O q)))), (aZ, .inl (cI, 2, .inl Z)), (aY, .inl (cI, 2, .inl Y)), (aK, .inl (cI, 1200, .inl g1)), (aF, .inl (cI, 1200, .inl g2)), (aL, .inl (cI, 1200, .inl g3))] := hD
                  refine lv_iinc (k := 2) (v := nI (q + 1)) (lv' := [(6, .int (nI (q + 1))), (0, .ref mo), (1, .int (nI s))]) hx hb dX5_delta_316 hl rfl (by rw [nI_succ]; rfl) (Nat.le_of_ble_eq_true rfl) rfl (fun ls hl => ?_)
                  refine lv_goto (tgt := 294) hx hb dX5_delta_319 (by decide) ?_
                  have hP : va_P D vwCl [(mo, .inr (5, [.int (nI 0), .ref aO, .ref aT, .ref aM, .ref aZ, .ref aY, .ref aK, .ref aF, .ref aL, .int (nI c), .int (nI 1), .int wd])), (aO, .inl (cI, 2400, .inl O)), (aT, .inl (cI, 2400, .inl (va_cpy O T 0 0 (q + 1)))), (aZ, .inl (cI, 2, .inl Z)), (aY, .inl (cI, 2, .inl Y)), (aK, .inl (cI, 1200, .inl g1)), (aF, .inl (cI, 1200, .inl g2)), (aL, .inl (cI, 1200, .inl g3))] H := by rw [cpy_s, Nat.zero_add]; exact hP
                  have hD : va_D A [(mo, .inr (5, [.int (nI 0), .ref aO, .ref aT, .ref aM, .ref aZ, .ref aY, .ref aK, .ref aF, .ref aL, .int (nI c), .int (nI 1), .int wd])), (aO, .inl (cI, 2400, .inl O)), (aT, .inl (cI, 2400, .inl (va_cpy O T 0 0 (q + 1)))), (aZ, .inl (cI, 2, .inl Z)), (aY, .inl (cI, 2, .inl Y)), (aK, .inl (cI, 1200, .inl g1)), (aF, .inl (cI, 1200, .inl g2)), (aL, .inl (cI, 1200, .inl g3))] := by rw [cpy_s, Nat.zero_add]; exact hD
                  exact ih16 (q + 1) H locs ls (by omega) (by omega) hP hD hS (lv_sub hl [1, 2, 0] rfl)
            exact loop14 _ 0 H locs ls (Nat.zero_le _) (Nat.lt_succ_self _) hP hD hS (lv_sub hl [1, 2, 0] rfl)
          ·
            have hpl : ¬ ln ≤ p := fun z9 => hpl ((nI_leI (a := ln) (b := p) (by omega) (by omega)).mpr z9)
            have lab18 : ∀ (bo : Option Nat) (H : Heap) (locs : List Loc) (ls : Array Slot), (pick (fb fo fn lo ln s (ds_mask b) p) (bn lo s) bf = bo) → va_P D vwCl [(mo, .inr (5, [.int (nI 0), .ref aO, .ref aT, .ref aM, .ref aZ, .ref aY, .ref aK, .ref aF, .ref aL, .int (nI c), .int (nI 1), .int wd])), (aO, .inl (cI, 2400, .inl O)), (aT, .inl (cI, 2400, .inl T)), (aZ, .inl (cI, 2, .inl Z)), (aY, .inl (cI, 2, .inl Y)), (aK, .inl (cI, 1200, .inl g1)), (aF, .inl (cI, 1200, .inl g2)), (aL, .inl (cI, 1200, .inl g3))] H → va_D A [(mo, .inr (5, [.int (nI 0), .ref aO, .ref aT, .ref aM, .ref aZ, .ref aY, .ref aK, .ref aF, .ref aL, .int (nI c), .int (nI 1), .int wd])), (aO, .inl (cI, 2400, .inl O)), (aT, .inl (cI, 2400, .inl T)), (aZ, .inl (cI, 2, .inl Z)), (aY, .inl (cI, 2, .inl Y)), (aK, .inl (cI, 1200, .inl g1)), (aF, .inl (cI, 1200, .inl g2)), (aL, .inl (cI, 1200, .inl g3))] → va_S A Ss.heap H locs → lv_has ls 9 [(0, .ref mo), (1, .int (nI s)), (2, .int (nI b)), (3, .int (nI (bn lo s))), (4, .int (nI p)), (5, .int (oI bf)), (6, .int (oI bo))] → W Pp Ll Ee { frames := 2, cells := 0, slots := 0, locals := 53 } Ss Mm Aa Bb Me Cc H locs 0 0 (MQ Bb (ds_Qi D (fun (r : Int32) (u : Int32 × (Nat → Int32) × (Nat → Int32) × (Nat → Int32) × (Nat → Int32) × (Nat → Int32) × Nat × Int32 × Int32) => (¬ bok (nI s) (nI b) ∧ u.1 = 1 ∧ u.2 = (T, Y, gk, gf, gl, c0, isd, wd)) ∨ (∃ s9 b9 : Nat, (nI s) = nI s9 ∧ (nI b) = nI b9 ∧ 4 ≤ s9 ∧ s9 ≤ 256 ∧ b9 ≤ 64 ∧ u.1 = 0 ∧ ∃ t : dl_T, t = dl fo fn lo ln s9 (ds_mask b9) 1200 (0, none, (fk, ff, fl, 0), fm) ∧ t.2.2.1.2.2.2 = u.2.2.2.2.2.2.1 ∧ r = nI u.2.2.2.2.2.2.1 ∧ u.2.2.2.2.2.2.2.1 = 1 ∧ u.2.2.2.2.2.2.2.2 = nI s9 ∧ mT u.2.2.2.2.2.2.1 t.2.2.1.1 t.2.2.1.2.1 t.2.2.1.2.2.1 u.2.2.2.1 u.2.2.2.2.1 u.2.2.2.2.2.1 ∧ (∃ K a n, TI O lo ln s9 (t.1, t.2.1, (t.2.2.1.1, t.2.2.1.2.1, t.2.2.1.2.2.1, u.2.2.2.2.2.2.1), t.2.2.2) K a n) ∧ u.2.2.1 0 = nI lo ∧ ∀ j, j < 2400 → u.2.1 j = O j)) (fun u : Int32 × (Nat → Int32) × (Nat → Int32) × (Nat → Int32) × (Nat → Int32) × (Nat → Int32) × Nat × Int32 × Int32 => [(mo, .inr (5, [.int u.1, .ref aO, .ref aT, .ref aM, .ref aZ, .ref aY, .ref aK, .ref aF, .ref aL, .int (nI u.2.2.2.2.2.2.1), .int u.2.2.2.2.2.2.2.1, .int u.2.2.2.2.2.2.2.2])), (aO, .inl (cI, 2400, .inl O)), (aT, .inl (cI, 2400, .inl u.2.1)), (aZ, .inl (cI, 2, .inl Z)), (aY, .inl (cI, 2, .inl u.2.2.1)), (aK, .inl (cI, 1200, .inl u.2.2.2.1)), (aF, .inl (cI, 1200, .inl u.2.2.2.2.1)), (aL, .inl (cI, 1200, .inl u.2.2.2.2.2.1))]) A) Aa Ss 0 0 A) (F0 Mm 123 ls []) := by
              intro bo H locs ls hpk hP hD hS hl
              rcases bo with _ | x
              ·
                have hl : lv_has ls 9 [(0, .ref mo), (1, .int (nI s)), (2, .int (nI b)), (3, .int (nI (bn lo s))), (4, .int (nI p)), (5, .int (oI bf)), (6, .int (-1))] := hl
                have hstep := dl_none (fk := ek) (ff := ef) (fl := el) (c := c) (fm := em) hpk
                have hTI2 := TI_step (mk := ds_mask b) (fo := fo) (fn := fn) hR.2.2.2.2.1 hR.2.2.2.2.2 h2 hZ.1 hZ.2.1 (t := (p, bf, (ek, ef, el, c), em)) (by show p < ln; omega) hTI
                rw [hstep] at hTI2
                have lab19 : ∀ (H : Heap) (locs : List Loc) (ls : Array Slot), (¬ (0 < c ∧ ek (c - 1) = nI 1 ∧ ef (c - 1) + el (c - 1) = nI p)) → va_P D vwCl [(mo, .inr (5, [.int (nI 0), .ref aO, .ref aT, .ref aM, .ref aZ, .ref aY, .ref aK, .ref aF, .ref aL, .int (nI c), .int (nI 1), .int wd])), (aO, .inl (cI, 2400, .inl O)), (aT, .inl (cI, 2400, .inl T)), (aZ, .inl (cI, 2, .inl Z)), (aY, .inl (cI, 2, .inl Y)), (aK, .inl (cI, 1200, .inl g1)), (aF, .inl (cI, 1200, .inl g2)), (aL, .inl (cI, 1200, .inl g3))] H → va_D A [(mo, .inr (5, [.int (nI 0), .ref aO, .ref aT, .ref aM, .ref aZ, .ref aY, .ref aK, .ref aF, .ref aL, .int (nI c), .int (nI 1), .int wd])), (aO, .inl (cI, 2400, .inl O)), (aT, .inl (cI, 2400, .inl T)), (aZ, .inl (cI, 2, .inl Z)), (aY, .inl (cI, 2, .inl Y)), (aK, .inl (cI, 1200, .inl g1)), (aF, .inl (cI, 1200, .inl g2)), (aL, .inl (cI, 1200, .inl g3))] → va_S A Ss.heap H locs → lv_has ls 9 [(0, .ref mo), (1, .int (nI s)), (2, .int (nI b)), (3, .int (nI (bn lo s))), (4, .int (nI p)), (5, .int (oI bf)), (6, .int (-1)), (7, .int (nI 0))] → W Pp Ll Ee { frames := 2, cells := 0, slots := 0, locals := 53 } Ss Mm Aa Bb Me Cc H locs 0 0 (MQ Bb (ds_Qi D (fun (r : Int32) (u : Int32 × (Nat → Int32) × (Nat → Int32) × (Nat → Int32) × (Nat → Int32) × (Nat → Int32) × Nat × Int32 × Int32) => (¬ bok (nI s) (nI b) ∧ u.1 = 1 ∧ u.2 = (T, Y, gk, gf, gl, c0, isd, wd)) ∨ (∃ s9 b9 : Nat, (nI s) = nI s9 ∧ (nI b) = nI b9 ∧ 4 ≤ s9 ∧ s9 ≤ 256 ∧ b9 ≤ 64 ∧ u.1 = 0 ∧ ∃ t : dl_T, t = dl fo fn lo ln s9 (ds_mask b9) 1200 (0, none, (fk, ff, fl, 0), fm) ∧ t.2.2.1.2.2.2 = u.2.2.2.2.2.2.1 ∧ r = nI u.2.2.2.2.2.2.1 ∧ u.2.2.2.2.2.2.2.1 = 1 ∧ u.2.2.2.2.2.2.2.2 = nI s9 ∧ mT u.2.2.2.2.2.2.1 t.2.2.1.1 t.2.2.1.2.1 t.2.2.1.2.2.1 u.2.2.2.1 u.2.2.2.2.1 u.2.2.2.2.2.1 ∧ (∃ K a n, TI O lo ln s9 (t.1, t.2.1, (t.2.2.1.1, t.2.2.1.2.1, t.2.2.1.2.2.1, u.2.2.2.2.2.2.1), t.2.2.2) K a n) ∧ u.2.2.1 0 = nI lo ∧ ∀ j, j < 2400 → u.2.1 j = O j)) (fun u : Int32 × (Nat → Int32) × (Nat → Int32) × (Nat → Int32) × (Nat → Int32) × (Nat → Int32) × Nat × Int32 × Int32 => [(mo, .inr (5, [.int u.1, .ref aO, .ref aT, .ref aM, .ref aZ, .ref aY, .ref aK, .ref aF, .ref aL, .int (nI u.2.2.2.2.2.2.1), .int u.2.2.2.2.2.2.2.1, .int u.2.2.2.2.2.2.2.2])), (aO, .inl (cI, 2400, .inl O)), (aT, .inl (cI, 2400, .inl u.2.1)), (aZ, .inl (cI, 2, .inl Z)), (aY, .inl (cI, 2, .inl u.2.2.1)), (aK, .inl (cI, 1200, .inl u.2.2.2.1)), (aF, .inl (cI, 1200, .inl u.2.2.2.2.1)), (aL, .inl (cI, 1200, .inl u.2.2.2.2.2.1))]) A) Aa Ss 0 0 A) (F0 Mm 183 ls []) := by
                  intro  H locs ls hG hP hD hS hl
                  have hm := mT_no hT (by omega) hG
                  refine lv_iconst (v := nI 0) hx hb dX5_delta_183 (by decide +kernel) ?_
                  refine lv_istore (lv' := [(8, .int (nI 0)), (0, .ref mo), (1, .int (nI s)), (2, .int (nI b)), (3, .int (nI (bn lo s))), (4, .int (nI p)), (5, .int (oI bf)), (6, .int (-1)), (7, .int (nI 0))]) hx hb dX5_delta_184 hl (Nat.le_of_ble_eq_true rfl) rfl (fun ls hl => ?_)
                  refine lv_iload hx hb dX5_delta_186 (lv_at hl 0 rfl) ?_
                  refine lv_if_ne (tgt := 248) hx hb dX5_delta_188 (by decide) (fun h => ?_) (fun h => ?_)
                  ·
                    rw [← nI_0] at h
                    have h : ¬ 0 = 0 := fun z9 => h ((nI_eq (a := 0) (b := 0) (by omega) (by omega)).mpr z9)
                    exact absurd rfl h
                  ·
                    rw [← nI_0] at h
                    have h : 0 = 0 := (nI_eq (a := 0) (b := 0) (by omega) (by omega)).mp h
                    refine lv_aload_n hx hb dX5_delta_191 rfl (lv_at hl 1 rfl) ?_
                    refine va_get (D := D) (ci := 5) (v := .ref aK) (C := RX5) (T := TX5) (N := 12) hx hb ht inA_X5 hown hK.1 hP 0 rfl rfl 6 (by decide) (ht _ iw_127) (fun _ h9 => h9) rfl dX5_delta_192 ?_
                    refine lv_aload_n hx hb dX5_delta_195 rfl (lv_at hl 1 rfl) ?_
                    refine va_get (D := D) (ci := 5) (v := .int (nI c)) (C := RX5) (T := TX5) (N := 12) hx hb ht inA_X5 hown hK.1 hP 0 rfl rfl 9 (by decide) (ht _ iw_180) (fun _ h9 => h9) rfl dX5_delta_196 ?_
                    refine lv_iload hx hb dX5_delta_199 (lv_at hl 8 rfl) ?_
                    refine lv_if_eq (tgt := 208) hx hb dX5_delta_201 (by decide) (fun h => ?_) (fun h => ?_)
                    ·
                      rw [← nI_0] at h
                      have h : 0 = 0 := (nI_eq (a := 0) (b := 0) (by omega) (by omega)).mp h
                      refine lv_iconst (v := nI 1) hx hb dX5_delta_208 (by decide +kernel) ?_
                      refine ds_iast (k := c) hx hb hK hP hD hS 5 rfl (by omega) (by omega) dX5_delta_209 (fun H locs hP hD hS => ?_)
                      have hP : va_P D vwCl [(mo, .inr (5, [.int (nI 0), .ref aO, .ref aT, .ref aM, .ref aZ, .ref aY, .ref aK, .ref aF, .ref aL, .int (nI c), .int (nI 1), .int wd])), (aO, .inl (cI, 2400, .inl O)), (aT, .inl (cI, 2400, .inl T)), (aZ, .inl (cI, 2, .inl Z)), (aY, .inl (cI, 2, .inl Y)), (aK, .inl (cI, 1200, .inl (upd g1 c (nI 1)))), (aF, .inl (cI, 1200, .inl g2)), (aL, .inl (cI, 1200, .inl g3))] H := hP
                      have hD : va_D A [(mo, .inr (5, [.int (nI 0), .ref aO, .ref aT, .ref aM, .ref aZ, .ref aY, .ref aK, .ref aF, .ref aL, .int (nI c), .int (nI 1), .int wd])), (aO, .inl (cI, 2400, .inl O)), (aT, .inl (cI, 2400, .inl T)), (aZ, .inl (cI, 2, .inl Z)), (aY, .inl (cI, 2, .inl Y)), (aK, .inl (cI, 1200, .inl (upd g1 c (nI 1)))), (aF, .inl (cI, 1200, .inl g2)), (aL, .inl (cI, 1200, .inl g3))] := hD
                      refine lv_aload_n hx hb dX5_delta_210 rfl (lv_at hl 1 rfl) ?_
                      refine va_get (D := D) (ci := 5) (v := .ref aF) (C := RX5) (T := TX5) (N := 12) hx hb ht inA_X5 hown hK.1 hP 0 rfl rfl 7 (by decide) (ht _ iw_128) (fun _ h9 => h9) rfl dX5_delta_211 ?_
                      refine lv_aload_n hx hb dX5_delta_214 rfl (lv_at hl 1 rfl) ?_
                      refine va_get (D := D) (ci := 5) (v := .int (nI c)) (C := RX5) (T := TX5) (N := 12) hx hb ht inA_X5 hown hK.1 hP 0 rfl rfl 9 (by decide) (ht _ iw_180) (fun _ h9 => h9) rfl dX5_delta_215 ?_
                      refine lv_iload hx hb dX5_delta_218 (lv_at hl 8 rfl) ?_
                      refine lv_if_eq (tgt := 228) hx hb dX5_delta_220 (by decide) (fun h => ?_) (fun h => ?_)
                      ·
                        rw [← nI_0] at h
                        have h : 0 = 0 := (nI_eq (a := 0) (b := 0) (by omega) (by omega)).mp h
                        refine lv_iload hx hb dX5_delta_228 (lv_at hl 5 rfl) ?_
                        refine ds_iast (k := c) hx hb hK hP hD hS 6 rfl (by omega) (by omega) dX5_delta_230 (fun H locs hP hD hS => ?_)
                        have hP : va_P D vwCl [(mo, .inr (5, [.int (nI 0), .ref aO, .ref aT, .ref aM, .ref aZ, .ref aY, .ref aK, .ref aF, .ref aL, .int (nI c), .int (nI 1), .int wd])), (aO, .inl (cI, 2400, .inl O)), (aT, .inl (cI, 2400, .inl T)), (aZ, .inl (cI, 2, .inl Z)), (aY, .inl (cI, 2, .inl Y)), (aK, .inl (cI, 1200, .inl (upd g1 c (nI 1)))), (aF, .inl (cI, 1200, .inl (upd g2 c (nI p)))), (aL, .inl (cI, 1200, .inl g3))] H := hP
                        have hD : va_D A [(mo, .inr (5, [.int (nI 0), .ref aO, .ref aT, .ref aM, .ref aZ, .ref aY, .ref aK, .ref aF, .ref aL, .int (nI c), .int (nI 1), .int wd])), (aO, .inl (cI, 2400, .inl O)), (aT, .inl (cI, 2400, .inl T)), (aZ, .inl (cI, 2, .inl Z)), (aY, .inl (cI, 2, .inl Y)), (aK, .inl (cI, 1200, .inl (upd g1 c (nI 1)))), (aF, .inl (cI, 1200, .inl (upd g2 c (nI p)))), (aL, .inl (cI, 1200, .inl g3))] := hD
                        refine lv_aload_n hx hb dX5_delta_231 rfl (lv_at hl 1 rfl) ?_
                        refine va_get (D := D) (ci := 5) (v := .ref aL) (C := RX5) (T := TX5) (N := 12) hx hb ht inA_X5 hown hK.1 hP 0 rfl rfl 8 (by decide) (ht _ iw_129) (fun _ h9 => h9) rfl dX5_delta_232 ?_
                        refine lv_aload_n hx hb dX5_delta_235 rfl (lv_at hl 1 rfl) ?_
                        refine lv_dup hx hb dX5_delta_236 rfl ?_
                        refine va_get (D := D) (ci := 5) (v := .int (nI c)) (C := RX5) (T := TX5) (N := 12) hx hb ht inA_X5 hown hK.1 hP 0 rfl rfl 9 (by decide) (ht _ iw_180) (fun _ h9 => h9) rfl dX5_delta_237 ?_
                        refine lv_dup_x1 hx hb dX5_delta_240 rfl rfl ?_
                        refine lv_iconst (v := nI 1) hx hb dX5_delta_241 (by decide +kernel) ?_
                        refine lv_iadd hx hb dX5_delta_242 ?_
                        refine ds_top (z := nI (c + 1)) (nI_add _ _) ?_
                        refine va_put (D := D) (ci := 5) (v := .int (nI (c + 1))) (ty := .int) (C := RX5) (T := TX5) (N := 12) hx hb ht inA_X5 tyX5 tyX5_ok nmX5 hown hK.1 hP hD hS 0 rfl rfl 9 (by decide) (ht _ iw_180) (fun _ h9 => h9) rfl (by decide +kernel) rfl rfl (Nat.le_of_ble_eq_true rfl) dX5_delta_243 (fun H locs hP hD hS => ?_)
                        have hP : va_P D vwCl [(mo, .inr (5, [.int (nI 0), .ref aO, .ref aT, .ref aM, .ref aZ, .ref aY, .ref aK, .ref aF, .ref aL, .int (nI (c + 1)), .int (nI 1), .int wd])), (aO, .inl (cI, 2400, .inl O)), (aT, .inl (cI, 2400, .inl T)), (aZ, .inl (cI, 2, .inl Z)), (aY, .inl (cI, 2, .inl Y)), (aK, .inl (cI, 1200, .inl (upd g1 c (nI 1)))), (aF, .inl (cI, 1200, .inl (upd g2 c (nI p)))), (aL, .inl (cI, 1200, .inl g3))] H := hP
                        have hD : va_D A [(mo, .inr (5, [.int (nI 0), .ref aO, .ref aT, .ref aM, .ref aZ, .ref aY, .ref aK, .ref aF, .ref aL, .int (nI (c + 1)), .int (nI 1), .int wd])), (aO, .inl (cI, 2400, .inl O)), (aT, .inl (cI, 2400, .inl T)), (aZ, .inl (cI, 2, .inl Z)), (aY, .inl (cI, 2, .inl Y)), (aK, .inl (cI, 1200, .inl (upd g1 c (nI 1)))), (aF, .inl (cI, 1200, .inl (upd g2 c (nI p)))), (aL, .inl (cI, 1200, .inl g3))] := hD
                        refine lv_iconst (v := nI 0) hx hb dX5_delta_246 (by decide +kernel) ?_
                        refine ds_iast (k := c) hx hb hK hP hD hS 7 rfl (by omega) (by omega) dX5_delta_247 (fun H locs hP hD hS => ?_)
                        have hP : va_P D vwCl [(mo, .inr (5, [.int (nI 0), .ref aO, .ref aT, .ref aM, .ref aZ, .ref aY, .ref aK, .ref aF, .ref aL, .int (nI (c + 1)), .int (nI 1), .int wd])), (aO, .inl (cI, 2400, .inl O)), (aT, .inl (cI, 2400, .inl T)), (aZ, .inl (cI, 2, .inl Z)), (aY, .inl (cI, 2, .inl Y)), (aK, .inl (cI, 1200, .inl (upd g1 c (nI 1)))), (aF, .inl (cI, 1200, .inl (upd g2 c (nI p)))), (aL, .inl (cI, 1200, .inl (upd g3 c (nI 0))))] H := hP
                        have hD : va_D A [(mo, .inr (5, [.int (nI 0), .ref aO, .ref aT, .ref aM, .ref aZ, .ref aY, .ref aK, .ref aF, .ref aL, .int (nI (c + 1)), .int (nI 1), .int wd])), (aO, .inl (cI, 2400, .inl O)), (aT, .inl (cI, 2400, .inl T)), (aZ, .inl (cI, 2, .inl Z)), (aY, .inl (cI, 2, .inl Y)), (aK, .inl (cI, 1200, .inl (upd g1 c (nI 1)))), (aF, .inl (cI, 1200, .inl (upd g2 c (nI p)))), (aL, .inl (cI, 1200, .inl (upd g3 c (nI 0))))] := hD
                        refine lv_aload_n hx hb dX5_delta_248 rfl (lv_at hl 1 rfl) ?_
                        refine va_get (D := D) (ci := 5) (v := .ref aL) (C := RX5) (T := TX5) (N := 12) hx hb ht inA_X5 hown hK.1 hP 0 rfl rfl 8 (by decide) (ht _ iw_129) (fun _ h9 => h9) rfl dX5_delta_249 ?_
                        refine lv_aload_n hx hb dX5_delta_252 rfl (lv_at hl 1 rfl) ?_
                        refine va_get (D := D) (ci := 5) (v := .int (nI (c + 1))) (C := RX5) (T := TX5) (N := 12) hx hb ht inA_X5 hown hK.1 hP 0 rfl rfl 9 (by decide) (ht _ iw_180) (fun _ h9 => h9) rfl dX5_delta_253 ?_
                        refine lv_iconst (v := nI 1) hx hb dX5_delta_256 (by decide +kernel) ?_
                        refine lv_isub hx hb dX5_delta_257 ?_
                        refine ds_top (z := nI ((c + 1) - 1)) (pk_sub (by omega)) ?_
                        refine ds_top (z := nI (c)) (congrArg nI (by omega)) ?_
                        refine lv_dup2_11 hx hb dX5_delta_258 rfl rfl ?_
                        refine ds_iald (k := c) hx hb hK hP 7 rfl (by omega) (by omega) dX5_delta_259 ?_
                        refine lv_iconst (v := nI 1) hx hb dX5_delta_260 (by decide +kernel) ?_
                        refine lv_iadd hx hb dX5_delta_261 ?_
                        refine ds_iast (k := c) hx hb hK hP hD hS 7 rfl (by omega) (by omega) dX5_delta_262 (fun H locs hP hD hS => ?_)
                        have hP : va_P D vwCl [(mo, .inr (5, [.int (nI 0), .ref aO, .ref aT, .ref aM, .ref aZ, .ref aY, .ref aK, .ref aF, .ref aL, .int (nI (c + 1)), .int (nI 1), .int wd])), (aO, .inl (cI, 2400, .inl O)), (aT, .inl (cI, 2400, .inl T)), (aZ, .inl (cI, 2, .inl Z)), (aY, .inl (cI, 2, .inl Y)), (aK, .inl (cI, 1200, .inl (upd g1 c (nI 1)))), (aF, .inl (cI, 1200, .inl (upd g2 c (nI p)))), (aL, .inl (cI, 1200, .inl (upd (upd g3 c (nI 0)) c (((upd g3 c (nI 0)) c) + (nI 1)))))] H := hP
                        have hD : va_D A [(mo, .inr (5, [.int (nI 0), .ref aO, .ref aT, .ref aM, .ref aZ, .ref aY, .ref aK, .ref aF, .ref aL, .int (nI (c + 1)), .int (nI 1), .int wd])), (aO, .inl (cI, 2400, .inl O)), (aT, .inl (cI, 2400, .inl T)), (aZ, .inl (cI, 2, .inl Z)), (aY, .inl (cI, 2, .inl Y)), (aK, .inl (cI, 1200, .inl (upd g1 c (nI 1)))), (aF, .inl (cI, 1200, .inl (upd g2 c (nI p)))), (aL, .inl (cI, 1200, .inl (upd (upd g3 c (nI 0)) c (((upd g3 c (nI 0)) c) + (nI 1)))))] := hD
                        refine lv_iload hx hb dX5_delta_263 (lv_at hl 5 rfl) ?_
                        refine lv_iload hx hb dX5_delta_265 (lv_at hl 8 rfl) ?_
                        refine lv_if_eq (tgt := 280) hx hb dX5_delta_267 (by decide) (fun h => ?_) (fun h => ?_)
                        ·
                          rw [← nI_0] at h
                          have h : 0 = 0 := (nI_eq (a := 0) (b := 0) (by omega) (by omega)).mp h
                          refine lv_iconst (v := nI 1) hx hb dX5_delta_280 (by decide +kernel) ?_
                          refine lv_iadd hx hb dX5_delta_281 ?_
                          refine ds_top (z := nI (p + 1)) (nI_add _ _) ?_
                          refine lv_istore (lv' := [(4, .int (nI (p + 1))), (8, .int (nI 0)), (0, .ref mo), (1, .int (nI s)), (2, .int (nI b)), (3, .int (nI (bn lo s))), (5, .int (oI bf)), (6, .int (-1)), (7, .int (nI 0))]) hx hb dX5_delta_282 hl (Nat.le_of_ble_eq_true rfl) rfl (fun ls hl => ?_)
                          refine lv_iload hx hb dX5_delta_284 (lv_at hl 7 rfl) ?_
                          refine lv_istore (lv' := [(5, .int (-1)), (4, .int (nI (p + 1))), (8, .int (nI 0)), (0, .ref mo), (1, .int (nI s)), (2, .int (nI b)), (3, .int (nI (bn lo s))), (6, .int (-1)), (7, .int (nI 0))]) hx hb dX5_delta_286 hl (Nat.le_of_ble_eq_true rfl) rfl (fun ls hl => ?_)
                          refine lv_goto (tgt := 37) hx hb dX5_delta_288 (by decide) ?_
                          have e8 := hm.2
                          exact ih12 (p + 1) (i + 1) (c + 1) none ((tk_add ek ef el c (nI 1) (nI p)).1) ((tk_add ek ef el c (nI 1) (nI p)).2.1) ((tk_add ek ef el c (nI 1) (nI p)).2.2.1) (va_cpy fn em p p 1) (upd g1 c (nI 1)) (upd g2 c (nI p)) (upd (upd g3 c (nI 0)) c (upd g3 c (nI 0) c + nI 1)) H locs ls (by omega) (by omega) (by omega) (fun b9 h9 => by cases h9 <;> omega) (by have h9 := hm.1; rw [e8] at h9; exact h9) (by have h9 := hTI2; rw [show tk_add ek ef el c (nI 1) (nI p) = ((tk_add ek ef el c (nI 1) (nI p)).1, (tk_add ek ef el c (nI 1) (nI p)).2.1, (tk_add ek ef el c (nI 1) (nI p)).2.2.1, (tk_add ek ef el c (nI 1) (nI p)).2.2.2) from rfl, e8] at h9; exact h9) (by have e := dl_go (fo := fo) (fn := fn) (lo := lo) (ln := ln) (s := s) (mk := ds_mask b) (t := (p, bf, (ek, ef, el, c), em)) (i := i) (by show p < ln; omega) (by omega); rw [hstep, show tk_add ek ef el c (nI 1) (nI p) = ((tk_add ek ef el c (nI 1) (nI p)).1, (tk_add ek ef el c (nI 1) (nI p)).2.1, (tk_add ek ef el c (nI 1) (nI p)).2.2.1, (tk_add ek ef el c (nI 1) (nI p)).2.2.2) from rfl, e8] at e; exact e.symm.trans hrun) (by omega) hP hD hS (lv_sub hl [3, 4, 5, 6, 1, 0] rfl)
                        ·
                          rw [← nI_0] at h
                          have h : ¬ 0 = 0 := fun z9 => h ((nI_eq (a := 0) (b := 0) (by omega) (by omega)).mpr z9)
                          exact absurd rfl h
                      ·
                        rw [← nI_0] at h
                        have h : ¬ 0 = 0 := fun z9 => h ((nI_eq (a := 0) (b := 0) (by omega) (by omega)).mpr z9)
                        exact absurd rfl h
                    ·
                      rw [← nI_0] at h
                      have h : ¬ 0 = 0 := fun z9 => h ((nI_eq (a := 0) (b := 0) (by omega) (by omega)).mpr z9)
                      exact absurd rfl h
                refine lv_iload hx hb dX5_delta_123 (lv_at hl 6 rfl) ?_
                refine lv_if_lt (tgt := 132) hx hb dX5_delta_125 (by decide) (fun h => ?_) (fun h => ?_)
                ·
                  refine lv_iconst (v := nI 0) hx hb dX5_delta_132 (by decide +kernel) ?_
                  refine lv_istore (lv' := [(7, .int (nI 0)), (0, .ref mo), (1, .int (nI s)), (2, .int (nI b)), (3, .int (nI (bn lo s))), (4, .int (nI p)), (5, .int (oI bf)), (6, .int (-1))]) hx hb dX5_delta_133 hl (Nat.le_of_ble_eq_true rfl) rfl (fun ls hl => ?_)
                  refine lv_aload_n hx hb dX5_delta_135 rfl (lv_at hl 1 rfl) ?_
                  refine va_get (D := D) (ci := 5) (v := .int (nI c)) (C := RX5) (T := TX5) (N := 12) hx hb ht inA_X5 hown hK.1 hP 0 rfl rfl 9 (by decide) (ht _ iw_180) (fun _ h9 => h9) rfl dX5_delta_136 ?_
                  refine lv_if_le (tgt := 183) hx hb dX5_delta_139 (by decide) (fun hc0 => ?_) (fun hc0 => ?_)
                  ·
                    rw [← nI_0] at hc0
                    have hc0 : c ≤ 0 := (nI_leI (a := c) (b := 0) (by omega) (by omega)).mp hc0
                    exact lab19  H locs ls (fun z9 => absurd z9.1 (by omega)) hP hD hS (lv_sub hl [1, 2, 3, 4, 5, 6, 7, 0] rfl)
                  ·
                    rw [← nI_0] at hc0
                    have hc0 : ¬ c ≤ 0 := fun z9 => hc0 ((nI_leI (a := c) (b := 0) (by omega) (by omega)).mpr z9)
                    refine lv_iload hx hb dX5_delta_142 (lv_at hl 0 rfl) ?_
                    refine lv_if_eq (tgt := 164) hx hb dX5_delta_144 (by decide) (fun h => ?_) (fun h => ?_)
                    ·
                      rw [← nI_0] at h
                      have h : 0 = 0 := (nI_eq (a := 0) (b := 0) (by omega) (by omega)).mp h
                      refine lv_aload_n hx hb dX5_delta_164 rfl (lv_at hl 1 rfl) ?_
                      refine va_get (D := D) (ci := 5) (v := .ref aK) (C := RX5) (T := TX5) (N := 12) hx hb ht inA_X5 hown hK.1 hP 0 rfl rfl 6 (by decide) (ht _ iw_127) (fun _ h9 => h9) rfl dX5_delta_165 ?_
                      refine lv_aload_n hx hb dX5_delta_168 rfl (lv_at hl 1 rfl) ?_
                      refine va_get (D := D) (ci := 5) (v := .int (nI c)) (C := RX5) (T := TX5) (N := 12) hx hb ht inA_X5 hown hK.1 hP 0 rfl rfl 9 (by decide) (ht _ iw_180) (fun _ h9 => h9) rfl dX5_delta_169 ?_
                      refine lv_iconst (v := nI 1) hx hb dX5_delta_172 (by decide +kernel) ?_
                      refine lv_isub hx hb dX5_delta_173 ?_
                      refine ds_top (z := nI (c - 1)) (pk_sub (by omega)) ?_
                      refine ds_iald (k := c - 1) hx hb hK hP 5 rfl (by omega) (by omega) dX5_delta_174 ?_
                      refine lv_iconst (v := nI 1) hx hb dX5_delta_175 (by decide +kernel) ?_
                      refine lv_icmp_ne (tgt := 183) hx hb dX5_delta_176 (by decide) (fun hk1 => ?_) (fun hk1 => ?_)
                      ·
                        exact lab19  H locs ls (fun z9 => hk1 ((hT.2 (c - 1) (by omega)).1.trans z9.2.1)) hP hD hS (lv_sub hl [1, 2, 3, 4, 5, 6, 7, 0] rfl)
                      ·
                        have hG := more_new hZ.2.1 hT hTI (by omega) hk1
                        have hm := mT_yes hT hG
                        refine lv_iconst (v := nI 1) hx hb dX5_delta_179 (by decide +kernel) ?_
                        refine lv_goto (tgt := 184) hx hb dX5_delta_180 (by decide) ?_
                        refine lv_istore (lv' := [(8, .int (nI 1)), (7, .int (nI 0)), (0, .ref mo), (1, .int (nI s)), (2, .int (nI b)), (3, .int (nI (bn lo s))), (4, .int (nI p)), (5, .int (oI bf)), (6, .int (-1))]) hx hb dX5_delta_184 hl (Nat.le_of_ble_eq_true rfl) rfl (fun ls hl => ?_)
                        refine lv_iload hx hb dX5_delta_186 (lv_at hl 0 rfl) ?_
                        refine lv_if_ne (tgt := 248) hx hb dX5_delta_188 (by decide) (fun h => ?_) (fun h => ?_)
                        ·
                          rw [← nI_0] at h
                          have h : ¬ 1 = 0 := fun z9 => h ((nI_eq (a := 1) (b := 0) (by omega) (by omega)).mpr z9)
                          refine lv_aload_n hx hb dX5_delta_248 rfl (lv_at hl 2 rfl) ?_
                          refine va_get (D := D) (ci := 5) (v := .ref aL) (C := RX5) (T := TX5) (N := 12) hx hb ht inA_X5 hown hK.1 hP 0 rfl rfl 8 (by decide) (ht _ iw_129) (fun _ h9 => h9) rfl dX5_delta_249 ?_
                          refine lv_aload_n hx hb dX5_delta_252 rfl (lv_at hl 2 rfl) ?_
                          refine va_get (D := D) (ci := 5) (v := .int (nI c)) (C := RX5) (T := TX5) (N := 12) hx hb ht inA_X5 hown hK.1 hP 0 rfl rfl 9 (by decide) (ht _ iw_180) (fun _ h9 => h9) rfl dX5_delta_253 ?_
                          refine lv_iconst (v := nI 1) hx hb dX5_delta_256 (by decide +kernel) ?_
                          refine lv_isub hx hb dX5_delta_257 ?_
                          refine ds_top (z := nI (c - 1)) (pk_sub (by omega)) ?_
                          refine lv_dup2_11 hx hb dX5_delta_258 rfl rfl ?_
                          refine ds_iald (k := c - 1) hx hb hK hP 7 rfl (by omega) (by omega) dX5_delta_259 ?_
                          refine lv_iconst (v := nI 1) hx hb dX5_delta_260 (by decide +kernel) ?_
                          refine lv_iadd hx hb dX5_delta_261 ?_
                          refine ds_iast (k := c - 1) hx hb hK hP hD hS 7 rfl (by omega) (by omega) dX5_delta_262 (fun H locs hP hD hS => ?_)
                          have hP : va_P D vwCl [(mo, .inr (5, [.int (nI 0), .ref aO, .ref aT, .ref aM, .ref aZ, .ref aY, .ref aK, .ref aF, .ref aL, .int (nI c), .int (nI 1), .int wd])), (aO, .inl (cI, 2400, .inl O)), (aT, .inl (cI, 2400, .inl T)), (aZ, .inl (cI, 2, .inl Z)), (aY, .inl (cI, 2, .inl Y)), (aK, .inl (cI, 1200, .inl g1)), (aF, .inl (cI, 1200, .inl g2)), (aL, .inl (cI, 1200, .inl (upd g3 (c - 1) ((g3 (c - 1)) + (nI 1)))))] H := hP
                          have hD : va_D A [(mo, .inr (5, [.int (nI 0), .ref aO, .ref aT, .ref aM, .ref aZ, .ref aY, .ref aK, .ref aF, .ref aL, .int (nI c), .int (nI 1), .int wd])), (aO, .inl (cI, 2400, .inl O)), (aT, .inl (cI, 2400, .inl T)), (aZ, .inl (cI, 2, .inl Z)), (aY, .inl (cI, 2, .inl Y)), (aK, .inl (cI, 1200, .inl g1)), (aF, .inl (cI, 1200, .inl g2)), (aL, .inl (cI, 1200, .inl (upd g3 (c - 1) ((g3 (c - 1)) + (nI 1)))))] := hD
                          refine lv_iload hx hb dX5_delta_263 (lv_at hl 6 rfl) ?_
                          refine lv_iload hx hb dX5_delta_265 (lv_at hl 1 rfl) ?_
                          refine lv_if_eq (tgt := 280) hx hb dX5_delta_267 (by decide) (fun h => ?_) (fun h => ?_)
                          ·
                            rw [← nI_0] at h
                            have h : 0 = 0 := (nI_eq (a := 0) (b := 0) (by omega) (by omega)).mp h
                            refine lv_iconst (v := nI 1) hx hb dX5_delta_280 (by decide +kernel) ?_
                            refine lv_iadd hx hb dX5_delta_281 ?_
                            refine ds_top (z := nI (p + 1)) (nI_add _ _) ?_
                            refine lv_istore (lv' := [(4, .int (nI (p + 1))), (8, .int (nI 1)), (7, .int (nI 0)), (0, .ref mo), (1, .int (nI s)), (2, .int (nI b)), (3, .int (nI (bn lo s))), (5, .int (oI bf)), (6, .int (-1))]) hx hb dX5_delta_282 hl (Nat.le_of_ble_eq_true rfl) rfl (fun ls hl => ?_)
                            refine lv_iload hx hb dX5_delta_284 (lv_at hl 8 rfl) ?_
                            refine lv_istore (lv' := [(5, .int (-1)), (4, .int (nI (p + 1))), (8, .int (nI 1)), (7, .int (nI 0)), (0, .ref mo), (1, .int (nI s)), (2, .int (nI b)), (3, .int (nI (bn lo s))), (6, .int (-1))]) hx hb dX5_delta_286 hl (Nat.le_of_ble_eq_true rfl) rfl (fun ls hl => ?_)
                            refine lv_goto (tgt := 37) hx hb dX5_delta_288 (by decide) ?_
                            have e8 := hm.2
                            exact ih12 (p + 1) (i + 1) c none ((tk_add ek ef el c (nI 1) (nI p)).1) ((tk_add ek ef el c (nI 1) (nI p)).2.1) ((tk_add ek ef el c (nI 1) (nI p)).2.2.1) (va_cpy fn em p p 1) g1 g2 (upd g3 (c - 1) (g3 (c - 1) + nI 1)) H locs ls (by omega) (by omega) (by omega) (fun b9 h9 => by cases h9 <;> omega) (by have h9 := hm.1; rw [e8] at h9; exact h9) (by have h9 := hTI2; rw [show tk_add ek ef el c (nI 1) (nI p) = ((tk_add ek ef el c (nI 1) (nI p)).1, (tk_add ek ef el c (nI 1) (nI p)).2.1, (tk_add ek ef el c (nI 1) (nI p)).2.2.1, (tk_add ek ef el c (nI 1) (nI p)).2.2.2) from rfl, e8] at h9; exact h9) (by have e := dl_go (fo := fo) (fn := fn) (lo := lo) (ln := ln) (s := s) (mk := ds_mask b) (t := (p, bf, (ek, ef, el, c), em)) (i := i) (by show p < ln; omega) (by omega); rw [hstep, show tk_add ek ef el c (nI 1) (nI p) = ((tk_add ek ef el c (nI 1) (nI p)).1, (tk_add ek ef el c (nI 1) (nI p)).2.1, (tk_add ek ef el c (nI 1) (nI p)).2.2.1, (tk_add ek ef el c (nI 1) (nI p)).2.2.2) from rfl, e8] at e; exact e.symm.trans hrun) (by omega) hP hD hS (lv_sub hl [4, 5, 6, 7, 1, 0] rfl)
                          ·
                            rw [← nI_0] at h
                            have h : ¬ 0 = 0 := fun z9 => h ((nI_eq (a := 0) (b := 0) (by omega) (by omega)).mpr z9)
                            exact absurd rfl h
                        ·
                          rw [← nI_0] at h
                          have h : 1 = 0 := (nI_eq (a := 1) (b := 0) (by omega) (by omega)).mp h
                          exact absurd h (by decide)
                    ·
                      rw [← nI_0] at h
                      have h : ¬ 0 = 0 := fun z9 => h ((nI_eq (a := 0) (b := 0) (by omega) (by omega)).mpr z9)
                      exact absurd rfl h
                ·
                  exact absurd (by decide) h
              ·
                have hl : lv_has ls 9 [(0, .ref mo), (1, .int (nI s)), (2, .int (nI b)), (3, .int (nI (bn lo s))), (4, .int (nI p)), (5, .int (oI bf)), (6, .int (nI x))] := hl
                obtain ⟨hbn, hfb⟩ := pick_lt hpk
                have hft := of_decide_eq_true hfb
                have hin := bl_in (n := lo) (s := s) (i := x) (by omega) hbn
                have hle : p + bl lo s x ≤ ln := hft.1
                have hstep := dl_some (fk := ek) (ff := ef) (fl := el) (c := c) (fm := em) hpk
                have hTI2 := TI_step (mk := ds_mask b) (fo := fo) (fn := fn) hR.2.2.2.2.1 hR.2.2.2.2.2 h2 hZ.1 hZ.2.1 (t := (p, bf, (ek, ef, el, c), em)) (by show p < ln; omega) hTI
                rw [hstep] at hTI2
                have lab20 : ∀ (H : Heap) (locs : List Loc) (ls : Array Slot), (¬ (0 < c ∧ ek (c - 1) = nI 0 ∧ ef (c - 1) + el (c - 1) = nI x)) → va_P D vwCl [(mo, .inr (5, [.int (nI 0), .ref aO, .ref aT, .ref aM, .ref aZ, .ref aY, .ref aK, .ref aF, .ref aL, .int (nI c), .int (nI 1), .int wd])), (aO, .inl (cI, 2400, .inl O)), (aT, .inl (cI, 2400, .inl T)), (aZ, .inl (cI, 2, .inl Z)), (aY, .inl (cI, 2, .inl Y)), (aK, .inl (cI, 1200, .inl g1)), (aF, .inl (cI, 1200, .inl g2)), (aL, .inl (cI, 1200, .inl g3))] H → va_D A [(mo, .inr (5, [.int (nI 0), .ref aO, .ref aT, .ref aM, .ref aZ, .ref aY, .ref aK, .ref aF, .ref aL, .int (nI c), .int (nI 1), .int wd])), (aO, .inl (cI, 2400, .inl O)), (aT, .inl (cI, 2400, .inl T)), (aZ, .inl (cI, 2, .inl Z)), (aY, .inl (cI, 2, .inl Y)), (aK, .inl (cI, 1200, .inl g1)), (aF, .inl (cI, 1200, .inl g2)), (aL, .inl (cI, 1200, .inl g3))] → va_S A Ss.heap H locs → lv_has ls 9 [(0, .ref mo), (1, .int (nI s)), (2, .int (nI b)), (3, .int (nI (bn lo s))), (4, .int (nI p)), (5, .int (oI bf)), (6, .int (nI x)), (7, .int (nI 1))] → W Pp Ll Ee { frames := 2, cells := 0, slots := 0, locals := 53 } Ss Mm Aa Bb Me Cc H locs 0 0 (MQ Bb (ds_Qi D (fun (r : Int32) (u : Int32 × (Nat → Int32) × (Nat → Int32) × (Nat → Int32) × (Nat → Int32) × (Nat → Int32) × Nat × Int32 × Int32) => (¬ bok (nI s) (nI b) ∧ u.1 = 1 ∧ u.2 = (T, Y, gk, gf, gl, c0, isd, wd)) ∨ (∃ s9 b9 : Nat, (nI s) = nI s9 ∧ (nI b) = nI b9 ∧ 4 ≤ s9 ∧ s9 ≤ 256 ∧ b9 ≤ 64 ∧ u.1 = 0 ∧ ∃ t : dl_T, t = dl fo fn lo ln s9 (ds_mask b9) 1200 (0, none, (fk, ff, fl, 0), fm) ∧ t.2.2.1.2.2.2 = u.2.2.2.2.2.2.1 ∧ r = nI u.2.2.2.2.2.2.1 ∧ u.2.2.2.2.2.2.2.1 = 1 ∧ u.2.2.2.2.2.2.2.2 = nI s9 ∧ mT u.2.2.2.2.2.2.1 t.2.2.1.1 t.2.2.1.2.1 t.2.2.1.2.2.1 u.2.2.2.1 u.2.2.2.2.1 u.2.2.2.2.2.1 ∧ (∃ K a n, TI O lo ln s9 (t.1, t.2.1, (t.2.2.1.1, t.2.2.1.2.1, t.2.2.1.2.2.1, u.2.2.2.2.2.2.1), t.2.2.2) K a n) ∧ u.2.2.1 0 = nI lo ∧ ∀ j, j < 2400 → u.2.1 j = O j)) (fun u : Int32 × (Nat → Int32) × (Nat → Int32) × (Nat → Int32) × (Nat → Int32) × (Nat → Int32) × Nat × Int32 × Int32 => [(mo, .inr (5, [.int u.1, .ref aO, .ref aT, .ref aM, .ref aZ, .ref aY, .ref aK, .ref aF, .ref aL, .int (nI u.2.2.2.2.2.2.1), .int u.2.2.2.2.2.2.2.1, .int u.2.2.2.2.2.2.2.2])), (aO, .inl (cI, 2400, .inl O)), (aT, .inl (cI, 2400, .inl u.2.1)), (aZ, .inl (cI, 2, .inl Z)), (aY, .inl (cI, 2, .inl u.2.2.1)), (aK, .inl (cI, 1200, .inl u.2.2.2.1)), (aF, .inl (cI, 1200, .inl u.2.2.2.2.1)), (aL, .inl (cI, 1200, .inl u.2.2.2.2.2.1))]) A) Aa Ss 0 0 A) (F0 Mm 183 ls []) := by
                  intro  H locs ls hG hP hD hS hl
                  have hm := mT_no hT (by omega) hG
                  refine lv_iconst (v := nI 0) hx hb dX5_delta_183 (by decide +kernel) ?_
                  refine lv_istore (lv' := [(8, .int (nI 0)), (0, .ref mo), (1, .int (nI s)), (2, .int (nI b)), (3, .int (nI (bn lo s))), (4, .int (nI p)), (5, .int (oI bf)), (6, .int (nI x)), (7, .int (nI 1))]) hx hb dX5_delta_184 hl (Nat.le_of_ble_eq_true rfl) rfl (fun ls hl => ?_)
                  refine lv_iload hx hb dX5_delta_186 (lv_at hl 0 rfl) ?_
                  refine lv_if_ne (tgt := 248) hx hb dX5_delta_188 (by decide) (fun h => ?_) (fun h => ?_)
                  ·
                    rw [← nI_0] at h
                    have h : ¬ 0 = 0 := fun z9 => h ((nI_eq (a := 0) (b := 0) (by omega) (by omega)).mpr z9)
                    exact absurd rfl h
                  ·
                    rw [← nI_0] at h
                    have h : 0 = 0 := (nI_eq (a := 0) (b := 0) (by omega) (by omega)).mp h
                    refine lv_aload_n hx hb dX5_delta_191 rfl (lv_at hl 1 rfl) ?_
                    refine va_get (D := D) (ci := 5) (v := .ref aK) (C := RX5) (T := TX5) (N := 12) hx hb ht inA_X5 hown hK.1 hP 0 rfl rfl 6 (by decide) (ht _ iw_127) (fun _ h9 => h9) rfl dX5_delta_192 ?_
                    refine lv_aload_n hx hb dX5_delta_195 rfl (lv_at hl 1 rfl) ?_
                    refine va_get (D := D) (ci := 5) (v := .int (nI c)) (C := RX5) (T := TX5) (N := 12) hx hb ht inA_X5 hown hK.1 hP 0 rfl rfl 9 (by decide) (ht _ iw_180) (fun _ h9 => h9) rfl dX5_delta_196 ?_
                    refine lv_iload hx hb dX5_delta_199 (lv_at hl 8 rfl) ?_
                    refine lv_if_eq (tgt := 208) hx hb dX5_delta_201 (by decide) (fun h => ?_) (fun h => ?_)
                    ·
                      rw [← nI_0] at h
                      have h : 1 = 0 := (nI_eq (a := 1) (b := 0) (by omega) (by omega)).mp h
                      exact absurd h (by decide)
                    ·
                      rw [← nI_0] at h
                      have h : ¬ 1 = 0 := fun z9 => h ((nI_eq (a := 1) (b := 0) (by omega) (by omega)).mpr z9)
                      refine lv_iconst (v := nI 0) hx hb dX5_delta_204 (by decide +kernel) ?_
                      refine lv_goto (tgt := 209) hx hb dX5_delta_205 (by decide) ?_
                      refine ds_iast (k := c) hx hb hK hP hD hS 5 rfl (by omega) (by omega) dX5_delta_209 (fun H locs hP hD hS => ?_)
                      have hP : va_P D vwCl [(mo, .inr (5, [.int (nI 0), .ref aO, .ref aT, .ref aM, .ref aZ, .ref aY, .ref aK, .ref aF, .ref aL, .int (nI c), .int (nI 1), .int wd])), (aO, .inl (cI, 2400, .inl O)), (aT, .inl (cI, 2400, .inl T)), (aZ, .inl (cI, 2, .inl Z)), (aY, .inl (cI, 2, .inl Y)), (aK, .inl (cI, 1200, .inl (upd g1 c (nI 0)))), (aF, .inl (cI, 1200, .inl g2)), (aL, .inl (cI, 1200, .inl g3))] H := hP
                      have hD : va_D A [(mo, .inr (5, [.int (nI 0), .ref aO, .ref aT, .ref aM, .ref aZ, .ref aY, .ref aK, .ref aF, .ref aL, .int (nI c), .int (nI 1), .int wd])), (aO, .inl (cI, 2400, .inl O)), (aT, .inl (cI, 2400, .inl T)), (aZ, .inl (cI, 2, .inl Z)), (aY, .inl (cI, 2, .inl Y)), (aK, .inl (cI, 1200, .inl (upd g1 c (nI 0)))), (aF, .inl (cI, 1200, .inl g2)), (aL, .inl (cI, 1200, .inl g3))] := hD
                      refine lv_aload_n hx hb dX5_delta_210 rfl (lv_at hl 1 rfl) ?_
                      refine va_get (D := D) (ci := 5) (v := .ref aF) (C := RX5) (T := TX5) (N := 12) hx hb ht inA_X5 hown hK.1 hP 0 rfl rfl 7 (by decide) (ht _ iw_128) (fun _ h9 => h9) rfl dX5_delta_211 ?_
                      refine lv_aload_n hx hb dX5_delta_214 rfl (lv_at hl 1 rfl) ?_
                      refine va_get (D := D) (ci := 5) (v := .int (nI c)) (C := RX5) (T := TX5) (N := 12) hx hb ht inA_X5 hown hK.1 hP 0 rfl rfl 9 (by decide) (ht _ iw_180) (fun _ h9 => h9) rfl dX5_delta_215 ?_
                      refine lv_iload hx hb dX5_delta_218 (lv_at hl 8 rfl) ?_
                      refine lv_if_eq (tgt := 228) hx hb dX5_delta_220 (by decide) (fun h => ?_) (fun h => ?_)
                      ·
                        rw [← nI_0] at h
                        have h : 1 = 0 := (nI_eq (a := 1) (b := 0) (by omega) (by omega)).mp h
                        exact absurd h (by decide)
                      ·
                        rw [← nI_0] at h
                        have h : ¬ 1 = 0 := fun z9 => h ((nI_eq (a := 1) (b := 0) (by omega) (by omega)).mpr z9)
                        refine lv_iload hx hb dX5_delta_223 (lv_at hl 7 rfl) ?_
                        refine lv_goto (tgt := 230) hx hb dX5_delta_225 (by decide) ?_
                        refine ds_iast (k := c) hx hb hK hP hD hS 6 rfl (by omega) (by omega) dX5_delta_230 (fun H locs hP hD hS => ?_)
                        have hP : va_P D vwCl [(mo, .inr (5, [.int (nI 0), .ref aO, .ref aT, .ref aM, .ref aZ, .ref aY, .ref aK, .ref aF, .ref aL, .int (nI c), .int (nI 1), .int wd])), (aO, .inl (cI, 2400, .inl O)), (aT, .inl (cI, 2400, .inl T)), (aZ, .inl (cI, 2, .inl Z)), (aY, .inl (cI, 2, .inl Y)), (aK, .inl (cI, 1200, .inl (upd g1 c (nI 0)))), (aF, .inl (cI, 1200, .inl (upd g2 c (nI x)))), (aL, .inl (cI, 1200, .inl g3))] H := hP
                        have hD : va_D A [(mo, .inr (5, [.int (nI 0), .ref aO, .ref aT, .ref aM, .ref aZ, .ref aY, .ref aK, .ref aF, .ref aL, .int (nI c), .int (nI 1), .int wd])), (aO, .inl (cI, 2400, .inl O)), (aT, .inl (cI, 2400, .inl T)), (aZ, .inl (cI, 2, .inl Z)), (aY, .inl (cI, 2, .inl Y)), (aK, .inl (cI, 1200, .inl (upd g1 c (nI 0)))), (aF, .inl (cI, 1200, .inl (upd g2 c (nI x)))), (aL, .inl (cI, 1200, .inl g3))] := hD
                        refine lv_aload_n hx hb dX5_delta_231 rfl (lv_at hl 1 rfl) ?_
                        refine va_get (D := D) (ci := 5) (v := .ref aL) (C := RX5) (T := TX5) (N := 12) hx hb ht inA_X5 hown hK.1 hP 0 rfl rfl 8 (by decide) (ht _ iw_129) (fun _ h9 => h9) rfl dX5_delta_232 ?_
                        refine lv_aload_n hx hb dX5_delta_235 rfl (lv_at hl 1 rfl) ?_
                        refine lv_dup hx hb dX5_delta_236 rfl ?_
                        refine va_get (D := D) (ci := 5) (v := .int (nI c)) (C := RX5) (T := TX5) (N := 12) hx hb ht inA_X5 hown hK.1 hP 0 rfl rfl 9 (by decide) (ht _ iw_180) (fun _ h9 => h9) rfl dX5_delta_237 ?_
                        refine lv_dup_x1 hx hb dX5_delta_240 rfl rfl ?_
                        refine lv_iconst (v := nI 1) hx hb dX5_delta_241 (by decide +kernel) ?_
                        refine lv_iadd hx hb dX5_delta_242 ?_
                        refine ds_top (z := nI (c + 1)) (nI_add _ _) ?_
                        refine va_put (D := D) (ci := 5) (v := .int (nI (c + 1))) (ty := .int) (C := RX5) (T := TX5) (N := 12) hx hb ht inA_X5 tyX5 tyX5_ok nmX5 hown hK.1 hP hD hS 0 rfl rfl 9 (by decide) (ht _ iw_180) (fun _ h9 => h9) rfl (by decide +kernel) rfl rfl (Nat.le_of_ble_eq_true rfl) dX5_delta_243 (fun H locs hP hD hS => ?_)
                        have hP : va_P D vwCl [(mo, .inr (5, [.int (nI 0), .ref aO, .ref aT, .ref aM, .ref aZ, .ref aY, .ref aK, .ref aF, .ref aL, .int (nI (c + 1)), .int (nI 1), .int wd])), (aO, .inl (cI, 2400, .inl O)), (aT, .inl (cI, 2400, .inl T)), (aZ, .inl (cI, 2, .inl Z)), (aY, .inl (cI, 2, .inl Y)), (aK, .inl (cI, 1200, .inl (upd g1 c (nI 0)))), (aF, .inl (cI, 1200, .inl (upd g2 c (nI x)))), (aL, .inl (cI, 1200, .inl g3))] H := hP
                        have hD : va_D A [(mo, .inr (5, [.int (nI 0), .ref aO, .ref aT, .ref aM, .ref aZ, .ref aY, .ref aK, .ref aF, .ref aL, .int (nI (c + 1)), .int (nI 1), .int wd])), (aO, .inl (cI, 2400, .inl O)), (aT, .inl (cI, 2400, .inl T)), (aZ, .inl (cI, 2, .inl Z)), (aY, .inl (cI, 2, .inl Y)), (aK, .inl (cI, 1200, .inl (upd g1 c (nI 0)))), (aF, .inl (cI, 1200, .inl (upd g2 c (nI x)))), (aL, .inl (cI, 1200, .inl g3))] := hD
                        refine lv_iconst (v := nI 0) hx hb dX5_delta_246 (by decide +kernel) ?_
                        refine ds_iast (k := c) hx hb hK hP hD hS 7 rfl (by omega) (by omega) dX5_delta_247 (fun H locs hP hD hS => ?_)
                        have hP : va_P D vwCl [(mo, .inr (5, [.int (nI 0), .ref aO, .ref aT, .ref aM, .ref aZ, .ref aY, .ref aK, .ref aF, .ref aL, .int (nI (c + 1)), .int (nI 1), .int wd])), (aO, .inl (cI, 2400, .inl O)), (aT, .inl (cI, 2400, .inl T)), (aZ, .inl (cI, 2, .inl Z)), (aY, .inl (cI, 2, .inl Y)), (aK, .inl (cI, 1200, .inl (upd g1 c (nI 0)))), (aF, .inl (cI, 1200, .inl (upd g2 c (nI x)))), (aL, .inl (cI, 1200, .inl (upd g3 c (nI 0))))] H := hP
                        have hD : va_D A [(mo, .inr (5, [.int (nI 0), .ref aO, .ref aT, .ref aM, .ref aZ, .ref aY, .ref aK, .ref aF, .ref aL, .int (nI (c + 1)), .int (nI 1), .int wd])), (aO, .inl (cI, 2400, .inl O)), (aT, .inl (cI, 2400, .inl T)), (aZ, .inl (cI, 2, .inl Z)), (aY, .inl (cI, 2, .inl Y)), (aK, .inl (cI, 1200, .inl (upd g1 c (nI 0)))), (aF, .inl (cI, 1200, .inl (upd g2 c (nI x)))), (aL, .inl (cI, 1200, .inl (upd g3 c (nI 0))))] := hD
                        refine lv_aload_n hx hb dX5_delta_248 rfl (lv_at hl 1 rfl) ?_
                        refine va_get (D := D) (ci := 5) (v := .ref aL) (C := RX5) (T := TX5) (N := 12) hx hb ht inA_X5 hown hK.1 hP 0 rfl rfl 8 (by decide) (ht _ iw_129) (fun _ h9 => h9) rfl dX5_delta_249 ?_
                        refine lv_aload_n hx hb dX5_delta_252 rfl (lv_at hl 1 rfl) ?_
                        refine va_get (D := D) (ci := 5) (v := .int (nI (c + 1))) (C := RX5) (T := TX5) (N := 12) hx hb ht inA_X5 hown hK.1 hP 0 rfl rfl 9 (by decide) (ht _ iw_180) (fun _ h9 => h9) rfl dX5_delta_253 ?_
                        refine lv_iconst (v := nI 1) hx hb dX5_delta_256 (by decide +kernel) ?_
                        refine lv_isub hx hb dX5_delta_257 ?_
                        refine ds_top (z := nI ((c + 1) - 1)) (pk_sub (by omega)) ?_
                        refine ds_top (z := nI (c)) (congrArg nI (by omega)) ?_
                        refine lv_dup2_11 hx hb dX5_delta_258 rfl rfl ?_
                        refine ds_iald (k := c) hx hb hK hP 7 rfl (by omega) (by omega) dX5_delta_259 ?_
                        refine lv_iconst (v := nI 1) hx hb dX5_delta_260 (by decide +kernel) ?_
                        refine lv_iadd hx hb dX5_delta_261 ?_
                        refine ds_iast (k := c) hx hb hK hP hD hS 7 rfl (by omega) (by omega) dX5_delta_262 (fun H locs hP hD hS => ?_)
                        have hP : va_P D vwCl [(mo, .inr (5, [.int (nI 0), .ref aO, .ref aT, .ref aM, .ref aZ, .ref aY, .ref aK, .ref aF, .ref aL, .int (nI (c + 1)), .int (nI 1), .int wd])), (aO, .inl (cI, 2400, .inl O)), (aT, .inl (cI, 2400, .inl T)), (aZ, .inl (cI, 2, .inl Z)), (aY, .inl (cI, 2, .inl Y)), (aK, .inl (cI, 1200, .inl (upd g1 c (nI 0)))), (aF, .inl (cI, 1200, .inl (upd g2 c (nI x)))), (aL, .inl (cI, 1200, .inl (upd (upd g3 c (nI 0)) c (((upd g3 c (nI 0)) c) + (nI 1)))))] H := hP
                        have hD : va_D A [(mo, .inr (5, [.int (nI 0), .ref aO, .ref aT, .ref aM, .ref aZ, .ref aY, .ref aK, .ref aF, .ref aL, .int (nI (c + 1)), .int (nI 1), .int wd])), (aO, .inl (cI, 2400, .inl O)), (aT, .inl (cI, 2400, .inl T)), (aZ, .inl (cI, 2, .inl Z)), (aY, .inl (cI, 2, .inl Y)), (aK, .inl (cI, 1200, .inl (upd g1 c (nI 0)))), (aF, .inl (cI, 1200, .inl (upd g2 c (nI x)))), (aL, .inl (cI, 1200, .inl (upd (upd g3 c (nI 0)) c (((upd g3 c (nI 0)) c) + (nI 1)))))] := hD
                        refine lv_iload hx hb dX5_delta_263 (lv_at hl 5 rfl) ?_
                        refine lv_iload hx hb dX5_delta_265 (lv_at hl 8 rfl) ?_
                        refine lv_if_eq (tgt := 280) hx hb dX5_delta_267 (by decide) (fun h => ?_) (fun h => ?_)
                        ·
                          rw [← nI_0] at h
                          have h : 1 = 0 := (nI_eq (a := 1) (b := 0) (by omega) (by omega)).mp h
                          exact absurd h (by decide)
                        ·
                          rw [← nI_0] at h
                          have h : ¬ 1 = 0 := fun z9 => h ((nI_eq (a := 1) (b := 0) (by omega) (by omega)).mpr z9)
                          refine lv_aload_n hx hb dX5_delta_270 rfl (lv_at hl 1 rfl) ?_
                          refine lv_iload_n hx hb dX5_delta_271 rfl (lv_at hl 2 rfl) ?_
                          refine lv_iload hx hb dX5_delta_272 (lv_at hl 7 rfl) ?_
                          refine ds_calli (wc := [(mo, .inr (5, [.int (nI 0), .ref aO, .ref aT, .ref aM, .ref aZ, .ref aY, .ref aK, .ref aF, .ref aL, .int (nI (c + 1)), .int (nI 1), .int wd])), (aZ, .inl (cI, 2, .inl Z))]) (wr := [(aO, .inl (cI, 2400, .inl O)), (aT, .inl (cI, 2400, .inl T)), (aY, .inl (cI, 2, .inl Y)), (aK, .inl (cI, 1200, .inl (upd g1 c (nI 0)))), (aF, .inl (cI, 1200, .inl (upd g2 c (nI x)))), (aL, .inl (cI, 1200, .inl (upd (upd g3 c (nI 0)) c (((upd g3 c (nI 0)) c) + (nI 1)))))]) (wo := (fun u22 : Unit => [(mo, .inr (5, [.int (nI 0), .ref aO, .ref aT, .ref aM, .ref aZ, .ref aY, .ref aK, .ref aF, .ref aL, .int (nI (c + 1)), .int (nI 1), .int wd])), (aZ, .inl (cI, 2, .inl Z))])) (wn := (fun u22 : Unit => [(mo, .inr (5, [.int (nI 0), .ref aO, .ref aT, .ref aM, .ref aZ, .ref aY, .ref aK, .ref aF, .ref aL, .int (nI (c + 1)), .int (nI 1), .int wd])), (aO, .inl (cI, 2400, .inl O)), (aT, .inl (cI, 2400, .inl T)), (aZ, .inl (cI, 2, .inl Z)), (aY, .inl (cI, 2, .inl Y)), (aK, .inl (cI, 1200, .inl (upd g1 c (nI 0)))), (aF, .inl (cI, 1200, .inl (upd g2 c (nI x)))), (aL, .inl (cI, 1200, .inl (upd (upd g3 c (nI 0)) c (((upd g3 c (nI 0)) c) + (nI 1)))))])) (isC := [0, 3]) (isR := [1, 2, 4, 5, 6, 7]) hP hD hS hA ⟨rfl, rfl, by decide, by decide, by decide⟩ [6, 0, 1, 7, 2, 3, 4, 5] (by decide) (fun _ => rfl) (fun hPc hDc => va_runV (As := [.int (nI s), .int (nI x)]) (rest := [.int (nI p)]) ⟨hx, hb, hml, hown, ht⟩ (c_X5_length Ll D cI cL mo aO aT aM aZ aY aK aF aL (nI 0) (c + 1) (nI 1) wd Z lo s x hZ.2.2.1 hZ.1 h2 h3 hbn H.size) ⟨(callB_of 2 ht g_X5_length rfl rfl rfl (ht _ iw_136) (ht _ iw_166) hd_X5_length ⟨Nat.le_of_ble_eq_true rfl, Nat.le_of_ble_eq_true rfl⟩), (ht _ iw_167), (ht _ iw_168)⟩ (ds_pV hPc hDc hK (q0 := 0) rfl rfl) rfl rfl hl.1 rfl (lv_room (Nat.le_of_ble_eq_true rfl)) dX5_delta_274 ⟨Nat.le_of_ble_eq_true rfl, Nat.le_of_ble_eq_true rfl⟩) (fun r21 u22 H locs hp23 hP hD hS => ?_)
                          have hP : va_P D vwCl [(mo, .inr (5, [.int (nI 0), .ref aO, .ref aT, .ref aM, .ref aZ, .ref aY, .ref aK, .ref aF, .ref aL, .int (nI (c + 1)), .int (nI 1), .int wd])), (aO, .inl (cI, 2400, .inl O)), (aT, .inl (cI, 2400, .inl T)), (aZ, .inl (cI, 2, .inl Z)), (aY, .inl (cI, 2, .inl Y)), (aK, .inl (cI, 1200, .inl (upd g1 c (nI 0)))), (aF, .inl (cI, 1200, .inl (upd g2 c (nI x)))), (aL, .inl (cI, 1200, .inl (upd (upd g3 c (nI 0)) c (((upd g3 c (nI 0)) c) + (nI 1)))))] H := hP
                          have hD : va_D A [(mo, .inr (5, [.int (nI 0), .ref aO, .ref aT, .ref aM, .ref aZ, .ref aY, .ref aK, .ref aF, .ref aL, .int (nI (c + 1)), .int (nI 1), .int wd])), (aO, .inl (cI, 2400, .inl O)), (aT, .inl (cI, 2400, .inl T)), (aZ, .inl (cI, 2, .inl Z)), (aY, .inl (cI, 2, .inl Y)), (aK, .inl (cI, 1200, .inl (upd g1 c (nI 0)))), (aF, .inl (cI, 1200, .inl (upd g2 c (nI x)))), (aL, .inl (cI, 1200, .inl (upd (upd g3 c (nI 0)) c (((upd g3 c (nI 0)) c) + (nI 1)))))] := hD
                          have hp23 : r21 = nI (bl lo s x) := hp23
                          replace hp23 := Eq.symm hp23
                          subst hp23
                          refine lv_goto (tgt := 281) hx hb dX5_delta_277 (by decide) ?_
                          refine lv_iadd hx hb dX5_delta_281 ?_
                          refine ds_top (z := nI (p + (bl lo s x))) (nI_add _ _) ?_
                          refine lv_istore (lv' := [(4, .int (nI (p + (bl lo s x)))), (8, .int (nI 0)), (0, .ref mo), (1, .int (nI s)), (2, .int (nI b)), (3, .int (nI (bn lo s))), (5, .int (oI bf)), (6, .int (nI x)), (7, .int (nI 1))]) hx hb dX5_delta_282 hl (Nat.le_of_ble_eq_true rfl) rfl (fun ls hl => ?_)
                          refine lv_iload hx hb dX5_delta_284 (lv_at hl 7 rfl) ?_
                          refine lv_istore (lv' := [(5, .int (nI x)), (4, .int (nI (p + (bl lo s x)))), (8, .int (nI 0)), (0, .ref mo), (1, .int (nI s)), (2, .int (nI b)), (3, .int (nI (bn lo s))), (6, .int (nI x)), (7, .int (nI 1))]) hx hb dX5_delta_286 hl (Nat.le_of_ble_eq_true rfl) rfl (fun ls hl => ?_)
                          refine lv_goto (tgt := 37) hx hb dX5_delta_288 (by decide) ?_
                          have e8 := hm.2
                          exact ih12 (p + bl lo s x) (i + 1) (c + 1) (some x) ((tk_add ek ef el c (nI 0) (nI x)).1) ((tk_add ek ef el c (nI 0) (nI x)).2.1) ((tk_add ek ef el c (nI 0) (nI x)).2.2.1) (va_cpy fo em (x * s) p (bl lo s x)) (upd g1 c (nI 0)) (upd g2 c (nI x)) (upd (upd g3 c (nI 0)) c (upd g3 c (nI 0) c + nI 1)) H locs ls (by omega) (by omega) (by omega) (fun b9 h9 => by cases h9 <;> omega) (by have h9 := hm.1; rw [e8] at h9; exact h9) (by have h9 := hTI2; rw [show tk_add ek ef el c (nI 0) (nI x) = ((tk_add ek ef el c (nI 0) (nI x)).1, (tk_add ek ef el c (nI 0) (nI x)).2.1, (tk_add ek ef el c (nI 0) (nI x)).2.2.1, (tk_add ek ef el c (nI 0) (nI x)).2.2.2) from rfl, e8] at h9; exact h9) (by have e := dl_go (fo := fo) (fn := fn) (lo := lo) (ln := ln) (s := s) (mk := ds_mask b) (t := (p, bf, (ek, ef, el, c), em)) (i := i) (by show p < ln; omega) (by omega); rw [hstep, show tk_add ek ef el c (nI 0) (nI x) = ((tk_add ek ef el c (nI 0) (nI x)).1, (tk_add ek ef el c (nI 0) (nI x)).2.1, (tk_add ek ef el c (nI 0) (nI x)).2.2.1, (tk_add ek ef el c (nI 0) (nI x)).2.2.2) from rfl, e8] at e; exact e.symm.trans hrun) (by omega) hP hD hS (lv_sub hl [3, 4, 5, 6, 1, 0] rfl)
                refine lv_iload hx hb dX5_delta_123 (lv_at hl 6 rfl) ?_
                refine lv_if_lt (tgt := 132) hx hb dX5_delta_125 (by decide) (fun h => ?_) (fun h => ?_)
                ·
                  rw [← nI_0] at h
                  have h : x < 0 := (nI_ltI (a := x) (b := 0) (by omega) (by omega)).mp h
                  exfalso; omega
                ·
                  rw [← nI_0] at h
                  have h : ¬ x < 0 := fun z9 => h ((nI_ltI (a := x) (b := 0) (by omega) (by omega)).mpr z9)
                  refine lv_iconst (v := nI 1) hx hb dX5_delta_128 (by decide +kernel) ?_
                  refine lv_goto (tgt := 133) hx hb dX5_delta_129 (by decide) ?_
                  refine lv_istore (lv' := [(7, .int (nI 1)), (0, .ref mo), (1, .int (nI s)), (2, .int (nI b)), (3, .int (nI (bn lo s))), (4, .int (nI p)), (5, .int (oI bf)), (6, .int (nI x))]) hx hb dX5_delta_133 hl (Nat.le_of_ble_eq_true rfl) rfl (fun ls hl => ?_)
                  refine lv_aload_n hx hb dX5_delta_135 rfl (lv_at hl 1 rfl) ?_
                  refine va_get (D := D) (ci := 5) (v := .int (nI c)) (C := RX5) (T := TX5) (N := 12) hx hb ht inA_X5 hown hK.1 hP 0 rfl rfl 9 (by decide) (ht _ iw_180) (fun _ h9 => h9) rfl dX5_delta_136 ?_
                  refine lv_if_le (tgt := 183) hx hb dX5_delta_139 (by decide) (fun hc0 => ?_) (fun hc0 => ?_)
                  ·
                    rw [← nI_0] at hc0
                    have hc0 : c ≤ 0 := (nI_leI (a := c) (b := 0) (by omega) (by omega)).mp hc0
                    exact lab20  H locs ls (fun z9 => absurd z9.1 (by omega)) hP hD hS (lv_sub hl [1, 2, 3, 4, 5, 6, 7, 0] rfl)
                  ·
                    rw [← nI_0] at hc0
                    have hc0 : ¬ c ≤ 0 := fun z9 => hc0 ((nI_leI (a := c) (b := 0) (by omega) (by omega)).mpr z9)
                    refine lv_iload hx hb dX5_delta_142 (lv_at hl 0 rfl) ?_
                    refine lv_if_eq (tgt := 164) hx hb dX5_delta_144 (by decide) (fun h => ?_) (fun h => ?_)
                    ·
                      rw [← nI_0] at h
                      have h : 1 = 0 := (nI_eq (a := 1) (b := 0) (by omega) (by omega)).mp h
                      exact absurd h (by decide)
                    ·
                      rw [← nI_0] at h
                      have h : ¬ 1 = 0 := fun z9 => h ((nI_eq (a := 1) (b := 0) (by omega) (by omega)).mpr z9)
                      have hNo : ¬ (∃ l, bf = Option.some l ∧ x = l + 1) → ¬ (0 < c ∧ ek (c - 1) = nI 0 ∧ ef (c - 1) + el (c - 1) = nI x) := fun g9 z9 => g9 (more_copy_no hb3 hZ.2.1 (by omega) hTI z9)
                      rcases bf with _ | l
                      ·
                        have hl : lv_has ls 9 [(7, .int (nI 1)), (0, .ref mo), (1, .int (nI s)), (2, .int (nI b)), (3, .int (nI (bn lo s))), (4, .int (nI p)), (5, .int (-1)), (6, .int (nI x))] := hl
                        refine lv_iload hx hb dX5_delta_147 (lv_at hl 6 rfl) ?_
                        refine lv_if_lt (tgt := 183) hx hb dX5_delta_149 (by decide) (fun h => ?_) (fun h => ?_)
                        ·
                          exact lab20  H locs ls (hNo (fun z9 => by obtain ⟨l, e8, _⟩ := z9; cases e8)) hP hD hS (lv_sub hl [1, 2, 3, 4, 5, 6, 7, 0] rfl)
                        ·
                          exact absurd (by decide) h
                      ·
                        have hl3 := hbf l rfl
                        have hl : lv_has ls 9 [(7, .int (nI 1)), (0, .ref mo), (1, .int (nI s)), (2, .int (nI b)), (3, .int (nI (bn lo s))), (4, .int (nI p)), (5, .int (nI l)), (6, .int (nI x))] := hl
                        refine lv_iload hx hb dX5_delta_147 (lv_at hl 6 rfl) ?_
                        refine lv_if_lt (tgt := 183) hx hb dX5_delta_149 (by decide) (fun h => ?_) (fun h => ?_)
                        ·
                          rw [← nI_0] at h
                          have h : l < 0 := (nI_ltI (a := l) (b := 0) (by omega) (by omega)).mp h
                          exfalso; omega
                        ·
                          rw [← nI_0] at h
                          have h : ¬ l < 0 := fun z9 => h ((nI_ltI (a := l) (b := 0) (by omega) (by omega)).mpr z9)
                          refine lv_iload hx hb dX5_delta_152 (lv_at hl 7 rfl) ?_
                          refine lv_iload hx hb dX5_delta_154 (lv_at hl 6 rfl) ?_
                          refine lv_iconst (v := nI 1) hx hb dX5_delta_156 (by decide +kernel) ?_
                          refine lv_iadd hx hb dX5_delta_157 ?_
                          refine ds_top (z := nI (l + 1)) (nI_add _ _) ?_
                          refine lv_icmp_ne (tgt := 183) hx hb dX5_delta_158 (by decide) (fun hx1 => ?_) (fun hx1 => ?_)
                          ·
                            have hx1 : ¬ x = (l + 1) := fun z9 => hx1 ((nI_eq (a := x) (b := (l + 1)) (by omega) (by omega)).mpr z9)
                            exact lab20  H locs ls (hNo (fun z9 => by obtain ⟨l9, e8, e9⟩ := z9; cases e8; exact hx1 e9)) hP hD hS (lv_sub hl [1, 2, 3, 4, 5, 6, 7, 0] rfl)
                          ·
                            have hx1 : x = (l + 1) := (nI_eq (a := x) (b := (l + 1)) (by omega) (by omega)).mp hx1
                            have hG := more_copy hTI (by omega) (rfl : Option.some l = Option.some l)
                            rw [← hx1] at hG
                            have hm := mT_yes hT hG
                            refine lv_goto (tgt := 179) hx hb dX5_delta_161 (by decide) ?_
                            refine lv_iconst (v := nI 1) hx hb dX5_delta_179 (by decide +kernel) ?_
                            refine lv_goto (tgt := 184) hx hb dX5_delta_180 (by decide) ?_
                            refine lv_istore (lv' := [(8, .int (nI 1)), (7, .int (nI 1)), (0, .ref mo), (1, .int (nI s)), (2, .int (nI b)), (3, .int (nI (bn lo s))), (4, .int (nI p)), (5, .int (nI l)), (6, .int (nI x))]) hx hb dX5_delta_184 hl (Nat.le_of_ble_eq_true rfl) rfl (fun ls hl => ?_)
                            refine lv_iload hx hb dX5_delta_186 (lv_at hl 0 rfl) ?_
                            refine lv_if_ne (tgt := 248) hx hb dX5_delta_188 (by decide) (fun h => ?_) (fun h => ?_)
                            ·
                              rw [← nI_0] at h
                              have h : ¬ 1 = 0 := fun z9 => h ((nI_eq (a := 1) (b := 0) (by omega) (by omega)).mpr z9)
                              refine lv_aload_n hx hb dX5_delta_248 rfl (lv_at hl 2 rfl) ?_
                              refine va_get (D := D) (ci := 5) (v := .ref aL) (C := RX5) (T := TX5) (N := 12) hx hb ht inA_X5 hown hK.1 hP 0 rfl rfl 8 (by decide) (ht _ iw_129) (fun _ h9 => h9) rfl dX5_delta_249 ?_
                              refine lv_aload_n hx hb dX5_delta_252 rfl (lv_at hl 2 rfl) ?_
                              refine va_get (D := D) (ci := 5) (v := .int (nI c)) (C := RX5) (T := TX5) (N := 12) hx hb ht inA_X5 hown hK.1 hP 0 rfl rfl 9 (by decide) (ht _ iw_180) (fun _ h9 => h9) rfl dX5_delta_253 ?_
                              refine lv_iconst (v := nI 1) hx hb dX5_delta_256 (by decide +kernel) ?_
                              refine lv_isub hx hb dX5_delta_257 ?_
                              refine ds_top (z := nI (c - 1)) (pk_sub (by omega)) ?_
                              refine lv_dup2_11 hx hb dX5_delta_258 rfl rfl ?_
                              refine ds_iald (k := c - 1) hx hb hK hP 7 rfl (by omega) (by omega) dX5_delta_259 ?_
                              refine lv_iconst (v := nI 1) hx hb dX5_delta_260 (by decide +kernel) ?_
                              refine lv_iadd hx hb dX5_delta_261 ?_
                              refine ds_iast (k := c - 1) hx hb hK hP hD hS 7 rfl (by omega) (by omega) dX5_delta_262 (fun H locs hP hD hS => ?_)
                              have hP : va_P D vwCl [(mo, .inr (5, [.int (nI 0), .ref aO, .ref aT, .ref aM, .ref aZ, .ref aY, .ref aK, .ref aF, .ref aL, .int (nI c), .int (nI 1), .int wd])), (aO, .inl (cI, 2400, .inl O)), (aT, .inl (cI, 2400, .inl T)), (aZ, .inl (cI, 2, .inl Z)), (aY, .inl (cI, 2, .inl Y)), (aK, .inl (cI, 1200, .inl g1)), (aF, .inl (cI, 1200, .inl g2)), (aL, .inl (cI, 1200, .inl (upd g3 (c - 1) ((g3 (c - 1)) + (nI 1)))))] H := hP
                              have hD : va_D A [(mo, .inr (5, [.int (nI 0), .ref aO, .ref aT, .ref aM, .ref aZ, .ref aY, .ref aK, .ref aF, .ref aL, .int (nI c), .int (nI 1), .int wd])), (aO, .inl (cI, 2400, .inl O)), (aT, .inl (cI, 2400, .inl T)), (aZ, .inl (cI, 2, .inl Z)), (aY, .inl (cI, 2, .inl Y)), (aK, .inl (cI, 1200, .inl g1)), (aF, .inl (cI, 1200, .inl g2)), (aL, .inl (cI, 1200, .inl (upd g3 (c - 1) ((g3 (c - 1)) + (nI 1)))))] := hD
                              refine lv_iload hx hb dX5_delta_263 (lv_at hl 6 rfl) ?_
                              refine lv_iload hx hb dX5_delta_265 (lv_at hl 1 rfl) ?_
                              refine lv_if_eq (tgt := 280) hx hb dX5_delta_267 (by decide) (fun h => ?_) (fun h => ?_)
                              ·
                                rw [← nI_0] at h
                                have h : 1 = 0 := (nI_eq (a := 1) (b := 0) (by omega) (by omega)).mp h
                                exact absurd h (by decide)
                              ·
                                rw [← nI_0] at h
                                have h : ¬ 1 = 0 := fun z9 => h ((nI_eq (a := 1) (b := 0) (by omega) (by omega)).mpr z9)
                                refine lv_aload_n hx hb dX5_delta_270 rfl (lv_at hl 2 rfl) ?_
                                refine lv_iload_n hx hb dX5_delta_271 rfl (lv_at hl 3 rfl) ?_
                                refine lv_iload hx hb dX5_delta_272 (lv_at hl 8 rfl) ?_
                                refine ds_calli (wc := [(mo, .inr (5, [.int (nI 0), .ref aO, .ref aT, .ref aM, .ref aZ, .ref aY, .ref aK, .ref aF, .ref aL, .int (nI c), .int (nI 1), .int wd])), (aZ, .inl (cI, 2, .inl Z))]) (wr := [(aO, .inl (cI, 2400, .inl O)), (aT, .inl (cI, 2400, .inl T)), (aY, .inl (cI, 2, .inl Y)), (aK, .inl (cI, 1200, .inl g1)), (aF, .inl (cI, 1200, .inl g2)), (aL, .inl (cI, 1200, .inl (upd g3 (c - 1) ((g3 (c - 1)) + (nI 1)))))]) (wo := (fun u25 : Unit => [(mo, .inr (5, [.int (nI 0), .ref aO, .ref aT, .ref aM, .ref aZ, .ref aY, .ref aK, .ref aF, .ref aL, .int (nI c), .int (nI 1), .int wd])), (aZ, .inl (cI, 2, .inl Z))])) (wn := (fun u25 : Unit => [(mo, .inr (5, [.int (nI 0), .ref aO, .ref aT, .ref aM, .ref aZ, .ref aY, .ref aK, .ref aF, .ref aL, .int (nI c), .int (nI 1), .int wd])), (aO, .inl (cI, 2400, .inl O)), (aT, .inl (cI, 2400, .inl T)), (aZ, .inl (cI, 2, .inl Z)), (aY, .inl (cI, 2, .inl Y)), (aK, .inl (cI, 1200, .inl g1)), (aF, .inl (cI, 1200, .inl g2)), (aL, .inl (cI, 1200, .inl (upd g3 (c - 1) ((g3 (c - 1)) + (nI 1)))))])) (isC := [0, 3]) (isR := [1, 2, 4, 5, 6, 7]) hP hD hS hA ⟨rfl, rfl, by decide, by decide, by decide⟩ [6, 0, 1, 7, 2, 3, 4, 5] (by decide) (fun _ => rfl) (fun hPc hDc => va_runV (As := [.int (nI s), .int (nI x)]) (rest := [.int (nI p)]) ⟨hx, hb, hml, hown, ht⟩ (c_X5_length Ll D cI cL mo aO aT aM aZ aY aK aF aL (nI 0) c (nI 1) wd Z lo s x hZ.2.2.1 hZ.1 h2 h3 hbn H.size) ⟨(callB_of 2 ht g_X5_length rfl rfl rfl (ht _ iw_136) (ht _ iw_166) hd_X5_length ⟨Nat.le_of_ble_eq_true rfl, Nat.le_of_ble_eq_true rfl⟩), (ht _ iw_167), (ht _ iw_168)⟩ (ds_pV hPc hDc hK (q0 := 0) rfl rfl) rfl rfl hl.1 rfl (lv_room (Nat.le_of_ble_eq_true rfl)) dX5_delta_274 ⟨Nat.le_of_ble_eq_true rfl, Nat.le_of_ble_eq_true rfl⟩) (fun r24 u25 H locs hp26 hP hD hS => ?_)
                                have hP : va_P D vwCl [(mo, .inr (5, [.int (nI 0), .ref aO, .ref aT, .ref aM, .ref aZ, .ref aY, .ref aK, .ref aF, .ref aL, .int (nI c), .int (nI 1), .int wd])), (aO, .inl (cI, 2400, .inl O)), (aT, .inl (cI, 2400, .inl T)), (aZ, .inl (cI, 2, .inl Z)), (aY, .inl (cI, 2, .inl Y)), (aK, .inl (cI, 1200, .inl g1)), (aF, .inl (cI, 1200, .inl g2)), (aL, .inl (cI, 1200, .inl (upd g3 (c - 1) ((g3 (c - 1)) + (nI 1)))))] H := hP
                                have hD : va_D A [(mo, .inr (5, [.int (nI 0), .ref aO, .ref aT, .ref aM, .ref aZ, .ref aY, .ref aK, .ref aF, .ref aL, .int (nI c), .int (nI 1), .int wd])), (aO, .inl (cI, 2400, .inl O)), (aT, .inl (cI, 2400, .inl T)), (aZ, .inl (cI, 2, .inl Z)), (aY, .inl (cI, 2, .inl Y)), (aK, .inl (cI, 1200, .inl g1)), (aF, .inl (cI, 1200, .inl g2)), (aL, .inl (cI, 1200, .inl (upd g3 (c - 1) ((g3 (c - 1)) + (nI 1)))))] := hD
                                have hp26 : r24 = nI (bl lo s x) := hp26
                                replace hp26 := Eq.symm hp26
                                subst hp26
                                refine lv_goto (tgt := 281) hx hb dX5_delta_277 (by decide) ?_
                                refine lv_iadd hx hb dX5_delta_281 ?_
                                refine ds_top (z := nI (p + (bl lo s x))) (nI_add _ _) ?_
                                refine lv_istore (lv' := [(4, .int (nI (p + (bl lo s x)))), (8, .int (nI 1)), (7, .int (nI 1)), (0, .ref mo), (1, .int (nI s)), (2, .int (nI b)), (3, .int (nI (bn lo s))), (5, .int (nI l)), (6, .int (nI x))]) hx hb dX5_delta_282 hl (Nat.le_of_ble_eq_true rfl) rfl (fun ls hl => ?_)
                                refine lv_iload hx hb dX5_delta_284 (lv_at hl 8 rfl) ?_
                                refine lv_istore (lv' := [(5, .int (nI x)), (4, .int (nI (p + (bl lo s x)))), (8, .int (nI 1)), (7, .int (nI 1)), (0, .ref mo), (1, .int (nI s)), (2, .int (nI b)), (3, .int (nI (bn lo s))), (6, .int (nI x))]) hx hb dX5_delta_286 hl (Nat.le_of_ble_eq_true rfl) rfl (fun ls hl => ?_)
                                refine lv_goto (tgt := 37) hx hb dX5_delta_288 (by decide) ?_
                                have e8 := hm.2
                                exact ih12 (p + bl lo s x) (i + 1) c (some x) ((tk_add ek ef el c (nI 0) (nI x)).1) ((tk_add ek ef el c (nI 0) (nI x)).2.1) ((tk_add ek ef el c (nI 0) (nI x)).2.2.1) (va_cpy fo em (x * s) p (bl lo s x)) g1 g2 (upd g3 (c - 1) (g3 (c - 1) + nI 1)) H locs ls (by omega) (by omega) (by omega) (fun b9 h9 => by cases h9 <;> omega) (by have h9 := hm.1; rw [e8] at h9; exact h9) (by have h9 := hTI2; rw [show tk_add ek ef el c (nI 0) (nI x) = ((tk_add ek ef el c (nI 0) (nI x)).1, (tk_add ek ef el c (nI 0) (nI x)).2.1, (tk_add ek ef el c (nI 0) (nI x)).2.2.1, (tk_add ek ef el c (nI 0) (nI x)).2.2.2) from rfl, e8] at h9; exact h9) (by have e := dl_go (fo := fo) (fn := fn) (lo := lo) (ln := ln) (s := s) (mk := ds_mask b) (t := (p, some l, (ek, ef, el, c), em)) (i := i) (by show p < ln; omega) (by omega); rw [hstep, show tk_add ek ef el c (nI 0) (nI x) = ((tk_add ek ef el c (nI 0) (nI x)).1, (tk_add ek ef el c (nI 0) (nI x)).2.1, (tk_add ek ef el c (nI 0) (nI x)).2.2.1, (tk_add ek ef el c (nI 0) (nI x)).2.2.2) from rfl, e8] at e; exact e.symm.trans hrun) (by omega) hP hD hS (lv_sub hl [4, 5, 6, 7, 1, 0] rfl)
                            ·
                              rw [← nI_0] at h
                              have h : 1 = 0 := (nI_eq (a := 1) (b := 0) (by omega) (by omega)).mp h
                              exact absurd h (by decide)
            have loop27 : ∀ (k28 : Nat) (j : Nat) (bo : Option Nat) (H : Heap) (locs : List Loc) (ls : Array Slot), (j ≤ bn lo s) → ((bo = none ∧ pick (fb fo fn lo ln s (ds_mask b) p) (bn lo s) bf = fsN (fb fo fn lo ln s (ds_mask b) p) j (bn lo s - j)) ∨ (∃ x, bo = some x ∧ x < 300 ∧ pick (fb fo fn lo ln s (ds_mask b) p) (bn lo s) bf = some x)) → bn lo s - j < k28 → va_P D vwCl [(mo, .inr (5, [.int (nI 0), .ref aO, .ref aT, .ref aM, .ref aZ, .ref aY, .ref aK, .ref aF, .ref aL, .int (nI c), .int (nI 1), .int wd])), (aO, .inl (cI, 2400, .inl O)), (aT, .inl (cI, 2400, .inl T)), (aZ, .inl (cI, 2, .inl Z)), (aY, .inl (cI, 2, .inl Y)), (aK, .inl (cI, 1200, .inl g1)), (aF, .inl (cI, 1200, .inl g2)), (aL, .inl (cI, 1200, .inl g3))] H → va_D A [(mo, .inr (5, [.int (nI 0), .ref aO, .ref aT, .ref aM, .ref aZ, .ref aY, .ref aK, .ref aF, .ref aL, .int (nI c), .int (nI 1), .int wd])), (aO, .inl (cI, 2400, .inl O)), (aT, .inl (cI, 2400, .inl T)), (aZ, .inl (cI, 2, .inl Z)), (aY, .inl (cI, 2, .inl Y)), (aK, .inl (cI, 1200, .inl g1)), (aF, .inl (cI, 1200, .inl g2)), (aL, .inl (cI, 1200, .inl g3))] → va_S A Ss.heap H locs → lv_has ls 9 [(0, .ref mo), (1, .int (nI s)), (2, .int (nI b)), (3, .int (nI (bn lo s))), (4, .int (nI p)), (5, .int (oI bf)), (6, .int (oI bo)), (7, .int (nI j))] → W Pp Ll Ee { frames := 2, cells := 0, slots := 0, locals := 53 } Ss Mm Aa Bb Me Cc H locs 0 0 (MQ Bb (ds_Qi D (fun (r : Int32) (u : Int32 × (Nat → Int32) × (Nat → Int32) × (Nat → Int32) × (Nat → Int32) × (Nat → Int32) × Nat × Int32 × Int32) => (¬ bok (nI s) (nI b) ∧ u.1 = 1 ∧ u.2 = (T, Y, gk, gf, gl, c0, isd, wd)) ∨ (∃ s9 b9 : Nat, (nI s) = nI s9 ∧ (nI b) = nI b9 ∧ 4 ≤ s9 ∧ s9 ≤ 256 ∧ b9 ≤ 64 ∧ u.1 = 0 ∧ ∃ t : dl_T, t = dl fo fn lo ln s9 (ds_mask b9) 1200 (0, none, (fk, ff, fl, 0), fm) ∧ t.2.2.1.2.2.2 = u.2.2.2.2.2.2.1 ∧ r = nI u.2.2.2.2.2.2.1 ∧ u.2.2.2.2.2.2.2.1 = 1 ∧ u.2.2.2.2.2.2.2.2 = nI s9 ∧ mT u.2.2.2.2.2.2.1 t.2.2.1.1 t.2.2.1.2.1 t.2.2.1.2.2.1 u.2.2.2.1 u.2.2.2.2.1 u.2.2.2.2.2.1 ∧ (∃ K a n, TI O lo ln s9 (t.1, t.2.1, (t.2.2.1.1, t.2.2.1.2.1, t.2.2.1.2.2.1, u.2.2.2.2.2.2.1), t.2.2.2) K a n) ∧ u.2.2.1 0 = nI lo ∧ ∀ j, j < 2400 → u.2.1 j = O j)) (fun u : Int32 × (Nat → Int32) × (Nat → Int32) × (Nat → Int32) × (Nat → Int32) × (Nat → Int32) × Nat × Int32 × Int32 => [(mo, .inr (5, [.int u.1, .ref aO, .ref aT, .ref aM, .ref aZ, .ref aY, .ref aK, .ref aF, .ref aL, .int (nI u.2.2.2.2.2.2.1), .int u.2.2.2.2.2.2.2.1, .int u.2.2.2.2.2.2.2.2])), (aO, .inl (cI, 2400, .inl O)), (aT, .inl (cI, 2400, .inl u.2.1)), (aZ, .inl (cI, 2, .inl Z)), (aY, .inl (cI, 2, .inl u.2.2.1)), (aK, .inl (cI, 1200, .inl u.2.2.2.1)), (aF, .inl (cI, 1200, .inl u.2.2.2.2.1)), (aL, .inl (cI, 1200, .inl u.2.2.2.2.2.1))]) A) Aa Ss 0 0 A) (F0 Mm 89 ls []) := by
              intro k28
              induction k28 with
              | zero => intro j bo H locs ls hj hsel hm30; exact absurd hm30 (Nat.not_lt_zero _)
              | succ k28 ih29 =>
                intro j bo H locs ls hj hsel hm30 hP hD hS hl
                refine lv_iload hx hb dX5_delta_89 (lv_at hl 7 rfl) ?_
                refine lv_iload_n hx hb dX5_delta_91 rfl (lv_at hl 3 rfl) ?_
                refine lv_icmp_ge (tgt := 123) hx hb dX5_delta_92 (by decide) (fun h => ?_) (fun h => ?_)
                ·
                  have h : (bn lo s) ≤ j := (nI_leI (a := (bn lo s)) (b := j) (by omega) (by omega)).mp h
                  exact lab18 bo H locs ls (sel_end (by omega) hsel) hP hD hS (lv_sub hl [0, 1, 2, 3, 4, 5, 6] rfl)
                ·
                  have h : ¬ (bn lo s) ≤ j := fun z9 => h ((nI_leI (a := (bn lo s)) (b := j) (by omega) (by omega)).mpr z9)
                  refine lv_iload hx hb dX5_delta_95 (lv_at hl 6 rfl) ?_
                  rcases hsel with ⟨e7, hp9⟩ | ⟨x, e7, hx3, hp9⟩
                  ·
                    subst e7
                    have hl : lv_has ls 9 [(0, .ref mo), (1, .int (nI s)), (2, .int (nI b)), (3, .int (nI (bn lo s))), (4, .int (nI p)), (5, .int (oI bf)), (6, .int (-1)), (7, .int (nI j))] := hl
                    change W Pp Ll Ee _ Ss Mm Aa Bb Me Cc H locs 0 0 _ (F0 Mm 97 ls [.int (-1)])
                    refine lv_if_ge (tgt := 123) hx hb dX5_delta_97 (by decide) (fun h => ?_) (fun h => ?_)
                    ·
                      exact absurd h (by decide)
                    ·
                      refine lv_aload_n hx hb dX5_delta_100 rfl (lv_at hl 0 rfl) ?_
                      refine lv_iload_n hx hb dX5_delta_101 rfl (lv_at hl 1 rfl) ?_
                      refine lv_iload_n hx hb dX5_delta_102 rfl (lv_at hl 2 rfl) ?_
                      refine lv_iload hx hb dX5_delta_103 (lv_at hl 7 rfl) ?_
                      refine lv_iload hx hb dX5_delta_105 (lv_at hl 4 rfl) ?_
                      refine ds_calli (wc := [(mo, .inr (5, [.int (nI 0), .ref aO, .ref aT, .ref aM, .ref aZ, .ref aY, .ref aK, .ref aF, .ref aL, .int (nI c), .int (nI 1), .int wd])), (aO, .inl (cI, 2400, .inl O)), (aZ, .inl (cI, 2, .inl Z))]) (wr := [(aT, .inl (cI, 2400, .inl T)), (aY, .inl (cI, 2, .inl Y)), (aK, .inl (cI, 1200, .inl g1)), (aF, .inl (cI, 1200, .inl g2)), (aL, .inl (cI, 1200, .inl g3))]) (wo := (fun u32 : Unit => [(mo, .inr (5, [.int (nI 0), .ref aO, .ref aT, .ref aM, .ref aZ, .ref aY, .ref aK, .ref aF, .ref aL, .int (nI c), .int (nI 1), .int wd])), (aO, .inl (cI, 2400, .inl O)), (aZ, .inl (cI, 2, .inl Z))])) (wn := (fun u32 : Unit => [(mo, .inr (5, [.int (nI 0), .ref aO, .ref aT, .ref aM, .ref aZ, .ref aY, .ref aK, .ref aF, .ref aL, .int (nI c), .int (nI 1), .int wd])), (aO, .inl (cI, 2400, .inl O)), (aT, .inl (cI, 2400, .inl T)), (aZ, .inl (cI, 2, .inl Z)), (aY, .inl (cI, 2, .inl Y)), (aK, .inl (cI, 1200, .inl g1)), (aF, .inl (cI, 1200, .inl g2)), (aL, .inl (cI, 1200, .inl g3))])) (isC := [0, 1, 3]) (isR := [2, 4, 5, 6, 7]) hP hD hS hA ⟨rfl, rfl, by decide, by decide, by decide⟩ [5, 6, 0, 7, 1, 2, 3, 4] (by decide) (fun _ => rfl) (fun hPc hDc => va_runV (As := [.int (nI s), .int (nI b), .int (nI j), .int (nI p)]) (rest := []) ⟨hx, hb, hml, hown, ht⟩ (c_X5_fits Ll D cI cL mo aO aT aM aZ aY aK aF aL (nI 0) c (nI 1) wd O Z lo ln fo fn s b j p hR h2 h3 h4 (by omega) (by omega) H.size) ⟨(callB_of 4 ht g_X5_fits rfl rfl rfl (ht _ iw_136) (ht _ iw_175) hd_X5_fits ⟨Nat.le_of_ble_eq_true rfl, Nat.le_of_ble_eq_true rfl⟩), (ht _ iw_176), (ht _ iw_177)⟩ (ds_pV hPc hDc hK (q0 := 0) rfl rfl) rfl rfl hl.1 rfl (lv_room (Nat.le_of_ble_eq_true rfl)) dX5_delta_107 ⟨Nat.le_of_ble_eq_true rfl, Nat.le_of_ble_eq_true rfl⟩) (fun r31 u32 H locs hp33 hP hD hS => ?_)
                      have hP : va_P D vwCl [(mo, .inr (5, [.int (nI 0), .ref aO, .ref aT, .ref aM, .ref aZ, .ref aY, .ref aK, .ref aF, .ref aL, .int (nI c), .int (nI 1), .int wd])), (aO, .inl (cI, 2400, .inl O)), (aT, .inl (cI, 2400, .inl T)), (aZ, .inl (cI, 2, .inl Z)), (aY, .inl (cI, 2, .inl Y)), (aK, .inl (cI, 1200, .inl g1)), (aF, .inl (cI, 1200, .inl g2)), (aL, .inl (cI, 1200, .inl g3))] H := hP
                      have hD : va_D A [(mo, .inr (5, [.int (nI 0), .ref aO, .ref aT, .ref aM, .ref aZ, .ref aY, .ref aK, .ref aF, .ref aL, .int (nI c), .int (nI 1), .int wd])), (aO, .inl (cI, 2400, .inl O)), (aT, .inl (cI, 2400, .inl T)), (aZ, .inl (cI, 2, .inl Z)), (aY, .inl (cI, 2, .inl Y)), (aK, .inl (cI, 1200, .inl g1)), (aF, .inl (cI, 1200, .inl g2)), (aL, .inl (cI, 1200, .inl g3))] := hD
                      have hp33 : (r31 = 1 ∧ ft fo fn ln (ds_mask b) (j * s) p (bl lo s j)) ∨ (r31 = 0 ∧ ¬ ft fo fn ln (ds_mask b) (j * s) p (bl lo s j)) := hp33
                      rcases hp33 with ⟨e9, hf2⟩ | ⟨e9, hf2⟩
                      ·
                        subst e9
                        refine lv_if_eq (tgt := 117) hx hb dX5_delta_110 (by decide) (fun h0 => ?_) (fun h0 => ?_)
                        ·
                          exact absurd h0 (by decide)
                        ·
                          refine lv_iload hx hb dX5_delta_113 (lv_at hl 7 rfl) ?_
                          refine lv_istore (lv' := [(6, .int (nI j)), (0, .ref mo), (1, .int (nI s)), (2, .int (nI b)), (3, .int (nI (bn lo s))), (4, .int (nI p)), (5, .int (oI bf)), (7, .int (nI j))]) hx hb dX5_delta_115 hl (Nat.le_of_ble_eq_true rfl) rfl (fun ls hl => ?_)
                          refine lv_iinc (k := 7) (v := nI (j + 1)) (lv' := [(7, .int (nI (j + 1))), (6, .int (nI j)), (0, .ref mo), (1, .int (nI s)), (2, .int (nI b)), (3, .int (nI (bn lo s))), (4, .int (nI p)), (5, .int (oI bf))]) hx hb dX5_delta_117 hl rfl (by rw [nI_succ]; rfl) (Nat.le_of_ble_eq_true rfl) rfl (fun ls hl => ?_)
                          refine lv_goto (tgt := 89) hx hb dX5_delta_120 (by decide) ?_
                          exact ih29 (j + 1) (some j) H locs ls (by omega) (Or.inr ⟨j, rfl, by omega, hp9.trans (fsN_yes (by omega) (decide_eq_true hf2))⟩) (by omega) hP hD hS (lv_sub hl [2, 3, 4, 5, 6, 7, 1, 0] rfl)
                      ·
                        subst e9
                        refine lv_if_eq (tgt := 117) hx hb dX5_delta_110 (by decide) (fun h0 => ?_) (fun h0 => ?_)
                        ·
                          refine lv_iinc (k := 7) (v := nI (j + 1)) (lv' := [(7, .int (nI (j + 1))), (0, .ref mo), (1, .int (nI s)), (2, .int (nI b)), (3, .int (nI (bn lo s))), (4, .int (nI p)), (5, .int (oI bf)), (6, .int (-1))]) hx hb dX5_delta_117 hl rfl (by rw [nI_succ]; rfl) (Nat.le_of_ble_eq_true rfl) rfl (fun ls hl => ?_)
                          refine lv_goto (tgt := 89) hx hb dX5_delta_120 (by decide) ?_
                          exact ih29 (j + 1) none H locs ls (by omega) (Or.inl ⟨rfl, hp9.trans (fsN_no (by omega) (fun z => hf2 (of_decide_eq_true z)))⟩) (by omega) hP hD hS (lv_sub hl [1, 2, 3, 4, 5, 6, 7, 0] rfl)
                        ·
                          exact absurd rfl h0
                  ·
                    subst e7
                    have hl : lv_has ls 9 [(0, .ref mo), (1, .int (nI s)), (2, .int (nI b)), (3, .int (nI (bn lo s))), (4, .int (nI p)), (5, .int (oI bf)), (6, .int (nI x)), (7, .int (nI j))] := hl
                    change W Pp Ll Ee _ Ss Mm Aa Bb Me Cc H locs 0 0 _ (F0 Mm 97 ls [.int (nI x)])
                    refine lv_if_ge (tgt := 123) hx hb dX5_delta_97 (by decide) (fun h => ?_) (fun h => ?_)
                    ·
                      rw [← nI_0] at h
                      have h : 0 ≤ x := (nI_leI (a := 0) (b := x) (by omega) (by omega)).mp h
                      exact lab18 (some x) H locs ls hp9 hP hD hS (lv_sub hl [0, 1, 2, 3, 4, 5, 6] rfl)
                    ·
                      rw [← nI_0] at h
                      have h : ¬ 0 ≤ x := fun z9 => h ((nI_leI (a := 0) (b := x) (by omega) (by omega)).mpr z9)
                      exfalso; omega
            refine lv_iload hx hb dX5_delta_48 (lv_at hl 5 rfl) ?_
            have lab34 : ∀ (H : Heap) (locs : List Loc) (ls : Array Slot), (pick (fb fo fn lo ln s (ds_mask b) p) (bn lo s) bf = fsN (fb fo fn lo ln s (ds_mask b) p) 0 (bn lo s)) → va_P D vwCl [(mo, .inr (5, [.int (nI 0), .ref aO, .ref aT, .ref aM, .ref aZ, .ref aY, .ref aK, .ref aF, .ref aL, .int (nI c), .int (nI 1), .int wd])), (aO, .inl (cI, 2400, .inl O)), (aT, .inl (cI, 2400, .inl T)), (aZ, .inl (cI, 2, .inl Z)), (aY, .inl (cI, 2, .inl Y)), (aK, .inl (cI, 1200, .inl g1)), (aF, .inl (cI, 1200, .inl g2)), (aL, .inl (cI, 1200, .inl g3))] H → va_D A [(mo, .inr (5, [.int (nI 0), .ref aO, .ref aT, .ref aM, .ref aZ, .ref aY, .ref aK, .ref aF, .ref aL, .int (nI c), .int (nI 1), .int wd])), (aO, .inl (cI, 2400, .inl O)), (aT, .inl (cI, 2400, .inl T)), (aZ, .inl (cI, 2, .inl Z)), (aY, .inl (cI, 2, .inl Y)), (aK, .inl (cI, 1200, .inl g1)), (aF, .inl (cI, 1200, .inl g2)), (aL, .inl (cI, 1200, .inl g3))] → va_S A Ss.heap H locs → lv_has ls 9 [(0, .ref mo), (1, .int (nI s)), (2, .int (nI b)), (3, .int (nI (bn lo s))), (4, .int (nI p)), (5, .int (oI bf))] → W Pp Ll Ee { frames := 2, cells := 0, slots := 0, locals := 53 } Ss Mm Aa Bb Me Cc H locs 0 0 (MQ Bb (ds_Qi D (fun (r : Int32) (u : Int32 × (Nat → Int32) × (Nat → Int32) × (Nat → Int32) × (Nat → Int32) × (Nat → Int32) × Nat × Int32 × Int32) => (¬ bok (nI s) (nI b) ∧ u.1 = 1 ∧ u.2 = (T, Y, gk, gf, gl, c0, isd, wd)) ∨ (∃ s9 b9 : Nat, (nI s) = nI s9 ∧ (nI b) = nI b9 ∧ 4 ≤ s9 ∧ s9 ≤ 256 ∧ b9 ≤ 64 ∧ u.1 = 0 ∧ ∃ t : dl_T, t = dl fo fn lo ln s9 (ds_mask b9) 1200 (0, none, (fk, ff, fl, 0), fm) ∧ t.2.2.1.2.2.2 = u.2.2.2.2.2.2.1 ∧ r = nI u.2.2.2.2.2.2.1 ∧ u.2.2.2.2.2.2.2.1 = 1 ∧ u.2.2.2.2.2.2.2.2 = nI s9 ∧ mT u.2.2.2.2.2.2.1 t.2.2.1.1 t.2.2.1.2.1 t.2.2.1.2.2.1 u.2.2.2.1 u.2.2.2.2.1 u.2.2.2.2.2.1 ∧ (∃ K a n, TI O lo ln s9 (t.1, t.2.1, (t.2.2.1.1, t.2.2.1.2.1, t.2.2.1.2.2.1, u.2.2.2.2.2.2.1), t.2.2.2) K a n) ∧ u.2.2.1 0 = nI lo ∧ ∀ j, j < 2400 → u.2.1 j = O j)) (fun u : Int32 × (Nat → Int32) × (Nat → Int32) × (Nat → Int32) × (Nat → Int32) × (Nat → Int32) × Nat × Int32 × Int32 => [(mo, .inr (5, [.int u.1, .ref aO, .ref aT, .ref aM, .ref aZ, .ref aY, .ref aK, .ref aF, .ref aL, .int (nI u.2.2.2.2.2.2.1), .int u.2.2.2.2.2.2.2.1, .int u.2.2.2.2.2.2.2.2])), (aO, .inl (cI, 2400, .inl O)), (aT, .inl (cI, 2400, .inl u.2.1)), (aZ, .inl (cI, 2, .inl Z)), (aY, .inl (cI, 2, .inl u.2.2.1)), (aK, .inl (cI, 1200, .inl u.2.2.2.1)), (aF, .inl (cI, 1200, .inl u.2.2.2.2.1)), (aL, .inl (cI, 1200, .inl u.2.2.2.2.2.1))]) A) Aa Ss 0 0 A) (F0 Mm 83 ls []) := by
              intro  H locs ls hn hP hD hS hl
              refine lv_iconst (v := -1) hx hb dX5_delta_83 (by decide +kernel) ?_
              refine lv_istore (lv' := [(6, .int (-1)), (0, .ref mo), (1, .int (nI s)), (2, .int (nI b)), (3, .int (nI (bn lo s))), (4, .int (nI p)), (5, .int (oI bf))]) hx hb dX5_delta_84 hl (Nat.le_of_ble_eq_true rfl) rfl (fun ls hl => ?_)
              refine lv_iconst (v := nI 0) hx hb dX5_delta_86 (by decide +kernel) ?_
              refine lv_istore (lv' := [(7, .int (nI 0)), (6, .int (-1)), (0, .ref mo), (1, .int (nI s)), (2, .int (nI b)), (3, .int (nI (bn lo s))), (4, .int (nI p)), (5, .int (oI bf))]) hx hb dX5_delta_87 hl (Nat.le_of_ble_eq_true rfl) rfl (fun ls hl => ?_)
              exact loop27 _ 0 none H locs ls (Nat.zero_le _) (Or.inl ⟨rfl, hn⟩) (Nat.lt_succ_self _) hP hD hS (lv_sub hl [2, 3, 4, 5, 6, 7, 1, 0] rfl)
            rcases bf with _ | l
            ·
              have hl : lv_has ls 9 [(0, .ref mo), (1, .int (nI s)), (2, .int (nI b)), (3, .int (nI (bn lo s))), (4, .int (nI p)), (5, .int (-1))] := hl
              change W Pp Ll Ee _ Ss Mm Aa Bb Me Cc H locs 0 0 _ (F0 Mm 50 ls [.int (-1)])
              refine lv_if_lt (tgt := 83) hx hb dX5_delta_50 (by decide) (fun h => ?_) (fun h => ?_)
              ·
                exact lab34  H locs ls rfl hP hD hS (lv_sub hl [0, 1, 2, 3, 4, 5] rfl)
              ·
                exact absurd (by decide) h
            ·
              have hl3 := hbf l rfl
              have hl : lv_has ls 9 [(0, .ref mo), (1, .int (nI s)), (2, .int (nI b)), (3, .int (nI (bn lo s))), (4, .int (nI p)), (5, .int (nI l))] := hl
              change W Pp Ll Ee _ Ss Mm Aa Bb Me Cc H locs 0 0 _ (F0 Mm 50 ls [.int (nI l)])
              refine lv_if_lt (tgt := 83) hx hb dX5_delta_50 (by decide) (fun h => ?_) (fun h => ?_)
              ·
                rw [← nI_0] at h
                have h : l < 0 := (nI_ltI (a := l) (b := 0) (by omega) (by omega)).mp h
                exfalso; omega
              ·
                rw [← nI_0] at h
                have h : ¬ l < 0 := fun z9 => h ((nI_ltI (a := l) (b := 0) (by omega) (by omega)).mpr z9)
                refine lv_iload hx hb dX5_delta_53 (lv_at hl 5 rfl) ?_
                refine lv_iconst (v := nI 1) hx hb dX5_delta_55 (by decide +kernel) ?_
                refine lv_iadd hx hb dX5_delta_56 ?_
                refine ds_top (z := nI (l + 1)) (nI_add _ _) ?_
                refine lv_iload_n hx hb dX5_delta_57 rfl (lv_at hl 3 rfl) ?_
                refine lv_icmp_ge (tgt := 83) hx hb dX5_delta_58 (by decide) (fun h => ?_) (fun h => ?_)
                ·
                  have h : (bn lo s) ≤ (l + 1) := (nI_leI (a := (bn lo s)) (b := (l + 1)) (by omega) (by omega)).mp h
                  exact lab34  H locs ls (if_neg (fun z => absurd z.1 (by omega))) hP hD hS (lv_sub hl [0, 1, 2, 3, 4, 5] rfl)
                ·
                  have h : ¬ (bn lo s) ≤ (l + 1) := fun z9 => h ((nI_leI (a := (bn lo s)) (b := (l + 1)) (by omega) (by omega)).mpr z9)
                  refine lv_aload_n hx hb dX5_delta_61 rfl (lv_at hl 0 rfl) ?_
                  refine lv_iload_n hx hb dX5_delta_62 rfl (lv_at hl 1 rfl) ?_
                  refine lv_iload_n hx hb dX5_delta_63 rfl (lv_at hl 2 rfl) ?_
                  refine lv_iload hx hb dX5_delta_64 (lv_at hl 5 rfl) ?_
                  refine lv_iconst (v := nI 1) hx hb dX5_delta_66 (by decide +kernel) ?_
                  refine lv_iadd hx hb dX5_delta_67 ?_
                  refine ds_top (z := nI (l + 1)) (nI_add _ _) ?_
                  refine lv_iload hx hb dX5_delta_68 (lv_at hl 4 rfl) ?_
                  refine ds_calli (wc := [(mo, .inr (5, [.int (nI 0), .ref aO, .ref aT, .ref aM, .ref aZ, .ref aY, .ref aK, .ref aF, .ref aL, .int (nI c), .int (nI 1), .int wd])), (aO, .inl (cI, 2400, .inl O)), (aZ, .inl (cI, 2, .inl Z))]) (wr := [(aT, .inl (cI, 2400, .inl T)), (aY, .inl (cI, 2, .inl Y)), (aK, .inl (cI, 1200, .inl g1)), (aF, .inl (cI, 1200, .inl g2)), (aL, .inl (cI, 1200, .inl g3))]) (wo := (fun u36 : Unit => [(mo, .inr (5, [.int (nI 0), .ref aO, .ref aT, .ref aM, .ref aZ, .ref aY, .ref aK, .ref aF, .ref aL, .int (nI c), .int (nI 1), .int wd])), (aO, .inl (cI, 2400, .inl O)), (aZ, .inl (cI, 2, .inl Z))])) (wn := (fun u36 : Unit => [(mo, .inr (5, [.int (nI 0), .ref aO, .ref aT, .ref aM, .ref aZ, .ref aY, .ref aK, .ref aF, .ref aL, .int (nI c), .int (nI 1), .int wd])), (aO, .inl (cI, 2400, .inl O)), (aT, .inl (cI, 2400, .inl T)), (aZ, .inl (cI, 2, .inl Z)), (aY, .inl (cI, 2, .inl Y)), (aK, .inl (cI, 1200, .inl g1)), (aF, .inl (cI, 1200, .inl g2)), (aL, .inl (cI, 1200, .inl g3))])) (isC := [0, 1, 3]) (isR := [2, 4, 5, 6, 7]) hP hD hS hA ⟨rfl, rfl, by decide, by decide, by decide⟩ [5, 6, 0, 7, 1, 2, 3, 4] (by decide) (fun _ => rfl) (fun hPc hDc => va_runV (As := [.int (nI s), .int (nI b), .int (nI (l + 1)), .int (nI p)]) (rest := []) ⟨hx, hb, hml, hown, ht⟩ (c_X5_fits Ll D cI cL mo aO aT aM aZ aY aK aF aL (nI 0) c (nI 1) wd O Z lo ln fo fn s b (l + 1) p hR h2 h3 h4 (by omega) (by omega) H.size) ⟨(callB_of 4 ht g_X5_fits rfl rfl rfl (ht _ iw_136) (ht _ iw_175) hd_X5_fits ⟨Nat.le_of_ble_eq_true rfl, Nat.le_of_ble_eq_true rfl⟩), (ht _ iw_176), (ht _ iw_177)⟩ (ds_pV hPc hDc hK (q0 := 0) rfl rfl) rfl rfl hl.1 rfl (lv_room (Nat.le_of_ble_eq_true rfl)) dX5_delta_70 ⟨Nat.le_of_ble_eq_true rfl, Nat.le_of_ble_eq_true rfl⟩) (fun r35 u36 H locs hp37 hP hD hS => ?_)
                  have hP : va_P D vwCl [(mo, .inr (5, [.int (nI 0), .ref aO, .ref aT, .ref aM, .ref aZ, .ref aY, .ref aK, .ref aF, .ref aL, .int (nI c), .int (nI 1), .int wd])), (aO, .inl (cI, 2400, .inl O)), (aT, .inl (cI, 2400, .inl T)), (aZ, .inl (cI, 2, .inl Z)), (aY, .inl (cI, 2, .inl Y)), (aK, .inl (cI, 1200, .inl g1)), (aF, .inl (cI, 1200, .inl g2)), (aL, .inl (cI, 1200, .inl g3))] H := hP
                  have hD : va_D A [(mo, .inr (5, [.int (nI 0), .ref aO, .ref aT, .ref aM, .ref aZ, .ref aY, .ref aK, .ref aF, .ref aL, .int (nI c), .int (nI 1), .int wd])), (aO, .inl (cI, 2400, .inl O)), (aT, .inl (cI, 2400, .inl T)), (aZ, .inl (cI, 2, .inl Z)), (aY, .inl (cI, 2, .inl Y)), (aK, .inl (cI, 1200, .inl g1)), (aF, .inl (cI, 1200, .inl g2)), (aL, .inl (cI, 1200, .inl g3))] := hD
                  have hp37 : (r35 = 1 ∧ ft fo fn ln (ds_mask b) ((l + 1) * s) p (bl lo s (l + 1))) ∨ (r35 = 0 ∧ ¬ ft fo fn ln (ds_mask b) ((l + 1) * s) p (bl lo s (l + 1))) := hp37
                  rcases hp37 with ⟨e9, hf2⟩ | ⟨e9, hf2⟩
                  ·
                    subst e9
                    refine lv_if_eq (tgt := 83) hx hb dX5_delta_73 (by decide) (fun h0 => ?_) (fun h0 => ?_)
                    ·
                      exact absurd h0 (by decide)
                    ·
                      refine lv_iload hx hb dX5_delta_76 (lv_at hl 5 rfl) ?_
                      refine lv_iconst (v := nI 1) hx hb dX5_delta_78 (by decide +kernel) ?_
                      refine lv_iadd hx hb dX5_delta_79 ?_
                      refine ds_top (z := nI (l + 1)) (nI_add _ _) ?_
                      refine lv_goto (tgt := 84) hx hb dX5_delta_80 (by decide) ?_
                      refine lv_istore (lv' := [(6, .int (nI (l + 1))), (0, .ref mo), (1, .int (nI s)), (2, .int (nI b)), (3, .int (nI (bn lo s))), (4, .int (nI p)), (5, .int (nI l))]) hx hb dX5_delta_84 hl (Nat.le_of_ble_eq_true rfl) rfl (fun ls hl => ?_)
                      refine lv_iconst (v := nI 0) hx hb dX5_delta_86 (by decide +kernel) ?_
                      refine lv_istore (lv' := [(7, .int (nI 0)), (6, .int (nI (l + 1))), (0, .ref mo), (1, .int (nI s)), (2, .int (nI b)), (3, .int (nI (bn lo s))), (4, .int (nI p)), (5, .int (nI l))]) hx hb dX5_delta_87 hl (Nat.le_of_ble_eq_true rfl) rfl (fun ls hl => ?_)
                      exact loop27 _ 0 (some (l + 1)) H locs ls (Nat.zero_le _) (Or.inr ⟨l + 1, rfl, by omega, if_pos ⟨by omega, decide_eq_true hf2⟩⟩) (Nat.lt_succ_self _) hP hD hS (lv_sub hl [2, 3, 4, 5, 6, 7, 1, 0] rfl)
                  ·
                    subst e9
                    refine lv_if_eq (tgt := 83) hx hb dX5_delta_73 (by decide) (fun h0 => ?_) (fun h0 => ?_)
                    ·
                      exact lab34  H locs ls (if_neg (fun z => hf2 (of_decide_eq_true z.2))) hP hD hS (lv_sub hl [0, 1, 2, 3, 4, 5] rfl)
                    ·
                      exact absurd rfl h0
      exact loop10 _ 0 0 0 none fk ff fl fm gk gf gl H locs ls (Nat.le_refl _) (Nat.zero_le _) (Nat.le_refl _) (fun _ h9 => by cases h9) ⟨Nat.zero_le _, fun j hj => absurd hj (Nat.not_lt_zero _)⟩ ⟨_, _, _, TI_0 (fun _ => 0) (fun _ => 0) (fun _ => 0)⟩ rfl (Nat.lt_succ_self _) hP hD hS (lv_sub hl [3, 4, 5, 2, 1, 0] rfl)
    ·
      rw [← nI_0] at h
      have h : ¬ 0 = 0 := fun z9 => h ((nI_eq (a := 0) (b := 0) (by omega) (by omega)).mpr z9)
      exact absurd rfl h
  ·
    refine lv_aload_n hx hb dX5_delta_0 rfl (lv_at hl 0 rfl) ?_
    refine lv_iload_n hx hb dX5_delta_1 rfl (lv_at hl 1 rfl) ?_
    refine lv_iload_n hx hb dX5_delta_2 rfl (lv_at hl 2 rfl) ?_
    refine ds_calli (wc := []) (wr := [(mo, .inr (5, [.int er, .ref aO, .ref aT, .ref aM, .ref aZ, .ref aY, .ref aK, .ref aF, .ref aL, .int (nI c0), .int isd, .int wd])), (aO, .inl (cI, 2400, .inl O)), (aT, .inl (cI, 2400, .inl T)), (aZ, .inl (cI, 2, .inl Z)), (aY, .inl (cI, 2, .inl Y)), (aK, .inl (cI, 1200, .inl gk)), (aF, .inl (cI, 1200, .inl gf)), (aL, .inl (cI, 1200, .inl gl))]) (wo := (fun u39 : Unit => [])) (wn := (fun u39 : Unit => [(mo, .inr (5, [.int er, .ref aO, .ref aT, .ref aM, .ref aZ, .ref aY, .ref aK, .ref aF, .ref aL, .int (nI c0), .int isd, .int wd])), (aO, .inl (cI, 2400, .inl O)), (aT, .inl (cI, 2400, .inl T)), (aZ, .inl (cI, 2, .inl Z)), (aY, .inl (cI, 2, .inl Y)), (aK, .inl (cI, 1200, .inl gk)), (aF, .inl (cI, 1200, .inl gf)), (aL, .inl (cI, 1200, .inl gl))])) (isC := []) (isR := [0, 1, 2, 3, 4, 5, 6, 7]) hP hD hS hA ⟨rfl, rfl, by decide, by decide, by decide⟩ [0, 1, 2, 3, 4, 5, 6, 7] (by decide) (fun _ => rfl) (fun hPc hDc => va_runS (As := [.int x, .int y]) (rest := [.ref mo]) ⟨hx, hb, hml, hown, ht⟩ (m_bad1 Ll D cI cL x y (Classical.not_not.mp hb9) H.size) ⟨(callB_of 2 ht g_X5_bad rfl rfl rfl (ht _ iw_136) (ht _ iw_170) hd_X5_bad ⟨Nat.le_of_ble_eq_true rfl, Nat.le_of_ble_eq_true rfl⟩), (ht _ iw_171)⟩ (ds_pS hPc hDc hK) rfl rfl hl.1 rfl (lv_room (Nat.le_of_ble_eq_true rfl)) dX5_delta_3 ⟨Nat.le_of_ble_eq_true rfl, Nat.le_of_ble_eq_true rfl⟩) (fun r38 u39 H locs hp40 hP hD hS => ?_)
    have hP : va_P D vwCl [(mo, .inr (5, [.int er, .ref aO, .ref aT, .ref aM, .ref aZ, .ref aY, .ref aK, .ref aF, .ref aL, .int (nI c0), .int isd, .int wd])), (aO, .inl (cI, 2400, .inl O)), (aT, .inl (cI, 2400, .inl T)), (aZ, .inl (cI, 2, .inl Z)), (aY, .inl (cI, 2, .inl Y)), (aK, .inl (cI, 1200, .inl gk)), (aF, .inl (cI, 1200, .inl gf)), (aL, .inl (cI, 1200, .inl gl))] H := hP
    have hD : va_D A [(mo, .inr (5, [.int er, .ref aO, .ref aT, .ref aM, .ref aZ, .ref aY, .ref aK, .ref aF, .ref aL, .int (nI c0), .int isd, .int wd])), (aO, .inl (cI, 2400, .inl O)), (aT, .inl (cI, 2400, .inl T)), (aZ, .inl (cI, 2, .inl Z)), (aY, .inl (cI, 2, .inl Y)), (aK, .inl (cI, 1200, .inl gk)), (aF, .inl (cI, 1200, .inl gf)), (aL, .inl (cI, 1200, .inl gl))] := hD
    have hp40 : r38 = nI 1 := hp40
    replace hp40 := Eq.symm hp40
    subst hp40
    refine lv_iconst (v := nI 1) hx hb dX5_delta_6 (by decide +kernel) ?_
    refine ds_calli (wc := [(mo, .inr (5, [.int er, .ref aO, .ref aT, .ref aM, .ref aZ, .ref aY, .ref aK, .ref aF, .ref aL, .int (nI c0), .int isd, .int wd]))]) (wr := [(aO, .inl (cI, 2400, .inl O)), (aT, .inl (cI, 2400, .inl T)), (aZ, .inl (cI, 2, .inl Z)), (aY, .inl (cI, 2, .inl Y)), (aK, .inl (cI, 1200, .inl gk)), (aF, .inl (cI, 1200, .inl gf)), (aL, .inl (cI, 1200, .inl gl))]) (wo := (fun u42 : Unit => [(mo, .inr (5, [.int (nI 1), .ref aO, .ref aT, .ref aM, .ref aZ, .ref aY, .ref aK, .ref aF, .ref aL, .int (nI c0), .int isd, .int wd]))])) (wn := (fun u42 : Unit => [(mo, .inr (5, [.int (nI 1), .ref aO, .ref aT, .ref aM, .ref aZ, .ref aY, .ref aK, .ref aF, .ref aL, .int (nI c0), .int isd, .int wd])), (aO, .inl (cI, 2400, .inl O)), (aT, .inl (cI, 2400, .inl T)), (aZ, .inl (cI, 2, .inl Z)), (aY, .inl (cI, 2, .inl Y)), (aK, .inl (cI, 1200, .inl gk)), (aF, .inl (cI, 1200, .inl gf)), (aL, .inl (cI, 1200, .inl gl))])) (isC := [0]) (isR := [1, 2, 3, 4, 5, 6, 7]) hP hD hS hA ⟨rfl, rfl, by decide, by decide, by decide⟩ [7, 0, 1, 2, 3, 4, 5, 6] (by decide) (fun _ => rfl) (fun hPc hDc => va_runV (As := [.int (nI 1), .int (nI 1)]) (rest := []) ⟨hx, hb, hml, hown, ht⟩ (m_fails1 Ll D cI cL mo aO aT aM aZ aY aK aF aL er c0 isd wd 1  H.size) ⟨(callB_of 2 ht g_X5_fails rfl rfl rfl (ht _ iw_136) (ht _ iw_138) hd_X5_fails ⟨Nat.le_of_ble_eq_true rfl, Nat.le_of_ble_eq_true rfl⟩), (ht _ iw_139), (ht _ iw_140)⟩ (ds_pV hPc hDc hK (q0 := 0) rfl rfl) rfl rfl hl.1 rfl (lv_room (Nat.le_of_ble_eq_true rfl)) dX5_delta_7 ⟨Nat.le_of_ble_eq_true rfl, Nat.le_of_ble_eq_true rfl⟩) (fun r41 u42 H locs hp43 hP hD hS => ?_)
    have hP : va_P D vwCl [(mo, .inr (5, [.int (nI 1), .ref aO, .ref aT, .ref aM, .ref aZ, .ref aY, .ref aK, .ref aF, .ref aL, .int (nI c0), .int isd, .int wd])), (aO, .inl (cI, 2400, .inl O)), (aT, .inl (cI, 2400, .inl T)), (aZ, .inl (cI, 2, .inl Z)), (aY, .inl (cI, 2, .inl Y)), (aK, .inl (cI, 1200, .inl gk)), (aF, .inl (cI, 1200, .inl gf)), (aL, .inl (cI, 1200, .inl gl))] H := hP
    have hD : va_D A [(mo, .inr (5, [.int (nI 1), .ref aO, .ref aT, .ref aM, .ref aZ, .ref aY, .ref aK, .ref aF, .ref aL, .int (nI c0), .int isd, .int wd])), (aO, .inl (cI, 2400, .inl O)), (aT, .inl (cI, 2400, .inl T)), (aZ, .inl (cI, 2, .inl Z)), (aY, .inl (cI, 2, .inl Y)), (aK, .inl (cI, 1200, .inl gk)), (aF, .inl (cI, 1200, .inl gf)), (aL, .inl (cI, 1200, .inl gl))] := hD
    have hp43 : r41 = nI 1 := hp43
    replace hp43 := Eq.symm hp43
    subst hp43
    refine lv_if_eq (tgt := 15) hx hb dX5_delta_10 (by decide) (fun h => ?_) (fun h => ?_)
    ·
      rw [← nI_0] at h
      have h : 1 = 0 := (nI_eq (a := 1) (b := 0) (by omega) (by omega)).mp h
      exact absurd h (by decide)
    ·
      rw [← nI_0] at h
      have h : ¬ 1 = 0 := fun z9 => h ((nI_eq (a := 1) (b := 0) (by omega) (by omega)).mpr z9)
      refine lv_iconst (v := nI 0) hx hb dX5_delta_13 (by decide +kernel) ?_
      exact ds_iret hx hb hr hlk rfl (nI 1, T, Y, gk, gf, gl, c0, isd, wd) (Or.inl ⟨hb9, rfl, rfl⟩) hP hD hS (Nat.le_of_ble_eq_true rfl) (Nat.le_of_ble_eq_true rfl) dX5_delta_14
