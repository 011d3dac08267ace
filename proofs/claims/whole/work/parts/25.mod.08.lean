set_option maxHeartbeats 4000000 in
set_option maxRecDepth 100000 in
theorem c_X5_length (Ll : Launch) (D : va_G) (cI cL : ClassId) (mo : Nat) (aO : Nat) (aT : Nat) (aM : Nat) (aZ : Nat) (aY : Nat) (aK : Nat) (aF : Nat) (aL : Nat) (er : Int32) (c : Nat) (isd : Int32) (wd : Int32) (Z : Nat → Int32) (lo : Nat) (s : Nat) (k : Nat) (hZ : Z 0 = nI lo) (h1 : lo ≤ 1200) (h2 : 4 ≤ s) (h3 : s ≤ 256) (hk : k < bn lo s) (sz : Nat) : Met Ll yX5_length wsX5_length { frames := 0, cells := 0, slots := 0, locals := 0 } (ds_P D cI cL [.ref mo, .int (nI s), .int (nI k)] [(mo, .inr (5, [.int er, .ref aO, .ref aT, .ref aM, .ref aZ, .ref aY, .ref aK, .ref aF, .ref aL, .int (nI c), .int isd, .int wd])), (aZ, .inl (cI, 2, .inl Z))] sz) (ds_Qi D (fun (r : Int32) (u : Unit) => r = nI (bl lo s k)) (fun u : Unit => [(mo, .inr (5, [.int er, .ref aO, .ref aT, .ref aM, .ref aZ, .ref aY, .ref aK, .ref aF, .ref aL, .int (nI c), .int isd, .int wd])), (aZ, .inl (cI, 2, .inl Z))]) (va_A [(mo, .inr (5, [.int er, .ref aO, .ref aT, .ref aM, .ref aZ, .ref aY, .ref aK, .ref aF, .ref aL, .int (nI c), .int isd, .int wd])), (aZ, .inl (cI, 2, .inl Z))] sz)) 0 0 (va_A [(mo, .inr (5, [.int er, .ref aO, .ref aT, .ref aM, .ref aZ, .ref aY, .ref aK, .ref aF, .ref aL, .int (nI c), .int isd, .int wd])), (aZ, .inl (cI, 2, .inl Z))] sz) := by
  refine ds_enter (Qf := (fun A9 => ds_Qi D (fun (r : Int32) (u : Unit) => r = nI (bl lo s k)) (fun u : Unit => [(mo, .inr (5, [.int er, .ref aO, .ref aT, .ref aM, .ref aZ, .ref aY, .ref aK, .ref aF, .ref aL, .int (nI c), .int isd, .int wd])), (aZ, .inl (cI, 2, .inl Z))]) A9)) (cc := cX5_length) (maxL := 3) (ret := (some .int)) (by decide) rfl (Nat.le_of_ble_eq_true rfl) ?_
  intro Pp Ee Ss Mm Aa Bb Me Cc hx hb hml hr ht hown hlk hnm A H locs hA hP hD hS hK ls hl
  have hl : lv_has ls 3 [(0, .ref mo), (1, .int (nI s)), (2, .int (nI k))] := hl
  change Ss.vm.findClass RX5 = some Mm.cls at hown
  have hle := bn_lt (n := lo) (s := s) (i := k) (by omega) hk
  rw [Nat.mul_comm k s] at hle
  refine lv_aload_n hx hb dX5_length_0 rfl (lv_at hl 0 rfl) ?_
  refine va_get (D := D) (ci := 5) (v := .ref aZ) (C := RX5) (T := TX5) (N := 12) hx hb ht inA_X5 hown hK.1 hP 0 rfl rfl 4 (by decide) (ht _ iw_125) (fun _ h9 => h9) rfl dX5_length_1 ?_
  refine lv_iconst (v := nI 0) hx hb dX5_length_4 (by decide +kernel) ?_
  refine ds_iald (k := 0) hx hb hK hP 1 rfl (by omega) (by omega) dX5_length_5 ?_
  refine ds_top (z := nI lo) hZ ?_
  refine lv_iload_n hx hb dX5_length_6 rfl (lv_at hl 1 rfl) ?_
  refine lv_iload_n hx hb dX5_length_7 rfl (lv_at hl 2 rfl) ?_
  refine lv_imul hx hb dX5_length_8 ?_
  refine ds_top (z := nI (s * k)) (pk_mul _ _) ?_
  refine lv_isub hx hb dX5_length_9 ?_
  refine ds_top (z := nI (lo - (s * k))) (pk_sub (by omega)) ?_
  refine lv_iload_n hx hb dX5_length_10 rfl (lv_at hl 1 rfl) ?_
  refine lv_icmp_ge (tgt := 27) hx hb dX5_length_11 (by decide) (fun h => ?_) (fun h => ?_)
  ·
    have h : s ≤ (lo - (s * k)) := (nI_leI (a := s) (b := (lo - (s * k))) (by omega) (by omega)).mp h
    refine lv_iload_n hx hb dX5_length_27 rfl (lv_at hl 1 rfl) ?_
    exact ds_iret hx hb hr hlk rfl () (by rw [← bl_min2 (by omega) hk, if_neg (by omega)]) hP hD hS (Nat.le_of_ble_eq_true rfl) (Nat.le_of_ble_eq_true rfl) dX5_length_28
  ·
    have h : ¬ s ≤ (lo - (s * k)) := fun z9 => h ((nI_leI (a := s) (b := (lo - (s * k))) (by omega) (by omega)).mpr z9)
    refine lv_aload_n hx hb dX5_length_14 rfl (lv_at hl 0 rfl) ?_
    refine va_get (D := D) (ci := 5) (v := .ref aZ) (C := RX5) (T := TX5) (N := 12) hx hb ht inA_X5 hown hK.1 hP 0 rfl rfl 4 (by decide) (ht _ iw_125) (fun _ h9 => h9) rfl dX5_length_15 ?_
    refine lv_iconst (v := nI 0) hx hb dX5_length_18 (by decide +kernel) ?_
    refine ds_iald (k := 0) hx hb hK hP 1 rfl (by omega) (by omega) dX5_length_19 ?_
    refine ds_top (z := nI lo) hZ ?_
    refine lv_iload_n hx hb dX5_length_20 rfl (lv_at hl 1 rfl) ?_
    refine lv_iload_n hx hb dX5_length_21 rfl (lv_at hl 2 rfl) ?_
    refine lv_imul hx hb dX5_length_22 ?_
    refine ds_top (z := nI (s * k)) (pk_mul _ _) ?_
    refine lv_isub hx hb dX5_length_23 ?_
    refine ds_top (z := nI (lo - (s * k))) (pk_sub (by omega)) ?_
    refine lv_goto (tgt := 28) hx hb dX5_length_24 (by decide) ?_
    exact ds_iret hx hb hr hlk rfl () (by rw [← bl_min2 (by omega) hk, if_pos (by omega)]) hP hD hS (Nat.le_of_ble_eq_true rfl) (Nat.le_of_ble_eq_true rfl) dX5_length_28
set_option maxHeartbeats 4000000 in
set_option maxRecDepth 100000 in
theorem c_X5_fits (Ll : Launch) (D : va_G) (cI cL : ClassId) (mo : Nat) (aO : Nat) (aT : Nat) (aM : Nat) (aZ : Nat) (aY : Nat) (aK : Nat) (aF : Nat) (aL : Nat) (er : Int32) (c : Nat) (isd : Int32) (wd : Int32) (O : Nat → Int32) (Z : Nat → Int32) (lo : Nat) (ln : Nat) (fo : Nat → Int32) (fn : Nat → Int32) (s : Nat) (b : Nat) (k : Nat) (p : Nat) (hR : mR lo ln fo fn O Z) (h2 : 4 ≤ s) (h3 : s ≤ 256) (h4 : b ≤ 64) (hk : k < bn lo s) (h5 : p ≤ 1200) (sz : Nat) : Met Ll yX5_fits wsX5_fits { frames := 1, cells := 0, slots := 0, locals := 26 } (ds_P D cI cL [.ref mo, .int (nI s), .int (nI b), .int (nI k), .int (nI p)] [(mo, .inr (5, [.int er, .ref aO, .ref aT, .ref aM, .ref aZ, .ref aY, .ref aK, .ref aF, .ref aL, .int (nI c), .int isd, .int wd])), (aO, .inl (cI, 2400, .inl O)), (aZ, .inl (cI, 2, .inl Z))] sz) (ds_Qi D (fun (r : Int32) (u : Unit) => (r = 1 ∧ ft fo fn ln (ds_mask b) (k * s) p (bl lo s k)) ∨ (r = 0 ∧ ¬ ft fo fn ln (ds_mask b) (k * s) p (bl lo s k))) (fun u : Unit => [(mo, .inr (5, [.int er, .ref aO, .ref aT, .ref aM, .ref aZ, .ref aY, .ref aK, .ref aF, .ref aL, .int (nI c), .int isd, .int wd])), (aO, .inl (cI, 2400, .inl O)), (aZ, .inl (cI, 2, .inl Z))]) (va_A [(mo, .inr (5, [.int er, .ref aO, .ref aT, .ref aM, .ref aZ, .ref aY, .ref aK, .ref aF, .ref aL, .int (nI c), .int isd, .int wd])), (aO, .inl (cI, 2400, .inl O)), (aZ, .inl (cI, 2, .inl Z))] sz)) 0 0 (va_A [(mo, .inr (5, [.int er, .ref aO, .ref aT, .ref aM, .ref aZ, .ref aY, .ref aK, .ref aF, .ref aL, .int (nI c), .int isd, .int wd])), (aO, .inl (cI, 2400, .inl O)), (aZ, .inl (cI, 2, .inl Z))] sz) := by
  refine ds_enter (Qf := (fun A9 => ds_Qi D (fun (r : Int32) (u : Unit) => (r = 1 ∧ ft fo fn ln (ds_mask b) (k * s) p (bl lo s k)) ∨ (r = 0 ∧ ¬ ft fo fn ln (ds_mask b) (k * s) p (bl lo s k))) (fun u : Unit => [(mo, .inr (5, [.int er, .ref aO, .ref aT, .ref aM, .ref aZ, .ref aY, .ref aK, .ref aF, .ref aL, .int (nI c), .int isd, .int wd])), (aO, .inl (cI, 2400, .inl O)), (aZ, .inl (cI, 2, .inl Z))]) A9)) (cc := cX5_fits) (maxL := 8) (ret := (some .boolean)) (by decide) rfl (Nat.le_of_ble_eq_true rfl) ?_
  intro Pp Ee Ss Mm Aa Bb Me Cc hx hb hml hr ht hown hlk hnm A H locs hA hP hD hS hK ls hl
  have hl : lv_has ls 8 [(0, .ref mo), (1, .int (nI s)), (2, .int (nI b)), (3, .int (nI k)), (4, .int (nI p))] := hl
  change Ss.vm.findClass RX5 = some Mm.cls at hown
  have hZ := mR_len hR
  have hin := bl_in (n := lo) (s := s) (i := k) (by omega) hk
  have hb3 := bn_300 hZ.1 h2
  have hle2 := bL_le (n := lo) (s := s) (by omega)
  have hw0 := mR_W0 hR (p := k * s) (n := bl lo s k) hin.1
  rw [Nat.mul_comm k s] at hw0 hin
  refine lv_aload_n hx hb dX5_fits_0 rfl (lv_at hl 0 rfl) ?_
  refine lv_iload_n hx hb dX5_fits_1 rfl (lv_at hl 1 rfl) ?_
  refine lv_iload_n hx hb dX5_fits_2 rfl (lv_at hl 3 rfl) ?_
  refine ds_calli (wc := [(mo, .inr (5, [.int er, .ref aO, .ref aT, .ref aM, .ref aZ, .ref aY, .ref aK, .ref aF, .ref aL, .int (nI c), .int isd, .int wd])), (aZ, .inl (cI, 2, .inl Z))]) (wr := [(aO, .inl (cI, 2400, .inl O))]) (wo := (fun u2 : Unit => [(mo, .inr (5, [.int er, .ref aO, .ref aT, .ref aM, .ref aZ, .ref aY, .ref aK, .ref aF, .ref aL, .int (nI c), .int isd, .int wd])), (aZ, .inl (cI, 2, .inl Z))])) (wn := (fun u2 : Unit => [(mo, .inr (5, [.int er, .ref aO, .ref aT, .ref aM, .ref aZ, .ref aY, .ref aK, .ref aF, .ref aL, .int (nI c), .int isd, .int wd])), (aO, .inl (cI, 2400, .inl O)), (aZ, .inl (cI, 2, .inl Z))])) (isC := [0, 2]) (isR := [1]) hP hD hS hA ⟨rfl, rfl, by decide, by decide, by decide⟩ [1, 0, 2] (by decide) (fun _ => rfl) (fun hPc hDc => va_runV (As := [.int (nI s), .int (nI k)]) (rest := []) ⟨hx, hb, hml, hown, ht⟩ (c_X5_length Ll D cI cL mo aO aT aM aZ aY aK aF aL er c isd wd Z lo s k hZ.2.2.1 hZ.1 h2 h3 hk H.size) ⟨(callB_of 2 ht g_X5_length rfl rfl rfl (ht _ iw_136) (ht _ iw_166) hd_X5_length ⟨Nat.le_of_ble_eq_true rfl, Nat.le_of_ble_eq_true rfl⟩), (ht _ iw_167), (ht _ iw_168)⟩ (ds_pV hPc hDc hK (q0 := 0) rfl rfl) rfl rfl hl.1 rfl (lv_room (Nat.le_of_ble_eq_true rfl)) dX5_fits_3 ⟨Nat.le_of_ble_eq_true rfl, Nat.le_of_ble_eq_true rfl⟩) (fun r1 u2 H locs hp3 hP hD hS => ?_)
  have hP : va_P D vwCl [(mo, .inr (5, [.int er, .ref aO, .ref aT, .ref aM, .ref aZ, .ref aY, .ref aK, .ref aF, .ref aL, .int (nI c), .int isd, .int wd])), (aO, .inl (cI, 2400, .inl O)), (aZ, .inl (cI, 2, .inl Z))] H := hP
  have hD : va_D A [(mo, .inr (5, [.int er, .ref aO, .ref aT, .ref aM, .ref aZ, .ref aY, .ref aK, .ref aF, .ref aL, .int (nI c), .int isd, .int wd])), (aO, .inl (cI, 2400, .inl O)), (aZ, .inl (cI, 2, .inl Z))] := hD
  have hp3 : r1 = nI (bl lo s k) := hp3
  replace hp3 := Eq.symm hp3
  subst hp3
  refine lv_istore (lv' := [(5, .int (nI (bl lo s k))), (0, .ref mo), (1, .int (nI s)), (2, .int (nI b)), (3, .int (nI k)), (4, .int (nI p))]) hx hb dX5_fits_6 hl (Nat.le_of_ble_eq_true rfl) rfl (fun ls hl => ?_)
  refine lv_iload hx hb dX5_fits_8 (lv_at hl 5 rfl) ?_
  refine lv_iload hx hb dX5_fits_10 (lv_at hl 0 rfl) ?_
  refine lv_iadd hx hb dX5_fits_12 ?_
  refine ds_top (z := nI (p + (bl lo s k))) (nI_add _ _) ?_
  refine lv_aload_n hx hb dX5_fits_13 rfl (lv_at hl 1 rfl) ?_
  refine va_get (D := D) (ci := 5) (v := .ref aZ) (C := RX5) (T := TX5) (N := 12) hx hb ht inA_X5 hown hK.1 hP 0 rfl rfl 4 (by decide) (ht _ iw_125) (fun _ h9 => h9) rfl dX5_fits_14 ?_
  refine lv_iconst (v := nI 1) hx hb dX5_fits_17 (by decide +kernel) ?_
  refine ds_iald (k := 1) hx hb hK hP 2 rfl (by omega) (by omega) dX5_fits_18 ?_
  refine ds_top (z := nI ln) hZ.2.2.2 ?_
  refine lv_icmp_gt (tgt := 44) hx hb dX5_fits_19 (by decide) (fun hpl => ?_) (fun hpl => ?_)
  ·
    have hpl : ln < (p + (bl lo s k)) := (nI_ltI (a := ln) (b := (p + (bl lo s k))) (by omega) (by omega)).mp hpl
    refine lv_iconst (v := nI 0) hx hb dX5_fits_44 (by decide +kernel) ?_
    exact ds_iret hx hb hr hlk (by decide +kernel) () (Or.inr ⟨rfl, fun z => absurd z.1 (by omega)⟩) hP hD hS (Nat.le_of_ble_eq_true rfl) (Nat.le_of_ble_eq_true rfl) dX5_fits_45
  ·
    have hpl : ¬ ln < (p + (bl lo s k)) := fun z9 => hpl ((nI_ltI (a := ln) (b := (p + (bl lo s k))) (by omega) (by omega)).mpr z9)
    have hw1 := mR_W1 hR (p := p) (n := bl lo s k) (by omega)
    refine lv_aload_n hx hb dX5_fits_22 rfl (lv_at hl 1 rfl) ?_
    refine lv_iconst (v := nI 0) hx hb dX5_fits_23 (by decide +kernel) ?_
    refine lv_iload_n hx hb dX5_fits_24 rfl (lv_at hl 2 rfl) ?_
    refine lv_iload_n hx hb dX5_fits_25 rfl (lv_at hl 4 rfl) ?_
    refine lv_imul hx hb dX5_fits_26 ?_
    refine ds_top (z := nI (s * k)) (pk_mul _ _) ?_
    refine lv_iload hx hb dX5_fits_27 (lv_at hl 0 rfl) ?_
    refine ds_calli (wc := [(mo, .inr (5, [.int er, .ref aO, .ref aT, .ref aM, .ref aZ, .ref aY, .ref aK, .ref aF, .ref aL, .int (nI c), .int isd, .int wd])), (aO, .inl (cI, 2400, .inl O))]) (wr := [(aZ, .inl (cI, 2, .inl Z))]) (wo := (fun u5 : Unit => [(mo, .inr (5, [.int er, .ref aO, .ref aT, .ref aM, .ref aZ, .ref aY, .ref aK, .ref aF, .ref aL, .int (nI c), .int isd, .int wd])), (aO, .inl (cI, 2400, .inl O))])) (wn := (fun u5 : Unit => [(mo, .inr (5, [.int er, .ref aO, .ref aT, .ref aM, .ref aZ, .ref aY, .ref aK, .ref aF, .ref aL, .int (nI c), .int isd, .int wd])), (aO, .inl (cI, 2400, .inl O)), (aZ, .inl (cI, 2, .inl Z))])) (isC := [0, 1]) (isR := [2]) hP hD hS hA ⟨rfl, rfl, by decide, by decide, by decide⟩ [1, 2, 0] (by decide) (fun _ => rfl) (fun hPc hDc => va_runV (As := [.int (nI 0), .int (nI (s * k)), .int (nI (bl lo s k))]) (rest := []) ⟨hx, hb, hml, hown, ht⟩ (m_weakOf0 Ll D cI cL mo aO aT aM aZ aY aK aF aL er c isd wd O (s * k) (bl lo s k) (by omega) H.size) ⟨(callB_of 3 ht g_X5_weakOf rfl rfl rfl (ht _ iw_136) (ht _ iw_155) hd_X5_weakOf ⟨Nat.le_of_ble_eq_true rfl, Nat.le_of_ble_eq_true rfl⟩), (ht _ iw_156), (ht _ iw_157)⟩ (ds_pV hPc hDc hK (q0 := 0) rfl rfl) rfl rfl hl.1 rfl (lv_room (Nat.le_of_ble_eq_true rfl)) dX5_fits_29 ⟨Nat.le_of_ble_eq_true rfl, Nat.le_of_ble_eq_true rfl⟩) (fun r4 u5 H locs hp6 hP hD hS => ?_)
    have hP : va_P D vwCl [(mo, .inr (5, [.int er, .ref aO, .ref aT, .ref aM, .ref aZ, .ref aY, .ref aK, .ref aF, .ref aL, .int (nI c), .int isd, .int wd])), (aO, .inl (cI, 2400, .inl O)), (aZ, .inl (cI, 2, .inl Z))] H := hP
    have hD : va_D A [(mo, .inr (5, [.int er, .ref aO, .ref aT, .ref aM, .ref aZ, .ref aY, .ref aK, .ref aF, .ref aL, .int (nI c), .int isd, .int wd])), (aO, .inl (cI, 2400, .inl O)), (aZ, .inl (cI, 2, .inl Z))] := hD
    have hp6 : r4 = su_W O (s * k) (bl lo s k) := hp6
    replace hp6 := Eq.symm hp6
    subst hp6
    refine ds_top (z := su_W fo (s * k) (bl lo s k)) hw0.1 ?_
    refine lv_aload_n hx hb dX5_fits_32 rfl (lv_at hl 1 rfl) ?_
    refine lv_iconst (v := nI 1) hx hb dX5_fits_33 (by decide +kernel) ?_
    refine lv_iload hx hb dX5_fits_34 (lv_at hl 5 rfl) ?_
    refine lv_iload hx hb dX5_fits_36 (lv_at hl 0 rfl) ?_
    refine ds_calli (wc := [(mo, .inr (5, [.int er, .ref aO, .ref aT, .ref aM, .ref aZ, .ref aY, .ref aK, .ref aF, .ref aL, .int (nI c), .int isd, .int wd])), (aO, .inl (cI, 2400, .inl O))]) (wr := [(aZ, .inl (cI, 2, .inl Z))]) (wo := (fun u8 : Unit => [(mo, .inr (5, [.int er, .ref aO, .ref aT, .ref aM, .ref aZ, .ref aY, .ref aK, .ref aF, .ref aL, .int (nI c), .int isd, .int wd])), (aO, .inl (cI, 2400, .inl O))])) (wn := (fun u8 : Unit => [(mo, .inr (5, [.int er, .ref aO, .ref aT, .ref aM, .ref aZ, .ref aY, .ref aK, .ref aF, .ref aL, .int (nI c), .int isd, .int wd])), (aO, .inl (cI, 2400, .inl O)), (aZ, .inl (cI, 2, .inl Z))])) (isC := [0, 1]) (isR := [2]) hP hD hS hA ⟨rfl, rfl, by decide, by decide, by decide⟩ [1, 2, 0] (by decide) (fun _ => rfl) (fun hPc hDc => va_runV (As := [.int (nI 1), .int (nI p), .int (nI (bl lo s k))]) (rest := [.int (su_W fo (s * k) (bl lo s k))]) ⟨hx, hb, hml, hown, ht⟩ (m_weakOf1 Ll D cI cL mo aO aT aM aZ aY aK aF aL er c isd wd O p (bl lo s k) (by omega) H.size) ⟨(callB_of 3 ht g_X5_weakOf rfl rfl rfl (ht _ iw_136) (ht _ iw_155) hd_X5_weakOf ⟨Nat.le_of_ble_eq_true rfl, Nat.le_of_ble_eq_true rfl⟩), (ht _ iw_156), (ht _ iw_157)⟩ (ds_pV hPc hDc hK (q0 := 0) rfl rfl) rfl rfl hl.1 rfl (lv_room (Nat.le_of_ble_eq_true rfl)) dX5_fits_38 ⟨Nat.le_of_ble_eq_true rfl, Nat.le_of_ble_eq_true rfl⟩) (fun r7 u8 H locs hp9 hP hD hS => ?_)
    have hP : va_P D vwCl [(mo, .inr (5, [.int er, .ref aO, .ref aT, .ref aM, .ref aZ, .ref aY, .ref aK, .ref aF, .ref aL, .int (nI c), .int isd, .int wd])), (aO, .inl (cI, 2400, .inl O)), (aZ, .inl (cI, 2, .inl Z))] H := hP
    have hD : va_D A [(mo, .inr (5, [.int er, .ref aO, .ref aT, .ref aM, .ref aZ, .ref aY, .ref aK, .ref aF, .ref aL, .int (nI c), .int isd, .int wd])), (aO, .inl (cI, 2400, .inl O)), (aZ, .inl (cI, 2, .inl Z))] := hD
    have hp9 : r7 = su_W (fun j => O (1200 + j)) p (bl lo s k) := hp9
    replace hp9 := Eq.symm hp9
    subst hp9
    refine ds_top (z := su_W fn p (bl lo s k)) hw1.1 ?_
    refine lv_icmp_eq (tgt := 46) hx hb dX5_fits_41 (by decide) (fun hq => ?_) (fun hq => ?_)
    ·
      refine lv_aload_n hx hb dX5_fits_46 rfl (lv_at hl 1 rfl) ?_
      refine lv_iconst (v := nI 0) hx hb dX5_fits_47 (by decide +kernel) ?_
      refine lv_iload_n hx hb dX5_fits_48 rfl (lv_at hl 2 rfl) ?_
      refine lv_iload_n hx hb dX5_fits_49 rfl (lv_at hl 4 rfl) ?_
      refine lv_imul hx hb dX5_fits_50 ?_
      refine ds_top (z := nI (s * k)) (pk_mul _ _) ?_
      refine lv_iload hx hb dX5_fits_51 (lv_at hl 0 rfl) ?_
      refine ds_calll (wc := [(mo, .inr (5, [.int er, .ref aO, .ref aT, .ref aM, .ref aZ, .ref aY, .ref aK, .ref aF, .ref aL, .int (nI c), .int isd, .int wd])), (aO, .inl (cI, 2400, .inl O))]) (wr := [(aZ, .inl (cI, 2, .inl Z))]) (wo := (fun u11 : Unit => [(mo, .inr (5, [.int er, .ref aO, .ref aT, .ref aM, .ref aZ, .ref aY, .ref aK, .ref aF, .ref aL, .int (nI c), .int isd, .int wd])), (aO, .inl (cI, 2400, .inl O))])) (wn := (fun u11 : Unit => [(mo, .inr (5, [.int er, .ref aO, .ref aT, .ref aM, .ref aZ, .ref aY, .ref aK, .ref aF, .ref aL, .int (nI c), .int isd, .int wd])), (aO, .inl (cI, 2400, .inl O)), (aZ, .inl (cI, 2, .inl Z))])) (isC := [0, 1]) (isR := [2]) hP hD hS hA ⟨rfl, rfl, by decide, by decide, by decide⟩ [1, 2, 0] (by decide) (fun _ => rfl) (fun hPc hDc => va_runV (As := [.int (nI 0), .int (nI (s * k)), .int (nI (bl lo s k))]) (rest := []) ⟨hx, hb, hml, hown, ht⟩ (m_strongOf0 Ll D cI cL mo aO aT aM aZ aY aK aF aL er c isd wd O (s * k) (bl lo s k) (by omega) H.size) ⟨(callB_of 3 ht g_X5_strongOf rfl rfl rfl (ht _ iw_136) (ht _ iw_159) hd_X5_strongOf ⟨Nat.le_of_ble_eq_true rfl, Nat.le_of_ble_eq_true rfl⟩), (ht _ iw_160), (ht _ iw_161)⟩ (ds_pV hPc hDc hK (q0 := 0) rfl rfl) rfl rfl hl.1 rfl (lv_room (Nat.le_of_ble_eq_true rfl)) dX5_fits_53 ⟨Nat.le_of_ble_eq_true rfl, Nat.le_of_ble_eq_true rfl⟩) (fun r10 u11 H locs hp12 hP hD hS => ?_)
      have hP : va_P D vwCl [(mo, .inr (5, [.int er, .ref aO, .ref aT, .ref aM, .ref aZ, .ref aY, .ref aK, .ref aF, .ref aL, .int (nI c), .int isd, .int wd])), (aO, .inl (cI, 2400, .inl O)), (aZ, .inl (cI, 2, .inl Z))] H := hP
      have hD : va_D A [(mo, .inr (5, [.int er, .ref aO, .ref aT, .ref aM, .ref aZ, .ref aY, .ref aK, .ref aF, .ref aL, .int (nI c), .int isd, .int wd])), (aO, .inl (cI, 2400, .inl O)), (aZ, .inl (cI, 2, .inl Z))] := hD
      have hp12 : r10 = su_S O (s * k) (bl lo s k) := hp12
      replace hp12 := Eq.symm hp12
      subst hp12
      refine ds_topl (z := su_S fo (s * k) (bl lo s k)) hw0.2 ?_
      refine lv_aload_n hx hb dX5_fits_56 rfl (lv_at hl 1 rfl) ?_
      refine lv_iconst (v := nI 1) hx hb dX5_fits_57 (by decide +kernel) ?_
      refine lv_iload hx hb dX5_fits_58 (lv_at hl 5 rfl) ?_
      refine lv_iload hx hb dX5_fits_60 (lv_at hl 0 rfl) ?_
      refine ds_calll (wc := [(mo, .inr (5, [.int er, .ref aO, .ref aT, .ref aM, .ref aZ, .ref aY, .ref aK, .ref aF, .ref aL, .int (nI c), .int isd, .int wd])), (aO, .inl (cI, 2400, .inl O))]) (wr := [(aZ, .inl (cI, 2, .inl Z))]) (wo := (fun u14 : Unit => [(mo, .inr (5, [.int er, .ref aO, .ref aT, .ref aM, .ref aZ, .ref aY, .ref aK, .ref aF, .ref aL, .int (nI c), .int isd, .int wd])), (aO, .inl (cI, 2400, .inl O))])) (wn := (fun u14 : Unit => [(mo, .inr (5, [.int er, .ref aO, .ref aT, .ref aM, .ref aZ, .ref aY, .ref aK, .ref aF, .ref aL, .int (nI c), .int isd, .int wd])), (aO, .inl (cI, 2400, .inl O)), (aZ, .inl (cI, 2, .inl Z))])) (isC := [0, 1]) (isR := [2]) hP hD hS hA ⟨rfl, rfl, by decide, by decide, by decide⟩ [1, 2, 0] (by decide) (fun _ => rfl) (fun hPc hDc => va_runV (As := [.int (nI 1), .int (nI p), .int (nI (bl lo s k))]) (rest := [.long (su_S fo (s * k) (bl lo s k))]) ⟨hx, hb, hml, hown, ht⟩ (m_strongOf1 Ll D cI cL mo aO aT aM aZ aY aK aF aL er c isd wd O p (bl lo s k) (by omega) H.size) ⟨(callB_of 3 ht g_X5_strongOf rfl rfl rfl (ht _ iw_136) (ht _ iw_159) hd_X5_strongOf ⟨Nat.le_of_ble_eq_true rfl, Nat.le_of_ble_eq_true rfl⟩), (ht _ iw_160), (ht _ iw_161)⟩ (ds_pV hPc hDc hK (q0 := 0) rfl rfl) rfl rfl hl.1 rfl (lv_room (Nat.le_of_ble_eq_true rfl)) dX5_fits_62 ⟨Nat.le_of_ble_eq_true rfl, Nat.le_of_ble_eq_true rfl⟩) (fun r13 u14 H locs hp15 hP hD hS => ?_)
      have hP : va_P D vwCl [(mo, .inr (5, [.int er, .ref aO, .ref aT, .ref aM, .ref aZ, .ref aY, .ref aK, .ref aF, .ref aL, .int (nI c), .int isd, .int wd])), (aO, .inl (cI, 2400, .inl O)), (aZ, .inl (cI, 2, .inl Z))] H := hP
      have hD : va_D A [(mo, .inr (5, [.int er, .ref aO, .ref aT, .ref aM, .ref aZ, .ref aY, .ref aK, .ref aF, .ref aL, .int (nI c), .int isd, .int wd])), (aO, .inl (cI, 2400, .inl O)), (aZ, .inl (cI, 2, .inl Z))] := hD
      have hp15 : r13 = su_S (fun j => O (1200 + j)) p (bl lo s k) := hp15
      replace hp15 := Eq.symm hp15
      subst hp15
      refine ds_topl (z := su_S fn p (bl lo s k)) hw1.2 ?_
      refine lv_lxor hx hb dX5_fits_65 ?_
      refine lv_lstore (lv' := [(6, .long ((su_S fo (s * k) (bl lo s k)) ^^^ (su_S fn p (bl lo s k)))), (5, .int (nI (bl lo s k))), (0, .ref mo), (1, .int (nI s)), (2, .int (nI b)), (3, .int (nI k)), (4, .int (nI p))]) hx hb dX5_fits_66 hl (Nat.le_of_ble_eq_true rfl) rfl (fun ls hl => ?_)
      refine lv_iload_n hx hb dX5_fits_68 rfl (lv_at hl 4 rfl) ?_
      refine lv_if_eq (tgt := 84) hx hb dX5_fits_69 (by decide) (fun hb0 => ?_) (fun hb0 => ?_)
      ·
        rw [← nI_0] at hb0
        have hb0 : b = 0 := (nI_eq (a := b) (b := 0) (by omega) (by omega)).mp hb0
        refine lv_iconst (v := nI 1) hx hb dX5_fits_84 (by decide +kernel) ?_
        refine lv_goto (tgt := 89) hx hb dX5_fits_85 (by decide) ?_
        exact ds_iret hx hb hr hlk (by decide +kernel) () (Or.inl ⟨rfl, by rw [Nat.mul_comm k s]; exact ⟨by omega, hq.symm, (mk_x h4 _ _).mpr (Or.inl hb0)⟩⟩) hP hD hS (Nat.le_of_ble_eq_true rfl) (Nat.le_of_ble_eq_true rfl) dX5_fits_89
      ·
        rw [← nI_0] at hb0
        have hb0 : ¬ b = 0 := fun z9 => hb0 ((nI_eq (a := b) (b := 0) (by omega) (by omega)).mpr z9)
        refine lv_lload hx hb dX5_fits_72 (lv_at hl 0 rfl) ?_
        refine lv_bipush (v := nI 64) hx hb dX5_fits_74 (by decide +kernel) ?_
        refine lv_iload_n hx hb dX5_fits_76 rfl (lv_at hl 4 rfl) ?_
        refine lv_isub hx hb dX5_fits_77 ?_
        refine ds_top (z := nI (64 - b)) (pk_sub (by omega)) ?_
        refine lv_lshl (v := ((su_S fo (s * k) (bl lo s k)) ^^^ (su_S fn p (bl lo s k))) <<< ((nI (64 - b)).toInt64 &&& 63)) hx hb dX5_fits_78 rfl ?_
        refine lv_lconst (v := 0) hx hb dX5_fits_79 (by decide +kernel) ?_
        refine W.lcmp hx hb dX5_fits_80 ?_
        refine lv_if_ne (tgt := 88) hx hb dX5_fits_81 (by decide) (fun hc => ?_) (fun hc => ?_)
        ·
          refine lv_iconst (v := nI 0) hx hb dX5_fits_88 (by decide +kernel) ?_
          exact ds_iret hx hb hr hlk (by decide +kernel) () (Or.inr ⟨rfl, fun z => by rw [Nat.mul_comm k s] at z; exact ((mk_x h4 _ _).mp z.2.2).elim hb0 (fun y => hc ((lg_cmp_eq _ _).mpr y))⟩) hP hD hS (Nat.le_of_ble_eq_true rfl) (Nat.le_of_ble_eq_true rfl) dX5_fits_89
        ·
          refine lv_iconst (v := nI 1) hx hb dX5_fits_84 (by decide +kernel) ?_
          refine lv_goto (tgt := 89) hx hb dX5_fits_85 (by decide) ?_
          exact ds_iret hx hb hr hlk (by decide +kernel) () (Or.inl ⟨rfl, by rw [Nat.mul_comm k s]; exact ⟨by omega, hq.symm, (mk_x h4 _ _).mpr (Or.inr ((lg_cmp_eq _ _).mp hc))⟩⟩) hP hD hS (Nat.le_of_ble_eq_true rfl) (Nat.le_of_ble_eq_true rfl) dX5_fits_89
    ·
      refine lv_iconst (v := nI 0) hx hb dX5_fits_44 (by decide +kernel) ?_
      exact ds_iret hx hb hr hlk (by decide +kernel) () (Or.inr ⟨rfl, fun z => by rw [Nat.mul_comm k s] at z; exact hq z.2.1.symm⟩) hP hD hS (Nat.le_of_ble_eq_true rfl) (Nat.le_of_ble_eq_true rfl) dX5_fits_45
