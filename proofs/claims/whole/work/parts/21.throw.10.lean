set_option maxHeartbeats 4000000 in
set_option maxRecDepth 100000 in
theorem x_X4_find_b (Ll : Launch) (hlst : Ll.stackTraces = false) (D : va_G) (cI cL : ClassId) (d : Nat) (ro : Nat) (rn : Nat) (rm : Nat) (bk : Nat) (uw : Nat) (lw : Nat) (tk : Nat) (hd : Int32) (x : Int32) (y : Int32) (z : Int32) (w : Int32) (g1 : x < nI 4 ∨ nI 256 < x ∨ y < 0 ∨ nI 64 < y) (sz : Nat) : vx_Met Ll yX4_find wsX4_find { frames := 7, cells := 1, slots := 6, locals := 111 } (ds_PX D cI cL [.ref d, .int x, .int y, .int z, .int w] [(d, .inr (4, [.ref ro, .ref rn, .ref rm, .ref bk, .ref uw, .ref lw, .ref tk, .int hd]))] sz) (ds_Qi D (fun (r : Int32) (u : Unit) => False) (fun u : Unit => [(d, .inr (4, [.ref ro, .ref rn, .ref rm, .ref bk, .ref uw, .ref lw, .ref tk, .int hd]))]) (va_A [(d, .inr (4, [.ref ro, .ref rn, .ref rm, .ref bk, .ref uw, .ref lw, .ref tk, .int hd]))] sz)) (ds_X D ((fun E => E = "java/lang/IllegalArgumentException")) [(d, .inr (4, [.ref ro, .ref rn, .ref rm, .ref bk, .ref uw, .ref lw, .ref tk, .int hd]))] (va_A [(d, .inr (4, [.ref ro, .ref rn, .ref rm, .ref bk, .ref uw, .ref lw, .ref tk, .int hd]))] sz)) 1 6 (va_A [(d, .inr (4, [.ref ro, .ref rn, .ref rm, .ref bk, .ref uw, .ref lw, .ref tk, .int hd]))] sz) := by
  refine ds_enterX (Qf := (fun A9 => ds_Qi D (fun (r : Int32) (u : Unit) => False) (fun u : Unit => [(d, .inr (4, [.ref ro, .ref rn, .ref rm, .ref bk, .ref uw, .ref lw, .ref tk, .int hd]))]) A9)) (XC := fun A9 => ds_X D ((fun E => E = "java/lang/IllegalArgumentException")) [(d, .inr (4, [.ref ro, .ref rn, .ref rm, .ref bk, .ref uw, .ref lw, .ref tk, .int hd]))] A9) (cc := cX4_find) (maxL := 5) (ret := (some .int)) (by decide) rfl (Nat.le_of_ble_eq_true rfl) ?_
  intro Pp Ee Ss Mm Aa Bb Me Cc hx hb hml hr ht hown hlk hnm A H locs hA hP hD hS hK hZ hno ls hl
  have hl : lv_has ls 5 [(0, .ref d), (1, .int x), (2, .int y), (3, .int z), (4, .int w)] := hl
  change Ss.vm.findClass RX4 = some Mm.cls at hown
  refine lv_iload_n hx hb dX4_find_0 rfl (lv_at hl 1 rfl) ?_
  refine lv_iload_n hx hb dX4_find_1 rfl (lv_at hl 2 rfl) ?_
  refine ds_callXv (wc := []) (wr := [(d, .inr (4, [.ref ro, .ref rn, .ref rm, .ref bk, .ref uw, .ref lw, .ref tk, .int hd]))]) (wo := (fun u2 : Unit => [])) (wn := (fun u2 : Unit => [(d, .inr (4, [.ref ro, .ref rn, .ref rm, .ref bk, .ref uw, .ref lw, .ref tk, .int hd]))])) (isC := []) (isR := [0]) hP hD hS hA ⟨rfl, rfl, by decide, by decide, by decide⟩ [0] (by decide) (fun _ => rfl) [0] rfl (fun hPc hDc hFc => vx_runS (As := [.int x, .int y]) (rest := []) ⟨hx, hb, hml, hown, ht⟩ (x_X4_checkBlocks Ll hlst D cI cL x y g1 H.size) ⟨(callB_of 2 ht g_X4_checkBlocks rfl rfl rfl (ht _ iw_30) (ht _ iw_59) hd_X4_checkBlocks ⟨Nat.le_of_ble_eq_true rfl, Nat.le_of_ble_eq_true rfl⟩), (ht _ iw_60)⟩ (ds_pSX (ws := []) hPc hDc hK hZ hS hFc) rfl rfl hl.1 rfl (lv_room (Nat.le_of_ble_eq_true rfl)) dX4_find_2 ⟨Nat.le_of_ble_eq_true rfl, Nat.le_of_ble_eq_true rfl⟩) (fun E9 ce9 q9 H locs hpx hP hS h9 hn9 hc9 => ?_) (fun u2 H locs hp3 hP hD hS => ?_)
  ·
    have hP : va_P D vwCl [(d, .inr (4, [.ref ro, .ref rn, .ref rm, .ref bk, .ref uw, .ref lw, .ref tk, .int hd]))] H := hP
    exact ds_out hno hlk hpx hP hS h9 hn9 hc9 (Nat.le_of_ble_eq_true rfl) (Nat.le_of_ble_eq_true rfl)
  ·
    exact False.elim hp3
set_option maxHeartbeats 4000000 in
set_option maxRecDepth 100000 in
theorem x_X4_delta_b (Ll : Launch) (hlst : Ll.stackTraces = false) (D : va_G) (cI cL : ClassId) (d : Nat) (ro : Nat) (rn : Nat) (rm : Nat) (bk : Nat) (uw : Nat) (lw : Nat) (tk : Nat) (hd : Int32) (x : Int32) (y : Int32) (g1 : x < nI 4 ∨ nI 256 < x ∨ y < 0 ∨ nI 64 < y) (sz : Nat) : vx_Met Ll yX4_delta wsX4_delta { frames := 7, cells := 1, slots := 6, locals := 145 } (ds_PX D cI cL [.ref d, .int x, .int y] [(d, .inr (4, [.ref ro, .ref rn, .ref rm, .ref bk, .ref uw, .ref lw, .ref tk, .int hd]))] sz) (ds_Qi D (fun (r : Int32) (u : Unit) => False) (fun u : Unit => [(d, .inr (4, [.ref ro, .ref rn, .ref rm, .ref bk, .ref uw, .ref lw, .ref tk, .int hd]))]) (va_A [(d, .inr (4, [.ref ro, .ref rn, .ref rm, .ref bk, .ref uw, .ref lw, .ref tk, .int hd]))] sz)) (ds_X D ((fun E => E = "java/lang/IllegalArgumentException")) [(d, .inr (4, [.ref ro, .ref rn, .ref rm, .ref bk, .ref uw, .ref lw, .ref tk, .int hd]))] (va_A [(d, .inr (4, [.ref ro, .ref rn, .ref rm, .ref bk, .ref uw, .ref lw, .ref tk, .int hd]))] sz)) 1 6 (va_A [(d, .inr (4, [.ref ro, .ref rn, .ref rm, .ref bk, .ref uw, .ref lw, .ref tk, .int hd]))] sz) := by
  refine ds_enterX (Qf := (fun A9 => ds_Qi D (fun (r : Int32) (u : Unit) => False) (fun u : Unit => [(d, .inr (4, [.ref ro, .ref rn, .ref rm, .ref bk, .ref uw, .ref lw, .ref tk, .int hd]))]) A9)) (XC := fun A9 => ds_X D ((fun E => E = "java/lang/IllegalArgumentException")) [(d, .inr (4, [.ref ro, .ref rn, .ref rm, .ref bk, .ref uw, .ref lw, .ref tk, .int hd]))] A9) (cc := cX4_delta) (maxL := 3) (ret := (some .int)) (by decide) rfl (Nat.le_of_ble_eq_true rfl) ?_
  intro Pp Ee Ss Mm Aa Bb Me Cc hx hb hml hr ht hown hlk hnm A H locs hA hP hD hS hK hZ hno ls hl
  have hl : lv_has ls 3 [(0, .ref d), (1, .int x), (2, .int y)] := hl
  change Ss.vm.findClass RX4 = some Mm.cls at hown
  refine lv_iload_n hx hb dX4_delta_0 rfl (lv_at hl 1 rfl) ?_
  refine lv_iload_n hx hb dX4_delta_1 rfl (lv_at hl 2 rfl) ?_
  refine ds_callXv (wc := []) (wr := [(d, .inr (4, [.ref ro, .ref rn, .ref rm, .ref bk, .ref uw, .ref lw, .ref tk, .int hd]))]) (wo := (fun u2 : Unit => [])) (wn := (fun u2 : Unit => [(d, .inr (4, [.ref ro, .ref rn, .ref rm, .ref bk, .ref uw, .ref lw, .ref tk, .int hd]))])) (isC := []) (isR := [0]) hP hD hS hA ⟨rfl, rfl, by decide, by decide, by decide⟩ [0] (by decide) (fun _ => rfl) [0] rfl (fun hPc hDc hFc => vx_runS (As := [.int x, .int y]) (rest := []) ⟨hx, hb, hml, hown, ht⟩ (x_X4_checkBlocks Ll hlst D cI cL x y g1 H.size) ⟨(callB_of 2 ht g_X4_checkBlocks rfl rfl rfl (ht _ iw_30) (ht _ iw_59) hd_X4_checkBlocks ⟨Nat.le_of_ble_eq_true rfl, Nat.le_of_ble_eq_true rfl⟩), (ht _ iw_60)⟩ (ds_pSX (ws := []) hPc hDc hK hZ hS hFc) rfl rfl hl.1 rfl (lv_room (Nat.le_of_ble_eq_true rfl)) dX4_delta_2 ⟨Nat.le_of_ble_eq_true rfl, Nat.le_of_ble_eq_true rfl⟩) (fun E9 ce9 q9 H locs hpx hP hS h9 hn9 hc9 => ?_) (fun u2 H locs hp3 hP hD hS => ?_)
  ·
    have hP : va_P D vwCl [(d, .inr (4, [.ref ro, .ref rn, .ref rm, .ref bk, .ref uw, .ref lw, .ref tk, .int hd]))] H := hP
    exact ds_out hno hlk hpx hP hS h9 hn9 hc9 (Nat.le_of_ble_eq_true rfl) (Nat.le_of_ble_eq_true rfl)
  ·
    exact False.elim hp3
set_option maxHeartbeats 4000000 in
set_option maxRecDepth 100000 in
theorem x_X4_find_o (Ll : Launch) (hlst : Ll.stackTraces = false) (D : va_G) (cI cL : ClassId) (d : Nat) (ro : Nat) (rn : Nat) (rm : Nat) (bk : Nat) (uw : Nat) (lw : Nat) (tk : Nat) (hd : Int32) (oo : Nat) (lo : Nat) (s : Nat) (b : Nat) (z : Int32) (w : Int32) (h1 : lo ≤ 1200) (h2 : 4 ≤ s) (h3 : s ≤ 256) (h5 : b ≤ 64) (g1 : z < 0 ∨ nI (bn lo s) ≤ z ∨ w < 0) (sz : Nat) : vx_Met Ll yX4_find wsX4_find { frames := 7, cells := 1, slots := 6, locals := 111 } (ds_PX D cI cL [.ref d, .int (nI s), .int (nI b), .int z, .int w] [(d, .inr (4, [.ref ro, .ref rn, .ref rm, .ref bk, .ref uw, .ref lw, .ref tk, .int hd])), (ro, .inr (1, [.ref oo, .int (nI lo)]))] sz) (ds_Qi D (fun (r : Int32) (u : Unit) => False) (fun u : Unit => [(d, .inr (4, [.ref ro, .ref rn, .ref rm, .ref bk, .ref uw, .ref lw, .ref tk, .int hd])), (ro, .inr (1, [.ref oo, .int (nI lo)]))]) (va_A [(d, .inr (4, [.ref ro, .ref rn, .ref rm, .ref bk, .ref uw, .ref lw, .ref tk, .int hd])), (ro, .inr (1, [.ref oo, .int (nI lo)]))] sz)) (ds_X D ((fun E => E = "java/lang/IndexOutOfBoundsException")) [(d, .inr (4, [.ref ro, .ref rn, .ref rm, .ref bk, .ref uw, .ref lw, .ref tk, .int hd])), (ro, .inr (1, [.ref oo, .int (nI lo)]))] (va_A [(d, .inr (4, [.ref ro, .ref rn, .ref rm, .ref bk, .ref uw, .ref lw, .ref tk, .int hd])), (ro, .inr (1, [.ref oo, .int (nI lo)]))] sz)) 1 6 (va_A [(d, .inr (4, [.ref ro, .ref rn, .ref rm, .ref bk, .ref uw, .ref lw, .ref tk, .int hd])), (ro, .inr (1, [.ref oo, .int (nI lo)]))] sz) := by
  refine ds_enterX (Qf := (fun A9 => ds_Qi D (fun (r : Int32) (u : Unit) => False) (fun u : Unit => [(d, .inr (4, [.ref ro, .ref rn, .ref rm, .ref bk, .ref uw, .ref lw, .ref tk, .int hd])), (ro, .inr (1, [.ref oo, .int (nI lo)]))]) A9)) (XC := fun A9 => ds_X D ((fun E => E = "java/lang/IndexOutOfBoundsException")) [(d, .inr (4, [.ref ro, .ref rn, .ref rm, .ref bk, .ref uw, .ref lw, .ref tk, .int hd])), (ro, .inr (1, [.ref oo, .int (nI lo)]))] A9) (cc := cX4_find) (maxL := 5) (ret := (some .int)) (by decide) rfl (Nat.le_of_ble_eq_true rfl) ?_
  intro Pp Ee Ss Mm Aa Bb Me Cc hx hb hml hr ht hown hlk hnm A H locs hA hP hD hS hK hZ hno ls hl
  have hl : lv_has ls 5 [(0, .ref d), (1, .int (nI s)), (2, .int (nI b)), (3, .int z), (4, .int w)] := hl
  change Ss.vm.findClass RX4 = some Mm.cls at hown
  have hb3 := bn_300 h1 h2
  refine lv_iload_n hx hb dX4_find_0 rfl (lv_at hl 1 rfl) ?_
  refine lv_iload_n hx hb dX4_find_1 rfl (lv_at hl 2 rfl) ?_
  refine ds_callv (wc := []) (wr := [(d, .inr (4, [.ref ro, .ref rn, .ref rm, .ref bk, .ref uw, .ref lw, .ref tk, .int hd])), (ro, .inr (1, [.ref oo, .int (nI lo)]))]) (wo := (fun u2 : Unit => [])) (wn := (fun u2 : Unit => [(d, .inr (4, [.ref ro, .ref rn, .ref rm, .ref bk, .ref uw, .ref lw, .ref tk, .int hd])), (ro, .inr (1, [.ref oo, .int (nI lo)]))])) (isC := []) (isR := [0, 1]) hP hD hS hA ⟨rfl, rfl, by decide, by decide, by decide⟩ [0, 1] (by decide) (fun _ => rfl) (fun hPc hDc => va_runS (As := [.int (nI s), .int (nI b)]) (rest := []) ⟨hx, hb, hml, hown, ht⟩ (c_X4_checkBlocks Ll D cI cL s b (by omega) (by omega) (by omega) H.size) ⟨(callB_of 2 ht g_X4_checkBlocks rfl rfl rfl (ht _ iw_30) (ht _ iw_59) hd_X4_checkBlocks ⟨Nat.le_of_ble_eq_true rfl, Nat.le_of_ble_eq_true rfl⟩), (ht _ iw_60)⟩ (ds_pS hPc hDc hK) rfl rfl hl.1 rfl (lv_room (Nat.le_of_ble_eq_true rfl)) dX4_find_2 ⟨Nat.le_of_ble_eq_true rfl, Nat.le_of_ble_eq_true rfl⟩) (fun u2 H locs hp3 hP hD hS => ?_)
  have hP : va_P D vwCl [(d, .inr (4, [.ref ro, .ref rn, .ref rm, .ref bk, .ref uw, .ref lw, .ref tk, .int hd])), (ro, .inr (1, [.ref oo, .int (nI lo)]))] H := hP
  have hD : va_D A [(d, .inr (4, [.ref ro, .ref rn, .ref rm, .ref bk, .ref uw, .ref lw, .ref tk, .int hd])), (ro, .inr (1, [.ref oo, .int (nI lo)]))] := hD
  have hp3 : True := hp3
  refine lv_iload_n hx hb dX4_find_5 rfl (lv_at hl 3 rfl) ?_
  refine lv_if_lt (tgt := 24) hx hb dX4_find_6 (by decide) (fun h0 => ?_) (fun h0 => ?_)
  ·
    exact ds_throwO hx hb hlst hown (ht _ iw_63) (ht _ iw_64) ht hK tx_1 hZ hP hS (by rw [hml]; exact hl.1) dX4_find_24 dX4_find_27 dX4_find_28 dX4_find_30 dX4_find_33 hno hlk (Nat.le_of_ble_eq_true rfl) (Nat.le_of_ble_eq_true rfl) (Nat.le_of_ble_eq_true rfl) (Nat.le_of_ble_eq_true rfl) (Nat.le_of_ble_eq_true rfl) (Nat.le_of_ble_eq_true rfl) rfl
  ·
    refine lv_iload_n hx hb dX4_find_9 rfl (lv_at hl 3 rfl) ?_
    refine lv_aload_n hx hb dX4_find_10 rfl (lv_at hl 0 rfl) ?_
    refine va_get (D := D) (ci := 4) (v := .ref ro) (C := RX4) (T := TX4) (N := 8) hx hb ht inA_X4 hown hK.1 hP 0 rfl rfl 0 (by decide) (ht _ iw_8) (fun _ h9 => h9) rfl dX4_find_11 ?_
    refine va_getN (D := D) (ci := 1) (v := .int (nI lo)) (C := RX1) (T := TX1) (N := 2) hx hb ht inA_X1 hown hK.1 hP 1 rfl rfl 1 (by decide) (nfu_1 hK) (fun _ h9 => h9) rfl dX4_find_14 ?_
    refine lv_iload_n hx hb dX4_find_17 rfl (lv_at hl 1 rfl) ?_
    refine ds_calli (wc := []) (wr := [(d, .inr (4, [.ref ro, .ref rn, .ref rm, .ref bk, .ref uw, .ref lw, .ref tk, .int hd])), (ro, .inr (1, [.ref oo, .int (nI lo)]))]) (wo := (fun u5 : Unit => [])) (wn := (fun u5 : Unit => [(d, .inr (4, [.ref ro, .ref rn, .ref rm, .ref bk, .ref uw, .ref lw, .ref tk, .int hd])), (ro, .inr (1, [.ref oo, .int (nI lo)]))])) (isC := []) (isR := [0, 1]) hP hD hS hA ⟨rfl, rfl, by decide, by decide, by decide⟩ [0, 1] (by decide) (fun _ => rfl) (fun hPc hDc => va_runS (As := [.int (nI lo), .int (nI s)]) (rest := [.int z]) ⟨hx, hb, hml, hown, ht⟩ (c_X4_blockCount Ll D cI cL lo s (by omega) (by omega) (by omega) H.size) ⟨(callB_of 2 ht g_X4_blockCount rfl rfl rfl (ht _ iw_30) (ht _ iw_61) hd_X4_blockCount ⟨Nat.le_of_ble_eq_true rfl, Nat.le_of_ble_eq_true rfl⟩), (ht _ iw_62)⟩ (ds_pS hPc hDc hK) rfl rfl hl.1 rfl (lv_room (Nat.le_of_ble_eq_true rfl)) dX4_find_18 ⟨Nat.le_of_ble_eq_true rfl, Nat.le_of_ble_eq_true rfl⟩) (fun r4 u5 H locs hp6 hP hD hS => ?_)
    have hP : va_P D vwCl [(d, .inr (4, [.ref ro, .ref rn, .ref rm, .ref bk, .ref uw, .ref lw, .ref tk, .int hd])), (ro, .inr (1, [.ref oo, .int (nI lo)]))] H := hP
    have hD : va_D A [(d, .inr (4, [.ref ro, .ref rn, .ref rm, .ref bk, .ref uw, .ref lw, .ref tk, .int hd])), (ro, .inr (1, [.ref oo, .int (nI lo)]))] := hD
    have hp6 : r4 = nI (bn lo s) := hp6
    replace hp6 := Eq.symm hp6
    subst hp6
    refine lv_icmp_lt (tgt := 34) hx hb dX4_find_21 (by decide) (fun h6 => ?_) (fun h6 => ?_)
    ·
      refine lv_iload hx hb dX4_find_34 (lv_at hl 4 rfl) ?_
      refine lv_if_ge (tgt := 49) hx hb dX4_find_36 (by decide) (fun h => ?_) (fun h => ?_)
      ·
        rcases g1 with h9 | h9 | h9
        · exact absurd h9 h0
        · exact absurd h9 (Int32.not_le.mpr h6)
        · exact absurd h9 (Int32.not_lt.mpr h)
      ·
        exact ds_throwO hx hb hlst hown (ht _ iw_63) (ht _ iw_64) ht hK tx_2 hZ hP hS (by rw [hml]; exact hl.1) dX4_find_39 dX4_find_42 dX4_find_43 dX4_find_45 dX4_find_48 hno hlk (Nat.le_of_ble_eq_true rfl) (Nat.le_of_ble_eq_true rfl) (Nat.le_of_ble_eq_true rfl) (Nat.le_of_ble_eq_true rfl) (Nat.le_of_ble_eq_true rfl) (Nat.le_of_ble_eq_true rfl) rfl
    ·
      exact ds_throwO hx hb hlst hown (ht _ iw_63) (ht _ iw_64) ht hK tx_1 hZ hP hS (by rw [hml]; exact hl.1) dX4_find_24 dX4_find_27 dX4_find_28 dX4_find_30 dX4_find_33 hno hlk (Nat.le_of_ble_eq_true rfl) (Nat.le_of_ble_eq_true rfl) (Nat.le_of_ble_eq_true rfl) (Nat.le_of_ble_eq_true rfl) (Nat.le_of_ble_eq_true rfl) (Nat.le_of_ble_eq_true rfl) rfl
