set_option maxHeartbeats 4000000 in
set_option maxRecDepth 100000 in
theorem c_X5_size (Ll : Launch) (D : va_G) (cI cL : ClassId) (mo : Nat) (aO : Nat) (aT : Nat) (aM : Nat) (aZ : Nat) (aY : Nat) (aK : Nat) (aF : Nat) (aL : Nat) (er : Int32) (c : Nat) (isd : Int32) (wd : Int32) (O : Nat → Int32) (Z : Nat → Int32) (lo : Nat) (ln : Nat) (fo : Nat → Int32) (fn : Nat → Int32) (x : Int32) (y : Int32) (hR : mR lo ln fo fn O Z) (sz : Nat) : Met Ll yX5_size wsX5_size { frames := 1, cells := 0, slots := 0, locals := 22 } (ds_P D cI cL [.ref mo, .int x, .int y] [(mo, .inr (5, [.int er, .ref aO, .ref aT, .ref aM, .ref aZ, .ref aY, .ref aK, .ref aF, .ref aL, .int (nI c), .int isd, .int wd])), (aO, .inl (cI, 2400, .inl O)), (aZ, .inl (cI, 2, .inl Z))] sz) (ds_Qv D (fun (u : Int32 × (Nat → Int32) × (Nat → Int32)) => u.1 = e_size x y ∧ mQ (n_size x y (lo, fo, ln, fn)) u.2.1 u.2.2) (fun u : Int32 × (Nat → Int32) × (Nat → Int32) => [(mo, .inr (5, [.int u.1, .ref aO, .ref aT, .ref aM, .ref aZ, .ref aY, .ref aK, .ref aF, .ref aL, .int (nI c), .int isd, .int wd])), (aO, .inl (cI, 2400, .inl u.2.1)), (aZ, .inl (cI, 2, .inl u.2.2))]) (va_A [(mo, .inr (5, [.int er, .ref aO, .ref aT, .ref aM, .ref aZ, .ref aY, .ref aK, .ref aF, .ref aL, .int (nI c), .int isd, .int wd])), (aO, .inl (cI, 2400, .inl O)), (aZ, .inl (cI, 2, .inl Z))] sz)) 0 0 (va_A [(mo, .inr (5, [.int er, .ref aO, .ref aT, .ref aM, .ref aZ, .ref aY, .ref aK, .ref aF, .ref aL, .int (nI c), .int isd, .int wd])), (aO, .inl (cI, 2400, .inl O)), (aZ, .inl (cI, 2, .inl Z))] sz) := by
  refine ds_enter (Qf := (fun A9 => ds_Qv D (fun (u : Int32 × (Nat → Int32) × (Nat → Int32)) => u.1 = e_size x y ∧ mQ (n_size x y (lo, fo, ln, fn)) u.2.1 u.2.2) (fun u : Int32 × (Nat → Int32) × (Nat → Int32) => [(mo, .inr (5, [.int u.1, .ref aO, .ref aT, .ref aM, .ref aZ, .ref aY, .ref aK, .ref aF, .ref aL, .int (nI c), .int isd, .int wd])), (aO, .inl (cI, 2400, .inl u.2.1)), (aZ, .inl (cI, 2, .inl u.2.2))]) A9)) (cc := cX5_size) (maxL := 4) (ret := none) (by decide) rfl (Nat.le_of_ble_eq_true rfl) ?_
  intro Pp Ee Ss Mm Aa Bb Me Cc hx hb hml hr ht hown hlk hnm A H locs hA hP hD hS hK ls hl
  have hl : lv_has ls 4 [(0, .ref mo), (1, .int x), (2, .int y)] := hl
  change Ss.vm.findClass RX5 = some Mm.cls at hown
  have hZ := mR_len hR
  by_cases hok : rok x ∧ ¬ (y < 0 ∨ nI 1200 < y)
  ·
    obtain ⟨hrk, hy⟩ := hok
    obtain ⟨k, hk, e9⟩ := le_nat (n := 1200) (by omega) hy
    subst e9
    have hro := hrk
    rcases hrk with rfl | rfl
    ·
      have hl : lv_has ls 4 [(0, .ref mo), (1, .int (nI 0)), (2, .int (nI k))] := hl
      have hl : lv_has ls 4 [(0, .ref mo), (1, .int (nI 0)), (2, .int (nI k))] := hl
      refine lv_aload_n hx hb dX5_size_0 rfl (lv_at hl 0 rfl) ?_
      refine lv_iload_n hx hb dX5_size_1 rfl (lv_at hl 1 rfl) ?_
      refine ds_calli (wc := []) (wr := [(mo, .inr (5, [.int er, .ref aO, .ref aT, .ref aM, .ref aZ, .ref aY, .ref aK, .ref aF, .ref aL, .int (nI c), .int isd, .int wd])), (aO, .inl (cI, 2400, .inl O)), (aZ, .inl (cI, 2, .inl Z))]) (wo := (fun u2 : Unit => [])) (wn := (fun u2 : Unit => [(mo, .inr (5, [.int er, .ref aO, .ref aT, .ref aM, .ref aZ, .ref aY, .ref aK, .ref aF, .ref aL, .int (nI c), .int isd, .int wd])), (aO, .inl (cI, 2400, .inl O)), (aZ, .inl (cI, 2, .inl Z))])) (isC := []) (isR := [0, 1, 2]) hP hD hS hA ⟨rfl, rfl, by decide, by decide, by decide⟩ [0, 1, 2] (by decide) (fun _ => rfl) (fun hPc hDc => va_runS (As := [.int (nI 0)]) (rest := [.ref mo]) ⟨hx, hb, hml, hown, ht⟩ (m_no0 Ll D cI cL 0 (by decide) H.size) ⟨(callB_of 1 ht g_X5_no rfl rfl rfl (ht _ iw_136) (ht _ iw_135) hd_X5_no ⟨Nat.le_of_ble_eq_true rfl, Nat.le_of_ble_eq_true rfl⟩), (ht _ iw_137)⟩ (ds_pS hPc hDc hK) rfl rfl hl.1 rfl (lv_room (Nat.le_of_ble_eq_true rfl)) dX5_size_2 ⟨Nat.le_of_ble_eq_true rfl, Nat.le_of_ble_eq_true rfl⟩) (fun r1 u2 H locs hp3 hP hD hS => ?_)
      have hP : va_P D vwCl [(mo, .inr (5, [.int er, .ref aO, .ref aT, .ref aM, .ref aZ, .ref aY, .ref aK, .ref aF, .ref aL, .int (nI c), .int isd, .int wd])), (aO, .inl (cI, 2400, .inl O)), (aZ, .inl (cI, 2, .inl Z))] H := hP
      have hD : va_D A [(mo, .inr (5, [.int er, .ref aO, .ref aT, .ref aM, .ref aZ, .ref aY, .ref aK, .ref aF, .ref aL, .int (nI c), .int isd, .int wd])), (aO, .inl (cI, 2400, .inl O)), (aZ, .inl (cI, 2, .inl Z))] := hD
      have hp3 : r1 = nI 0 := hp3
      replace hp3 := Eq.symm hp3
      subst hp3
      refine lv_if_ne (tgt := 19) hx hb dX5_size_5 (by decide) (fun h => ?_) (fun h => ?_)
      ·
        rw [← nI_0] at h
        have h : ¬ 0 = 0 := fun z9 => h ((nI_eq (a := 0) (b := 0) (by omega) (by omega)).mpr z9)
        exact absurd rfl h
      ·
        rw [← nI_0] at h
        have h : 0 = 0 := (nI_eq (a := 0) (b := 0) (by omega) (by omega)).mp h
        refine lv_iload_n hx hb dX5_size_8 rfl (lv_at hl 2 rfl) ?_
        refine lv_if_lt (tgt := 19) hx hb dX5_size_9 (by decide) (fun h => ?_) (fun h => ?_)
        ·
          rw [← nI_0] at h
          have h : k < 0 := (nI_ltI (a := k) (b := 0) (by omega) (by omega)).mp h
          exfalso; omega
        ·
          rw [← nI_0] at h
          have h : ¬ k < 0 := fun z9 => h ((nI_ltI (a := k) (b := 0) (by omega) (by omega)).mpr z9)
          refine lv_iload_n hx hb dX5_size_12 rfl (lv_at hl 2 rfl) ?_
          refine lv_sipush (v := nI 1200) hx hb dX5_size_13 (by decide +kernel) ?_
          refine lv_icmp_le (tgt := 23) hx hb dX5_size_16 (by decide) (fun h => ?_) (fun h => ?_)
          ·
            have h : k ≤ 1200 := (nI_leI (a := k) (b := 1200) (by omega) (by omega)).mp h
            refine lv_iconst (v := nI 0) hx hb dX5_size_23 (by decide +kernel) ?_
            refine lv_iconst (v := nI 1) hx hb dX5_size_24 (by decide +kernel) ?_
            refine ds_calli (wc := [(mo, .inr (5, [.int er, .ref aO, .ref aT, .ref aM, .ref aZ, .ref aY, .ref aK, .ref aF, .ref aL, .int (nI c), .int isd, .int wd]))]) (wr := [(aO, .inl (cI, 2400, .inl O)), (aZ, .inl (cI, 2, .inl Z))]) (wo := (fun u5 : Unit => [(mo, .inr (5, [.int (nI 0), .ref aO, .ref aT, .ref aM, .ref aZ, .ref aY, .ref aK, .ref aF, .ref aL, .int (nI c), .int isd, .int wd]))])) (wn := (fun u5 : Unit => [(mo, .inr (5, [.int (nI 0), .ref aO, .ref aT, .ref aM, .ref aZ, .ref aY, .ref aK, .ref aF, .ref aL, .int (nI c), .int isd, .int wd])), (aO, .inl (cI, 2400, .inl O)), (aZ, .inl (cI, 2, .inl Z))])) (isC := [0]) (isR := [1, 2]) hP hD hS hA ⟨rfl, rfl, by decide, by decide, by decide⟩ [2, 0, 1] (by decide) (fun _ => rfl) (fun hPc hDc => va_runV (As := [.int (nI 0), .int (nI 1)]) (rest := []) ⟨hx, hb, hml, hown, ht⟩ (m_fails0 Ll D cI cL mo aO aT aM aZ aY aK aF aL er c isd wd 1  H.size) ⟨(callB_of 2 ht g_X5_fails rfl rfl rfl (ht _ iw_136) (ht _ iw_138) hd_X5_fails ⟨Nat.le_of_ble_eq_true rfl, Nat.le_of_ble_eq_true rfl⟩), (ht _ iw_139), (ht _ iw_140)⟩ (ds_pV hPc hDc hK (q0 := 0) rfl rfl) rfl rfl hl.1 rfl (lv_room (Nat.le_of_ble_eq_true rfl)) dX5_size_25 ⟨Nat.le_of_ble_eq_true rfl, Nat.le_of_ble_eq_true rfl⟩) (fun r4 u5 H locs hp6 hP hD hS => ?_)
            have hP : va_P D vwCl [(mo, .inr (5, [.int (nI 0), .ref aO, .ref aT, .ref aM, .ref aZ, .ref aY, .ref aK, .ref aF, .ref aL, .int (nI c), .int isd, .int wd])), (aO, .inl (cI, 2400, .inl O)), (aZ, .inl (cI, 2, .inl Z))] H := hP
            have hD : va_D A [(mo, .inr (5, [.int (nI 0), .ref aO, .ref aT, .ref aM, .ref aZ, .ref aY, .ref aK, .ref aF, .ref aL, .int (nI c), .int isd, .int wd])), (aO, .inl (cI, 2400, .inl O)), (aZ, .inl (cI, 2, .inl Z))] := hD
            have hp6 : r4 = nI 0 := hp6
            replace hp6 := Eq.symm hp6
            subst hp6
            refine lv_if_eq (tgt := 32) hx hb dX5_size_28 (by decide) (fun h => ?_) (fun h => ?_)
            ·
              rw [← nI_0] at h
              have h : 0 = 0 := (nI_eq (a := 0) (b := 0) (by omega) (by omega)).mp h
              refine lv_aload_n hx hb dX5_size_32 rfl (lv_at hl 0 rfl) ?_
              refine va_get (D := D) (ci := 5) (v := .ref aZ) (C := RX5) (T := TX5) (N := 12) hx hb ht inA_X5 hown hK.1 hP 0 rfl rfl 4 (by decide) (ht _ iw_125) (fun _ h9 => h9) rfl dX5_size_33 ?_
              refine lv_iload_n hx hb dX5_size_36 rfl (lv_at hl 1 rfl) ?_
              refine ds_iald (k := 0) hx hb hK hP 2 rfl (by omega) (by omega) dX5_size_37 ?_
              refine ds_top (z := nI lo) hZ.2.2.1 ?_
              refine lv_istore_n (lv' := [(3, .int (nI lo)), (0, .ref mo), (1, .int (nI 0)), (2, .int (nI k))]) hx hb dX5_size_38 rfl hl (Nat.le_of_ble_eq_true rfl) rfl (fun ls hl => ?_)
              have hP : va_P D vwCl [(mo, .inr (5, [.int (nI 0), .ref aO, .ref aT, .ref aM, .ref aZ, .ref aY, .ref aK, .ref aF, .ref aL, .int (nI c), .int isd, .int wd])), (aO, .inl (cI, 2400, .inl (rz O (lo) (lo)))), (aZ, .inl (cI, 2, .inl Z))] H := by rw [rz_0]; exact hP
              have hD : va_D A [(mo, .inr (5, [.int (nI 0), .ref aO, .ref aT, .ref aM, .ref aZ, .ref aY, .ref aK, .ref aF, .ref aL, .int (nI c), .int isd, .int wd])), (aO, .inl (cI, 2400, .inl (rz O (lo) (lo)))), (aZ, .inl (cI, 2, .inl Z))] := by rw [rz_0]; exact hD
              have loop7 : ∀ (k8 : Nat) (i : Nat) (H : Heap) (locs : List Loc) (ls : Array Slot), (lo ≤ i) → (i ≤ lo ∨ i ≤ k) → k - i < k8 → va_P D vwCl [(mo, .inr (5, [.int (nI 0), .ref aO, .ref aT, .ref aM, .ref aZ, .ref aY, .ref aK, .ref aF, .ref aL, .int (nI c), .int isd, .int wd])), (aO, .inl (cI, 2400, .inl (rz O (lo) (i)))), (aZ, .inl (cI, 2, .inl Z))] H → va_D A [(mo, .inr (5, [.int (nI 0), .ref aO, .ref aT, .ref aM, .ref aZ, .ref aY, .ref aK, .ref aF, .ref aL, .int (nI c), .int isd, .int wd])), (aO, .inl (cI, 2400, .inl (rz O (lo) (i)))), (aZ, .inl (cI, 2, .inl Z))] → va_S A Ss.heap H locs → lv_has ls 4 [(0, .ref mo), (1, .int (nI 0)), (2, .int (nI k)), (3, .int (nI i))] → W Pp Ll Ee { frames := 1, cells := 0, slots := 0, locals := 22 } Ss Mm Aa Bb Me Cc H locs 0 0 (MQ Bb (ds_Qv D (fun (u : Int32 × (Nat → Int32) × (Nat → Int32)) => u.1 = e_size 0 (nI k) ∧ mQ (n_size 0 (nI k) (lo, fo, ln, fn)) u.2.1 u.2.2) (fun u : Int32 × (Nat → Int32) × (Nat → Int32) => [(mo, .inr (5, [.int u.1, .ref aO, .ref aT, .ref aM, .ref aZ, .ref aY, .ref aK, .ref aF, .ref aL, .int (nI c), .int isd, .int wd])), (aO, .inl (cI, 2400, .inl u.2.1)), (aZ, .inl (cI, 2, .inl u.2.2))]) A) Aa Ss 0 0 A) (F0 Mm 39 ls []) := by
                intro k8
                induction k8 with
                | zero => intro i H locs ls hi hm2 hm10; exact absurd hm10 (Nat.not_lt_zero _)
                | succ k8 ih9 =>
                  intro i H locs ls hi hm2 hm10 hP hD hS hl
                  refine lv_iload_n hx hb dX5_size_39 rfl (lv_at hl 3 rfl) ?_
                  refine lv_iload_n hx hb dX5_size_40 rfl (lv_at hl 2 rfl) ?_
                  refine lv_icmp_ge (tgt := 63) hx hb dX5_size_41 (by decide) (fun h => ?_) (fun h => ?_)
                  ·
                    have h : k ≤ i := (nI_leI (a := k) (b := i) (by omega) (by omega)).mp h
                    have hP : va_P D vwCl [(mo, .inr (5, [.int (nI 0), .ref aO, .ref aT, .ref aM, .ref aZ, .ref aY, .ref aK, .ref aF, .ref aL, .int (nI c), .int isd, .int wd])), (aO, .inl (cI, 2400, .inl (rz O (lo) (k)))), (aZ, .inl (cI, 2, .inl Z))] H := by rw [rz_e (i := i) (by omega) (by omega) (by omega)]; exact hP
                    have hD : va_D A [(mo, .inr (5, [.int (nI 0), .ref aO, .ref aT, .ref aM, .ref aZ, .ref aY, .ref aK, .ref aF, .ref aL, .int (nI c), .int isd, .int wd])), (aO, .inl (cI, 2400, .inl (rz O (lo) (k)))), (aZ, .inl (cI, 2, .inl Z))] := by rw [rz_e (i := i) (by omega) (by omega) (by omega)]; exact hD
                    refine lv_aload_n hx hb dX5_size_63 rfl (lv_at hl 0 rfl) ?_
                    refine va_get (D := D) (ci := 5) (v := .ref aZ) (C := RX5) (T := TX5) (N := 12) hx hb ht inA_X5 hown hK.1 hP 0 rfl rfl 4 (by decide) (ht _ iw_125) (fun _ h9 => h9) rfl dX5_size_64 ?_
                    refine lv_iload_n hx hb dX5_size_67 rfl (lv_at hl 1 rfl) ?_
                    refine lv_iload_n hx hb dX5_size_68 rfl (lv_at hl 2 rfl) ?_
                    refine ds_iast (k := 0) hx hb hK hP hD hS 2 rfl (by omega) (by omega) dX5_size_69 (fun H locs hP hD hS => ?_)
                    have hP : va_P D vwCl [(mo, .inr (5, [.int (nI 0), .ref aO, .ref aT, .ref aM, .ref aZ, .ref aY, .ref aK, .ref aF, .ref aL, .int (nI c), .int isd, .int wd])), (aO, .inl (cI, 2400, .inl (rz O (lo) (k)))), (aZ, .inl (cI, 2, .inl (upd Z 0 (nI k))))] H := hP
                    have hD : va_D A [(mo, .inr (5, [.int (nI 0), .ref aO, .ref aT, .ref aM, .ref aZ, .ref aY, .ref aK, .ref aF, .ref aL, .int (nI c), .int isd, .int wd])), (aO, .inl (cI, 2400, .inl (rz O (lo) (k)))), (aZ, .inl (cI, 2, .inl (upd Z 0 (nI k))))] := hD
                    exact ds_vret hx hb hr hlk (nI 0, rz O (lo) (k), upd Z 0 (nI k)) ⟨(e_size_ok hro hk).symm, mQ_size0 hk hR⟩ hP hD hS (Nat.le_of_ble_eq_true rfl) (Nat.le_of_ble_eq_true rfl) dX5_size_70
                  ·
                    have h : ¬ k ≤ i := fun z9 => h ((nI_leI (a := k) (b := i) (by omega) (by omega)).mpr z9)
                    refine lv_aload_n hx hb dX5_size_44 rfl (lv_at hl 0 rfl) ?_
                    refine va_get (D := D) (ci := 5) (v := .ref aO) (C := RX5) (T := TX5) (N := 12) hx hb ht inA_X5 hown hK.1 hP 0 rfl rfl 1 (by decide) (ht _ iw_122) (fun _ h9 => h9) rfl dX5_size_45 ?_
                    refine lv_sipush (v := nI 1200) hx hb dX5_size_48 (by decide +kernel) ?_
                    refine lv_iload_n hx hb dX5_size_51 rfl (lv_at hl 1 rfl) ?_
                    refine lv_imul hx hb dX5_size_52 ?_
                    refine ds_top (z := nI (1200 * 0)) (pk_mul _ _) ?_
                    refine lv_iload_n hx hb dX5_size_53 rfl (lv_at hl 3 rfl) ?_
                    refine lv_iadd hx hb dX5_size_54 ?_
                    refine ds_top (z := nI ((1200 * 0) + i)) (nI_add _ _) ?_
                    refine ds_top (z := nI (i)) (congrArg nI (by omega)) ?_
                    refine lv_iconst (v := nI 0) hx hb dX5_size_55 (by decide +kernel) ?_
                    refine ds_iast (k := i) hx hb hK hP hD hS 1 rfl (by omega) (by omega) dX5_size_56 (fun H locs hP hD hS => ?_)
                    have hP : va_P D vwCl [(mo, .inr (5, [.int (nI 0), .ref aO, .ref aT, .ref aM, .ref aZ, .ref aY, .ref aK, .ref aF, .ref aL, .int (nI c), .int isd, .int wd])), (aO, .inl (cI, 2400, .inl (upd (rz O (lo) (i)) i (nI 0)))), (aZ, .inl (cI, 2, .inl Z))] H := hP
                    have hD : va_D A [(mo, .inr (5, [.int (nI 0), .ref aO, .ref aT, .ref aM, .ref aZ, .ref aY, .ref aK, .ref aF, .ref aL, .int (nI c), .int isd, .int wd])), (aO, .inl (cI, 2400, .inl (upd (rz O (lo) (i)) i (nI 0)))), (aZ, .inl (cI, 2, .inl Z))] := hD
                    refine lv_iinc (k := 3) (v := nI (i + 1)) (lv' := [(3, .int (nI (i + 1))), (0, .ref mo), (1, .int (nI 0)), (2, .int (nI k))]) hx hb dX5_size_57 hl rfl (by rw [nI_succ]; rfl) (Nat.le_of_ble_eq_true rfl) rfl (fun ls hl => ?_)
                    refine lv_goto (tgt := 39) hx hb dX5_size_60 (by decide) ?_
                    have hP : va_P D vwCl [(mo, .inr (5, [.int (nI 0), .ref aO, .ref aT, .ref aM, .ref aZ, .ref aY, .ref aK, .ref aF, .ref aL, .int (nI c), .int isd, .int wd])), (aO, .inl (cI, 2400, .inl (rz O (lo) (i + 1)))), (aZ, .inl (cI, 2, .inl Z))] H := by rw [show i + 1 = (i) + 1 from rfl, rz_s (by omega)]; exact hP
                    have hD : va_D A [(mo, .inr (5, [.int (nI 0), .ref aO, .ref aT, .ref aM, .ref aZ, .ref aY, .ref aK, .ref aF, .ref aL, .int (nI c), .int isd, .int wd])), (aO, .inl (cI, 2400, .inl (rz O (lo) (i + 1)))), (aZ, .inl (cI, 2, .inl Z))] := by rw [show i + 1 = (i) + 1 from rfl, rz_s (by omega)]; exact hD
                    exact ih9 (i + 1) H locs ls (by omega) (by omega) (by omega) hP hD hS (lv_sub hl [1, 2, 3, 0] rfl)
              exact loop7 _ lo H locs ls (Nat.le_refl _) (Or.inl (Nat.le_refl _)) (Nat.lt_succ_self _) hP hD hS (lv_sub hl [1, 2, 3, 0] rfl)
            ·
              rw [← nI_0] at h
              have h : ¬ 0 = 0 := fun z9 => h ((nI_eq (a := 0) (b := 0) (by omega) (by omega)).mpr z9)
              exact absurd rfl h
          ·
            have h : ¬ k ≤ 1200 := fun z9 => h ((nI_leI (a := k) (b := 1200) (by omega) (by omega)).mpr z9)
            exfalso; omega
    ·
      have hl : lv_has ls 4 [(0, .ref mo), (1, .int (nI 1)), (2, .int (nI k))] := hl
      have hl : lv_has ls 4 [(0, .ref mo), (1, .int (nI 1)), (2, .int (nI k))] := hl
      refine lv_aload_n hx hb dX5_size_0 rfl (lv_at hl 0 rfl) ?_
      refine lv_iload_n hx hb dX5_size_1 rfl (lv_at hl 1 rfl) ?_
      refine ds_calli (wc := []) (wr := [(mo, .inr (5, [.int er, .ref aO, .ref aT, .ref aM, .ref aZ, .ref aY, .ref aK, .ref aF, .ref aL, .int (nI c), .int isd, .int wd])), (aO, .inl (cI, 2400, .inl O)), (aZ, .inl (cI, 2, .inl Z))]) (wo := (fun u12 : Unit => [])) (wn := (fun u12 : Unit => [(mo, .inr (5, [.int er, .ref aO, .ref aT, .ref aM, .ref aZ, .ref aY, .ref aK, .ref aF, .ref aL, .int (nI c), .int isd, .int wd])), (aO, .inl (cI, 2400, .inl O)), (aZ, .inl (cI, 2, .inl Z))])) (isC := []) (isR := [0, 1, 2]) hP hD hS hA ⟨rfl, rfl, by decide, by decide, by decide⟩ [0, 1, 2] (by decide) (fun _ => rfl) (fun hPc hDc => va_runS (As := [.int (nI 1)]) (rest := [.ref mo]) ⟨hx, hb, hml, hown, ht⟩ (m_no0 Ll D cI cL 1 (by decide) H.size) ⟨(callB_of 1 ht g_X5_no rfl rfl rfl (ht _ iw_136) (ht _ iw_135) hd_X5_no ⟨Nat.le_of_ble_eq_true rfl, Nat.le_of_ble_eq_true rfl⟩), (ht _ iw_137)⟩ (ds_pS hPc hDc hK) rfl rfl hl.1 rfl (lv_room (Nat.le_of_ble_eq_true rfl)) dX5_size_2 ⟨Nat.le_of_ble_eq_true rfl, Nat.le_of_ble_eq_true rfl⟩) (fun r11 u12 H locs hp13 hP hD hS => ?_)
      have hP : va_P D vwCl [(mo, .inr (5, [.int er, .ref aO, .ref aT, .ref aM, .ref aZ, .ref aY, .ref aK, .ref aF, .ref aL, .int (nI c), .int isd, .int wd])), (aO, .inl (cI, 2400, .inl O)), (aZ, .inl (cI, 2, .inl Z))] H := hP
      have hD : va_D A [(mo, .inr (5, [.int er, .ref aO, .ref aT, .ref aM, .ref aZ, .ref aY, .ref aK, .ref aF, .ref aL, .int (nI c), .int isd, .int wd])), (aO, .inl (cI, 2400, .inl O)), (aZ, .inl (cI, 2, .inl Z))] := hD
      have hp13 : r11 = nI 0 := hp13
      replace hp13 := Eq.symm hp13
      subst hp13
      refine lv_if_ne (tgt := 19) hx hb dX5_size_5 (by decide) (fun h => ?_) (fun h => ?_)
      ·
        rw [← nI_0] at h
        have h : ¬ 0 = 0 := fun z9 => h ((nI_eq (a := 0) (b := 0) (by omega) (by omega)).mpr z9)
        exact absurd rfl h
      ·
        rw [← nI_0] at h
        have h : 0 = 0 := (nI_eq (a := 0) (b := 0) (by omega) (by omega)).mp h
        refine lv_iload_n hx hb dX5_size_8 rfl (lv_at hl 2 rfl) ?_
        refine lv_if_lt (tgt := 19) hx hb dX5_size_9 (by decide) (fun h => ?_) (fun h => ?_)
        ·
          rw [← nI_0] at h
          have h : k < 0 := (nI_ltI (a := k) (b := 0) (by omega) (by omega)).mp h
          exfalso; omega
        ·
          rw [← nI_0] at h
          have h : ¬ k < 0 := fun z9 => h ((nI_ltI (a := k) (b := 0) (by omega) (by omega)).mpr z9)
          refine lv_iload_n hx hb dX5_size_12 rfl (lv_at hl 2 rfl) ?_
          refine lv_sipush (v := nI 1200) hx hb dX5_size_13 (by decide +kernel) ?_
          refine lv_icmp_le (tgt := 23) hx hb dX5_size_16 (by decide) (fun h => ?_) (fun h => ?_)
          ·
            have h : k ≤ 1200 := (nI_leI (a := k) (b := 1200) (by omega) (by omega)).mp h
            refine lv_iconst (v := nI 0) hx hb dX5_size_23 (by decide +kernel) ?_
            refine lv_iconst (v := nI 1) hx hb dX5_size_24 (by decide +kernel) ?_
            refine ds_calli (wc := [(mo, .inr (5, [.int er, .ref aO, .ref aT, .ref aM, .ref aZ, .ref aY, .ref aK, .ref aF, .ref aL, .int (nI c), .int isd, .int wd]))]) (wr := [(aO, .inl (cI, 2400, .inl O)), (aZ, .inl (cI, 2, .inl Z))]) (wo := (fun u15 : Unit => [(mo, .inr (5, [.int (nI 0), .ref aO, .ref aT, .ref aM, .ref aZ, .ref aY, .ref aK, .ref aF, .ref aL, .int (nI c), .int isd, .int wd]))])) (wn := (fun u15 : Unit => [(mo, .inr (5, [.int (nI 0), .ref aO, .ref aT, .ref aM, .ref aZ, .ref aY, .ref aK, .ref aF, .ref aL, .int (nI c), .int isd, .int wd])), (aO, .inl (cI, 2400, .inl O)), (aZ, .inl (cI, 2, .inl Z))])) (isC := [0]) (isR := [1, 2]) hP hD hS hA ⟨rfl, rfl, by decide, by decide, by decide⟩ [2, 0, 1] (by decide) (fun _ => rfl) (fun hPc hDc => va_runV (As := [.int (nI 0), .int (nI 1)]) (rest := []) ⟨hx, hb, hml, hown, ht⟩ (m_fails0 Ll D cI cL mo aO aT aM aZ aY aK aF aL er c isd wd 1  H.size) ⟨(callB_of 2 ht g_X5_fails rfl rfl rfl (ht _ iw_136) (ht _ iw_138) hd_X5_fails ⟨Nat.le_of_ble_eq_true rfl, Nat.le_of_ble_eq_true rfl⟩), (ht _ iw_139), (ht _ iw_140)⟩ (ds_pV hPc hDc hK (q0 := 0) rfl rfl) rfl rfl hl.1 rfl (lv_room (Nat.le_of_ble_eq_true rfl)) dX5_size_25 ⟨Nat.le_of_ble_eq_true rfl, Nat.le_of_ble_eq_true rfl⟩) (fun r14 u15 H locs hp16 hP hD hS => ?_)
            have hP : va_P D vwCl [(mo, .inr (5, [.int (nI 0), .ref aO, .ref aT, .ref aM, .ref aZ, .ref aY, .ref aK, .ref aF, .ref aL, .int (nI c), .int isd, .int wd])), (aO, .inl (cI, 2400, .inl O)), (aZ, .inl (cI, 2, .inl Z))] H := hP
            have hD : va_D A [(mo, .inr (5, [.int (nI 0), .ref aO, .ref aT, .ref aM, .ref aZ, .ref aY, .ref aK, .ref aF, .ref aL, .int (nI c), .int isd, .int wd])), (aO, .inl (cI, 2400, .inl O)), (aZ, .inl (cI, 2, .inl Z))] := hD
            have hp16 : r14 = nI 0 := hp16
            replace hp16 := Eq.symm hp16
            subst hp16
            refine lv_if_eq (tgt := 32) hx hb dX5_size_28 (by decide) (fun h => ?_) (fun h => ?_)
            ·
              rw [← nI_0] at h
              have h : 0 = 0 := (nI_eq (a := 0) (b := 0) (by omega) (by omega)).mp h
              refine lv_aload_n hx hb dX5_size_32 rfl (lv_at hl 0 rfl) ?_
              refine va_get (D := D) (ci := 5) (v := .ref aZ) (C := RX5) (T := TX5) (N := 12) hx hb ht inA_X5 hown hK.1 hP 0 rfl rfl 4 (by decide) (ht _ iw_125) (fun _ h9 => h9) rfl dX5_size_33 ?_
              refine lv_iload_n hx hb dX5_size_36 rfl (lv_at hl 1 rfl) ?_
              refine ds_iald (k := 1) hx hb hK hP 2 rfl (by omega) (by omega) dX5_size_37 ?_
              refine ds_top (z := nI ln) hZ.2.2.2 ?_
              refine lv_istore_n (lv' := [(3, .int (nI ln)), (0, .ref mo), (1, .int (nI 1)), (2, .int (nI k))]) hx hb dX5_size_38 rfl hl (Nat.le_of_ble_eq_true rfl) rfl (fun ls hl => ?_)
              have hP : va_P D vwCl [(mo, .inr (5, [.int (nI 0), .ref aO, .ref aT, .ref aM, .ref aZ, .ref aY, .ref aK, .ref aF, .ref aL, .int (nI c), .int isd, .int wd])), (aO, .inl (cI, 2400, .inl (rz O (1200 + ln) (1200 + ln)))), (aZ, .inl (cI, 2, .inl Z))] H := by rw [rz_0]; exact hP
              have hD : va_D A [(mo, .inr (5, [.int (nI 0), .ref aO, .ref aT, .ref aM, .ref aZ, .ref aY, .ref aK, .ref aF, .ref aL, .int (nI c), .int isd, .int wd])), (aO, .inl (cI, 2400, .inl (rz O (1200 + ln) (1200 + ln)))), (aZ, .inl (cI, 2, .inl Z))] := by rw [rz_0]; exact hD
              have loop17 : ∀ (k18 : Nat) (i : Nat) (H : Heap) (locs : List Loc) (ls : Array Slot), (ln ≤ i) → (i ≤ ln ∨ i ≤ k) → k - i < k18 → va_P D vwCl [(mo, .inr (5, [.int (nI 0), .ref aO, .ref aT, .ref aM, .ref aZ, .ref aY, .ref aK, .ref aF, .ref aL, .int (nI c), .int isd, .int wd])), (aO, .inl (cI, 2400, .inl (rz O (1200 + ln) (1200 + i)))), (aZ, .inl (cI, 2, .inl Z))] H → va_D A [(mo, .inr (5, [.int (nI 0), .ref aO, .ref aT, .ref aM, .ref aZ, .ref aY, .ref aK, .ref aF, .ref aL, .int (nI c), .int isd, .int wd])), (aO, .inl (cI, 2400, .inl (rz O (1200 + ln) (1200 + i)))), (aZ, .inl (cI, 2, .inl Z))] → va_S A Ss.heap H locs → lv_has ls 4 [(0, .ref mo), (1, .int (nI 1)), (2, .int (nI k)), (3, .int (nI i))] → W Pp Ll Ee { frames := 1, cells := 0, slots := 0, locals := 22 } Ss Mm Aa Bb Me Cc H locs 0 0 (MQ Bb (ds_Qv D (fun (u : Int32 × (Nat → Int32) × (Nat → Int32)) => u.1 = e_size (nI 1) (nI k) ∧ mQ (n_size (nI 1) (nI k) (lo, fo, ln, fn)) u.2.1 u.2.2) (fun u : Int32 × (Nat → Int32) × (Nat → Int32) => [(mo, .inr (5, [.int u.1, .ref aO, .ref aT, .ref aM, .ref aZ, .ref aY, .ref aK, .ref aF, .ref aL, .int (nI c), .int isd, .int wd])), (aO, .inl (cI, 2400, .inl u.2.1)), (aZ, .inl (cI, 2, .inl u.2.2))]) A) Aa Ss 0 0 A) (F0 Mm 39 ls []) := by
                intro k18
                induction k18 with
                | zero => intro i H locs ls hi hm2 hm20; exact absurd hm20 (Nat.not_lt_zero _)
                | succ k18 ih19 =>
                  intro i H locs ls hi hm2 hm20 hP hD hS hl
                  refine lv_iload_n hx hb dX5_size_39 rfl (lv_at hl 3 rfl) ?_
                  refine lv_iload_n hx hb dX5_size_40 rfl (lv_at hl 2 rfl) ?_
                  refine lv_icmp_ge (tgt := 63) hx hb dX5_size_41 (by decide) (fun h => ?_) (fun h => ?_)
                  ·
                    have h : k ≤ i := (nI_leI (a := k) (b := i) (by omega) (by omega)).mp h
                    have hP : va_P D vwCl [(mo, .inr (5, [.int (nI 0), .ref aO, .ref aT, .ref aM, .ref aZ, .ref aY, .ref aK, .ref aF, .ref aL, .int (nI c), .int isd, .int wd])), (aO, .inl (cI, 2400, .inl (rz O (1200 + ln) (1200 + k)))), (aZ, .inl (cI, 2, .inl Z))] H := by rw [rz_e (i := 1200 + i) (by omega) (by omega) (by omega)]; exact hP
                    have hD : va_D A [(mo, .inr (5, [.int (nI 0), .ref aO, .ref aT, .ref aM, .ref aZ, .ref aY, .ref aK, .ref aF, .ref aL, .int (nI c), .int isd, .int wd])), (aO, .inl (cI, 2400, .inl (rz O (1200 + ln) (1200 + k)))), (aZ, .inl (cI, 2, .inl Z))] := by rw [rz_e (i := 1200 + i) (by omega) (by omega) (by omega)]; exact hD
                    refine lv_aload_n hx hb dX5_size_63 rfl (lv_at hl 0 rfl) ?_
                    refine va_get (D := D) (ci := 5) (v := .ref aZ) (C := RX5) (T := TX5) (N := 12) hx hb ht inA_X5 hown hK.1 hP 0 rfl rfl 4 (by decide) (ht _ iw_125) (fun _ h9 => h9) rfl dX5_size_64 ?_
                    refine lv_iload_n hx hb dX5_size_67 rfl (lv_at hl 1 rfl) ?_
                    refine lv_iload_n hx hb dX5_size_68 rfl (lv_at hl 2 rfl) ?_
                    refine ds_iast (k := 1) hx hb hK hP hD hS 2 rfl (by omega) (by omega) dX5_size_69 (fun H locs hP hD hS => ?_)
                    have hP : va_P D vwCl [(mo, .inr (5, [.int (nI 0), .ref aO, .ref aT, .ref aM, .ref aZ, .ref aY, .ref aK, .ref aF, .ref aL, .int (nI c), .int isd, .int wd])), (aO, .inl (cI, 2400, .inl (rz O (1200 + ln) (1200 + k)))), (aZ, .inl (cI, 2, .inl (upd Z 1 (nI k))))] H := hP
                    have hD : va_D A [(mo, .inr (5, [.int (nI 0), .ref aO, .ref aT, .ref aM, .ref aZ, .ref aY, .ref aK, .ref aF, .ref aL, .int (nI c), .int isd, .int wd])), (aO, .inl (cI, 2400, .inl (rz O (1200 + ln) (1200 + k)))), (aZ, .inl (cI, 2, .inl (upd Z 1 (nI k))))] := hD
                    exact ds_vret hx hb hr hlk (nI 0, rz O (1200 + ln) (1200 + k), upd Z 1 (nI k)) ⟨(e_size_ok hro hk).symm, mQ_size1 hk hR⟩ hP hD hS (Nat.le_of_ble_eq_true rfl) (Nat.le_of_ble_eq_true rfl) dX5_size_70
                  ·
                    have h : ¬ k ≤ i := fun z9 => h ((nI_leI (a := k) (b := i) (by omega) (by omega)).mpr z9)
                    refine lv_aload_n hx hb dX5_size_44 rfl (lv_at hl 0 rfl) ?_
                    refine va_get (D := D) (ci := 5) (v := .ref aO) (C := RX5) (T := TX5) (N := 12) hx hb ht inA_X5 hown hK.1 hP 0 rfl rfl 1 (by decide) (ht _ iw_122) (fun _ h9 => h9) rfl dX5_size_45 ?_
                    refine lv_sipush (v := nI 1200) hx hb dX5_size_48 (by decide +kernel) ?_
                    refine lv_iload_n hx hb dX5_size_51 rfl (lv_at hl 1 rfl) ?_
                    refine lv_imul hx hb dX5_size_52 ?_
                    refine ds_top (z := nI (1200 * 1)) (pk_mul _ _) ?_
                    refine lv_iload_n hx hb dX5_size_53 rfl (lv_at hl 3 rfl) ?_
                    refine lv_iadd hx hb dX5_size_54 ?_
                    refine ds_top (z := nI ((1200 * 1) + i)) (nI_add _ _) ?_
                    refine ds_top (z := nI (1200 + i)) (congrArg nI (by omega)) ?_
                    refine lv_iconst (v := nI 0) hx hb dX5_size_55 (by decide +kernel) ?_
                    refine ds_iast (k := 1200 + i) hx hb hK hP hD hS 1 rfl (by omega) (by omega) dX5_size_56 (fun H locs hP hD hS => ?_)
                    have hP : va_P D vwCl [(mo, .inr (5, [.int (nI 0), .ref aO, .ref aT, .ref aM, .ref aZ, .ref aY, .ref aK, .ref aF, .ref aL, .int (nI c), .int isd, .int wd])), (aO, .inl (cI, 2400, .inl (upd (rz O (1200 + ln) (1200 + i)) (1200 + i) (nI 0)))), (aZ, .inl (cI, 2, .inl Z))] H := hP
                    have hD : va_D A [(mo, .inr (5, [.int (nI 0), .ref aO, .ref aT, .ref aM, .ref aZ, .ref aY, .ref aK, .ref aF, .ref aL, .int (nI c), .int isd, .int wd])), (aO, .inl (cI, 2400, .inl (upd (rz O (1200 + ln) (1200 + i)) (1200 + i) (nI 0)))), (aZ, .inl (cI, 2, .inl Z))] := hD
                    refine lv_iinc (k := 3) (v := nI (i + 1)) (lv' := [(3, .int (nI (i + 1))), (0, .ref mo), (1, .int (nI 1)), (2, .int (nI k))]) hx hb dX5_size_57 hl rfl (by rw [nI_succ]; rfl) (Nat.le_of_ble_eq_true rfl) rfl (fun ls hl => ?_)
                    refine lv_goto (tgt := 39) hx hb dX5_size_60 (by decide) ?_
                    have hP : va_P D vwCl [(mo, .inr (5, [.int (nI 0), .ref aO, .ref aT, .ref aM, .ref aZ, .ref aY, .ref aK, .ref aF, .ref aL, .int (nI c), .int isd, .int wd])), (aO, .inl (cI, 2400, .inl (rz O (1200 + ln) (1200 + (i + 1))))), (aZ, .inl (cI, 2, .inl Z))] H := by rw [show 1200 + (i + 1) = (1200 + i) + 1 from rfl, rz_s (by omega)]; exact hP
                    have hD : va_D A [(mo, .inr (5, [.int (nI 0), .ref aO, .ref aT, .ref aM, .ref aZ, .ref aY, .ref aK, .ref aF, .ref aL, .int (nI c), .int isd, .int wd])), (aO, .inl (cI, 2400, .inl (rz O (1200 + ln) (1200 + (i + 1))))), (aZ, .inl (cI, 2, .inl Z))] := by rw [show 1200 + (i + 1) = (1200 + i) + 1 from rfl, rz_s (by omega)]; exact hD
                    exact ih19 (i + 1) H locs ls (by omega) (by omega) (by omega) hP hD hS (lv_sub hl [1, 2, 3, 0] rfl)
              exact loop17 _ ln H locs ls (Nat.le_refl _) (Or.inl (Nat.le_refl _)) (Nat.lt_succ_self _) hP hD hS (lv_sub hl [1, 2, 3, 0] rfl)
            ·
              rw [← nI_0] at h
              have h : ¬ 0 = 0 := fun z9 => h ((nI_eq (a := 0) (b := 0) (by omega) (by omega)).mpr z9)
              exact absurd rfl h
          ·
            have h : ¬ k ≤ 1200 := fun z9 => h ((nI_leI (a := k) (b := 1200) (by omega) (by omega)).mpr z9)
            exfalso; omega
  ·
    have hbad := hok
    by_cases hrk : rok x
    ·
      have hro := hrk
      rcases hrk with rfl | rfl
      ·
        have hl : lv_has ls 4 [(0, .ref mo), (1, .int (nI 0)), (2, .int y)] := hl
        refine lv_aload_n hx hb dX5_size_0 rfl (lv_at hl 0 rfl) ?_
        refine lv_iload_n hx hb dX5_size_1 rfl (lv_at hl 1 rfl) ?_
        refine ds_calli (wc := []) (wr := [(mo, .inr (5, [.int er, .ref aO, .ref aT, .ref aM, .ref aZ, .ref aY, .ref aK, .ref aF, .ref aL, .int (nI c), .int isd, .int wd])), (aO, .inl (cI, 2400, .inl O)), (aZ, .inl (cI, 2, .inl Z))]) (wo := (fun u22 : Unit => [])) (wn := (fun u22 : Unit => [(mo, .inr (5, [.int er, .ref aO, .ref aT, .ref aM, .ref aZ, .ref aY, .ref aK, .ref aF, .ref aL, .int (nI c), .int isd, .int wd])), (aO, .inl (cI, 2400, .inl O)), (aZ, .inl (cI, 2, .inl Z))])) (isC := []) (isR := [0, 1, 2]) hP hD hS hA ⟨rfl, rfl, by decide, by decide, by decide⟩ [0, 1, 2] (by decide) (fun _ => rfl) (fun hPc hDc => va_runS (As := [.int (nI 0)]) (rest := [.ref mo]) ⟨hx, hb, hml, hown, ht⟩ (m_no0 Ll D cI cL 0 (by decide) H.size) ⟨(callB_of 1 ht g_X5_no rfl rfl rfl (ht _ iw_136) (ht _ iw_135) hd_X5_no ⟨Nat.le_of_ble_eq_true rfl, Nat.le_of_ble_eq_true rfl⟩), (ht _ iw_137)⟩ (ds_pS hPc hDc hK) rfl rfl hl.1 rfl (lv_room (Nat.le_of_ble_eq_true rfl)) dX5_size_2 ⟨Nat.le_of_ble_eq_true rfl, Nat.le_of_ble_eq_true rfl⟩) (fun r21 u22 H locs hp23 hP hD hS => ?_)
        have hP : va_P D vwCl [(mo, .inr (5, [.int er, .ref aO, .ref aT, .ref aM, .ref aZ, .ref aY, .ref aK, .ref aF, .ref aL, .int (nI c), .int isd, .int wd])), (aO, .inl (cI, 2400, .inl O)), (aZ, .inl (cI, 2, .inl Z))] H := hP
        have hD : va_D A [(mo, .inr (5, [.int er, .ref aO, .ref aT, .ref aM, .ref aZ, .ref aY, .ref aK, .ref aF, .ref aL, .int (nI c), .int isd, .int wd])), (aO, .inl (cI, 2400, .inl O)), (aZ, .inl (cI, 2, .inl Z))] := hD
        have hp23 : r21 = nI 0 := hp23
        replace hp23 := Eq.symm hp23
        subst hp23
        refine lv_if_ne (tgt := 19) hx hb dX5_size_5 (by decide) (fun h => ?_) (fun h => ?_)
        ·
          rw [← nI_0] at h
          have h : ¬ 0 = 0 := fun z9 => h ((nI_eq (a := 0) (b := 0) (by omega) (by omega)).mpr z9)
          exact absurd rfl h
        ·
          rw [← nI_0] at h
          have h : 0 = 0 := (nI_eq (a := 0) (b := 0) (by omega) (by omega)).mp h
          refine lv_iload_n hx hb dX5_size_8 rfl (lv_at hl 2 rfl) ?_
          refine lv_if_lt (tgt := 19) hx hb dX5_size_9 (by decide) (fun h0 => ?_) (fun h0 => ?_)
          ·
            refine lv_iconst (v := nI 1) hx hb dX5_size_19 (by decide +kernel) ?_
            refine lv_goto (tgt := 24) hx hb dX5_size_20 (by decide) ?_
            refine lv_iconst (v := nI 1) hx hb dX5_size_24 (by decide +kernel) ?_
            refine ds_calli (wc := [(mo, .inr (5, [.int er, .ref aO, .ref aT, .ref aM, .ref aZ, .ref aY, .ref aK, .ref aF, .ref aL, .int (nI c), .int isd, .int wd]))]) (wr := [(aO, .inl (cI, 2400, .inl O)), (aZ, .inl (cI, 2, .inl Z))]) (wo := (fun u25 : Unit => [(mo, .inr (5, [.int (nI 1), .ref aO, .ref aT, .ref aM, .ref aZ, .ref aY, .ref aK, .ref aF, .ref aL, .int (nI c), .int isd, .int wd]))])) (wn := (fun u25 : Unit => [(mo, .inr (5, [.int (nI 1), .ref aO, .ref aT, .ref aM, .ref aZ, .ref aY, .ref aK, .ref aF, .ref aL, .int (nI c), .int isd, .int wd])), (aO, .inl (cI, 2400, .inl O)), (aZ, .inl (cI, 2, .inl Z))])) (isC := [0]) (isR := [1, 2]) hP hD hS hA ⟨rfl, rfl, by decide, by decide, by decide⟩ [2, 0, 1] (by decide) (fun _ => rfl) (fun hPc hDc => va_runV (As := [.int (nI 1), .int (nI 1)]) (rest := []) ⟨hx, hb, hml, hown, ht⟩ (m_fails1 Ll D cI cL mo aO aT aM aZ aY aK aF aL er c isd wd 1  H.size) ⟨(callB_of 2 ht g_X5_fails rfl rfl rfl (ht _ iw_136) (ht _ iw_138) hd_X5_fails ⟨Nat.le_of_ble_eq_true rfl, Nat.le_of_ble_eq_true rfl⟩), (ht _ iw_139), (ht _ iw_140)⟩ (ds_pV hPc hDc hK (q0 := 0) rfl rfl) rfl rfl hl.1 rfl (lv_room (Nat.le_of_ble_eq_true rfl)) dX5_size_25 ⟨Nat.le_of_ble_eq_true rfl, Nat.le_of_ble_eq_true rfl⟩) (fun r24 u25 H locs hp26 hP hD hS => ?_)
            have hP : va_P D vwCl [(mo, .inr (5, [.int (nI 1), .ref aO, .ref aT, .ref aM, .ref aZ, .ref aY, .ref aK, .ref aF, .ref aL, .int (nI c), .int isd, .int wd])), (aO, .inl (cI, 2400, .inl O)), (aZ, .inl (cI, 2, .inl Z))] H := hP
            have hD : va_D A [(mo, .inr (5, [.int (nI 1), .ref aO, .ref aT, .ref aM, .ref aZ, .ref aY, .ref aK, .ref aF, .ref aL, .int (nI c), .int isd, .int wd])), (aO, .inl (cI, 2400, .inl O)), (aZ, .inl (cI, 2, .inl Z))] := hD
            have hp26 : r24 = nI 1 := hp26
            replace hp26 := Eq.symm hp26
            subst hp26
            refine lv_if_eq (tgt := 32) hx hb dX5_size_28 (by decide) (fun h => ?_) (fun h => ?_)
            ·
              rw [← nI_0] at h
              have h : 1 = 0 := (nI_eq (a := 1) (b := 0) (by omega) (by omega)).mp h
              exact absurd h (by decide)
            ·
              rw [← nI_0] at h
              have h : ¬ 1 = 0 := fun z9 => h ((nI_eq (a := 1) (b := 0) (by omega) (by omega)).mpr z9)
              exact ds_vret hx hb hr hlk (nI 1, O, Z) ⟨(n_size_x (t := (lo, fo, ln, fn)) hbad).2.symm, by rw [(n_size_x (t := (lo, fo, ln, fn)) hbad).1]; exact hR⟩ hP hD hS (Nat.le_of_ble_eq_true rfl) (Nat.le_of_ble_eq_true rfl) dX5_size_31
          ·
            refine lv_iload_n hx hb dX5_size_12 rfl (lv_at hl 2 rfl) ?_
            refine lv_sipush (v := nI 1200) hx hb dX5_size_13 (by decide +kernel) ?_
            refine lv_icmp_le (tgt := 23) hx hb dX5_size_16 (by decide) (fun h => ?_) (fun h => ?_)
            ·
              exact absurd ⟨hro, fun z => z.elim h0 (Int32.not_lt.mpr h)⟩ hbad
            ·
              refine lv_iconst (v := nI 1) hx hb dX5_size_19 (by decide +kernel) ?_
              refine lv_goto (tgt := 24) hx hb dX5_size_20 (by decide) ?_
              refine lv_iconst (v := nI 1) hx hb dX5_size_24 (by decide +kernel) ?_
              refine ds_calli (wc := [(mo, .inr (5, [.int er, .ref aO, .ref aT, .ref aM, .ref aZ, .ref aY, .ref aK, .ref aF, .ref aL, .int (nI c), .int isd, .int wd]))]) (wr := [(aO, .inl (cI, 2400, .inl O)), (aZ, .inl (cI, 2, .inl Z))]) (wo := (fun u28 : Unit => [(mo, .inr (5, [.int (nI 1), .ref aO, .ref aT, .ref aM, .ref aZ, .ref aY, .ref aK, .ref aF, .ref aL, .int (nI c), .int isd, .int wd]))])) (wn := (fun u28 : Unit => [(mo, .inr (5, [.int (nI 1), .ref aO, .ref aT, .ref aM, .ref aZ, .ref aY, .ref aK, .ref aF, .ref aL, .int (nI c), .int isd, .int wd])), (aO, .inl (cI, 2400, .inl O)), (aZ, .inl (cI, 2, .inl Z))])) (isC := [0]) (isR := [1, 2]) hP hD hS hA ⟨rfl, rfl, by decide, by decide, by decide⟩ [2, 0, 1] (by decide) (fun _ => rfl) (fun hPc hDc => va_runV (As := [.int (nI 1), .int (nI 1)]) (rest := []) ⟨hx, hb, hml, hown, ht⟩ (m_fails1 Ll D cI cL mo aO aT aM aZ aY aK aF aL er c isd wd 1  H.size) ⟨(callB_of 2 ht g_X5_fails rfl rfl rfl (ht _ iw_136) (ht _ iw_138) hd_X5_fails ⟨Nat.le_of_ble_eq_true rfl, Nat.le_of_ble_eq_true rfl⟩), (ht _ iw_139), (ht _ iw_140)⟩ (ds_pV hPc hDc hK (q0 := 0) rfl rfl) rfl rfl hl.1 rfl (lv_room (Nat.le_of_ble_eq_true rfl)) dX5_size_25 ⟨Nat.le_of_ble_eq_true rfl, Nat.le_of_ble_eq_true rfl⟩) (fun r27 u28 H locs hp29 hP hD hS => ?_)
              have hP : va_P D vwCl [(mo, .inr (5, [.int (nI 1), .ref aO, .ref aT, .ref aM, .ref aZ, .ref aY, .ref aK, .ref aF, .ref aL, .int (nI c), .int isd, .int wd])), (aO, .inl (cI, 2400, .inl O)), (aZ, .inl (cI, 2, .inl Z))] H := hP
              have hD : va_D A [(mo, .inr (5, [.int (nI 1), .ref aO, .ref aT, .ref aM, .ref aZ, .ref aY, .ref aK, .ref aF, .ref aL, .int (nI c), .int isd, .int wd])), (aO, .inl (cI, 2400, .inl O)), (aZ, .inl (cI, 2, .inl Z))] := hD
              have hp29 : r27 = nI 1 := hp29
              replace hp29 := Eq.symm hp29
              subst hp29
              refine lv_if_eq (tgt := 32) hx hb dX5_size_28 (by decide) (fun h => ?_) (fun h => ?_)
              ·
                rw [← nI_0] at h
                have h : 1 = 0 := (nI_eq (a := 1) (b := 0) (by omega) (by omega)).mp h
                exact absurd h (by decide)
              ·
                rw [← nI_0] at h
                have h : ¬ 1 = 0 := fun z9 => h ((nI_eq (a := 1) (b := 0) (by omega) (by omega)).mpr z9)
                exact ds_vret hx hb hr hlk (nI 1, O, Z) ⟨(n_size_x (t := (lo, fo, ln, fn)) hbad).2.symm, by rw [(n_size_x (t := (lo, fo, ln, fn)) hbad).1]; exact hR⟩ hP hD hS (Nat.le_of_ble_eq_true rfl) (Nat.le_of_ble_eq_true rfl) dX5_size_31
      ·
        have hl : lv_has ls 4 [(0, .ref mo), (1, .int (nI 1)), (2, .int y)] := hl
        refine lv_aload_n hx hb dX5_size_0 rfl (lv_at hl 0 rfl) ?_
        refine lv_iload_n hx hb dX5_size_1 rfl (lv_at hl 1 rfl) ?_
        refine ds_calli (wc := []) (wr := [(mo, .inr (5, [.int er, .ref aO, .ref aT, .ref aM, .ref aZ, .ref aY, .ref aK, .ref aF, .ref aL, .int (nI c), .int isd, .int wd])), (aO, .inl (cI, 2400, .inl O)), (aZ, .inl (cI, 2, .inl Z))]) (wo := (fun u31 : Unit => [])) (wn := (fun u31 : Unit => [(mo, .inr (5, [.int er, .ref aO, .ref aT, .ref aM, .ref aZ, .ref aY, .ref aK, .ref aF, .ref aL, .int (nI c), .int isd, .int wd])), (aO, .inl (cI, 2400, .inl O)), (aZ, .inl (cI, 2, .inl Z))])) (isC := []) (isR := [0, 1, 2]) hP hD hS hA ⟨rfl, rfl, by decide, by decide, by decide⟩ [0, 1, 2] (by decide) (fun _ => rfl) (fun hPc hDc => va_runS (As := [.int (nI 1)]) (rest := [.ref mo]) ⟨hx, hb, hml, hown, ht⟩ (m_no0 Ll D cI cL 1 (by decide) H.size) ⟨(callB_of 1 ht g_X5_no rfl rfl rfl (ht _ iw_136) (ht _ iw_135) hd_X5_no ⟨Nat.le_of_ble_eq_true rfl, Nat.le_of_ble_eq_true rfl⟩), (ht _ iw_137)⟩ (ds_pS hPc hDc hK) rfl rfl hl.1 rfl (lv_room (Nat.le_of_ble_eq_true rfl)) dX5_size_2 ⟨Nat.le_of_ble_eq_true rfl, Nat.le_of_ble_eq_true rfl⟩) (fun r30 u31 H locs hp32 hP hD hS => ?_)
        have hP : va_P D vwCl [(mo, .inr (5, [.int er, .ref aO, .ref aT, .ref aM, .ref aZ, .ref aY, .ref aK, .ref aF, .ref aL, .int (nI c), .int isd, .int wd])), (aO, .inl (cI, 2400, .inl O)), (aZ, .inl (cI, 2, .inl Z))] H := hP
        have hD : va_D A [(mo, .inr (5, [.int er, .ref aO, .ref aT, .ref aM, .ref aZ, .ref aY, .ref aK, .ref aF, .ref aL, .int (nI c), .int isd, .int wd])), (aO, .inl (cI, 2400, .inl O)), (aZ, .inl (cI, 2, .inl Z))] := hD
        have hp32 : r30 = nI 0 := hp32
        replace hp32 := Eq.symm hp32
        subst hp32
        refine lv_if_ne (tgt := 19) hx hb dX5_size_5 (by decide) (fun h => ?_) (fun h => ?_)
        ·
          rw [← nI_0] at h
          have h : ¬ 0 = 0 := fun z9 => h ((nI_eq (a := 0) (b := 0) (by omega) (by omega)).mpr z9)
          exact absurd rfl h
        ·
          rw [← nI_0] at h
          have h : 0 = 0 := (nI_eq (a := 0) (b := 0) (by omega) (by omega)).mp h
          refine lv_iload_n hx hb dX5_size_8 rfl (lv_at hl 2 rfl) ?_
          refine lv_if_lt (tgt := 19) hx hb dX5_size_9 (by decide) (fun h0 => ?_) (fun h0 => ?_)
          ·
            refine lv_iconst (v := nI 1) hx hb dX5_size_19 (by decide +kernel) ?_
            refine lv_goto (tgt := 24) hx hb dX5_size_20 (by decide) ?_
            refine lv_iconst (v := nI 1) hx hb dX5_size_24 (by decide +kernel) ?_
            refine ds_calli (wc := [(mo, .inr (5, [.int er, .ref aO, .ref aT, .ref aM, .ref aZ, .ref aY, .ref aK, .ref aF, .ref aL, .int (nI c), .int isd, .int wd]))]) (wr := [(aO, .inl (cI, 2400, .inl O)), (aZ, .inl (cI, 2, .inl Z))]) (wo := (fun u34 : Unit => [(mo, .inr (5, [.int (nI 1), .ref aO, .ref aT, .ref aM, .ref aZ, .ref aY, .ref aK, .ref aF, .ref aL, .int (nI c), .int isd, .int wd]))])) (wn := (fun u34 : Unit => [(mo, .inr (5, [.int (nI 1), .ref aO, .ref aT, .ref aM, .ref aZ, .ref aY, .ref aK, .ref aF, .ref aL, .int (nI c), .int isd, .int wd])), (aO, .inl (cI, 2400, .inl O)), (aZ, .inl (cI, 2, .inl Z))])) (isC := [0]) (isR := [1, 2]) hP hD hS hA ⟨rfl, rfl, by decide, by decide, by decide⟩ [2, 0, 1] (by decide) (fun _ => rfl) (fun hPc hDc => va_runV (As := [.int (nI 1), .int (nI 1)]) (rest := []) ⟨hx, hb, hml, hown, ht⟩ (m_fails1 Ll D cI cL mo aO aT aM aZ aY aK aF aL er c isd wd 1  H.size) ⟨(callB_of 2 ht g_X5_fails rfl rfl rfl (ht _ iw_136) (ht _ iw_138) hd_X5_fails ⟨Nat.le_of_ble_eq_true rfl, Nat.le_of_ble_eq_true rfl⟩), (ht _ iw_139), (ht _ iw_140)⟩ (ds_pV hPc hDc hK (q0 := 0) rfl rfl) rfl rfl hl.1 rfl (lv_room (Nat.le_of_ble_eq_true rfl)) dX5_size_25 ⟨Nat.le_of_ble_eq_true rfl, Nat.le_of_ble_eq_true rfl⟩) (fun r33 u34 H locs hp35 hP hD hS => ?_)
            have hP : va_P D vwCl [(mo, .inr (5, [.int (nI 1), .ref aO, .ref aT, .ref aM, .ref aZ, .ref aY, .ref aK, .ref aF, .ref aL, .int (nI c), .int isd, .int wd])), (aO, .inl (cI, 2400, .inl O)), (aZ, .inl (cI, 2, .inl Z))] H := hP
            have hD : va_D A [(mo, .inr (5, [.int (nI 1), .ref aO, .ref aT, .ref aM, .ref aZ, .ref aY, .ref aK, .ref aF, .ref aL, .int (nI c), .int isd, .int wd])), (aO, .inl (cI, 2400, .inl O)), (aZ, .inl (cI, 2, .inl Z))] := hD
            have hp35 : r33 = nI 1 := hp35
            replace hp35 := Eq.symm hp35
            subst hp35
            refine lv_if_eq (tgt := 32) hx hb dX5_size_28 (by decide) (fun h => ?_) (fun h => ?_)
            ·
              rw [← nI_0] at h
              have h : 1 = 0 := (nI_eq (a := 1) (b := 0) (by omega) (by omega)).mp h
              exact absurd h (by decide)
            ·
              rw [← nI_0] at h
              have h : ¬ 1 = 0 := fun z9 => h ((nI_eq (a := 1) (b := 0) (by omega) (by omega)).mpr z9)
              exact ds_vret hx hb hr hlk (nI 1, O, Z) ⟨(n_size_x (t := (lo, fo, ln, fn)) hbad).2.symm, by rw [(n_size_x (t := (lo, fo, ln, fn)) hbad).1]; exact hR⟩ hP hD hS (Nat.le_of_ble_eq_true rfl) (Nat.le_of_ble_eq_true rfl) dX5_size_31
          ·
            refine lv_iload_n hx hb dX5_size_12 rfl (lv_at hl 2 rfl) ?_
            refine lv_sipush (v := nI 1200) hx hb dX5_size_13 (by decide +kernel) ?_
            refine lv_icmp_le (tgt := 23) hx hb dX5_size_16 (by decide) (fun h => ?_) (fun h => ?_)
            ·
              exact absurd ⟨hro, fun z => z.elim h0 (Int32.not_lt.mpr h)⟩ hbad
            ·
              refine lv_iconst (v := nI 1) hx hb dX5_size_19 (by decide +kernel) ?_
              refine lv_goto (tgt := 24) hx hb dX5_size_20 (by decide) ?_
              refine lv_iconst (v := nI 1) hx hb dX5_size_24 (by decide +kernel) ?_
              refine ds_calli (wc := [(mo, .inr (5, [.int er, .ref aO, .ref aT, .ref aM, .ref aZ, .ref aY, .ref aK, .ref aF, .ref aL, .int (nI c), .int isd, .int wd]))]) (wr := [(aO, .inl (cI, 2400, .inl O)), (aZ, .inl (cI, 2, .inl Z))]) (wo := (fun u37 : Unit => [(mo, .inr (5, [.int (nI 1), .ref aO, .ref aT, .ref aM, .ref aZ, .ref aY, .ref aK, .ref aF, .ref aL, .int (nI c), .int isd, .int wd]))])) (wn := (fun u37 : Unit => [(mo, .inr (5, [.int (nI 1), .ref aO, .ref aT, .ref aM, .ref aZ, .ref aY, .ref aK, .ref aF, .ref aL, .int (nI c), .int isd, .int wd])), (aO, .inl (cI, 2400, .inl O)), (aZ, .inl (cI, 2, .inl Z))])) (isC := [0]) (isR := [1, 2]) hP hD hS hA ⟨rfl, rfl, by decide, by decide, by decide⟩ [2, 0, 1] (by decide) (fun _ => rfl) (fun hPc hDc => va_runV (As := [.int (nI 1), .int (nI 1)]) (rest := []) ⟨hx, hb, hml, hown, ht⟩ (m_fails1 Ll D cI cL mo aO aT aM aZ aY aK aF aL er c isd wd 1  H.size) ⟨(callB_of 2 ht g_X5_fails rfl rfl rfl (ht _ iw_136) (ht _ iw_138) hd_X5_fails ⟨Nat.le_of_ble_eq_true rfl, Nat.le_of_ble_eq_true rfl⟩), (ht _ iw_139), (ht _ iw_140)⟩ (ds_pV hPc hDc hK (q0 := 0) rfl rfl) rfl rfl hl.1 rfl (lv_room (Nat.le_of_ble_eq_true rfl)) dX5_size_25 ⟨Nat.le_of_ble_eq_true rfl, Nat.le_of_ble_eq_true rfl⟩) (fun r36 u37 H locs hp38 hP hD hS => ?_)
              have hP : va_P D vwCl [(mo, .inr (5, [.int (nI 1), .ref aO, .ref aT, .ref aM, .ref aZ, .ref aY, .ref aK, .ref aF, .ref aL, .int (nI c), .int isd, .int wd])), (aO, .inl (cI, 2400, .inl O)), (aZ, .inl (cI, 2, .inl Z))] H := hP
              have hD : va_D A [(mo, .inr (5, [.int (nI 1), .ref aO, .ref aT, .ref aM, .ref aZ, .ref aY, .ref aK, .ref aF, .ref aL, .int (nI c), .int isd, .int wd])), (aO, .inl (cI, 2400, .inl O)), (aZ, .inl (cI, 2, .inl Z))] := hD
              have hp38 : r36 = nI 1 := hp38
              replace hp38 := Eq.symm hp38
              subst hp38
              refine lv_if_eq (tgt := 32) hx hb dX5_size_28 (by decide) (fun h => ?_) (fun h => ?_)
              ·
                rw [← nI_0] at h
                have h : 1 = 0 := (nI_eq (a := 1) (b := 0) (by omega) (by omega)).mp h
                exact absurd h (by decide)
              ·
                rw [← nI_0] at h
                have h : ¬ 1 = 0 := fun z9 => h ((nI_eq (a := 1) (b := 0) (by omega) (by omega)).mpr z9)
                exact ds_vret hx hb hr hlk (nI 1, O, Z) ⟨(n_size_x (t := (lo, fo, ln, fn)) hbad).2.symm, by rw [(n_size_x (t := (lo, fo, ln, fn)) hbad).1]; exact hR⟩ hP hD hS (Nat.le_of_ble_eq_true rfl) (Nat.le_of_ble_eq_true rfl) dX5_size_31
    ·
      refine lv_aload_n hx hb dX5_size_0 rfl (lv_at hl 0 rfl) ?_
      refine lv_iload_n hx hb dX5_size_1 rfl (lv_at hl 1 rfl) ?_
      refine ds_calli (wc := []) (wr := [(mo, .inr (5, [.int er, .ref aO, .ref aT, .ref aM, .ref aZ, .ref aY, .ref aK, .ref aF, .ref aL, .int (nI c), .int isd, .int wd])), (aO, .inl (cI, 2400, .inl O)), (aZ, .inl (cI, 2, .inl Z))]) (wo := (fun u40 : Unit => [])) (wn := (fun u40 : Unit => [(mo, .inr (5, [.int er, .ref aO, .ref aT, .ref aM, .ref aZ, .ref aY, .ref aK, .ref aF, .ref aL, .int (nI c), .int isd, .int wd])), (aO, .inl (cI, 2400, .inl O)), (aZ, .inl (cI, 2, .inl Z))])) (isC := []) (isR := [0, 1, 2]) hP hD hS hA ⟨rfl, rfl, by decide, by decide, by decide⟩ [0, 1, 2] (by decide) (fun _ => rfl) (fun hPc hDc => va_runS (As := [.int x]) (rest := [.ref mo]) ⟨hx, hb, hml, hown, ht⟩ (m_no1 Ll D cI cL x (fun z => hrk (Or.inl z)) (fun z => hrk (Or.inr z)) H.size) ⟨(callB_of 1 ht g_X5_no rfl rfl rfl (ht _ iw_136) (ht _ iw_135) hd_X5_no ⟨Nat.le_of_ble_eq_true rfl, Nat.le_of_ble_eq_true rfl⟩), (ht _ iw_137)⟩ (ds_pS hPc hDc hK) rfl rfl hl.1 rfl (lv_room (Nat.le_of_ble_eq_true rfl)) dX5_size_2 ⟨Nat.le_of_ble_eq_true rfl, Nat.le_of_ble_eq_true rfl⟩) (fun r39 u40 H locs hp41 hP hD hS => ?_)
      have hP : va_P D vwCl [(mo, .inr (5, [.int er, .ref aO, .ref aT, .ref aM, .ref aZ, .ref aY, .ref aK, .ref aF, .ref aL, .int (nI c), .int isd, .int wd])), (aO, .inl (cI, 2400, .inl O)), (aZ, .inl (cI, 2, .inl Z))] H := hP
      have hD : va_D A [(mo, .inr (5, [.int er, .ref aO, .ref aT, .ref aM, .ref aZ, .ref aY, .ref aK, .ref aF, .ref aL, .int (nI c), .int isd, .int wd])), (aO, .inl (cI, 2400, .inl O)), (aZ, .inl (cI, 2, .inl Z))] := hD
      have hp41 : r39 = nI 1 := hp41
      replace hp41 := Eq.symm hp41
      subst hp41
      refine lv_if_ne (tgt := 19) hx hb dX5_size_5 (by decide) (fun h => ?_) (fun h => ?_)
      ·
        rw [← nI_0] at h
        have h : ¬ 1 = 0 := fun z9 => h ((nI_eq (a := 1) (b := 0) (by omega) (by omega)).mpr z9)
        refine lv_iconst (v := nI 1) hx hb dX5_size_19 (by decide +kernel) ?_
        refine lv_goto (tgt := 24) hx hb dX5_size_20 (by decide) ?_
        refine lv_iconst (v := nI 1) hx hb dX5_size_24 (by decide +kernel) ?_
        refine ds_calli (wc := [(mo, .inr (5, [.int er, .ref aO, .ref aT, .ref aM, .ref aZ, .ref aY, .ref aK, .ref aF, .ref aL, .int (nI c), .int isd, .int wd]))]) (wr := [(aO, .inl (cI, 2400, .inl O)), (aZ, .inl (cI, 2, .inl Z))]) (wo := (fun u43 : Unit => [(mo, .inr (5, [.int (nI 1), .ref aO, .ref aT, .ref aM, .ref aZ, .ref aY, .ref aK, .ref aF, .ref aL, .int (nI c), .int isd, .int wd]))])) (wn := (fun u43 : Unit => [(mo, .inr (5, [.int (nI 1), .ref aO, .ref aT, .ref aM, .ref aZ, .ref aY, .ref aK, .ref aF, .ref aL, .int (nI c), .int isd, .int wd])), (aO, .inl (cI, 2400, .inl O)), (aZ, .inl (cI, 2, .inl Z))])) (isC := [0]) (isR := [1, 2]) hP hD hS hA ⟨rfl, rfl, by decide, by decide, by decide⟩ [2, 0, 1] (by decide) (fun _ => rfl) (fun hPc hDc => va_runV (As := [.int (nI 1), .int (nI 1)]) (rest := []) ⟨hx, hb, hml, hown, ht⟩ (m_fails1 Ll D cI cL mo aO aT aM aZ aY aK aF aL er c isd wd 1  H.size) ⟨(callB_of 2 ht g_X5_fails rfl rfl rfl (ht _ iw_136) (ht _ iw_138) hd_X5_fails ⟨Nat.le_of_ble_eq_true rfl, Nat.le_of_ble_eq_true rfl⟩), (ht _ iw_139), (ht _ iw_140)⟩ (ds_pV hPc hDc hK (q0 := 0) rfl rfl) rfl rfl hl.1 rfl (lv_room (Nat.le_of_ble_eq_true rfl)) dX5_size_25 ⟨Nat.le_of_ble_eq_true rfl, Nat.le_of_ble_eq_true rfl⟩) (fun r42 u43 H locs hp44 hP hD hS => ?_)
        have hP : va_P D vwCl [(mo, .inr (5, [.int (nI 1), .ref aO, .ref aT, .ref aM, .ref aZ, .ref aY, .ref aK, .ref aF, .ref aL, .int (nI c), .int isd, .int wd])), (aO, .inl (cI, 2400, .inl O)), (aZ, .inl (cI, 2, .inl Z))] H := hP
        have hD : va_D A [(mo, .inr (5, [.int (nI 1), .ref aO, .ref aT, .ref aM, .ref aZ, .ref aY, .ref aK, .ref aF, .ref aL, .int (nI c), .int isd, .int wd])), (aO, .inl (cI, 2400, .inl O)), (aZ, .inl (cI, 2, .inl Z))] := hD
        have hp44 : r42 = nI 1 := hp44
        replace hp44 := Eq.symm hp44
        subst hp44
        refine lv_if_eq (tgt := 32) hx hb dX5_size_28 (by decide) (fun h => ?_) (fun h => ?_)
        ·
          rw [← nI_0] at h
          have h : 1 = 0 := (nI_eq (a := 1) (b := 0) (by omega) (by omega)).mp h
          exact absurd h (by decide)
        ·
          rw [← nI_0] at h
          have h : ¬ 1 = 0 := fun z9 => h ((nI_eq (a := 1) (b := 0) (by omega) (by omega)).mpr z9)
          exact ds_vret hx hb hr hlk (nI 1, O, Z) ⟨(n_size_x (t := (lo, fo, ln, fn)) hbad).2.symm, by rw [(n_size_x (t := (lo, fo, ln, fn)) hbad).1]; exact hR⟩ hP hD hS (Nat.le_of_ble_eq_true rfl) (Nat.le_of_ble_eq_true rfl) dX5_size_31
      ·
        rw [← nI_0] at h
        have h : 1 = 0 := (nI_eq (a := 1) (b := 0) (by omega) (by omega)).mp h
        exact absurd h (by decide)
