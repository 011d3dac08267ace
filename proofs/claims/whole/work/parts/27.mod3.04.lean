set_option maxHeartbeats 4000000 in
set_option maxRecDepth 100000 in
theorem c_X5_same (Ll : Launch) (D : va_G) (cI cL : ClassId) (mo : Nat) (aO : Nat) (aT : Nat) (aM : Nat) (aZ : Nat) (aY : Nat) (aK : Nat) (aF : Nat) (aL : Nat) (er : Int32) (c : Nat) (isd : Int32) (wd : Int32) (O : Nat → Int32) (Z : Nat → Int32) (lo : Nat) (ln : Nat) (fo : Nat → Int32) (fn : Nat → Int32) (hR : mR lo ln fo fn O Z) (sz : Nat) : Met Ll yX5_same wsX5_same { frames := 0, cells := 0, slots := 0, locals := 0 } (ds_P D cI cL [.ref mo] [(mo, .inr (5, [.int er, .ref aO, .ref aT, .ref aM, .ref aZ, .ref aY, .ref aK, .ref aF, .ref aL, .int (nI c), .int isd, .int wd])), (aO, .inl (cI, 2400, .inl O)), (aZ, .inl (cI, 2, .inl Z))] sz) (ds_Qi D (fun (r : Int32) (u : Unit) => (r = 1 ∧ (lo = ln ∧ ∀ j, j < lo → fo j = fn j)) ∨ (r = 0 ∧ ¬ (lo = ln ∧ ∀ j, j < lo → fo j = fn j))) (fun u : Unit => [(mo, .inr (5, [.int (nI 0), .ref aO, .ref aT, .ref aM, .ref aZ, .ref aY, .ref aK, .ref aF, .ref aL, .int (nI c), .int isd, .int wd])), (aO, .inl (cI, 2400, .inl O)), (aZ, .inl (cI, 2, .inl Z))]) (va_A [(mo, .inr (5, [.int er, .ref aO, .ref aT, .ref aM, .ref aZ, .ref aY, .ref aK, .ref aF, .ref aL, .int (nI c), .int isd, .int wd])), (aO, .inl (cI, 2400, .inl O)), (aZ, .inl (cI, 2, .inl Z))] sz)) 0 0 (va_A [(mo, .inr (5, [.int er, .ref aO, .ref aT, .ref aM, .ref aZ, .ref aY, .ref aK, .ref aF, .ref aL, .int (nI c), .int isd, .int wd])), (aO, .inl (cI, 2400, .inl O)), (aZ, .inl (cI, 2, .inl Z))] sz) := by
  refine ds_enter (Qf := (fun A9 => ds_Qi D (fun (r : Int32) (u : Unit) => (r = 1 ∧ (lo = ln ∧ ∀ j, j < lo → fo j = fn j)) ∨ (r = 0 ∧ ¬ (lo = ln ∧ ∀ j, j < lo → fo j = fn j))) (fun u : Unit => [(mo, .inr (5, [.int (nI 0), .ref aO, .ref aT, .ref aM, .ref aZ, .ref aY, .ref aK, .ref aF, .ref aL, .int (nI c), .int isd, .int wd])), (aO, .inl (cI, 2400, .inl O)), (aZ, .inl (cI, 2, .inl Z))]) A9)) (cc := cX5_same) (maxL := 2) (ret := (some .boolean)) (by decide) rfl (Nat.le_of_ble_eq_true rfl) ?_
  intro Pp Ee Ss Mm Aa Bb Me Cc hx hb hml hr ht hown hlk hnm A H locs hA hP hD hS hK ls hl
  have hl : lv_has ls 2 [(0, .ref mo)] := hl
  change Ss.vm.findClass RX5 = some Mm.cls at hown
  have hZ := mR_len hR
  refine lv_aload_n hx hb dX5_same_0 rfl (lv_at hl 0 rfl) ?_
  refine lv_iconst (v := nI 0) hx hb dX5_same_1 (by decide +kernel) ?_
  refine va_put (D := D) (ci := 5) (v := .int (nI 0)) (ty := .int) (C := RX5) (T := TX5) (N := 12) hx hb ht inA_X5 tyX5 tyX5_ok nmX5 hown hK.1 hP hD hS 0 rfl rfl 0 (by decide) (ht _ iw_131) (fun _ h9 => h9) rfl (by decide +kernel) rfl rfl (Nat.le_of_ble_eq_true rfl) dX5_same_2 (fun H locs hP hD hS => ?_)
  have hP : va_P D vwCl [(mo, .inr (5, [.int (nI 0), .ref aO, .ref aT, .ref aM, .ref aZ, .ref aY, .ref aK, .ref aF, .ref aL, .int (nI c), .int isd, .int wd])), (aO, .inl (cI, 2400, .inl O)), (aZ, .inl (cI, 2, .inl Z))] H := hP
  have hD : va_D A [(mo, .inr (5, [.int (nI 0), .ref aO, .ref aT, .ref aM, .ref aZ, .ref aY, .ref aK, .ref aF, .ref aL, .int (nI c), .int isd, .int wd])), (aO, .inl (cI, 2400, .inl O)), (aZ, .inl (cI, 2, .inl Z))] := hD
  refine lv_aload_n hx hb dX5_same_5 rfl (lv_at hl 0 rfl) ?_
  refine va_get (D := D) (ci := 5) (v := .ref aZ) (C := RX5) (T := TX5) (N := 12) hx hb ht inA_X5 hown hK.1 hP 0 rfl rfl 4 (by decide) (ht _ iw_125) (fun _ h9 => h9) rfl dX5_same_6 ?_
  refine lv_iconst (v := nI 0) hx hb dX5_same_9 (by decide +kernel) ?_
  refine ds_iald (k := 0) hx hb hK hP 2 rfl (by omega) (by omega) dX5_same_10 ?_
  refine ds_top (z := nI lo) hZ.2.2.1 ?_
  refine lv_aload_n hx hb dX5_same_11 rfl (lv_at hl 0 rfl) ?_
  refine va_get (D := D) (ci := 5) (v := .ref aZ) (C := RX5) (T := TX5) (N := 12) hx hb ht inA_X5 hown hK.1 hP 0 rfl rfl 4 (by decide) (ht _ iw_125) (fun _ h9 => h9) rfl dX5_same_12 ?_
  refine lv_iconst (v := nI 1) hx hb dX5_same_15 (by decide +kernel) ?_
  refine ds_iald (k := 1) hx hb hK hP 2 rfl (by omega) (by omega) dX5_same_16 ?_
  refine ds_top (z := nI ln) hZ.2.2.2 ?_
  refine lv_icmp_eq (tgt := 22) hx hb dX5_same_17 (by decide) (fun he => ?_) (fun he => ?_)
  ·
    have he : lo = ln := (nI_eq (a := lo) (b := ln) (by omega) (by omega)).mp he
    refine lv_iconst (v := nI 0) hx hb dX5_same_22 (by decide +kernel) ?_
    refine lv_istore_n (lv' := [(1, .int (nI 0)), (0, .ref mo)]) hx hb dX5_same_23 rfl hl (Nat.le_of_ble_eq_true rfl) rfl (fun ls hl => ?_)
    have loop1 : ∀ (k2 : Nat) (i : Nat) (H : Heap) (locs : List Loc) (ls : Array Slot), (i ≤ lo) → (∀ j, j < i → fo j = fn j) → lo - i < k2 → va_P D vwCl [(mo, .inr (5, [.int (nI 0), .ref aO, .ref aT, .ref aM, .ref aZ, .ref aY, .ref aK, .ref aF, .ref aL, .int (nI c), .int isd, .int wd])), (aO, .inl (cI, 2400, .inl O)), (aZ, .inl (cI, 2, .inl Z))] H → va_D A [(mo, .inr (5, [.int (nI 0), .ref aO, .ref aT, .ref aM, .ref aZ, .ref aY, .ref aK, .ref aF, .ref aL, .int (nI c), .int isd, .int wd])), (aO, .inl (cI, 2400, .inl O)), (aZ, .inl (cI, 2, .inl Z))] → va_S A Ss.heap H locs → lv_has ls 2 [(0, .ref mo), (1, .int (nI i))] → W Pp Ll Ee { frames := 0, cells := 0, slots := 0, locals := 0 } Ss Mm Aa Bb Me Cc H locs 0 0 (MQ Bb (ds_Qi D (fun (r : Int32) (u : Unit) => (r = 1 ∧ (lo = ln ∧ ∀ j, j < lo → fo j = fn j)) ∨ (r = 0 ∧ ¬ (lo = ln ∧ ∀ j, j < lo → fo j = fn j))) (fun u : Unit => [(mo, .inr (5, [.int (nI 0), .ref aO, .ref aT, .ref aM, .ref aZ, .ref aY, .ref aK, .ref aF, .ref aL, .int (nI c), .int isd, .int wd])), (aO, .inl (cI, 2400, .inl O)), (aZ, .inl (cI, 2, .inl Z))]) A) Aa Ss 0 0 A) (F0 Mm 24 ls []) := by
      intro k2
      induction k2 with
      | zero => intro i H locs ls hi hj2 hm4; exact absurd hm4 (Nat.not_lt_zero _)
      | succ k2 ih3 =>
        intro i H locs ls hi hj2 hm4 hP hD hS hl
        refine lv_iload_n hx hb dX5_same_24 rfl (lv_at hl 1 rfl) ?_
        refine lv_aload_n hx hb dX5_same_25 rfl (lv_at hl 0 rfl) ?_
        refine va_get (D := D) (ci := 5) (v := .ref aZ) (C := RX5) (T := TX5) (N := 12) hx hb ht inA_X5 hown hK.1 hP 0 rfl rfl 4 (by decide) (ht _ iw_125) (fun _ h9 => h9) rfl dX5_same_26 ?_
        refine lv_iconst (v := nI 0) hx hb dX5_same_29 (by decide +kernel) ?_
        refine ds_iald (k := 0) hx hb hK hP 2 rfl (by omega) (by omega) dX5_same_30 ?_
        refine ds_top (z := nI lo) hZ.2.2.1 ?_
        refine lv_icmp_ge (tgt := 61) hx hb dX5_same_31 (by decide) (fun h => ?_) (fun h => ?_)
        ·
          have h : lo ≤ i := (nI_leI (a := lo) (b := i) (by omega) (by omega)).mp h
          refine lv_iconst (v := nI 1) hx hb dX5_same_61 (by decide +kernel) ?_
          exact ds_iret hx hb hr hlk (by decide +kernel) () (Or.inl ⟨rfl, he, fun j hj => hj2 j (by omega)⟩) hP hD hS (Nat.le_of_ble_eq_true rfl) (Nat.le_of_ble_eq_true rfl) dX5_same_62
        ·
          have h : ¬ lo ≤ i := fun z9 => h ((nI_leI (a := lo) (b := i) (by omega) (by omega)).mpr z9)
          have hf1 := hR.2.2.2.2.1 i (by omega)
          have hf2 := hR.2.2.2.2.2 i (by omega)
          refine lv_aload_n hx hb dX5_same_34 rfl (lv_at hl 0 rfl) ?_
          refine va_get (D := D) (ci := 5) (v := .ref aO) (C := RX5) (T := TX5) (N := 12) hx hb ht inA_X5 hown hK.1 hP 0 rfl rfl 1 (by decide) (ht _ iw_122) (fun _ h9 => h9) rfl dX5_same_35 ?_
          refine lv_iload_n hx hb dX5_same_38 rfl (lv_at hl 1 rfl) ?_
          refine ds_iald (k := i) hx hb hK hP 1 rfl (by omega) (by omega) dX5_same_39 ?_
          refine lv_aload_n hx hb dX5_same_40 rfl (lv_at hl 0 rfl) ?_
          refine va_get (D := D) (ci := 5) (v := .ref aO) (C := RX5) (T := TX5) (N := 12) hx hb ht inA_X5 hown hK.1 hP 0 rfl rfl 1 (by decide) (ht _ iw_122) (fun _ h9 => h9) rfl dX5_same_41 ?_
          refine lv_sipush (v := nI 1200) hx hb dX5_same_44 (by decide +kernel) ?_
          refine lv_iload_n hx hb dX5_same_47 rfl (lv_at hl 1 rfl) ?_
          refine lv_iadd hx hb dX5_same_48 ?_
          refine ds_top (z := nI (1200 + i)) (nI_add _ _) ?_
          refine ds_iald (k := 1200 + i) hx hb hK hP 1 rfl (by omega) (by omega) dX5_same_49 ?_
          refine lv_icmp_eq (tgt := 55) hx hb dX5_same_50 (by decide) (fun h0 => ?_) (fun h0 => ?_)
          ·
            rw [hf1, hf2] at h0
            refine lv_iinc (k := 1) (v := nI (i + 1)) (lv' := [(1, .int (nI (i + 1))), (0, .ref mo)]) hx hb dX5_same_55 hl rfl (by rw [nI_succ]; rfl) (Nat.le_of_ble_eq_true rfl) rfl (fun ls hl => ?_)
            refine lv_goto (tgt := 24) hx hb dX5_same_58 (by decide) ?_
            exact ih3 (i + 1) H locs ls (by omega) (fun j hj => if e8 : j < i then hj2 j e8 else (show i = j by omega) ▸ h0) (by omega) hP hD hS (lv_sub hl [1, 0] rfl)
          ·
            rw [hf1, hf2] at h0
            refine lv_iconst (v := nI 0) hx hb dX5_same_53 (by decide +kernel) ?_
            exact ds_iret hx hb hr hlk (by decide +kernel) () (Or.inr ⟨rfl, fun z => h0 (z.2 i (by omega))⟩) hP hD hS (Nat.le_of_ble_eq_true rfl) (Nat.le_of_ble_eq_true rfl) dX5_same_54
    exact loop1 _ 0 H locs ls (Nat.zero_le _) (fun j hj => absurd hj (Nat.not_lt_zero _)) (Nat.lt_succ_self _) hP hD hS (lv_sub hl [1, 0] rfl)
  ·
    have he : ¬ lo = ln := fun z9 => he ((nI_eq (a := lo) (b := ln) (by omega) (by omega)).mpr z9)
    refine lv_iconst (v := nI 0) hx hb dX5_same_20 (by decide +kernel) ?_
    exact ds_iret hx hb hr hlk (by decide +kernel) () (Or.inr ⟨rfl, fun z => he z.1⟩) hP hD hS (Nat.le_of_ble_eq_true rfl) (Nat.le_of_ble_eq_true rfl) dX5_same_21
