set_option maxHeartbeats 4000000 in
set_option maxRecDepth 100000 in
theorem m_lacks11 (Ll : Launch) (D : va_G) (cI cL : ClassId) (mo : Nat) (aO : Nat) (aT : Nat) (aM : Nat) (aZ : Nat) (aY : Nat) (aK : Nat) (aF : Nat) (aL : Nat) (er : Int32) (c : Nat) (isd : Int32) (wd : Int32) (Z : Nat → Int32) (ln : Nat) (y : Int32) (z : Int32) (hZ : Z 1 = nI ln) (h1 : ln ≤ 1200) (h2 : y < 0 ∨ z < 0 ∨ nI ln - z < y) (sz : Nat) : Met Ll yX5_lacks wsX5_lacks { frames := 0, cells := 0, slots := 0, locals := 0 } (ds_P D cI cL [.ref mo, .int (nI 1), .int y, .int z] [(mo, .inr (5, [.int er, .ref aO, .ref aT, .ref aM, .ref aZ, .ref aY, .ref aK, .ref aF, .ref aL, .int (nI c), .int isd, .int wd])), (aZ, .inl (cI, 2, .inl Z))] sz) (ds_Qi D (fun (r : Int32) (u : Unit) => r = nI 1) (fun u : Unit => [(mo, .inr (5, [.int er, .ref aO, .ref aT, .ref aM, .ref aZ, .ref aY, .ref aK, .ref aF, .ref aL, .int (nI c), .int isd, .int wd])), (aZ, .inl (cI, 2, .inl Z))]) (va_A [(mo, .inr (5, [.int er, .ref aO, .ref aT, .ref aM, .ref aZ, .ref aY, .ref aK, .ref aF, .ref aL, .int (nI c), .int isd, .int wd])), (aZ, .inl (cI, 2, .inl Z))] sz)) 0 0 (va_A [(mo, .inr (5, [.int er, .ref aO, .ref aT, .ref aM, .ref aZ, .ref aY, .ref aK, .ref aF, .ref aL, .int (nI c), .int isd, .int wd])), (aZ, .inl (cI, 2, .inl Z))] sz) := by
  refine ds_enter (Qf := (fun A9 => ds_Qi D (fun (r : Int32) (u : Unit) => r = nI 1) (fun u : Unit => [(mo, .inr (5, [.int er, .ref aO, .ref aT, .ref aM, .ref aZ, .ref aY, .ref aK, .ref aF, .ref aL, .int (nI c), .int isd, .int wd])), (aZ, .inl (cI, 2, .inl Z))]) A9)) (cc := cX5_lacks) (maxL := 4) (ret := (some .boolean)) (by decide) rfl (Nat.le_of_ble_eq_true rfl) ?_
  intro Pp Ee Ss Mm Aa Bb Me Cc hx hb hml hr ht hown hlk hnm A H locs hA hP hD hS hK ls hl
  have hl : lv_has ls 4 [(0, .ref mo), (1, .int (nI 1)), (2, .int y), (3, .int z)] := hl
  change Ss.vm.findClass RX5 = some Mm.cls at hown
  refine lv_iload_n hx hb dX5_lacks_0 rfl (lv_at hl 3 rfl) ?_
  refine lv_if_lt (tgt := 30) hx hb dX5_lacks_1 (by decide) (fun h9 => ?_) (fun h9 => ?_)
  ·
    refine lv_iconst (v := nI 1) hx hb dX5_lacks_30 (by decide +kernel) ?_
    refine lv_goto (tgt := 35) hx hb dX5_lacks_31 (by decide) ?_
    exact ds_iret hx hb hr hlk (by decide +kernel) () rfl hP hD hS (Nat.le_of_ble_eq_true rfl) (Nat.le_of_ble_eq_true rfl) dX5_lacks_35
  ·
    refine lv_iload_n hx hb dX5_lacks_4 rfl (lv_at hl 2 rfl) ?_
    refine lv_if_lt (tgt := 30) hx hb dX5_lacks_5 (by decide) (fun h8 => ?_) (fun h8 => ?_)
    ·
      refine lv_iconst (v := nI 1) hx hb dX5_lacks_30 (by decide +kernel) ?_
      refine lv_goto (tgt := 35) hx hb dX5_lacks_31 (by decide) ?_
      exact ds_iret hx hb hr hlk (by decide +kernel) () rfl hP hD hS (Nat.le_of_ble_eq_true rfl) (Nat.le_of_ble_eq_true rfl) dX5_lacks_35
    ·
      obtain ⟨p, hp, e8⟩ := nI_of h8
      obtain ⟨k, hk, e9⟩ := nI_of h9
      subst e8 e9
      have hlt : ln < p + k := (sub_lt_big h1 hk hp).mp ((h2.resolve_left h8).resolve_left h9)
      have hl : lv_has ls 4 [(0, .ref mo), (1, .int (nI 1)), (2, .int (nI p)), (3, .int (nI k))] := hl
      refine lv_iload_n hx hb dX5_lacks_8 rfl (lv_at hl 2 rfl) ?_
      refine lv_aload_n hx hb dX5_lacks_9 rfl (lv_at hl 0 rfl) ?_
      refine va_get (D := D) (ci := 5) (v := .ref aZ) (C := RX5) (T := TX5) (N := 12) hx hb ht inA_X5 hown hK.1 hP 0 rfl rfl 4 (by decide) (ht _ iw_125) (fun _ h9 => h9) rfl dX5_lacks_10 ?_
      refine lv_iload_n hx hb dX5_lacks_13 rfl (lv_at hl 1 rfl) ?_
      refine ds_iald (k := 1) hx hb hK hP 1 rfl (by omega) (by omega) dX5_lacks_14 ?_
      refine ds_top (z := nI ln) hZ ?_
      refine lv_icmp_gt (tgt := 30) hx hb dX5_lacks_15 (by decide) (fun h7 => ?_) (fun h7 => ?_)
      ·
        have h7 : ln < p := (nI_ltI (a := ln) (b := p) (by omega) (by omega)).mp h7
        refine lv_iconst (v := nI 1) hx hb dX5_lacks_30 (by decide +kernel) ?_
        refine lv_goto (tgt := 35) hx hb dX5_lacks_31 (by decide) ?_
        exact ds_iret hx hb hr hlk (by decide +kernel) () rfl hP hD hS (Nat.le_of_ble_eq_true rfl) (Nat.le_of_ble_eq_true rfl) dX5_lacks_35
      ·
        have h7 : ¬ ln < p := fun z9 => h7 ((nI_ltI (a := ln) (b := p) (by omega) (by omega)).mpr z9)
        refine lv_iload_n hx hb dX5_lacks_18 rfl (lv_at hl 3 rfl) ?_
        refine lv_aload_n hx hb dX5_lacks_19 rfl (lv_at hl 0 rfl) ?_
        refine va_get (D := D) (ci := 5) (v := .ref aZ) (C := RX5) (T := TX5) (N := 12) hx hb ht inA_X5 hown hK.1 hP 0 rfl rfl 4 (by decide) (ht _ iw_125) (fun _ h9 => h9) rfl dX5_lacks_20 ?_
        refine lv_iload_n hx hb dX5_lacks_23 rfl (lv_at hl 1 rfl) ?_
        refine ds_iald (k := 1) hx hb hK hP 1 rfl (by omega) (by omega) dX5_lacks_24 ?_
        refine ds_top (z := nI ln) hZ ?_
        refine lv_iload_n hx hb dX5_lacks_25 rfl (lv_at hl 2 rfl) ?_
        refine lv_isub hx hb dX5_lacks_26 ?_
        refine ds_top (z := nI (ln - p)) (pk_sub (by omega)) ?_
        refine lv_icmp_le (tgt := 34) hx hb dX5_lacks_27 (by decide) (fun h => ?_) (fun h => ?_)
        ·
          have h : k ≤ (ln - p) := (nI_leI (a := k) (b := (ln - p)) (by omega) (by omega)).mp h
          exfalso; omega
        ·
          have h : ¬ k ≤ (ln - p) := fun z9 => h ((nI_leI (a := k) (b := (ln - p)) (by omega) (by omega)).mpr z9)
          refine lv_iconst (v := nI 1) hx hb dX5_lacks_30 (by decide +kernel) ?_
          refine lv_goto (tgt := 35) hx hb dX5_lacks_31 (by decide) ?_
          exact ds_iret hx hb hr hlk (by decide +kernel) () rfl hP hD hS (Nat.le_of_ble_eq_true rfl) (Nat.le_of_ble_eq_true rfl) dX5_lacks_35
set_option maxHeartbeats 4000000 in
set_option maxRecDepth 100000 in
theorem m_weakOf1 (Ll : Launch) (D : va_G) (cI cL : ClassId) (mo : Nat) (aO : Nat) (aT : Nat) (aM : Nat) (aZ : Nat) (aY : Nat) (aK : Nat) (aF : Nat) (aL : Nat) (er : Int32) (c : Nat) (isd : Int32) (wd : Int32) (O : Nat → Int32) (p : Nat) (k : Nat) (h1 : p + k ≤ 1200) (sz : Nat) : Met Ll yX5_weakOf wsX5_weakOf { frames := 0, cells := 0, slots := 0, locals := 0 } (ds_P D cI cL [.ref mo, .int (nI 1), .int (nI p), .int (nI k)] [(mo, .inr (5, [.int er, .ref aO, .ref aT, .ref aM, .ref aZ, .ref aY, .ref aK, .ref aF, .ref aL, .int (nI c), .int isd, .int wd])), (aO, .inl (cI, 2400, .inl O))] sz) (ds_Qi D (fun (r : Int32) (u : Unit) => r = su_W (fun j => O (1200 + j)) p k) (fun u : Unit => [(mo, .inr (5, [.int er, .ref aO, .ref aT, .ref aM, .ref aZ, .ref aY, .ref aK, .ref aF, .ref aL, .int (nI c), .int isd, .int wd])), (aO, .inl (cI, 2400, .inl O))]) (va_A [(mo, .inr (5, [.int er, .ref aO, .ref aT, .ref aM, .ref aZ, .ref aY, .ref aK, .ref aF, .ref aL, .int (nI c), .int isd, .int wd])), (aO, .inl (cI, 2400, .inl O))] sz)) 0 0 (va_A [(mo, .inr (5, [.int er, .ref aO, .ref aT, .ref aM, .ref aZ, .ref aY, .ref aK, .ref aF, .ref aL, .int (nI c), .int isd, .int wd])), (aO, .inl (cI, 2400, .inl O))] sz) := by
  refine ds_enter (Qf := (fun A9 => ds_Qi D (fun (r : Int32) (u : Unit) => r = su_W (fun j => O (1200 + j)) p k) (fun u : Unit => [(mo, .inr (5, [.int er, .ref aO, .ref aT, .ref aM, .ref aZ, .ref aY, .ref aK, .ref aF, .ref aL, .int (nI c), .int isd, .int wd])), (aO, .inl (cI, 2400, .inl O))]) A9)) (cc := cX5_weakOf) (maxL := 7) (ret := (some .int)) (by decide) rfl (Nat.le_of_ble_eq_true rfl) ?_
  intro Pp Ee Ss Mm Aa Bb Me Cc hx hb hml hr ht hown hlk hnm A H locs hA hP hD hS hK ls hl
  have hl : lv_has ls 7 [(0, .ref mo), (1, .int (nI 1)), (2, .int (nI p)), (3, .int (nI k))] := hl
  change Ss.vm.findClass RX5 = some Mm.cls at hown
  refine lv_iconst (v := nI 0) hx hb dX5_weakOf_0 (by decide +kernel) ?_
  refine lv_istore (lv' := [(4, .int (nI 0)), (0, .ref mo), (1, .int (nI 1)), (2, .int (nI p)), (3, .int (nI k))]) hx hb dX5_weakOf_1 hl (Nat.le_of_ble_eq_true rfl) rfl (fun ls hl => ?_)
  refine lv_iconst (v := nI 0) hx hb dX5_weakOf_3 (by decide +kernel) ?_
  refine lv_istore (lv' := [(5, .int (nI 0)), (4, .int (nI 0)), (0, .ref mo), (1, .int (nI 1)), (2, .int (nI p)), (3, .int (nI k))]) hx hb dX5_weakOf_4 hl (Nat.le_of_ble_eq_true rfl) rfl (fun ls hl => ?_)
  refine lv_iconst (v := nI 0) hx hb dX5_weakOf_6 (by decide +kernel) ?_
  refine lv_istore (lv' := [(6, .int (nI 0)), (5, .int (nI 0)), (4, .int (nI 0)), (0, .ref mo), (1, .int (nI 1)), (2, .int (nI p)), (3, .int (nI k))]) hx hb dX5_weakOf_7 hl (Nat.le_of_ble_eq_true rfl) rfl (fun ls hl => ?_)
  have loop1 : ∀ (k2 : Nat) (i : Nat) (H : Heap) (locs : List Loc) (ls : Array Slot), (i ≤ k) → k - i < k2 → va_P D vwCl [(mo, .inr (5, [.int er, .ref aO, .ref aT, .ref aM, .ref aZ, .ref aY, .ref aK, .ref aF, .ref aL, .int (nI c), .int isd, .int wd])), (aO, .inl (cI, 2400, .inl O))] H → va_D A [(mo, .inr (5, [.int er, .ref aO, .ref aT, .ref aM, .ref aZ, .ref aY, .ref aK, .ref aF, .ref aL, .int (nI c), .int isd, .int wd])), (aO, .inl (cI, 2400, .inl O))] → va_S A Ss.heap H locs → lv_has ls 7 [(0, .ref mo), (1, .int (nI 1)), (2, .int (nI p)), (3, .int (nI k)), (4, .int (su_A (fun j => O (1200 + j)) p i)), (5, .int (su_C (fun j => O (1200 + j)) p k i)), (6, .int (nI i))] → W Pp Ll Ee { frames := 0, cells := 0, slots := 0, locals := 0 } Ss Mm Aa Bb Me Cc H locs 0 0 (MQ Bb (ds_Qi D (fun (r : Int32) (u : Unit) => r = su_W (fun j => O (1200 + j)) p k) (fun u : Unit => [(mo, .inr (5, [.int er, .ref aO, .ref aT, .ref aM, .ref aZ, .ref aY, .ref aK, .ref aF, .ref aL, .int (nI c), .int isd, .int wd])), (aO, .inl (cI, 2400, .inl O))]) A) Aa Ss 0 0 A) (F0 Mm 9 ls []) := by
    intro k2
    induction k2 with
    | zero => intro i H locs ls hi hm4; exact absurd hm4 (Nat.not_lt_zero _)
    | succ k2 ih3 =>
      intro i H locs ls hi hm4 hP hD hS hl
      refine lv_iload hx hb dX5_weakOf_9 (lv_at hl 6 rfl) ?_
      refine lv_iload_n hx hb dX5_weakOf_11 rfl (lv_at hl 3 rfl) ?_
      refine lv_icmp_ge (tgt := 66) hx hb dX5_weakOf_12 (by decide) (fun h => ?_) (fun h => ?_)
      ·
        have h : k ≤ i := (nI_leI (a := k) (b := i) (by omega) (by omega)).mp h
        have e9 : k = i := (by omega)
        subst e9
        refine lv_iload hx hb dX5_weakOf_66 (lv_at hl 4 rfl) ?_
        refine lv_ldc (v := nI 65535) hx hb hown (ht _ iw_149) dX5_weakOf_68 ?_
        refine lv_iand hx hb dX5_weakOf_70 ?_
        refine lv_ldc (v := nI 65536) hx hb hown (ht _ iw_150) dX5_weakOf_71 ?_
        refine lv_iload hx hb dX5_weakOf_73 (lv_at hl 5 rfl) ?_
        refine lv_ldc (v := nI 65535) hx hb hown (ht _ iw_149) dX5_weakOf_75 ?_
        refine lv_iand hx hb dX5_weakOf_77 ?_
        refine lv_imul hx hb dX5_weakOf_78 ?_
        refine lv_iadd hx hb dX5_weakOf_79 ?_
        exact ds_iret hx hb hr hlk rfl () (by rw [su_C_n]; rfl) hP hD hS (Nat.le_of_ble_eq_true rfl) (Nat.le_of_ble_eq_true rfl) dX5_weakOf_80
      ·
        have h : ¬ k ≤ i := fun z9 => h ((nI_leI (a := k) (b := i) (by omega) (by omega)).mpr z9)
        refine lv_iload hx hb dX5_weakOf_15 (lv_at hl 4 rfl) ?_
        refine lv_aload_n hx hb dX5_weakOf_17 rfl (lv_at hl 0 rfl) ?_
        refine va_get (D := D) (ci := 5) (v := .ref aO) (C := RX5) (T := TX5) (N := 12) hx hb ht inA_X5 hown hK.1 hP 0 rfl rfl 1 (by decide) (ht _ iw_122) (fun _ h9 => h9) rfl dX5_weakOf_18 ?_
        refine lv_sipush (v := nI 1200) hx hb dX5_weakOf_21 (by decide +kernel) ?_
        refine lv_iload_n hx hb dX5_weakOf_24 rfl (lv_at hl 1 rfl) ?_
        refine lv_imul hx hb dX5_weakOf_25 ?_
        refine ds_top (z := nI (1200 * 1)) (pk_mul _ _) ?_
        refine lv_iload_n hx hb dX5_weakOf_26 rfl (lv_at hl 2 rfl) ?_
        refine lv_iadd hx hb dX5_weakOf_27 ?_
        refine ds_top (z := nI ((1200 * 1) + p)) (nI_add _ _) ?_
        refine lv_iload hx hb dX5_weakOf_28 (lv_at hl 6 rfl) ?_
        refine lv_iadd hx hb dX5_weakOf_30 ?_
        refine ds_top (z := nI (((1200 * 1) + p) + i)) (nI_add _ _) ?_
        refine ds_top (z := nI (1200 + (p + i))) (congrArg nI (by omega)) ?_
        refine ds_iald (k := 1200 + (p + i)) hx hb hK hP 1 rfl (by omega) (by omega) dX5_weakOf_31 ?_
        refine lv_iadd hx hb dX5_weakOf_32 ?_
        refine lv_istore (lv' := [(4, .int ((su_A (fun j => O (1200 + j)) p i) + (O (1200 + (p + i))))), (0, .ref mo), (1, .int (nI 1)), (2, .int (nI p)), (3, .int (nI k)), (5, .int (su_C (fun j => O (1200 + j)) p k i)), (6, .int (nI i))]) hx hb dX5_weakOf_33 hl (Nat.le_of_ble_eq_true rfl) rfl (fun ls hl => ?_)
        refine lv_iload hx hb dX5_weakOf_35 (lv_at hl 5 rfl) ?_
        refine lv_iload_n hx hb dX5_weakOf_37 rfl (lv_at hl 4 rfl) ?_
        refine lv_iload hx hb dX5_weakOf_38 (lv_at hl 6 rfl) ?_
        refine lv_isub hx hb dX5_weakOf_40 ?_
        refine ds_top (z := nI (k - i)) (pk_sub (by omega)) ?_
        refine lv_aload_n hx hb dX5_weakOf_41 rfl (lv_at hl 1 rfl) ?_
        refine va_get (D := D) (ci := 5) (v := .ref aO) (C := RX5) (T := TX5) (N := 12) hx hb ht inA_X5 hown hK.1 hP 0 rfl rfl 1 (by decide) (ht _ iw_122) (fun _ h9 => h9) rfl dX5_weakOf_42 ?_
        refine lv_sipush (v := nI 1200) hx hb dX5_weakOf_45 (by decide +kernel) ?_
        refine lv_iload_n hx hb dX5_weakOf_48 rfl (lv_at hl 2 rfl) ?_
        refine lv_imul hx hb dX5_weakOf_49 ?_
        refine ds_top (z := nI (1200 * 1)) (pk_mul _ _) ?_
        refine lv_iload_n hx hb dX5_weakOf_50 rfl (lv_at hl 3 rfl) ?_
        refine lv_iadd hx hb dX5_weakOf_51 ?_
        refine ds_top (z := nI ((1200 * 1) + p)) (nI_add _ _) ?_
        refine lv_iload hx hb dX5_weakOf_52 (lv_at hl 6 rfl) ?_
        refine lv_iadd hx hb dX5_weakOf_54 ?_
        refine ds_top (z := nI (((1200 * 1) + p) + i)) (nI_add _ _) ?_
        refine ds_top (z := nI (1200 + (p + i))) (congrArg nI (by omega)) ?_
        refine ds_iald (k := 1200 + (p + i)) hx hb hK hP 1 rfl (by omega) (by omega) dX5_weakOf_55 ?_
        refine lv_imul hx hb dX5_weakOf_56 ?_
        refine lv_iadd hx hb dX5_weakOf_57 ?_
        refine lv_istore (lv' := [(5, .int ((su_C (fun j => O (1200 + j)) p k i) + ((nI (k - i)) * (O (1200 + (p + i)))))), (4, .int ((su_A (fun j => O (1200 + j)) p i) + (O (1200 + (p + i))))), (0, .ref mo), (1, .int (nI 1)), (2, .int (nI p)), (3, .int (nI k)), (6, .int (nI i))]) hx hb dX5_weakOf_58 hl (Nat.le_of_ble_eq_true rfl) rfl (fun ls hl => ?_)
        refine lv_iinc (k := 6) (v := nI (i + 1)) (lv' := [(6, .int (nI (i + 1))), (5, .int ((su_C (fun j => O (1200 + j)) p k i) + ((nI (k - i)) * (O (1200 + (p + i)))))), (4, .int ((su_A (fun j => O (1200 + j)) p i) + (O (1200 + (p + i))))), (0, .ref mo), (1, .int (nI 1)), (2, .int (nI p)), (3, .int (nI k))]) hx hb dX5_weakOf_60 hl rfl (by rw [nI_succ]; rfl) (Nat.le_of_ble_eq_true rfl) rfl (fun ls hl => ?_)
        refine lv_goto (tgt := 9) hx hb dX5_weakOf_63 (by decide) ?_
        exact ih3 (i + 1) H locs ls (by omega) (by omega) hP hD hS (lv_sub hl [3, 4, 5, 6, 2, 1, 0] rfl)
  exact loop1 _ 0 H locs ls (Nat.zero_le _) (Nat.lt_succ_self _) hP hD hS (lv_sub hl [3, 4, 5, 6, 2, 1, 0] rfl)
