set_option maxHeartbeats 4000000 in
set_option maxRecDepth 100000 in
theorem m_strongOf1 (Ll : Launch) (D : va_G) (cI cL : ClassId) (mo : Nat) (aO : Nat) (aT : Nat) (aM : Nat) (aZ : Nat) (aY : Nat) (aK : Nat) (aF : Nat) (aL : Nat) (er : Int32) (c : Nat) (isd : Int32) (wd : Int32) (O : Nat → Int32) (p : Nat) (k : Nat) (h1 : p + k ≤ 1200) (sz : Nat) : Met Ll yX5_strongOf wsX5_strongOf { frames := 0, cells := 0, slots := 0, locals := 0 } (ds_P D cI cL [.ref mo, .int (nI 1), .int (nI p), .int (nI k)] [(mo, .inr (5, [.int er, .ref aO, .ref aT, .ref aM, .ref aZ, .ref aY, .ref aK, .ref aF, .ref aL, .int (nI c), .int isd, .int wd])), (aO, .inl (cI, 2400, .inl O))] sz) (ds_Ql D (fun (r : Int64) (u : Unit) => r = su_S (fun j => O (1200 + j)) p k) (fun u : Unit => [(mo, .inr (5, [.int er, .ref aO, .ref aT, .ref aM, .ref aZ, .ref aY, .ref aK, .ref aF, .ref aL, .int (nI c), .int isd, .int wd])), (aO, .inl (cI, 2400, .inl O))]) (va_A [(mo, .inr (5, [.int er, .ref aO, .ref aT, .ref aM, .ref aZ, .ref aY, .ref aK, .ref aF, .ref aL, .int (nI c), .int isd, .int wd])), (aO, .inl (cI, 2400, .inl O))] sz)) 0 0 (va_A [(mo, .inr (5, [.int er, .ref aO, .ref aT, .ref aM, .ref aZ, .ref aY, .ref aK, .ref aF, .ref aL, .int (nI c), .int isd, .int wd])), (aO, .inl (cI, 2400, .inl O))] sz) := by
  refine ds_enter (Qf := (fun A9 => ds_Ql D (fun (r : Int64) (u : Unit) => r = su_S (fun j => O (1200 + j)) p k) (fun u : Unit => [(mo, .inr (5, [.int er, .ref aO, .ref aT, .ref aM, .ref aZ, .ref aY, .ref aK, .ref aF, .ref aL, .int (nI c), .int isd, .int wd])), (aO, .inl (cI, 2400, .inl O))]) A9)) (cc := cX5_strongOf) (maxL := 7) (ret := (some .long)) (by decide) rfl (Nat.le_of_ble_eq_true rfl) ?_
  intro Pp Ee Ss Mm Aa Bb Me Cc hx hb hml hr ht hown hlk hnm A H locs hA hP hD hS hK ls hl
  have hl : lv_has ls 7 [(0, .ref mo), (1, .int (nI 1)), (2, .int (nI p)), (3, .int (nI k))] := hl
  change Ss.vm.findClass RX5 = some Mm.cls at hown
  refine lv_ldc2 (v := -3750763034362895579) hx hb hown (ht _ iw_152) dX5_strongOf_0 ?_
  refine lv_lstore (lv' := [(4, .long (-3750763034362895579)), (0, .ref mo), (1, .int (nI 1)), (2, .int (nI p)), (3, .int (nI k))]) hx hb dX5_strongOf_3 hl (Nat.le_of_ble_eq_true rfl) rfl (fun ls hl => ?_)
  refine lv_iconst (v := nI 0) hx hb dX5_strongOf_5 (by decide +kernel) ?_
  refine lv_istore (lv' := [(6, .int (nI 0)), (4, .long (-3750763034362895579)), (0, .ref mo), (1, .int (nI 1)), (2, .int (nI p)), (3, .int (nI k))]) hx hb dX5_strongOf_6 hl (Nat.le_of_ble_eq_true rfl) rfl (fun ls hl => ?_)
  have loop1 : ∀ (k2 : Nat) (i : Nat) (H : Heap) (locs : List Loc) (ls : Array Slot), (i ≤ k) → k - i < k2 → va_P D vwCl [(mo, .inr (5, [.int er, .ref aO, .ref aT, .ref aM, .ref aZ, .ref aY, .ref aK, .ref aF, .ref aL, .int (nI c), .int isd, .int wd])), (aO, .inl (cI, 2400, .inl O))] H → va_D A [(mo, .inr (5, [.int er, .ref aO, .ref aT, .ref aM, .ref aZ, .ref aY, .ref aK, .ref aF, .ref aL, .int (nI c), .int isd, .int wd])), (aO, .inl (cI, 2400, .inl O))] → va_S A Ss.heap H locs → lv_has ls 7 [(0, .ref mo), (1, .int (nI 1)), (2, .int (nI p)), (3, .int (nI k)), (4, .long (su_S (fun j => O (1200 + j)) p i)), (6, .int (nI i))] → W Pp Ll Ee { frames := 0, cells := 0, slots := 0, locals := 0 } Ss Mm Aa Bb Me Cc H locs 0 0 (MQ Bb (ds_Ql D (fun (r : Int64) (u : Unit) => r = su_S (fun j => O (1200 + j)) p k) (fun u : Unit => [(mo, .inr (5, [.int er, .ref aO, .ref aT, .ref aM, .ref aZ, .ref aY, .ref aK, .ref aF, .ref aL, .int (nI c), .int isd, .int wd])), (aO, .inl (cI, 2400, .inl O))]) A) Aa Ss 0 0 A) (F0 Mm 8 ls []) := by
    intro k2
    induction k2 with
    | zero => intro i H locs ls hi hm4; exact absurd hm4 (Nat.not_lt_zero _)
    | succ k2 ih3 =>
      intro i H locs ls hi hm4 hP hD hS hl
      refine lv_iload hx hb dX5_strongOf_8 (lv_at hl 5 rfl) ?_
      refine lv_iload_n hx hb dX5_strongOf_10 rfl (lv_at hl 3 rfl) ?_
      refine lv_icmp_ge (tgt := 45) hx hb dX5_strongOf_11 (by decide) (fun h => ?_) (fun h => ?_)
      ·
        have h : k ≤ i := (nI_leI (a := k) (b := i) (by omega) (by omega)).mp h
        have e9 : k = i := (by omega)
        subst e9
        refine lv_lload hx hb dX5_strongOf_45 (lv_at hl 4 rfl) ?_
        exact ds_lret hx hb hr hlk () rfl hP hD hS (Nat.le_of_ble_eq_true rfl) (Nat.le_of_ble_eq_true rfl) dX5_strongOf_47
      ·
        have h : ¬ k ≤ i := fun z9 => h ((nI_leI (a := k) (b := i) (by omega) (by omega)).mpr z9)
        refine lv_lload hx hb dX5_strongOf_14 (lv_at hl 4 rfl) ?_
        refine lv_aload_n hx hb dX5_strongOf_16 rfl (lv_at hl 0 rfl) ?_
        refine va_get (D := D) (ci := 5) (v := .ref aO) (C := RX5) (T := TX5) (N := 12) hx hb ht inA_X5 hown hK.1 hP 0 rfl rfl 1 (by decide) (ht _ iw_122) (fun _ h9 => h9) rfl dX5_strongOf_17 ?_
        refine lv_sipush (v := nI 1200) hx hb dX5_strongOf_20 (by decide +kernel) ?_
        refine lv_iload_n hx hb dX5_strongOf_23 rfl (lv_at hl 1 rfl) ?_
        refine lv_imul hx hb dX5_strongOf_24 ?_
        refine ds_top (z := nI (1200 * 1)) (pk_mul _ _) ?_
        refine lv_iload_n hx hb dX5_strongOf_25 rfl (lv_at hl 2 rfl) ?_
        refine lv_iadd hx hb dX5_strongOf_26 ?_
        refine ds_top (z := nI ((1200 * 1) + p)) (nI_add _ _) ?_
        refine lv_iload hx hb dX5_strongOf_27 (lv_at hl 5 rfl) ?_
        refine lv_iadd hx hb dX5_strongOf_29 ?_
        refine ds_top (z := nI (((1200 * 1) + p) + i)) (nI_add _ _) ?_
        refine ds_top (z := nI (1200 + (p + i))) (congrArg nI (by omega)) ?_
        refine ds_iald (k := 1200 + (p + i)) hx hb hK hP 1 rfl (by omega) (by omega) dX5_strongOf_30 ?_
        refine lv_i2l (v := (O (1200 + (p + i))).toInt64) hx hb dX5_strongOf_31 rfl ?_
        refine lv_lxor hx hb dX5_strongOf_32 ?_
        refine lv_ldc2 (v := 1099511628211) hx hb hown (ht _ iw_153) dX5_strongOf_33 ?_
        refine lv_lmul hx hb dX5_strongOf_36 ?_
        refine lv_lstore (lv' := [(4, .long (((su_S (fun j => O (1200 + j)) p i) ^^^ ((O (1200 + (p + i))).toInt64)) * 1099511628211)), (0, .ref mo), (1, .int (nI 1)), (2, .int (nI p)), (3, .int (nI k)), (6, .int (nI i))]) hx hb dX5_strongOf_37 hl (Nat.le_of_ble_eq_true rfl) rfl (fun ls hl => ?_)
        refine lv_iinc (k := 5) (v := nI (i + 1)) (lv' := [(6, .int (nI (i + 1))), (4, .long (((su_S (fun j => O (1200 + j)) p i) ^^^ ((O (1200 + (p + i))).toInt64)) * 1099511628211)), (0, .ref mo), (1, .int (nI 1)), (2, .int (nI p)), (3, .int (nI k))]) hx hb dX5_strongOf_39 hl rfl (by rw [nI_succ]; rfl) (Nat.le_of_ble_eq_true rfl) rfl (fun ls hl => ?_)
        refine lv_goto (tgt := 8) hx hb dX5_strongOf_42 (by decide) ?_
        exact ih3 (i + 1) H locs ls (by omega) (by omega) hP hD hS (lv_sub hl [2, 3, 4, 5, 1, 0] rfl)
  exact loop1 _ 0 H locs ls (Nat.zero_le _) (Nat.lt_succ_self _) hP hD hS (lv_sub hl [2, 3, 4, 5, 1, 0] rfl)
set_option maxHeartbeats 4000000 in
set_option maxRecDepth 100000 in
theorem c_X5_blocks (Ll : Launch) (D : va_G) (cI cL : ClassId) (mo : Nat) (aO : Nat) (aT : Nat) (aM : Nat) (aZ : Nat) (aY : Nat) (aK : Nat) (aF : Nat) (aL : Nat) (er : Int32) (c : Nat) (isd : Int32) (wd : Int32) (Z : Nat → Int32) (lo : Nat) (s : Nat) (hZ : Z 0 = nI lo) (h1 : lo ≤ 1200) (h2 : 4 ≤ s) (h3 : s ≤ 256) (sz : Nat) : Met Ll yX5_blocks wsX5_blocks { frames := 0, cells := 0, slots := 0, locals := 0 } (ds_P D cI cL [.ref mo, .int (nI s)] [(mo, .inr (5, [.int er, .ref aO, .ref aT, .ref aM, .ref aZ, .ref aY, .ref aK, .ref aF, .ref aL, .int (nI c), .int isd, .int wd])), (aZ, .inl (cI, 2, .inl Z))] sz) (ds_Qi D (fun (r : Int32) (u : Unit) => r = nI (bn lo s)) (fun u : Unit => [(mo, .inr (5, [.int er, .ref aO, .ref aT, .ref aM, .ref aZ, .ref aY, .ref aK, .ref aF, .ref aL, .int (nI c), .int isd, .int wd])), (aZ, .inl (cI, 2, .inl Z))]) (va_A [(mo, .inr (5, [.int er, .ref aO, .ref aT, .ref aM, .ref aZ, .ref aY, .ref aK, .ref aF, .ref aL, .int (nI c), .int isd, .int wd])), (aZ, .inl (cI, 2, .inl Z))] sz)) 0 0 (va_A [(mo, .inr (5, [.int er, .ref aO, .ref aT, .ref aM, .ref aZ, .ref aY, .ref aK, .ref aF, .ref aL, .int (nI c), .int isd, .int wd])), (aZ, .inl (cI, 2, .inl Z))] sz) := by
  refine ds_enter (Qf := (fun A9 => ds_Qi D (fun (r : Int32) (u : Unit) => r = nI (bn lo s)) (fun u : Unit => [(mo, .inr (5, [.int er, .ref aO, .ref aT, .ref aM, .ref aZ, .ref aY, .ref aK, .ref aF, .ref aL, .int (nI c), .int isd, .int wd])), (aZ, .inl (cI, 2, .inl Z))]) A9)) (cc := cX5_blocks) (maxL := 2) (ret := (some .int)) (by decide) rfl (Nat.le_of_ble_eq_true rfl) ?_
  intro Pp Ee Ss Mm Aa Bb Me Cc hx hb hml hr ht hown hlk hnm A H locs hA hP hD hS hK ls hl
  have hl : lv_has ls 2 [(0, .ref mo), (1, .int (nI s))] := hl
  change Ss.vm.findClass RX5 = some Mm.cls at hown
  refine lv_aload_n hx hb dX5_blocks_0 rfl (lv_at hl 0 rfl) ?_
  refine va_get (D := D) (ci := 5) (v := .ref aZ) (C := RX5) (T := TX5) (N := 12) hx hb ht inA_X5 hown hK.1 hP 0 rfl rfl 4 (by decide) (ht _ iw_125) (fun _ h9 => h9) rfl dX5_blocks_1 ?_
  refine lv_iconst (v := nI 0) hx hb dX5_blocks_4 (by decide +kernel) ?_
  refine ds_iald (k := 0) hx hb hK hP 1 rfl (by omega) (by omega) dX5_blocks_5 ?_
  refine ds_top (z := nI lo) hZ ?_
  refine lv_iload_n hx hb dX5_blocks_6 rfl (lv_at hl 1 rfl) ?_
  refine lv_iadd hx hb dX5_blocks_7 ?_
  refine ds_top (z := nI (lo + s)) (nI_add _ _) ?_
  refine lv_iconst (v := nI 1) hx hb dX5_blocks_8 (by decide +kernel) ?_
  refine lv_isub hx hb dX5_blocks_9 ?_
  refine ds_top (z := nI ((lo + s) - 1)) (pk_sub (by omega)) ?_
  refine lv_iload_n hx hb dX5_blocks_10 rfl (lv_at hl 1 rfl) ?_
  refine lv_idiv hx hb dX5_blocks_11 (fun z => by rw [← nI_0] at z; have := (nI_eq (by omega) (by omega)).mp z; omega) ?_
  refine ds_top (z := nI (((lo + s) - 1) / s)) (pk_div (by omega) (by omega) (by omega)) ?_
  exact ds_iret hx hb hr hlk rfl () rfl hP hD hS (Nat.le_of_ble_eq_true rfl) (Nat.le_of_ble_eq_true rfl) dX5_blocks_12
