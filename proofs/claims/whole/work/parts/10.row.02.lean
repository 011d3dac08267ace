set_option maxHeartbeats 4000000 in
set_option maxRecDepth 100000 in
theorem c_X1_strongSum (Ll : Launch) (D : va_G) (cI cL : ClassId) (r : Nat) (o : Nat) (n : Nat) (f : Nat → Int32) (p : Nat) (k : Nat) (h1 : p + k ≤ 1200) (sz : Nat) : Met Ll yX1_strongSum wsX1_strongSum { frames := 0, cells := 0, slots := 0, locals := 0 } (ds_P D cI cL [.ref r, .int (nI p), .int (nI k)] [(r, .inr (1, [.ref o, .int (nI n)])), (o, .inl (cI, 1200, .inl f))] sz) (ds_Ql D (fun (r : Int64) (u : Unit) => r = su_S f p k) (fun u : Unit => [(r, .inr (1, [.ref o, .int (nI n)])), (o, .inl (cI, 1200, .inl f))]) (va_A [(r, .inr (1, [.ref o, .int (nI n)])), (o, .inl (cI, 1200, .inl f))] sz)) 0 0 (va_A [(r, .inr (1, [.ref o, .int (nI n)])), (o, .inl (cI, 1200, .inl f))] sz) := by
  refine ds_enter (Qf := (fun A9 => ds_Ql D (fun (r : Int64) (u : Unit) => r = su_S f p k) (fun u : Unit => [(r, .inr (1, [.ref o, .int (nI n)])), (o, .inl (cI, 1200, .inl f))]) A9)) (cc := cX1_strongSum) (maxL := 6) (ret := (some .long)) (by decide) rfl (Nat.le_of_ble_eq_true rfl) ?_
  intro Pp Ee Ss Mm Aa Bb Me Cc hx hb hml hr ht hown hlk hnm A H locs hA hP hD hS hK ls hl
  have hl : lv_has ls 6 [(0, .ref r), (1, .int (nI p)), (2, .int (nI k))] := hl
  change Ss.vm.findClass RX1 = some Mm.cls at hown
  refine lv_ldc2 (v := -3750763034362895579) hx hb hown (ht _ iw_216) dX1_strongSum_0 ?_
  refine lv_lstore_n (lv' := [(3, .long (-3750763034362895579)), (0, .ref r), (1, .int (nI p)), (2, .int (nI k))]) hx hb dX1_strongSum_3 rfl hl (Nat.le_of_ble_eq_true rfl) rfl (fun ls hl => ?_)
  refine lv_iconst (v := nI 0) hx hb dX1_strongSum_4 (by decide +kernel) ?_
  refine lv_istore (lv' := [(5, .int (nI 0)), (3, .long (-3750763034362895579)), (0, .ref r), (1, .int (nI p)), (2, .int (nI k))]) hx hb dX1_strongSum_5 hl (Nat.le_of_ble_eq_true rfl) rfl (fun ls hl => ?_)
  have loop1 : ∀ (k2 : Nat) (i : Nat) (H : Heap) (locs : List Loc) (ls : Array Slot), (i ≤ k) → k - i < k2 → va_P D vwCl [(r, .inr (1, [.ref o, .int (nI n)])), (o, .inl (cI, 1200, .inl f))] H → va_D A [(r, .inr (1, [.ref o, .int (nI n)])), (o, .inl (cI, 1200, .inl f))] → va_S A Ss.heap H locs → lv_has ls 6 [(0, .ref r), (1, .int (nI p)), (2, .int (nI k)), (3, .long (su_S f p i)), (5, .int (nI i))] → W Pp Ll Ee { frames := 0, cells := 0, slots := 0, locals := 0 } Ss Mm Aa Bb Me Cc H locs 0 0 (MQ Bb (ds_Ql D (fun (r : Int64) (u : Unit) => r = su_S f p k) (fun u : Unit => [(r, .inr (1, [.ref o, .int (nI n)])), (o, .inl (cI, 1200, .inl f))]) A) Aa Ss 0 0 A) (F0 Mm 7 ls []) := by
    intro k2
    induction k2 with
    | zero => intro i H locs ls hi hm4; exact absurd hm4 (Nat.not_lt_zero _)
    | succ k2 ih3 =>
      intro i H locs ls hi hm4 hP hD hS hl
      refine lv_iload hx hb dX1_strongSum_7 (lv_at hl 4 rfl) ?_
      refine lv_iload_n hx hb dX1_strongSum_9 rfl (lv_at hl 2 rfl) ?_
      refine lv_icmp_ge (tgt := 36) hx hb dX1_strongSum_10 (by decide) (fun h => ?_) (fun h => ?_)
      ·
        have h : k ≤ i := (nI_leI (a := k) (b := i) (by omega) (by omega)).mp h
        have e9 : k = i := (by omega)
        subst e9
        refine lv_lload_n hx hb dX1_strongSum_36 rfl (lv_at hl 3 rfl) ?_
        exact ds_lret hx hb hr hlk () rfl hP hD hS (Nat.le_of_ble_eq_true rfl) (Nat.le_of_ble_eq_true rfl) dX1_strongSum_37
      ·
        have h : ¬ k ≤ i := fun z9 => h ((nI_leI (a := k) (b := i) (by omega) (by omega)).mpr z9)
        refine lv_lload_n hx hb dX1_strongSum_13 rfl (lv_at hl 3 rfl) ?_
        refine lv_aload_n hx hb dX1_strongSum_14 rfl (lv_at hl 0 rfl) ?_
        refine va_get (D := D) (ci := 1) (v := .ref o) (C := RX1) (T := TX1) (N := 2) hx hb ht inA_X1 hown hK.1 hP 0 rfl rfl 0 (by decide) (ht _ iw_203) (fun _ h9 => h9) rfl dX1_strongSum_15 ?_
        refine lv_iload_n hx hb dX1_strongSum_18 rfl (lv_at hl 1 rfl) ?_
        refine lv_iload hx hb dX1_strongSum_19 (lv_at hl 4 rfl) ?_
        refine lv_iadd hx hb dX1_strongSum_21 ?_
        refine ds_top (z := nI (p + i)) (nI_add _ _) ?_
        refine ds_iald (k := p + i) hx hb hK hP 1 rfl (by omega) (by omega) dX1_strongSum_22 ?_
        refine lv_i2l (v := (f (p + i)).toInt64) hx hb dX1_strongSum_23 rfl ?_
        refine lv_lxor hx hb dX1_strongSum_24 ?_
        refine lv_ldc2 (v := 1099511628211) hx hb hown (ht _ iw_217) dX1_strongSum_25 ?_
        refine lv_lmul hx hb dX1_strongSum_28 ?_
        refine lv_lstore_n (lv' := [(3, .long (((su_S f p i) ^^^ ((f (p + i)).toInt64)) * 1099511628211)), (0, .ref r), (1, .int (nI p)), (2, .int (nI k)), (5, .int (nI i))]) hx hb dX1_strongSum_29 rfl hl (Nat.le_of_ble_eq_true rfl) rfl (fun ls hl => ?_)
        refine lv_iinc (k := 4) (v := nI (i + 1)) (lv' := [(5, .int (nI (i + 1))), (3, .long (((su_S f p i) ^^^ ((f (p + i)).toInt64)) * 1099511628211)), (0, .ref r), (1, .int (nI p)), (2, .int (nI k))]) hx hb dX1_strongSum_30 hl rfl (by rw [nI_succ]; rfl) (Nat.le_of_ble_eq_true rfl) rfl (fun ls hl => ?_)
        refine lv_goto (tgt := 7) hx hb dX1_strongSum_33 (by decide) ?_
        exact ih3 (i + 1) H locs ls (by omega) (by omega) hP hD hS (lv_sub hl [2, 3, 4, 1, 0] rfl)
  exact loop1 _ 0 H locs ls (Nat.zero_le _) (Nat.lt_succ_self _) hP hD hS (lv_sub hl [2, 3, 4, 1, 0] rfl)
set_option maxHeartbeats 4000000 in
set_option maxRecDepth 100000 in
theorem c_X1_resize (Ll : Launch) (D : va_G) (cI cL : ClassId) (r : Nat) (o : Nat) (n : Nat) (f : Nat → Int32) (k : Nat) (h1 : n ≤ 1200) (h2 : k ≤ 1200) (sz : Nat) : Met Ll yX1_resize wsX1_resize { frames := 0, cells := 0, slots := 0, locals := 0 } (ds_P D cI cL [.ref r, .int (nI k)] [(r, .inr (1, [.ref o, .int (nI n)])), (o, .inl (cI, 1200, .inl f))] sz) (ds_Qv D (fun (u : Unit) => True) (fun u : Unit => [(r, .inr (1, [.ref o, .int (nI k)])), (o, .inl (cI, 1200, .inl (rz f n k)))]) (va_A [(r, .inr (1, [.ref o, .int (nI n)])), (o, .inl (cI, 1200, .inl f))] sz)) 0 0 (va_A [(r, .inr (1, [.ref o, .int (nI n)])), (o, .inl (cI, 1200, .inl f))] sz) := by
  refine ds_enter (Qf := (fun A9 => ds_Qv D (fun (u : Unit) => True) (fun u : Unit => [(r, .inr (1, [.ref o, .int (nI k)])), (o, .inl (cI, 1200, .inl (rz f n k)))]) A9)) (cc := cX1_resize) (maxL := 3) (ret := none) (by decide) rfl (Nat.le_of_ble_eq_true rfl) ?_
  intro Pp Ee Ss Mm Aa Bb Me Cc hx hb hml hr ht hown hlk hnm A H locs hA hP hD hS hK ls hl
  have hl : lv_has ls 3 [(0, .ref r), (1, .int (nI k))] := hl
  change Ss.vm.findClass RX1 = some Mm.cls at hown
  refine lv_aload_n hx hb dX1_resize_0 rfl (lv_at hl 0 rfl) ?_
  refine va_get (D := D) (ci := 1) (v := .int (nI n)) (C := RX1) (T := TX1) (N := 2) hx hb ht inA_X1 hown hK.1 hP 0 rfl rfl 1 (by decide) (ht _ iw_204) (fun _ h9 => h9) rfl dX1_resize_1 ?_
  refine lv_istore_n (lv' := [(2, .int (nI n)), (0, .ref r), (1, .int (nI k))]) hx hb dX1_resize_4 rfl hl (Nat.le_of_ble_eq_true rfl) rfl (fun ls hl => ?_)
  have hP : va_P D vwCl [(r, .inr (1, [.ref o, .int (nI n)])), (o, .inl (cI, 1200, .inl (rz f n n)))] H := by rw [rz_0]; exact hP
  have hD : va_D A [(r, .inr (1, [.ref o, .int (nI n)])), (o, .inl (cI, 1200, .inl (rz f n n)))] := by rw [rz_0]; exact hD
  have loop1 : ∀ (k2 : Nat) (i : Nat) (H : Heap) (locs : List Loc) (ls : Array Slot), (n ≤ i) → (i ≤ n ∨ i ≤ k) → k - i < k2 → va_P D vwCl [(r, .inr (1, [.ref o, .int (nI n)])), (o, .inl (cI, 1200, .inl (rz f n i)))] H → va_D A [(r, .inr (1, [.ref o, .int (nI n)])), (o, .inl (cI, 1200, .inl (rz f n i)))] → va_S A Ss.heap H locs → lv_has ls 3 [(0, .ref r), (1, .int (nI k)), (2, .int (nI i))] → W Pp Ll Ee { frames := 0, cells := 0, slots := 0, locals := 0 } Ss Mm Aa Bb Me Cc H locs 0 0 (MQ Bb (ds_Qv D (fun (u : Unit) => True) (fun u : Unit => [(r, .inr (1, [.ref o, .int (nI k)])), (o, .inl (cI, 1200, .inl (rz f n k)))]) A) Aa Ss 0 0 A) (F0 Mm 5 ls []) := by
    intro k2
    induction k2 with
    | zero => intro i H locs ls hi hm2 hm4; exact absurd hm4 (Nat.not_lt_zero _)
    | succ k2 ih3 =>
      intro i H locs ls hi hm2 hm4 hP hD hS hl
      refine lv_iload_n hx hb dX1_resize_5 rfl (lv_at hl 2 rfl) ?_
      refine lv_iload_n hx hb dX1_resize_6 rfl (lv_at hl 1 rfl) ?_
      refine lv_icmp_ge (tgt := 23) hx hb dX1_resize_7 (by decide) (fun h => ?_) (fun h => ?_)
      ·
        have h : k ≤ i := (nI_leI (a := k) (b := i) (by omega) (by omega)).mp h
        have hP : va_P D vwCl [(r, .inr (1, [.ref o, .int (nI n)])), (o, .inl (cI, 1200, .inl (rz f n k)))] H := by rw [rz_e hi h hm2]; exact hP
        have hD : va_D A [(r, .inr (1, [.ref o, .int (nI n)])), (o, .inl (cI, 1200, .inl (rz f n k)))] := by rw [rz_e hi h hm2]; exact hD
        refine lv_aload_n hx hb dX1_resize_23 rfl (lv_at hl 0 rfl) ?_
        refine lv_iload_n hx hb dX1_resize_24 rfl (lv_at hl 1 rfl) ?_
        refine va_put (D := D) (ci := 1) (v := .int (nI k)) (ty := .int) (C := RX1) (T := TX1) (N := 2) hx hb ht inA_X1 tyX1 tyX1_ok nmX1 hown hK.1 hP hD hS 0 rfl rfl 1 (by decide) (ht _ iw_204) (fun _ h9 => h9) rfl (by decide +kernel) rfl rfl (Nat.le_of_ble_eq_true rfl) dX1_resize_25 (fun H locs hP hD hS => ?_)
        have hP : va_P D vwCl [(r, .inr (1, [.ref o, .int (nI k)])), (o, .inl (cI, 1200, .inl (rz f n k)))] H := hP
        have hD : va_D A [(r, .inr (1, [.ref o, .int (nI k)])), (o, .inl (cI, 1200, .inl (rz f n k)))] := hD
        exact ds_vret hx hb hr hlk () trivial hP hD hS (Nat.le_of_ble_eq_true rfl) (Nat.le_of_ble_eq_true rfl) dX1_resize_28
      ·
        have h : ¬ k ≤ i := fun z9 => h ((nI_leI (a := k) (b := i) (by omega) (by omega)).mpr z9)
        refine lv_aload_n hx hb dX1_resize_10 rfl (lv_at hl 0 rfl) ?_
        refine va_get (D := D) (ci := 1) (v := .ref o) (C := RX1) (T := TX1) (N := 2) hx hb ht inA_X1 hown hK.1 hP 0 rfl rfl 0 (by decide) (ht _ iw_203) (fun _ h9 => h9) rfl dX1_resize_11 ?_
        refine lv_iload_n hx hb dX1_resize_14 rfl (lv_at hl 2 rfl) ?_
        refine lv_iconst (v := nI 0) hx hb dX1_resize_15 (by decide +kernel) ?_
        refine ds_iast (k := i) hx hb hK hP hD hS 1 rfl (by omega) (by omega) dX1_resize_16 (fun H locs hP hD hS => ?_)
        have hP : va_P D vwCl [(r, .inr (1, [.ref o, .int (nI n)])), (o, .inl (cI, 1200, .inl (upd (rz f n i) i (nI 0))))] H := hP
        have hD : va_D A [(r, .inr (1, [.ref o, .int (nI n)])), (o, .inl (cI, 1200, .inl (upd (rz f n i) i (nI 0))))] := hD
        refine lv_iinc (k := 2) (v := nI (i + 1)) (lv' := [(2, .int (nI (i + 1))), (0, .ref r), (1, .int (nI k))]) hx hb dX1_resize_17 hl rfl (by rw [nI_succ]; rfl) (Nat.le_of_ble_eq_true rfl) rfl (fun ls hl => ?_)
        refine lv_goto (tgt := 5) hx hb dX1_resize_20 (by decide) ?_
        have hP : va_P D vwCl [(r, .inr (1, [.ref o, .int (nI n)])), (o, .inl (cI, 1200, .inl (rz f n (i + 1))))] H := by rw [rz_s hi]; exact hP
        have hD : va_D A [(r, .inr (1, [.ref o, .int (nI n)])), (o, .inl (cI, 1200, .inl (rz f n (i + 1))))] := by rw [rz_s hi]; exact hD
        exact ih3 (i + 1) H locs ls (by omega) (by omega) (by omega) hP hD hS (lv_sub hl [1, 2, 0] rfl)
  exact loop1 _ n H locs ls (Nat.le_refl _) (Or.inl (Nat.le_refl _)) (Nat.lt_succ_self _) hP hD hS (lv_sub hl [1, 2, 0] rfl)
