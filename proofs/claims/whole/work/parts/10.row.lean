set_option maxHeartbeats 4000000 in
set_option maxRecDepth 100000 in
theorem c_X1_joinWeak (Ll : Launch) (D : va_G) (cI cL : ClassId) (a : Int32) (b : Int32) (sz : Nat) : Met Ll yX1_joinWeak wsX1_joinWeak { frames := 0, cells := 0, slots := 0, locals := 0 } (ds_P D cI cL [.int a, .int b] [] sz) (ds_Qi D (fun (r : Int32) (u : Unit) => r = su_J a b) (fun u : Unit => []) (va_A [] sz)) 0 0 (va_A [] sz) := by
  refine ds_enter (Qf := (fun A9 => ds_Qi D (fun (r : Int32) (u : Unit) => r = su_J a b) (fun u : Unit => []) A9)) (cc := cX1_joinWeak) (maxL := 2) (ret := (some .int)) (by decide) rfl (Nat.le_of_ble_eq_true rfl) ?_
  intro Pp Ee Ss Mm Aa Bb Me Cc hx hb hml hr ht hown hlk hnm A hA hP hD hS hK ls hl
  have hl : lv_has ls 2 [(0, .int a), (1, .int b)] := hl
  change Ss.vm.findClass RX1 = some Mm.cls at hown
  refine lv_iload_n hx hb dX1_joinWeak_0 rfl (lv_at hl 0 rfl) ?_
  refine lv_ldc (v := nI 65535) hx hb hown (ht _ iw_213) dX1_joinWeak_1 ?_
  refine lv_iand hx hb dX1_joinWeak_3 ?_
  refine lv_ldc (v := nI 65536) hx hb hown (ht _ iw_214) dX1_joinWeak_4 ?_
  refine lv_iload_n hx hb dX1_joinWeak_6 rfl (lv_at hl 1 rfl) ?_
  refine lv_ldc (v := nI 65535) hx hb hown (ht _ iw_213) dX1_joinWeak_7 ?_
  refine lv_iand hx hb dX1_joinWeak_9 ?_
  refine lv_imul hx hb dX1_joinWeak_10 ?_
  refine lv_iadd hx hb dX1_joinWeak_11 ?_
  exact ds_iret hx hb hr hlk rfl () rfl hP hD hS (Nat.le_of_ble_eq_true rfl) (Nat.le_of_ble_eq_true rfl) dX1_joinWeak_12
set_option maxHeartbeats 4000000 in
set_option maxRecDepth 100000 in
theorem c_X1_weakSum (Ll : Launch) (D : va_G) (cI cL : ClassId) (r : Nat) (o : Nat) (n : Nat) (f : Nat → Int32) (p : Nat) (k : Nat) (h1 : p + k ≤ 1200) (sz : Nat) : Met Ll yX1_weakSum wsX1_weakSum { frames := 1, cells := 0, slots := 0, locals := 21 } (ds_P D cI cL [.ref r, .int (nI p), .int (nI k)] [(r, .inr (1, [.ref o, .int (nI n)])), (o, .inl (cI, 1200, .inl f))] sz) (ds_Qi D (fun (r : Int32) (u : Unit) => r = su_W f p k) (fun u : Unit => [(r, .inr (1, [.ref o, .int (nI n)])), (o, .inl (cI, 1200, .inl f))]) (va_A [(r, .inr (1, [.ref o, .int (nI n)])), (o, .inl (cI, 1200, .inl f))] sz)) 0 0 (va_A [(r, .inr (1, [.ref o, .int (nI n)])), (o, .inl (cI, 1200, .inl f))] sz) := by
  refine ds_enter (Qf := (fun A9 => ds_Qi D (fun (r : Int32) (u : Unit) => r = su_W f p k) (fun u : Unit => [(r, .inr (1, [.ref o, .int (nI n)])), (o, .inl (cI, 1200, .inl f))]) A9)) (cc := cX1_weakSum) (maxL := 6) (ret := (some .int)) (by decide) rfl (Nat.le_of_ble_eq_true rfl) ?_
  intro Pp Ee Ss Mm Aa Bb Me Cc hx hb hml hr ht hown hlk hnm A hA hP hD hS hK ls hl
  have hl : lv_has ls 6 [(0, .ref r), (1, .int (nI p)), (2, .int (nI k))] := hl
  change Ss.vm.findClass RX1 = some Mm.cls at hown
  refine lv_iconst (v := nI 0) hx hb dX1_weakSum_0 (by decide +kernel) ?_
  refine lv_istore_n (lv' := [(3, .int (nI 0)), (0, .ref r), (1, .int (nI p)), (2, .int (nI k))]) hx hb dX1_weakSum_1 rfl hl (Nat.le_of_ble_eq_true rfl) rfl (fun ls hl => ?_)
  refine lv_iconst (v := nI 0) hx hb dX1_weakSum_2 (by decide +kernel) ?_
  refine lv_istore (lv' := [(4, .int (nI 0)), (3, .int (nI 0)), (0, .ref r), (1, .int (nI p)), (2, .int (nI k))]) hx hb dX1_weakSum_3 hl (Nat.le_of_ble_eq_true rfl) rfl (fun ls hl => ?_)
  refine lv_iconst (v := nI 0) hx hb dX1_weakSum_5 (by decide +kernel) ?_
  refine lv_istore (lv' := [(5, .int (nI 0)), (4, .int (nI 0)), (3, .int (nI 0)), (0, .ref r), (1, .int (nI p)), (2, .int (nI k))]) hx hb dX1_weakSum_6 hl (Nat.le_of_ble_eq_true rfl) rfl (fun ls hl => ?_)
  have loop1 : ∀ (k2 : Nat) (i : Nat) (H : Heap) (locs : List Loc) (ls : Array Slot), (i ≤ k) → k - i < k2 → va_P D vwCl [(r, .inr (1, [.ref o, .int (nI n)])), (o, .inl (cI, 1200, .inl f))] H → va_D A [(r, .inr (1, [.ref o, .int (nI n)])), (o, .inl (cI, 1200, .inl f))] → va_S A Ss.heap H locs → lv_has ls 6 [(0, .ref r), (1, .int (nI p)), (2, .int (nI k)), (3, .int (su_A f p i)), (4, .int (su_C f p k i)), (5, .int (nI i))] → W Pp Ll Ee { frames := 1, cells := 0, slots := 0, locals := 21 } Ss Mm Aa Bb Me Cc H locs 0 0 (MQ Bb (ds_Qi D (fun (r : Int32) (u : Unit) => r = su_W f p k) (fun u : Unit => [(r, .inr (1, [.ref o, .int (nI n)])), (o, .inl (cI, 1200, .inl f))]) A) Aa Ss 0 0 A) (F0 Mm 8 ls []) := by
    intro k2
    induction k2 with
    | zero => intro i H locs ls hi hm4; exact absurd hm4 (Nat.not_lt_zero _)
    | succ k2 ih3 =>
      intro i H locs ls hi hm4 hP hD hS hl
      refine lv_iload hx hb dX1_weakSum_8 (lv_at hl 5 rfl) ?_
      refine lv_iload_n hx hb dX1_weakSum_10 rfl (lv_at hl 2 rfl) ?_
      refine lv_icmp_ge (tgt := 51) hx hb dX1_weakSum_11 (by decide) (fun h => ?_) (fun h => ?_)
      ·
        have h : k ≤ i := (nI_leI (a := k) (b := i) (by omega) (by omega)).mp h
        have e9 : k = i := (by omega)
        subst e9
        refine lv_iload_n hx hb dX1_weakSum_51 rfl (lv_at hl 3 rfl) ?_
        refine lv_iload hx hb dX1_weakSum_52 (lv_at hl 4 rfl) ?_
        refine ds_calli (wc := []) (wr := [(r, .inr (1, [.ref o, .int (nI n)])), (o, .inl (cI, 1200, .inl f))]) (wo := (fun u6 : Unit => [])) (wn := (fun u6 : Unit => [(r, .inr (1, [.ref o, .int (nI n)])), (o, .inl (cI, 1200, .inl f))])) (isC := []) (isR := [0, 1]) hP hD hS hA ⟨rfl, rfl, by decide, by decide, by decide⟩ [0, 1] (by decide) (fun _ => rfl) (fun hPc hDc => va_runS (As := [.int (su_A f p k), .int (su_C f p k k)]) (rest := []) ⟨hx, hb, hml, hown, ht⟩ (c_X1_joinWeak Ll D cI cL (su_A f p k) (su_C f p k k)  H.size) ⟨(callB_of 2 ht g_X1_joinWeak rfl rfl rfl (ht _ iw_6) (ht _ iw_210) hd_X1_joinWeak ⟨Nat.le_of_ble_eq_true rfl, Nat.le_of_ble_eq_true rfl⟩), (ht _ iw_211)⟩ (ds_pS hPc hDc hK) rfl rfl hl.1 rfl (lv_room (Nat.le_of_ble_eq_true rfl)) dX1_weakSum_54 ⟨Nat.le_of_ble_eq_true rfl, Nat.le_of_ble_eq_true rfl⟩) (fun r5 u6 H locs hp7 hP hD hS => ?_)
        have hP : va_P D vwCl [(r, .inr (1, [.ref o, .int (nI n)])), (o, .inl (cI, 1200, .inl f))] H := hP
        have hD : va_D A [(r, .inr (1, [.ref o, .int (nI n)])), (o, .inl (cI, 1200, .inl f))] := hD
        have hp7 : r5 = su_J (su_A f p k) (su_C f p k k) := hp7
        replace hp7 := Eq.symm hp7
        subst hp7
        exact ds_iret hx hb hr hlk rfl () (by rw [su_C_n]; rfl) hP hD hS (Nat.le_of_ble_eq_true rfl) (Nat.le_of_ble_eq_true rfl) dX1_weakSum_57
      ·
        have h : ¬ k ≤ i := fun z9 => h ((nI_leI (a := k) (b := i) (by omega) (by omega)).mpr z9)
        refine lv_iload_n hx hb dX1_weakSum_14 rfl (lv_at hl 3 rfl) ?_
        refine lv_aload_n hx hb dX1_weakSum_15 rfl (lv_at hl 0 rfl) ?_
        refine va_get (D := D) (ci := 1) (v := .ref o) (C := RX1) (T := TX1) (N := 2) hx hb ht inA_X1 hown hK.1 hP 0 rfl rfl 0 (by decide) (ht _ iw_203) (fun _ h9 => h9) rfl dX1_weakSum_16 ?_
        refine lv_iload_n hx hb dX1_weakSum_19 rfl (lv_at hl 1 rfl) ?_
        refine lv_iload hx hb dX1_weakSum_20 (lv_at hl 5 rfl) ?_
        refine lv_iadd hx hb dX1_weakSum_22 ?_
        refine ds_top (z := nI (p + i)) (nI_add _ _) ?_
        refine ds_iald (k := p + i) hx hb hK hP 1 rfl (by omega) (by omega) dX1_weakSum_23 ?_
        refine lv_iadd hx hb dX1_weakSum_24 ?_
        refine lv_istore_n (lv' := [(3, .int ((su_A f p i) + (f (p + i)))), (0, .ref r), (1, .int (nI p)), (2, .int (nI k)), (4, .int (su_C f p k i)), (5, .int (nI i))]) hx hb dX1_weakSum_25 rfl hl (Nat.le_of_ble_eq_true rfl) rfl (fun ls hl => ?_)
        refine lv_iload hx hb dX1_weakSum_26 (lv_at hl 4 rfl) ?_
        refine lv_iload_n hx hb dX1_weakSum_28 rfl (lv_at hl 3 rfl) ?_
        refine lv_iload hx hb dX1_weakSum_29 (lv_at hl 5 rfl) ?_
        refine lv_isub hx hb dX1_weakSum_31 ?_
        refine ds_top (z := nI (k - i)) (pk_sub (by omega)) ?_
        refine lv_aload_n hx hb dX1_weakSum_32 rfl (lv_at hl 1 rfl) ?_
        refine va_get (D := D) (ci := 1) (v := .ref o) (C := RX1) (T := TX1) (N := 2) hx hb ht inA_X1 hown hK.1 hP 0 rfl rfl 0 (by decide) (ht _ iw_203) (fun _ h9 => h9) rfl dX1_weakSum_33 ?_
        refine lv_iload_n hx hb dX1_weakSum_36 rfl (lv_at hl 2 rfl) ?_
        refine lv_iload hx hb dX1_weakSum_37 (lv_at hl 5 rfl) ?_
        refine lv_iadd hx hb dX1_weakSum_39 ?_
        refine ds_top (z := nI (p + i)) (nI_add _ _) ?_
        refine ds_iald (k := p + i) hx hb hK hP 1 rfl (by omega) (by omega) dX1_weakSum_40 ?_
        refine lv_imul hx hb dX1_weakSum_41 ?_
        refine lv_iadd hx hb dX1_weakSum_42 ?_
        refine lv_istore (lv' := [(4, .int ((su_C f p k i) + ((nI (k - i)) * (f (p + i))))), (3, .int ((su_A f p i) + (f (p + i)))), (0, .ref r), (1, .int (nI p)), (2, .int (nI k)), (5, .int (nI i))]) hx hb dX1_weakSum_43 hl (Nat.le_of_ble_eq_true rfl) rfl (fun ls hl => ?_)
        refine lv_iinc (k := 5) (v := nI (i + 1)) (lv' := [(5, .int (nI (i + 1))), (4, .int ((su_C f p k i) + ((nI (k - i)) * (f (p + i))))), (3, .int ((su_A f p i) + (f (p + i)))), (0, .ref r), (1, .int (nI p)), (2, .int (nI k))]) hx hb dX1_weakSum_45 hl rfl (by rw [nI_succ]; rfl) (Nat.le_of_ble_eq_true rfl) rfl (fun ls hl => ?_)
        refine lv_goto (tgt := 8) hx hb dX1_weakSum_48 (by decide) ?_
        exact ih3 (i + 1) H locs ls (by omega) (by omega) hP hD hS (lv_sub hl [3, 4, 5, 2, 1, 0] rfl)
  exact loop1 _ 0 H locs ls (Nat.zero_le _) (Nat.lt_succ_self _) hP hD hS (lv_sub hl [3, 4, 5, 2, 1, 0] rfl)
set_option maxHeartbeats 4000000 in
set_option maxRecDepth 100000 in
theorem c_X1_strongSum (Ll : Launch) (D : va_G) (cI cL : ClassId) (r : Nat) (o : Nat) (n : Nat) (f : Nat → Int32) (p : Nat) (k : Nat) (h1 : p + k ≤ 1200) (sz : Nat) : Met Ll yX1_strongSum wsX1_strongSum { frames := 0, cells := 0, slots := 0, locals := 0 } (ds_P D cI cL [.ref r, .int (nI p), .int (nI k)] [(r, .inr (1, [.ref o, .int (nI n)])), (o, .inl (cI, 1200, .inl f))] sz) (ds_Ql D (fun (r : Int64) (u : Unit) => r = su_S f p k) (fun u : Unit => [(r, .inr (1, [.ref o, .int (nI n)])), (o, .inl (cI, 1200, .inl f))]) (va_A [(r, .inr (1, [.ref o, .int (nI n)])), (o, .inl (cI, 1200, .inl f))] sz)) 0 0 (va_A [(r, .inr (1, [.ref o, .int (nI n)])), (o, .inl (cI, 1200, .inl f))] sz) := by
  refine ds_enter (Qf := (fun A9 => ds_Ql D (fun (r : Int64) (u : Unit) => r = su_S f p k) (fun u : Unit => [(r, .inr (1, [.ref o, .int (nI n)])), (o, .inl (cI, 1200, .inl f))]) A9)) (cc := cX1_strongSum) (maxL := 6) (ret := (some .long)) (by decide) rfl (Nat.le_of_ble_eq_true rfl) ?_
  intro Pp Ee Ss Mm Aa Bb Me Cc hx hb hml hr ht hown hlk hnm A hA hP hD hS hK ls hl
  have hl : lv_has ls 6 [(0, .ref r), (1, .int (nI p)), (2, .int (nI k))] := hl
  change Ss.vm.findClass RX1 = some Mm.cls at hown
  refine lv_ldc2 (v := -3750763034362895579) hx hb hown (ht _ iw_216) dX1_strongSum_0 ?_
  refine lv_lstore_n (lv' := [(3, .long (-3750763034362895579)), (0, .ref r), (1, .int (nI p)), (2, .int (nI k))]) hx hb dX1_strongSum_3 rfl hl (Nat.le_of_ble_eq_true rfl) rfl (fun ls hl => ?_)
  refine lv_iconst (v := nI 0) hx hb dX1_strongSum_4 (by decide +kernel) ?_
  refine lv_istore (lv' := [(5, .int (nI 0)), (3, .long (-3750763034362895579)), (0, .ref r), (1, .int (nI p)), (2, .int (nI k))]) hx hb dX1_strongSum_5 hl (Nat.le_of_ble_eq_true rfl) rfl (fun ls hl => ?_)
  have loop1 : ∀ (k2 : Nat) (i : Nat) (H : Heap) (locs : List Loc) (ls : Array Slot), (i ≤ k) → k - i < k2 → va_P D vwCl [(r, .inr (1, [.ref o, .int (nI n)])), (o, .inl (cI, 1200, .inl f))] H → va_D A [(r, .inr (1, [.ref o, .int (nI n)])), (o, .inl (cI, 1200, .inl f))] → va_S A Ss.heap H locs → lv_has ls 6 [(0, .ref r), (1, .int (nI p)), (2, .int (nI k)), (3, .long (su_S f p i)), (5, .int (nI i))] → W Pp Ll Ee { frames := 0, cells := 0, slots := 0, locals := 0 } Ss Mm Aa Bb Me Cc H locs 0 0 (MQ Bb (ds_Ql D (fun (r : Int64) (u : Unit) => r = su_S f p k) (fun u : Unit => [(r, .inr (1, [.ref o, .int (nI n)])), (o, .inl (cI, 1200, .inl f))]) A) Aa Ss 0 0 A) (F0 Mm 7 ls []) := by
    intro k2
    induction k2 with
    | zero => intro i H locs ls hi hm4; exact absurd hm4 (Nat.not_lt_zero _)
    | succ k2 ih3 =>
      intro i H locs ls hi hm4 hP hD hS hl
      refine lv_iload hx hb dX1_strongSum_7 (lv_at hl 4 rfl) ?_
      refine lv_iload_n hx hb dX1_strongSum_9 rfl (lv_at hl 2 rfl) ?_
      refine lv_icmp_ge (tgt := 36) hx hb dX1_strongSum_10 (by decide) (fun h => ?_) (fun h => ?_)
      ·
        have h : k ≤ i := (nI_leI (a := k) (b := i) (by omega) (by omega)).mp h
        have e9 : k = i := (by omega)
        subst e9
        refine lv_lload_n hx hb dX1_strongSum_36 rfl (lv_at hl 3 rfl) ?_
        exact ds_lret hx hb hr hlk () rfl hP hD hS (Nat.le_of_ble_eq_true rfl) (Nat.le_of_ble_eq_true rfl) dX1_strongSum_37
      ·
        have h : ¬ k ≤ i := fun z9 => h ((nI_leI (a := k) (b := i) (by omega) (by omega)).mpr z9)
        refine lv_lload_n hx hb dX1_strongSum_13 rfl (lv_at hl 3 rfl) ?_
        refine lv_aload_n hx hb dX1_strongSum_14 rfl (lv_at hl 0 rfl) ?_
        refine va_get (D := D) (ci := 1) (v := .ref o) (C := RX1) (T := TX1) (N := 2) hx hb ht inA_X1 hown hK.1 hP 0 rfl rfl 0 (by decide) (ht _ iw_203) (fun _ h9 => h9) rfl dX1_strongSum_15 ?_
        refine lv_iload_n hx hb dX1_strongSum_18 rfl (lv_at hl 1 rfl) ?_
        refine lv_iload hx hb dX1_strongSum_19 (lv_at hl 4 rfl) ?_
        refine lv_iadd hx hb dX1_strongSum_21 ?_
        refine ds_top (z := nI (p + i)) (nI_add _ _) ?_
        refine ds_iald (k := p + i) hx hb hK hP 1 rfl (by omega) (by omega) dX1_strongSum_22 ?_
        refine lv_i2l (v := (f (p + i)).toInt64) hx hb dX1_strongSum_23 rfl ?_
        refine lv_lxor hx hb dX1_strongSum_24 ?_
        refine lv_ldc2 (v := 1099511628211) hx hb hown (ht _ iw_217) dX1_strongSum_25 ?_
        refine lv_lmul hx hb dX1_strongSum_28 ?_
        refine lv_lstore_n (lv' := [(3, .long (((su_S f p i) ^^^ ((f (p + i)).toInt64)) * 1099511628211)), (0, .ref r), (1, .int (nI p)), (2, .int (nI k)), (5, .int (nI i))]) hx hb dX1_strongSum_29 rfl hl (Nat.le_of_ble_eq_true rfl) rfl (fun ls hl => ?_)
        refine lv_iinc (k := 4) (v := nI (i + 1)) (lv' := [(5, .int (nI (i + 1))), (3, .long (((su_S f p i) ^^^ ((f (p + i)).toInt64)) * 1099511628211)), (0, .ref r), (1, .int (nI p)), (2, .int (nI k))]) hx hb dX1_strongSum_30 hl rfl (by rw [nI_succ]; rfl) (Nat.le_of_ble_eq_true rfl) rfl (fun ls hl => ?_)
        refine lv_goto (tgt := 7) hx hb dX1_strongSum_33 (by decide) ?_
        exact ih3 (i + 1) H locs ls (by omega) (by omega) hP hD hS (lv_sub hl [2, 3, 4, 1, 0] rfl)
  exact loop1 _ 0 H locs ls (Nat.zero_le _) (Nat.lt_succ_self _) hP hD hS (lv_sub hl [2, 3, 4, 1, 0] rfl)
set_option maxHeartbeats 4000000 in
set_option maxRecDepth 100000 in
theorem c_X1_resize (Ll : Launch) (D : va_G) (cI cL : ClassId) (r : Nat) (o : Nat) (n : Nat) (f : Nat → Int32) (k : Nat) (h1 : n ≤ 1200) (h2 : k ≤ 1200) (sz : Nat) : Met Ll yX1_resize wsX1_resize { frames := 0, cells := 0, slots := 0, locals := 0 } (ds_P D cI cL [.ref r, .int (nI k)] [(r, .inr (1, [.ref o, .int (nI n)])), (o, .inl (cI, 1200, .inl f))] sz) (ds_Qv D (fun (u : Unit) => True) (fun u : Unit => [(r, .inr (1, [.ref o, .int (nI k)])), (o, .inl (cI, 1200, .inl (rz f n k)))]) (va_A [(r, .inr (1, [.ref o, .int (nI n)])), (o, .inl (cI, 1200, .inl f))] sz)) 0 0 (va_A [(r, .inr (1, [.ref o, .int (nI n)])), (o, .inl (cI, 1200, .inl f))] sz) := by
  refine ds_enter (Qf := (fun A9 => ds_Qv D (fun (u : Unit) => True) (fun u : Unit => [(r, .inr (1, [.ref o, .int (nI k)])), (o, .inl (cI, 1200, .inl (rz f n k)))]) A9)) (cc := cX1_resize) (maxL := 3) (ret := none) (by decide) rfl (Nat.le_of_ble_eq_true rfl) ?_
  intro Pp Ee Ss Mm Aa Bb Me Cc hx hb hml hr ht hown hlk hnm A hA hP hD hS hK ls hl
  have hl : lv_has ls 3 [(0, .ref r), (1, .int (nI k))] := hl
  change Ss.vm.findClass RX1 = some Mm.cls at hown
  refine lv_aload_n hx hb dX1_resize_0 rfl (lv_at hl 0 rfl) ?_
  refine va_get (D := D) (ci := 1) (v := .int (nI n)) (C := RX1) (T := TX1) (N := 2) hx hb ht inA_X1 hown hK.1 hP 0 rfl rfl 1 (by decide) (ht _ iw_204) (fun _ h9 => h9) rfl dX1_resize_1 ?_
  refine lv_istore_n (lv' := [(2, .int (nI n)), (0, .ref r), (1, .int (nI k))]) hx hb dX1_resize_4 rfl hl (Nat.le_of_ble_eq_true rfl) rfl (fun ls hl => ?_)
  have hP : va_P D vwCl [(r, .inr (1, [.ref o, .int (nI n)])), (o, .inl (cI, 1200, .inl (rz f n n)))] H := by rw [rz_0]; exact hP
  have hD : va_D A [(r, .inr (1, [.ref o, .int (nI n)])), (o, .inl (cI, 1200, .inl (rz f n n)))] := by rw [rz_0]; exact hD
  have loop1 : ∀ (k2 : Nat) (i : Nat) (H : Heap) (locs : List Loc) (ls : Array Slot), (n ≤ i) → (i ≤ n ∨ i ≤ k) → k - i < k2 → va_P D vwCl [(r, .inr (1, [.ref o, .int (nI n)])), (o, .inl (cI, 1200, .inl (rz f n i)))] H → va_D A [(r, .inr (1, [.ref o, .int (nI n)])), (o, .inl (cI, 1200, .inl (rz f n i)))] → va_S A Ss.heap H locs → lv_has ls 3 [(0, .ref r), (1, .int (nI k)), (2, .int (nI i))] → W Pp Ll Ee { frames := 0, cells := 0, slots := 0, locals := 0 } Ss Mm Aa Bb Me Cc H locs 0 0 (MQ Bb (ds_Qv D (fun (u : Unit) => True) (fun u : Unit => [(r, .inr (1, [.ref o, .int (nI k)])), (o, .inl (cI, 1200, .inl (rz f n k)))]) A) Aa Ss 0 0 A) (F0 Mm 5 ls []) := by
    intro k2
    induction k2 with
    | zero => intro i H locs ls hi hm2 hm4; exact absurd hm4 (Nat.not_lt_zero _)
    | succ k2 ih3 =>
      intro i H locs ls hi hm2 hm4 hP hD hS hl
      refine lv_iload_n hx hb dX1_resize_5 rfl (lv_at hl 2 rfl) ?_
      refine lv_iload_n hx hb dX1_resize_6 rfl (lv_at hl 1 rfl) ?_
      refine lv_icmp_ge (tgt := 23) hx hb dX1_resize_7 (by decide) (fun h => ?_) (fun h => ?_)
      ·
        have h : k ≤ i := (nI_leI (a := k) (b := i) (by omega) (by omega)).mp h
        have hP : va_P D vwCl [(r, .inr (1, [.ref o, .int (nI n)])), (o, .inl (cI, 1200, .inl (rz f n k)))] H := by rw [rz_e hi h hm2]; exact hP
        have hD : va_D A [(r, .inr (1, [.ref o, .int (nI n)])), (o, .inl (cI, 1200, .inl (rz f n k)))] := by rw [rz_e hi h hm2]; exact hD
        refine lv_aload_n hx hb dX1_resize_23 rfl (lv_at hl 0 rfl) ?_
        refine lv_iload_n hx hb dX1_resize_24 rfl (lv_at hl 1 rfl) ?_
        refine va_put (D := D) (ci := 1) (v := .int (nI k)) (ty := .int) (C := RX1) (T := TX1) (N := 2) hx hb ht inA_X1 tyX1 tyX1_ok nmX1 hown hK.1 hP hD hS 0 rfl rfl 1 (by decide) (ht _ iw_204) (fun _ h9 => h9) rfl (by decide +kernel) rfl rfl (Nat.le_of_ble_eq_true rfl) dX1_resize_25 (fun H locs hP hD hS => ?_)
        have hP : va_P D vwCl [(r, .inr (1, [.ref o, .int (nI k)])), (o, .inl (cI, 1200, .inl (rz f n k)))] H := hP
        have hD : va_D A [(r, .inr (1, [.ref o, .int (nI k)])), (o, .inl (cI, 1200, .inl (rz f n k)))] := hD
        exact ds_vret hx hb hr hlk () trivial hP hD hS (Nat.le_of_ble_eq_true rfl) (Nat.le_of_ble_eq_true rfl) dX1_resize_28
      ·
        have h : ¬ k ≤ i := fun z9 => h ((nI_leI (a := k) (b := i) (by omega) (by omega)).mpr z9)
        refine lv_aload_n hx hb dX1_resize_10 rfl (lv_at hl 0 rfl) ?_
        refine va_get (D := D) (ci := 1) (v := .ref o) (C := RX1) (T := TX1) (N := 2) hx hb ht inA_X1 hown hK.1 hP 0 rfl rfl 0 (by decide) (ht _ iw_203) (fun _ h9 => h9) rfl dX1_resize_11 ?_
        refine lv_iload_n hx hb dX1_resize_14 rfl (lv_at hl 2 rfl) ?_
        refine lv_iconst (v := nI 0) hx hb dX1_resize_15 (by decide +kernel) ?_
        refine ds_iast (k := i) hx hb hK hP hD hS 1 rfl (by omega) (by omega) dX1_resize_16 (fun H locs hP hD hS => ?_)
        have hP : va_P D vwCl [(r, .inr (1, [.ref o, .int (nI n)])), (o, .inl (cI, 1200, .inl (upd (rz f n i) i (nI 0))))] H := hP
        have hD : va_D A [(r, .inr (1, [.ref o, .int (nI n)])), (o, .inl (cI, 1200, .inl (upd (rz f n i) i (nI 0))))] := hD
        refine lv_iinc (k := 2) (v := nI (i + 1)) (lv' := [(2, .int (nI (i + 1))), (0, .ref r), (1, .int (nI k))]) hx hb dX1_resize_17 hl rfl (by rw [nI_succ]; rfl) (Nat.le_of_ble_eq_true rfl) rfl (fun ls hl => ?_)
        refine lv_goto (tgt := 5) hx hb dX1_resize_20 (by decide) ?_
        have hP : va_P D vwCl [(r, .inr (1, [.ref o, .int (nI n)])), (o, .inl (cI, 1200, .inl (rz f n (i + 1))))] H := by rw [rz_s hi]; exact hP
        have hD : va_D A [(r, .inr (1, [.ref o, .int (nI n)])), (o, .inl (cI, 1200, .inl (rz f n (i + 1))))] := by rw [rz_s hi]; exact hD
        exact ih3 (i + 1) H locs ls (by omega) (by omega) (by omega) hP hD hS (lv_sub hl [1, 2, 0] rfl)
  exact loop1 _ n H locs ls (Nat.le_refl _) (Or.inl (Nat.le_refl _)) (Nat.lt_succ_self _) hP hD hS (lv_sub hl [1, 2, 0] rfl)
set_option maxHeartbeats 4000000 in
set_option maxRecDepth 100000 in
theorem c_X1_write (Ll : Launch) (D : va_G) (cI cL : ClassId) (r : Nat) (o : Nat) (n : Nat) (f : Nat → Int32) (q : Nat) (v : Int64) (h1 : n ≤ 1200) (h2 : q ≤ 1200) (sz : Nat) : Met Ll yX1_write wsX1_write { frames := 0, cells := 0, slots := 0, locals := 0 } (ds_P D cI cL [.ref r, .int (nI q), .long v] [(r, .inr (1, [.ref o, .int (nI n)])), (o, .inl (cI, 1200, .inl f))] sz) (ds_Qv D (fun (u : Unit) => True) (fun u : Unit => [(r, .inr (1, [.ref o, .int (nI n)])), (o, .inl (cI, 1200, .inl (wr f q v (min 8 (n - q)))))]) (va_A [(r, .inr (1, [.ref o, .int (nI n)])), (o, .inl (cI, 1200, .inl f))] sz)) 0 0 (va_A [(r, .inr (1, [.ref o, .int (nI n)])), (o, .inl (cI, 1200, .inl f))] sz) := by
  refine ds_enter (Qf := (fun A9 => ds_Qv D (fun (u : Unit) => True) (fun u : Unit => [(r, .inr (1, [.ref o, .int (nI n)])), (o, .inl (cI, 1200, .inl (wr f q v (min 8 (n - q)))))]) A9)) (cc := cX1_write) (maxL := 5) (ret := none) (by decide) rfl (Nat.le_of_ble_eq_true rfl) ?_
  intro Pp Ee Ss Mm Aa Bb Me Cc hx hb hml hr ht hown hlk hnm A hA hP hD hS hK ls hl
  have hl : lv_has ls 5 [(0, .ref r), (1, .int (nI q)), (2, .long v)] := hl
  change Ss.vm.findClass RX1 = some Mm.cls at hown
  refine lv_iconst (v := nI 0) hx hb dX1_write_0 (by decide +kernel) ?_
  refine lv_istore (lv' := [(4, .int (nI 0)), (0, .ref r), (1, .int (nI q)), (2, .long v)]) hx hb dX1_write_1 hl (Nat.le_of_ble_eq_true rfl) rfl (fun ls hl => ?_)
  have hP : va_P D vwCl [(r, .inr (1, [.ref o, .int (nI n)])), (o, .inl (cI, 1200, .inl (wr f q v 0)))] H := by rw [wr_0]; exact hP
  have hD : va_D A [(r, .inr (1, [.ref o, .int (nI n)])), (o, .inl (cI, 1200, .inl (wr f q v 0)))] := by rw [wr_0]; exact hD
  have loop1 : ∀ (k2 : Nat) (i : Nat) (H : Heap) (locs : List Loc) (ls : Array Slot), (i ≤ 8) → (i = 0 ∨ q + i ≤ n) → 8 - i < k2 → va_P D vwCl [(r, .inr (1, [.ref o, .int (nI n)])), (o, .inl (cI, 1200, .inl (wr f q v i)))] H → va_D A [(r, .inr (1, [.ref o, .int (nI n)])), (o, .inl (cI, 1200, .inl (wr f q v i)))] → va_S A Ss.heap H locs → lv_has ls 5 [(0, .ref r), (1, .int (nI q)), (2, .long v), (4, .int (nI i))] → W Pp Ll Ee { frames := 0, cells := 0, slots := 0, locals := 0 } Ss Mm Aa Bb Me Cc H locs 0 0 (MQ Bb (ds_Qv D (fun (u : Unit) => True) (fun u : Unit => [(r, .inr (1, [.ref o, .int (nI n)])), (o, .inl (cI, 1200, .inl (wr f q v (min 8 (n - q)))))]) A) Aa Ss 0 0 A) (F0 Mm 3 ls []) := by
    intro k2
    induction k2 with
    | zero => intro i H locs ls hi hi2 hm4; exact absurd hm4 (Nat.not_lt_zero _)
    | succ k2 ih3 =>
      intro i H locs ls hi hi2 hm4 hP hD hS hl
      refine lv_iload hx hb dX1_write_3 (lv_at hl 3 rfl) ?_
      refine lv_bipush (v := nI 8) hx hb dX1_write_5 (by decide +kernel) ?_
      refine lv_icmp_ge (tgt := 51) hx hb dX1_write_7 (by decide) (fun h => ?_) (fun h => ?_)
      ·
        have h : 8 ≤ i := (nI_leI (a := 8) (b := i) (by omega) (by omega)).mp h
        have hP : va_P D vwCl [(r, .inr (1, [.ref o, .int (nI n)])), (o, .inl (cI, 1200, .inl (wr f q v (min 8 (n - q)))))] H := by rw [show min 8 (n - q) = i by omega]; exact hP
        have hD : va_D A [(r, .inr (1, [.ref o, .int (nI n)])), (o, .inl (cI, 1200, .inl (wr f q v (min 8 (n - q)))))] := by rw [show min 8 (n - q) = i by omega]; exact hD
        exact ds_vret hx hb hr hlk () trivial hP hD hS (Nat.le_of_ble_eq_true rfl) (Nat.le_of_ble_eq_true rfl) dX1_write_51
      ·
        have h : ¬ 8 ≤ i := fun z9 => h ((nI_leI (a := 8) (b := i) (by omega) (by omega)).mpr z9)
        refine lv_iload_n hx hb dX1_write_10 rfl (lv_at hl 1 rfl) ?_
        refine lv_iload hx hb dX1_write_11 (lv_at hl 3 rfl) ?_
        refine lv_iadd hx hb dX1_write_13 ?_
        refine ds_top (z := nI (q + i)) (nI_add _ _) ?_
        refine lv_aload_n hx hb dX1_write_14 rfl (lv_at hl 0 rfl) ?_
        refine va_get (D := D) (ci := 1) (v := .int (nI n)) (C := RX1) (T := TX1) (N := 2) hx hb ht inA_X1 hown hK.1 hP 0 rfl rfl 1 (by decide) (ht _ iw_204) (fun _ h9 => h9) rfl dX1_write_15 ?_
        refine lv_icmp_ge (tgt := 51) hx hb dX1_write_18 (by decide) (fun h0 => ?_) (fun h0 => ?_)
        ·
          have h0 : n ≤ (q + i) := (nI_leI (a := n) (b := (q + i)) (by omega) (by omega)).mp h0
          have hP : va_P D vwCl [(r, .inr (1, [.ref o, .int (nI n)])), (o, .inl (cI, 1200, .inl (wr f q v (min 8 (n - q)))))] H := by rw [show min 8 (n - q) = i by omega]; exact hP
          have hD : va_D A [(r, .inr (1, [.ref o, .int (nI n)])), (o, .inl (cI, 1200, .inl (wr f q v (min 8 (n - q)))))] := by rw [show min 8 (n - q) = i by omega]; exact hD
          exact ds_vret hx hb hr hlk () trivial hP hD hS (Nat.le_of_ble_eq_true rfl) (Nat.le_of_ble_eq_true rfl) dX1_write_51
        ·
          have h0 : ¬ n ≤ (q + i) := fun z9 => h0 ((nI_leI (a := n) (b := (q + i)) (by omega) (by omega)).mpr z9)
          refine lv_aload_n hx hb dX1_write_21 rfl (lv_at hl 0 rfl) ?_
          refine va_get (D := D) (ci := 1) (v := .ref o) (C := RX1) (T := TX1) (N := 2) hx hb ht inA_X1 hown hK.1 hP 0 rfl rfl 0 (by decide) (ht _ iw_203) (fun _ h9 => h9) rfl dX1_write_22 ?_
          refine lv_iload_n hx hb dX1_write_25 rfl (lv_at hl 1 rfl) ?_
          refine lv_iload hx hb dX1_write_26 (lv_at hl 3 rfl) ?_
          refine lv_iadd hx hb dX1_write_28 ?_
          refine ds_top (z := nI (q + i)) (nI_add _ _) ?_
          refine lv_lload_n hx hb dX1_write_29 rfl (lv_at hl 2 rfl) ?_
          refine lv_bipush (v := nI 56) hx hb dX1_write_30 (by decide +kernel) ?_
          refine lv_bipush (v := nI 8) hx hb dX1_write_32 (by decide +kernel) ?_
          refine lv_iload hx hb dX1_write_34 (lv_at hl 3 rfl) ?_
          refine lv_imul hx hb dX1_write_36 ?_
          refine ds_top (z := nI (8 * i)) (pk_mul _ _) ?_
          refine lv_isub hx hb dX1_write_37 ?_
          refine ds_top (z := nI (56 - 8 * i)) (pk_sub (by omega)) ?_
          refine lv_lushr (v := (v.toUInt64 >>> ((nI (56 - 8 * i)).toInt64.toUInt64 &&& Int64.toUInt64 63)).toInt64) hx hb dX1_write_38 rfl ?_
          refine lv_l2i (v := ((v.toUInt64 >>> ((nI (56 - 8 * i)).toInt64.toUInt64 &&& Int64.toUInt64 63)).toInt64).toInt32) hx hb dX1_write_39 rfl ?_
          refine lv_sipush (v := nI 255) hx hb dX1_write_40 (by decide +kernel) ?_
          refine lv_iand hx hb dX1_write_43 ?_
          refine ds_iast (k := q + i) hx hb hK hP hD hS 1 rfl (by omega) (by omega) dX1_write_44 (fun H locs hP hD hS => ?_)
          have hP : va_P D vwCl [(r, .inr (1, [.ref o, .int (nI n)])), (o, .inl (cI, 1200, .inl (upd (wr f q v i) (q + i) ((((v.toUInt64 >>> ((nI (56 - 8 * i)).toInt64.toUInt64 &&& Int64.toUInt64 63)).toInt64).toInt32) &&& (nI 255)))))] H := hP
          have hD : va_D A [(r, .inr (1, [.ref o, .int (nI n)])), (o, .inl (cI, 1200, .inl (upd (wr f q v i) (q + i) ((((v.toUInt64 >>> ((nI (56 - 8 * i)).toInt64.toUInt64 &&& Int64.toUInt64 63)).toInt64).toInt32) &&& (nI 255)))))] := hD
          refine lv_iinc (k := 3) (v := nI (i + 1)) (lv' := [(4, .int (nI (i + 1))), (0, .ref r), (1, .int (nI q)), (2, .long v)]) hx hb dX1_write_45 hl rfl (by rw [nI_succ]; rfl) (Nat.le_of_ble_eq_true rfl) rfl (fun ls hl => ?_)
          refine lv_goto (tgt := 3) hx hb dX1_write_48 (by decide) ?_
          have hP : va_P D vwCl [(r, .inr (1, [.ref o, .int (nI n)])), (o, .inl (cI, 1200, .inl (wr f q v (i + 1))))] H := by rw [wr_s]; exact hP
          have hD : va_D A [(r, .inr (1, [.ref o, .int (nI n)])), (o, .inl (cI, 1200, .inl (wr f q v (i + 1))))] := by rw [wr_s]; exact hD
          exact ih3 (i + 1) H locs ls (by omega) (by omega) (by omega) hP hD hS (lv_sub hl [1, 2, 3, 0] rfl)
  exact loop1 _ 0 H locs ls (by omega) (Or.inl rfl) (Nat.lt_succ_self _) hP hD hS (lv_sub hl [1, 2, 3, 0] rfl)
set_option maxHeartbeats 4000000 in
set_option maxRecDepth 100000 in
theorem c_X1_append (Ll : Launch) (D : va_G) (cI cL : ClassId) (r : Nat) (o : Nat) (n : Nat) (f : Nat → Int32) (r2 : Nat) (o2 : Nat) (n2 : Nat) (g : Nat → Int32) (p : Nat) (k : Nat) (h1 : p + k ≤ 1200) (h2 : n + k ≤ 1200) (sz : Nat) : Met Ll yX1_append wsX1_append { frames := 1, cells := 0, slots := 0, locals := 26 } (ds_P D cI cL [.ref r, .ref r2, .int (nI p), .int (nI k)] [(r, .inr (1, [.ref o, .int (nI n)])), (o, .inl (cI, 1200, .inl f)), (r2, .inr (1, [.ref o2, .int (nI n2)])), (o2, .inl (cI, 1200, .inl g))] sz) (ds_Qv D (fun (u : Unit) => True) (fun u : Unit => [(r, .inr (1, [.ref o, .int (nI (n + k))])), (o, .inl (cI, 1200, .inl (va_cpy g f p n k))), (r2, .inr (1, [.ref o2, .int (nI n2)])), (o2, .inl (cI, 1200, .inl g))]) (va_A [(r, .inr (1, [.ref o, .int (nI n)])), (o, .inl (cI, 1200, .inl f)), (r2, .inr (1, [.ref o2, .int (nI n2)])), (o2, .inl (cI, 1200, .inl g))] sz)) 0 0 (va_A [(r, .inr (1, [.ref o, .int (nI n)])), (o, .inl (cI, 1200, .inl f)), (r2, .inr (1, [.ref o2, .int (nI n2)])), (o2, .inl (cI, 1200, .inl g))] sz) := by
  refine ds_enter (Qf := (fun A9 => ds_Qv D (fun (u : Unit) => True) (fun u : Unit => [(r, .inr (1, [.ref o, .int (nI (n + k))])), (o, .inl (cI, 1200, .inl (va_cpy g f p n k))), (r2, .inr (1, [.ref o2, .int (nI n2)])), (o2, .inl (cI, 1200, .inl g))]) A9)) (cc := cX1_append) (maxL := 4) (ret := none) (by decide) rfl (Nat.le_of_ble_eq_true rfl) ?_
  intro Pp Ee Ss Mm Aa Bb Me Cc hx hb hml hr ht hown hlk hnm A hA hP hD hS hK ls hl
  have hl : lv_has ls 4 [(0, .ref r), (1, .ref r2), (2, .int (nI p)), (3, .int (nI k))] := hl
  change Ss.vm.findClass RX1 = some Mm.cls at hown
  refine lv_aload_n hx hb dX1_append_0 rfl (lv_at hl 1 rfl) ?_
  refine va_get (D := D) (ci := 1) (v := .ref o2) (C := RX1) (T := TX1) (N := 2) hx hb ht inA_X1 hown hK.1 hP 2 rfl rfl 0 (by decide) (ht _ iw_203) (fun _ h9 => h9) rfl dX1_append_1 ?_
  refine lv_iload_n hx hb dX1_append_4 rfl (lv_at hl 2 rfl) ?_
  refine lv_aload_n hx hb dX1_append_5 rfl (lv_at hl 0 rfl) ?_
  refine va_get (D := D) (ci := 1) (v := .ref o) (C := RX1) (T := TX1) (N := 2) hx hb ht inA_X1 hown hK.1 hP 0 rfl rfl 0 (by decide) (ht _ iw_203) (fun _ h9 => h9) rfl dX1_append_6 ?_
  refine lv_aload_n hx hb dX1_append_9 rfl (lv_at hl 0 rfl) ?_
  refine va_get (D := D) (ci := 1) (v := .int (nI n)) (C := RX1) (T := TX1) (N := 2) hx hb ht inA_X1 hown hK.1 hP 0 rfl rfl 1 (by decide) (ht _ iw_204) (fun _ h9 => h9) rfl dX1_append_10 ?_
  refine lv_iload_n hx hb dX1_append_13 rfl (lv_at hl 3 rfl) ?_
  refine ds_copyi (sp := p) (dp := n) (n := k) hx hb (by rw [hml]; exact hl.1.symm) hown (ht _ iw_208) (ht _ iw_48) (ht _ iw_49) (ht _ iw_50) hK hP hD hS 3 1 rfl rfl (by omega) (by omega) (by omega) (Nat.le_of_ble_eq_true rfl) (Nat.le_of_ble_eq_true rfl) dX1_append_14 (fun H locs hP hD hS => ?_)
  have hP : va_P D vwCl [(r, .inr (1, [.ref o, .int (nI n)])), (o, .inl (cI, 1200, .inl (va_cpy g f p n k))), (r2, .inr (1, [.ref o2, .int (nI n2)])), (o2, .inl (cI, 1200, .inl g))] H := hP
  have hD : va_D A [(r, .inr (1, [.ref o, .int (nI n)])), (o, .inl (cI, 1200, .inl (va_cpy g f p n k))), (r2, .inr (1, [.ref o2, .int (nI n2)])), (o2, .inl (cI, 1200, .inl g))] := hD
  refine lv_aload_n hx hb dX1_append_17 rfl (lv_at hl 0 rfl) ?_
  refine lv_dup hx hb dX1_append_18 rfl ?_
  refine va_get (D := D) (ci := 1) (v := .int (nI n)) (C := RX1) (T := TX1) (N := 2) hx hb ht inA_X1 hown hK.1 hP 0 rfl rfl 1 (by decide) (ht _ iw_204) (fun _ h9 => h9) rfl dX1_append_19 ?_
  refine lv_iload_n hx hb dX1_append_22 rfl (lv_at hl 3 rfl) ?_
  refine lv_iadd hx hb dX1_append_23 ?_
  refine ds_top (z := nI (n + k)) (nI_add _ _) ?_
  refine va_put (D := D) (ci := 1) (v := .int (nI (n + k))) (ty := .int) (C := RX1) (T := TX1) (N := 2) hx hb ht inA_X1 tyX1 tyX1_ok nmX1 hown hK.1 hP hD hS 0 rfl rfl 1 (by decide) (ht _ iw_204) (fun _ h9 => h9) rfl (by decide +kernel) rfl rfl (Nat.le_of_ble_eq_true rfl) dX1_append_24 (fun H locs hP hD hS => ?_)
  have hP : va_P D vwCl [(r, .inr (1, [.ref o, .int (nI (n + k))])), (o, .inl (cI, 1200, .inl (va_cpy g f p n k))), (r2, .inr (1, [.ref o2, .int (nI n2)])), (o2, .inl (cI, 1200, .inl g))] H := hP
  have hD : va_D A [(r, .inr (1, [.ref o, .int (nI (n + k))])), (o, .inl (cI, 1200, .inl (va_cpy g f p n k))), (r2, .inr (1, [.ref o2, .int (nI n2)])), (o2, .inl (cI, 1200, .inl g))] := hD
  exact ds_vret hx hb hr hlk () trivial hP hD hS (Nat.le_of_ble_eq_true rfl) (Nat.le_of_ble_eq_true rfl) dX1_append_27
set_option maxHeartbeats 4000000 in
set_option maxRecDepth 100000 in
theorem c_X1_init (Ll : Launch) (D : va_G) (cI cL : ClassId) (r : Nat) (sz : Nat) : Met Ll yX1_init wsX1_init { frames := 1, cells := 1, slots := 1200, locals := 20 } (ds_P D cI cL [.ref r] [(r, .inr (1, [.null, .int 0]))] sz) (ds_Qv D (fun (u : Nat) => True) (fun u : Nat => [(r, .inr (1, [.ref u, .int (nI 0)])), (u, .inl (cI, 1200, .inl (fun _ => 0)))]) (va_A [(r, .inr (1, [.null, .int 0]))] sz)) 1 1200 (va_A [(r, .inr (1, [.null, .int 0]))] sz) := by
  refine ds_enter (Qf := (fun A9 => ds_Qv D (fun (u : Nat) => True) (fun u : Nat => [(r, .inr (1, [.ref u, .int (nI 0)])), (u, .inl (cI, 1200, .inl (fun _ => 0)))]) A9)) (cc := cX1_init) (maxL := 1) (ret := none) (by decide) rfl (Nat.le_of_ble_eq_true rfl) ?_
  intro Pp Ee Ss Mm Aa Bb Me Cc hx hb hml hr ht hown hlk hnm A hA hP hD hS hK ls hl
  have hl : lv_has ls 1 [(0, .ref r)] := hl
  change Ss.vm.findClass RX1 = some Mm.cls at hown
  refine lv_aload_n hx hb dX1_init_0 rfl (lv_at hl 0 rfl) ?_
  refine W.objInit hx hb hown (ht _ iw_202) (ht _ iw_2) (ht _ iw_3) rfl (by rw [hml]; exact hl.1) rfl dX1_init_1 (Nat.le_of_ble_eq_true rfl) (Nat.le_of_ble_eq_true rfl) ?_
  refine W.eq (g2 := F0 Mm 4 ls []) rfl ?_
  refine lv_aload_n hx hb dX1_init_4 rfl (lv_at hl 0 rfl) ?_
  refine lv_sipush (v := nI 1200) hx hb dX1_init_5 (by decide +kernel) ?_
  refine va_newa (a0 := (1200, .inl (fun _ => 0))) (N' := 1200) hx hb (ht _ iw_121) rfl hK.1 hP hD hS hA (fun _ => rfl) (by decide) (by decide) (by decide) (Nat.le_of_ble_eq_true rfl) (Nat.le_of_ble_eq_true rfl) dX1_init_8 (fun q1 cA9 H hK9 hP hD hS => ?_)
  obtain rfl := ds_cI hK9
  have hP : va_P D vwCl [(r, .inr (1, [.null, .int 0])), (q1, .inl (cI, 1200, .inl (fun _ => 0)))] H := hP
  have hD : va_D A [(r, .inr (1, [.null, .int 0])), (q1, .inl (cI, 1200, .inl (fun _ => 0)))] := hD
  refine va_putF (D := D) (ci := 1) (v := .ref q1) (ty := (.array .int)) (C := RX1) (T := TX1) (N := 2) hx hb ht inA_X1 tyX1 tyX1_ok nmX1 hown hK.1 hP hD hS 0 rfl rfl 0 (by decide) (ht _ iw_203) (fun _ h9 => h9) rfl hnm rfl (by decide +kernel) rfl rfl (Nat.le_of_ble_eq_true rfl) dX1_init_10 (fun H locs hP hD hS => ?_)
  have hP : va_P D vwCl [(r, .inr (1, [.ref q1, .int 0])), (q1, .inl (cI, 1200, .inl (fun _ => 0)))] H := hP
  have hD : va_D A [(r, .inr (1, [.ref q1, .int 0])), (q1, .inl (cI, 1200, .inl (fun _ => 0)))] := hD
  refine lv_aload_n hx hb dX1_init_13 rfl (lv_at hl 0 rfl) ?_
  refine lv_iconst (v := nI 0) hx hb dX1_init_14 (by decide +kernel) ?_
  refine va_put (D := D) (ci := 1) (v := .int (nI 0)) (ty := .int) (C := RX1) (T := TX1) (N := 2) hx hb ht inA_X1 tyX1 tyX1_ok nmX1 hown hK.1 hP hD hS 0 rfl rfl 1 (by decide) (ht _ iw_204) (fun _ h9 => h9) rfl (by decide +kernel) rfl rfl (Nat.le_of_ble_eq_true rfl) dX1_init_15 (fun H locs hP hD hS => ?_)
  have hP : va_P D vwCl [(r, .inr (1, [.ref q1, .int (nI 0)])), (q1, .inl (cI, 1200, .inl (fun _ => 0)))] H := hP
  have hD : va_D A [(r, .inr (1, [.ref q1, .int (nI 0)])), (q1, .inl (cI, 1200, .inl (fun _ => 0)))] := hD
  exact ds_vret hx hb hr hlk q1 trivial hP hD hS (Nat.le_of_ble_eq_true rfl) (Nat.le_of_ble_eq_true rfl) dX1_init_18
