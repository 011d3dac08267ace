set_option maxHeartbeats 4000000 in
set_option maxRecDepth 100000 in
theorem c_X1_joinWeak (Ll : Launch) (D : va_G) (cI cL : ClassId) (a : Int32) (b : Int32) (sz : Nat) : Met Ll yX1_joinWeak wsX1_joinWeak { frames := 0, cells := 0, slots := 0, locals := 0 } (ds_P D cI cL [.int a, .int b] [] sz) (ds_Qi D (fun (r : Int32) (u : Unit) => r = su_J a b) (fun u : Unit => []) (va_A [] sz)) 0 0 (va_A [] sz) := by
  refine ds_enter (Qf := (fun A9 => ds_Qi D (fun (r : Int32) (u : Unit) => r = su_J a b) (fun u : Unit => []) A9)) (cc := cX1_joinWeak) (maxL := 2) (ret := (some .int)) (by decide) rfl (Nat.le_of_ble_eq_true rfl) ?_
  intro Pp Ee Ss Mm Aa Bb Me Cc hx hb hml hr ht hown hlk hnm A H locs hA hP hD hS hK ls hl
  have hl : lv_has ls 2 [(0, .int a), (1, .int b)] := hl
  change Ss.vm.findClass RX1 = some Mm.cls at hown
  refine lv_iload_n hx hb dX1_joinWeak_0 rfl (lv_at hl 0 rfl) ?_
  refine lv_ldc (v := nI 65535) hx hb hown (ht _ iw_213) dX1_joinWeak_1 ?_
  refine lv_iand hx hb dX1_joinWeak_3 ?_
  refine lv_ldc (v := nI 65536) hx hb hown (ht _ iw_214) dX1_joinWeak_4 ?_
  refine lv_iload_n hx hb dX1_joinWeak_6 rfl (lv_at hl 1 rfl) ?_
  refine lv_ldc (v := nI 65535) hx hb hown (ht _ iw_213) dX1_joinWeak_7 ?_
  refine lv_iand hx hb dX1_joinWeak_9 ?_
  refine lv_imul hx hb dX1_joinWeak_10 ?_
  refine lv_iadd hx hb dX1_joinWeak_11 ?_
  exact ds_iret hx hb hr hlk rfl () rfl hP hD hS (Nat.le_of_ble_eq_true rfl) (Nat.le_of_ble_eq_true rfl) dX1_joinWeak_12
set_option maxHeartbeats 4000000 in
set_option maxRecDepth 100000 in
theorem c_X1_weakSum (Ll : Launch) (D : va_G) (cI cL : ClassId) (r : Nat) (o : Nat) (n : Nat) (f : Nat → Int32) (p : Nat) (k : Nat) (h1 : p + k ≤ 1200) (sz : Nat) : Met Ll yX1_weakSum wsX1_weakSum { frames := 1, cells := 0, slots := 0, locals := 21 } (ds_P D cI cL [.ref r, .int (nI p), .int (nI k)] [(r, .inr (1, [.ref o, .int (nI n)])), (o, .inl (cI, 1200, .inl f))] sz) (ds_Qi D (fun (r : Int32) (u : Unit) => r = su_W f p k) (fun u : Unit => [(r, .inr (1, [.ref o, .int (nI n)])), (o, .inl (cI, 1200, .inl f))]) (va_A [(r, .inr (1, [.ref o, .int (nI n)])), (o, .inl (cI, 1200, .inl f))] sz)) 0 0 (va_A [(r, .inr (1, [.ref o, .int (nI n)])), (o, .inl (cI, 1200, .inl f))] sz) := by
  refine ds_enter (Qf := (fun A9 => ds_Qi D (fun (r : Int32) (u : Unit) => r = su_W f p k) (fun u : Unit => [(r, .inr (1, [.ref o, .int (nI n)])), (o, .inl (cI, 1200, .inl f))]) A9)) (cc := cX1_weakSum) (maxL := 6) (ret := (some .int)) (by decide) rfl (Nat.le_of_ble_eq_true rfl) ?_
  intro Pp Ee Ss Mm Aa Bb Me Cc hx hb hml hr ht hown hlk hnm A H locs hA hP hD hS hK ls hl
  have hl : lv_has ls 6 [(0, .ref r), (1, .int (nI p)), (2, .int (nI k))] := hl
  change Ss.vm.findClass RX1 = some Mm.cls at hown
  refine lv_iconst (v := nI 0) hx hb dX1_weakSum_0 (by decide +kernel) ?_
  refine lv_istore_n (lv' := [(3, .int (nI 0)), (0, .ref r), (1, .int (nI p)), (2, .int (nI k))]) hx hb dX1_weakSum_1 rfl hl (Nat.le_of_ble_eq_true rfl) rfl (fun ls hl => ?_)
  refine lv_iconst (v := nI 0) hx hb dX1_weakSum_2 (by decide +kernel) ?_
  refine lv_istore (lv' := [(4, .int (nI 0)), (3, .int (nI 0)), (0, .ref r), (1, .int (nI p)), (2, .int (nI k))]) hx hb dX1_weakSum_3 hl (Nat.le_of_ble_eq_true rfl) rfl (fun ls hl => ?_)
  refine lv_iconst (v := nI 0) hx hb dX1_weakSum_5 (by decide +kernel) ?_
  refine lv_istore (lv' := [(5, .int (nI 0)), (4, .int (nI 0)), (3, .int (nI 0)), (0, .ref r), (1, .int (nI p)), (2, .int (nI k))]) hx hb dX1_weakSum_6 hl (Nat.le_of_ble_eq_true rfl) rfl (fun ls hl => ?_)
  have loop1 : ∀ (k2 : Nat) (i : Nat) (H : Heap) (locs : List Loc) (ls : Array Slot), (i ≤ k) → k - i < k2 → va_P D vwCl [(r, .inr (1, [.ref o, .int (nI n)])), (o, .inl (cI, 1200, .inl f))] H → va_D A [(r, .inr (1, [.ref o, .int (nI n)])), (o, .inl (cI, 1200, .inl f))] → va_S A Ss.heap H locs → lv_has ls 6 [(0, .ref r), (1, .int (nI p)), (2, .int (nI k)), (3, .int (su_A f p i)), (4, .int (su_C f p k i)), (5, .int (nI i))] → W Pp Ll Ee { frames := 1, cells := 0, slots := 0, locals := 21 } Ss Mm Aa Bb Me Cc H locs 0 0 (MQ Bb (ds_Qi D (fun (r : Int32) (u : Unit) => r = su_W f p k) (fun u : Unit => [(r, .inr (1, [.ref o, .int (nI n)])), (o, .inl (cI, 1200, .inl f))]) A) Aa Ss 0 0 A) (F0 Mm 8 ls []) := by
    intro k2
    induction k2 with
    | zero => intro i H locs ls hi hm4; exact absurd hm4 (Nat.not_lt_zero _)
    | succ k2 ih3 =>
      intro i H locs ls hi hm4 hP hD hS hl
      refine lv_iload hx hb dX1_weakSum_8 (lv_at hl 5 rfl) ?_
      refine lv_iload_n hx hb dX1_weakSum_10 rfl (lv_at hl 2 rfl) ?_
      refine lv_icmp_ge (tgt := 51) hx hb dX1_weakSum_11 (by decide) (fun h => ?_) (fun h => ?_)
      ·
        have h : k ≤ i := (nI_leI (a := k) (b := i) (by omega) (by omega)).mp h
        have e9 : k = i := (by omega)
        subst e9
        refine lv_iload_n hx hb dX1_weakSum_51 rfl (lv_at hl 3 rfl) ?_
        refine lv_iload hx hb dX1_weakSum_52 (lv_at hl 4 rfl) ?_
        refine ds_calli (wc := []) (wr := [(r, .inr (1, [.ref o, .int (nI n)])), (o, .inl (cI, 1200, .inl f))]) (wo := (fun u6 : Unit => [])) (wn := (fun u6 : Unit => [(r, .inr (1, [.ref o, .int (nI n)])), (o, .inl (cI, 1200, .inl f))])) (isC := []) (isR := [0, 1]) hP hD hS hA ⟨rfl, rfl, by decide, by decide, by decide⟩ [0, 1] (by decide) (fun _ => rfl) (fun hPc hDc => va_runS (As := [.int (su_A f p k), .int (su_C f p k k)]) (rest := []) ⟨hx, hb, hml, hown, ht⟩ (c_X1_joinWeak Ll D cI cL (su_A f p k) (su_C f p k k)  H.size) ⟨(callB_of 2 ht g_X1_joinWeak rfl rfl rfl (ht _ iw_6) (ht _ iw_210) hd_X1_joinWeak ⟨Nat.le_of_ble_eq_true rfl, Nat.le_of_ble_eq_true rfl⟩), (ht _ iw_211)⟩ (ds_pS hPc hDc hK) rfl rfl hl.1 rfl (lv_room (Nat.le_of_ble_eq_true rfl)) dX1_weakSum_54 ⟨Nat.le_of_ble_eq_true rfl, Nat.le_of_ble_eq_true rfl⟩) (fun r5 u6 H locs hp7 hP hD hS => ?_)
        have hP : va_P D vwCl [(r, .inr (1, [.ref o, .int (nI n)])), (o, .inl (cI, 1200, .inl f))] H := hP
        have hD : va_D A [(r, .inr (1, [.ref o, .int (nI n)])), (o, .inl (cI, 1200, .inl f))] := hD
        have hp7 : r5 = su_J (su_A f p k) (su_C f p k k) := hp7
        replace hp7 := Eq.symm hp7
        subst hp7
        exact ds_iret hx hb hr hlk rfl () (by rw [su_C_n]; rfl) hP hD hS (Nat.le_of_ble_eq_true rfl) (Nat.le_of_ble_eq_true rfl) dX1_weakSum_57
      ·
        have h : ¬ k ≤ i := fun z9 => h ((nI_leI (a := k) (b := i) (by omega) (by omega)).mpr z9)
        refine lv_iload_n hx hb dX1_weakSum_14 rfl (lv_at hl 3 rfl) ?_
        refine lv_aload_n hx hb dX1_weakSum_15 rfl (lv_at hl 0 rfl) ?_
        refine va_get (D := D) (ci := 1) (v := .ref o) (C := RX1) (T := TX1) (N := 2) hx hb ht inA_X1 hown hK.1 hP 0 rfl rfl 0 (by decide) (ht _ iw_203) (fun _ h9 => h9) rfl dX1_weakSum_16 ?_
        refine lv_iload_n hx hb dX1_weakSum_19 rfl (lv_at hl 1 rfl) ?_
        refine lv_iload hx hb dX1_weakSum_20 (lv_at hl 5 rfl) ?_
        refine lv_iadd hx hb dX1_weakSum_22 ?_
        refine ds_top (z := nI (p + i)) (nI_add _ _) ?_
        refine ds_iald (k := p + i) hx hb hK hP 1 rfl (by omega) (by omega) dX1_weakSum_23 ?_
        refine lv_iadd hx hb dX1_weakSum_24 ?_
        refine lv_istore_n (lv' := [(3, .int ((su_A f p i) + (f (p + i)))), (0, .ref r), (1, .int (nI p)), (2, .int (nI k)), (4, .int (su_C f p k i)), (5, .int (nI i))]) hx hb dX1_weakSum_25 rfl hl (Nat.le_of_ble_eq_true rfl) rfl (fun ls hl => ?_)
        refine lv_iload hx hb dX1_weakSum_26 (lv_at hl 4 rfl) ?_
        refine lv_iload_n hx hb dX1_weakSum_28 rfl (lv_at hl 3 rfl) ?_
        refine lv_iload hx hb dX1_weakSum_29 (lv_at hl 5 rfl) ?_
        refine lv_isub hx hb dX1_weakSum_31 ?_
        refine ds_top (z := nI (k - i)) (pk_sub (by omega)) ?_
        refine lv_aload_n hx hb dX1_weakSum_32 rfl (lv_at hl 1 rfl) ?_
        refine va_get (D := D) (ci := 1) (v := .ref o) (C := RX1) (T := TX1) (N := 2) hx hb ht inA_X1 hown hK.1 hP 0 rfl rfl 0 (by decide) (ht _ iw_203) (fun _ h9 => h9) rfl dX1_weakSum_33 ?_
        refine lv_iload_n hx hb dX1_weakSum_36 rfl (lv_at hl 2 rfl) ?_
        refine lv_iload hx hb dX1_weakSum_37 (lv_at hl 5 rfl) ?_
        refine lv_iadd hx hb dX1_weakSum_39 ?_
        refine ds_top (z := nI (p + i)) (nI_add _ _) ?_
        refine ds_iald (k := p + i) hx hb hK hP 1 rfl (by omega) (by omega) dX1_weakSum_40 ?_
        refine lv_imul hx hb dX1_weakSum_41 ?_
        refine lv_iadd hx hb dX1_weakSum_42 ?_
        refine lv_istore (lv' := [(4, .int ((su_C f p k i) + ((nI (k - i)) * (f (p + i))))), (3, .int ((su_A f p i) + (f (p + i)))), (0, .ref r), (1, .int (nI p)), (2, .int (nI k)), (5, .int (nI i))]) hx hb dX1_weakSum_43 hl (Nat.le_of_ble_eq_true rfl) rfl (fun ls hl => ?_)
        refine lv_iinc (k := 5) (v := nI (i + 1)) (lv' := [(5, .int (nI (i + 1))), (4, .int ((su_C f p k i) + ((nI (k - i)) * (f (p + i))))), (3, .int ((su_A f p i) + (f (p + i)))), (0, .ref r), (1, .int (nI p)), (2, .int (nI k))]) hx hb dX1_weakSum_45 hl rfl (by rw [nI_succ]; rfl) (Nat.le_of_ble_eq_true rfl) rfl (fun ls hl => ?_)
        refine lv_goto (tgt := 8) hx hb dX1_weakSum_48 (by decide) ?_
        exact ih3 (i + 1) H locs ls (by omega) (by omega) hP hD hS (lv_sub hl [3, 4, 5, 2, 1, 0] rfl)
  exact loop1 _ 0 H locs ls (Nat.zero_le _) (Nat.lt_succ_self _) hP hD hS (lv_sub hl [3, 4, 5, 2, 1, 0] rfl)
