set_option maxHeartbeats 4000000 in
set_option maxRecDepth 100000 in
theorem c_X1_write (Ll : Launch) (D : va_G) (cI cL : ClassId) (r : Nat) (o : Nat) (n : Nat) (f : Nat → Int32) (q : Nat) (v : Int64) (h1 : n ≤ 1200) (h2 : q ≤ 1200) (sz : Nat) : Met Ll yX1_write wsX1_write { frames := 0, cells := 0, slots := 0, locals := 0 } (ds_P D cI cL [.ref r, .int (nI q), .long v] [(r, .inr (1, [.ref o, .int (nI n)])), (o, .inl (cI, 1200, .inl f))] sz) (ds_Qv D (fun (u : Unit) => True) (fun u : Unit => [(r, .inr (1, [.ref o, .int (nI n)])), (o, .inl (cI, 1200, .inl (wr f q v (min 8 (n - q)))))]) (va_A [(r, .inr (1, [.ref o, .int (nI n)])), (o, .inl (cI, 1200, .inl f))] sz)) 0 0 (va_A [(r, .inr (1, [.ref o, .int (nI n)])), (o, .inl (cI, 1200, .inl f))] sz) := by
  refine ds_enter (Qf := (fun A9 => ds_Qv D (fun (u : Unit) => True) (fun u : Unit => [(r, .inr (1, [.ref o, .int (nI n)])), (o, .inl (cI, 1200, .inl (wr f q v (min 8 (n - q)))))]) A9)) (cc := cX1_write) (maxL := 5) (ret := none) (by decide) rfl (Nat.le_of_ble_eq_true rfl) ?_
  intro Pp Ee Ss Mm Aa Bb Me Cc hx hb hml hr ht hown hlk hnm A H locs hA hP hD hS hK ls hl
  have hl : lv_has ls 5 [(0, .ref r), (1, .int (nI q)), (2, .long v)] := hl
  change Ss.vm.findClass RX1 = some Mm.cls at hown
  refine lv_iconst (v := nI 0) hx hb dX1_write_0 (by decide +kernel) ?_
  refine lv_istore (lv' := [(4, .int (nI 0)), (0, .ref r), (1, .int (nI q)), (2, .long v)]) hx hb dX1_write_1 hl (Nat.le_of_ble_eq_true rfl) rfl (fun ls hl => ?_)
  have hP : va_P D vwCl [(r, .inr (1, [.ref o, .int (nI n)])), (o, .inl (cI, 1200, .inl (wr f q v 0)))] H := by rw [wr_0]; exact hP
  have hD : va_D A [(r, .inr (1, [.ref o, .int (nI n)])), (o, .inl (cI, 1200, .inl (wr f q v 0)))] := by rw [wr_0]; exact hD
  have loop1 : ∀ (k2 : Nat) (i : Nat) (H : Heap) (locs : List Loc) (ls : Array Slot), (i ≤ 8) → (i = 0 ∨ q + i ≤ n) → 8 - i < k2 → va_P D vwCl [(r, .inr (1, [.ref o, .int (nI n)])), (o, .inl (cI, 1200, .inl (wr f q v i)))] H → va_D A [(r, .inr (1, [.ref o, .int (nI n)])), (o, .inl (cI, 1200, .inl (wr f q v i)))] → va_S A Ss.heap H locs → lv_has ls 5 [(0, .ref r), (1, .int (nI q)), (2, .long v), (4, .int (nI i))] → W Pp Ll Ee { frames := 0, cells := 0, slots := 0, locals := 0 } Ss Mm Aa Bb Me Cc H locs 0 0 (MQ Bb (ds_Qv D (fun (u : Unit) => True) (fun u : Unit => [(r, .inr (1, [.ref o, .int (nI n)])), (o, .inl (cI, 1200, .inl (wr f q v (min 8 (n - q)))))]) A) Aa Ss 0 0 A) (F0 Mm 3 ls []) := by
    intro k2
    induction k2 with
    | zero => intro i H locs ls hi hi2 hm4; exact absurd hm4 (Nat.not_lt_zero _)
    | succ k2 ih3 =>
      intro i H locs ls hi hi2 hm4 hP hD hS hl
      refine lv_iload hx hb dX1_write_3 (lv_at hl 3 rfl) ?_
      refine lv_bipush (v := nI 8) hx hb dX1_write_5 (by decide +kernel) ?_
      refine lv_icmp_ge (tgt := 51) hx hb dX1_write_7 (by decide) (fun h => ?_) (fun h => ?_)
      ·
        have h : 8 ≤ i := (nI_leI (a := 8) (b := i) (by omega) (by omega)).mp h
        have hP : va_P D vwCl [(r, .inr (1, [.ref o, .int (nI n)])), (o, .inl (cI, 1200, .inl (wr f q v (min 8 (n - q)))))] H := by rw [show min 8 (n - q) = i by omega]; exact hP
        have hD : va_D A [(r, .inr (1, [.ref o, .int (nI n)])), (o, .inl (cI, 1200, .inl (wr f q v (min 8 (n - q)))))] := by rw [show min 8 (n - q) = i by omega]; exact hD
        exact ds_vret hx hb hr hlk () trivial hP hD hS (Nat.le_of_ble_eq_true rfl) (Nat.le_of_ble_eq_true rfl) dX1_write_51
      ·
        have h : ¬ 8 ≤ i := fun z9 => h ((nI_leI (a := 8) (b := i) (by omega) (by omega)).mpr z9)
        refine lv_iload_n hx hb dX1_write_10 rfl (lv_at hl 1 rfl) ?_
        refine lv_iload hx hb dX1_write_11 (lv_at hl 3 rfl) ?_
        refine lv_iadd hx hb dX1_write_13 ?_
        refine ds_top (z := nI (q + i)) (nI_add _ _) ?_
        refine lv_aload_n hx hb dX1_write_14 rfl (lv_at hl 0 rfl) ?_
        refine va_get (D := D) (ci := 1) (v := .int (nI n)) (C := RX1) (T := TX1) (N := 2) hx hb ht inA_X1 hown hK.1 hP 0 rfl rfl 1 (by decide) (ht _ iw_204) (fun _ h9 => h9) rfl dX1_write_15 ?_
        refine lv_icmp_ge (tgt := 51) hx hb dX1_write_18 (by decide) (fun h0 => ?_) (fun h0 => ?_)
        ·
          have h0 : n ≤ (q + i) := (nI_leI (a := n) (b := (q + i)) (by omega) (by omega)).mp h0
          have hP : va_P D vwCl [(r, .inr (1, [.ref o, .int (nI n)])), (o, .inl (cI, 1200, .inl (wr f q v (min 8 (n - q)))))] H := by rw [show min 8 (n - q) = i by omega]; exact hP
          have hD : va_D A [(r, .inr (1, [.ref o, .int (nI n)])), (o, .inl (cI, 1200, .inl (wr f q v (min 8 (n - q)))))] := by rw [show min 8 (n - q) = i by omega]; exact hD
          exact ds_vret hx hb hr hlk () trivial hP hD hS (Nat.le_of_ble_eq_true rfl) (Nat.le_of_ble_eq_true rfl) dX1_write_51
        ·
          have h0 : ¬ n ≤ (q + i) := fun z9 => h0 ((nI_leI (a := n) (b := (q + i)) (by omega) (by omega)).mpr z9)
          refine lv_aload_n hx hb dX1_write_21 rfl (lv_at hl 0 rfl) ?_
          refine va_get (D := D) (ci := 1) (v := .ref o) (C := RX1) (T := TX1) (N := 2) hx hb ht inA_X1 hown hK.1 hP 0 rfl rfl 0 (by decide) (ht _ iw_203) (fun _ h9 => h9) rfl dX1_write_22 ?_
          refine lv_iload_n hx hb dX1_write_25 rfl (lv_at hl 1 rfl) ?_
          refine lv_iload hx hb dX1_write_26 (lv_at hl 3 rfl) ?_
          refine lv_iadd hx hb dX1_write_28 ?_
          refine ds_top (z := nI (q + i)) (nI_add _ _) ?_
          refine lv_lload_n hx hb dX1_write_29 rfl (lv_at hl 2 rfl) ?_
          refine lv_bipush (v := nI 56) hx hb dX1_write_30 (by decide +kernel) ?_
          refine lv_bipush (v := nI 8) hx hb dX1_write_32 (by decide +kernel) ?_
          refine lv_iload hx hb dX1_write_34 (lv_at hl 3 rfl) ?_
          refine lv_imul hx hb dX1_write_36 ?_
          refine ds_top (z := nI (8 * i)) (pk_mul _ _) ?_
          refine lv_isub hx hb dX1_write_37 ?_
          refine ds_top (z := nI (56 - 8 * i)) (pk_sub (by omega)) ?_
          refine lv_lushr (v := (v.toUInt64 >>> ((nI (56 - 8 * i)).toInt64.toUInt64 &&& Int64.toUInt64 63)).toInt64) hx hb dX1_write_38 rfl ?_
          refine lv_l2i (v := ((v.toUInt64 >>> ((nI (56 - 8 * i)).toInt64.toUInt64 &&& Int64.toUInt64 63)).toInt64).toInt32) hx hb dX1_write_39 rfl ?_
          refine lv_sipush (v := nI 255) hx hb dX1_write_40 (by decide +kernel) ?_
          refine lv_iand hx hb dX1_write_43 ?_
          refine ds_iast (k := q + i) hx hb hK hP hD hS 1 rfl (by omega) (by omega) dX1_write_44 (fun H locs hP hD hS => ?_)
          have hP : va_P D vwCl [(r, .inr (1, [.ref o, .int (nI n)])), (o, .inl (cI, 1200, .inl (upd (wr f q v i) (q + i) ((((v.toUInt64 >>> ((nI (56 - 8 * i)).toInt64.toUInt64 &&& Int64.toUInt64 63)).toInt64).toInt32) &&& (nI 255)))))] H := hP
          have hD : va_D A [(r, .inr (1, [.ref o, .int (nI n)])), (o, .inl (cI, 1200, .inl (upd (wr f q v i) (q + i) ((((v.toUInt64 >>> ((nI (56 - 8 * i)).toInt64.toUInt64 &&& Int64.toUInt64 63)).toInt64).toInt32) &&& (nI 255)))))] := hD
          refine lv_iinc (k := 3) (v := nI (i + 1)) (lv' := [(4, .int (nI (i + 1))), (0, .ref r), (1, .int (nI q)), (2, .long v)]) hx hb dX1_write_45 hl rfl (by rw [nI_succ]; rfl) (Nat.le_of_ble_eq_true rfl) rfl (fun ls hl => ?_)
          refine lv_goto (tgt := 3) hx hb dX1_write_48 (by decide) ?_
          have hP : va_P D vwCl [(r, .inr (1, [.ref o, .int (nI n)])), (o, .inl (cI, 1200, .inl (wr f q v (i + 1))))] H := by rw [wr_s]; exact hP
          have hD : va_D A [(r, .inr (1, [.ref o, .int (nI n)])), (o, .inl (cI, 1200, .inl (wr f q v (i + 1))))] := by rw [wr_s]; exact hD
          exact ih3 (i + 1) H locs ls (by omega) (by omega) (by omega) hP hD hS (lv_sub hl [1, 2, 3, 0] rfl)
  exact loop1 _ 0 H locs ls (by omega) (Or.inl rfl) (Nat.lt_succ_self _) hP hD hS (lv_sub hl [1, 2, 3, 0] rfl)
