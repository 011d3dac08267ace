set_option maxHeartbeats 4000000 in
set_option maxRecDepth 100000 in
theorem c_X4_strongMask (Ll : Launch) (D : va_G) (cI cL : ClassId) (b : Nat) (h1 : b ≤ 64) (sz : Nat) : Met Ll yX4_strongMask wsX4_strongMask { frames := 0, cells := 0, slots := 0, locals := 0 } (ds_P D cI cL [.int (nI b)] [] sz) (ds_Ql D (fun (r : Int64) (u : Unit) => r = ds_mask b) (fun u : Unit => []) (va_A [] sz)) 0 0 (va_A [] sz) := by
  refine ds_enter (Qf := (fun A9 => ds_Ql D (fun (r : Int64) (u : Unit) => r = ds_mask b) (fun u : Unit => []) A9)) (cc := cX4_strongMask) (maxL := 1) (ret := (some .long)) (by decide) rfl (Nat.le_of_ble_eq_true rfl) ?_
  intro Pp Ee Ss Mm Aa Bb Me Cc hx hb hml hr ht hown hlk hnm A H locs hA hP hD hS hK ls hl
  have hl : lv_has ls 1 [(0, .int (nI b))] := hl
  change Ss.vm.findClass RX4 = some Mm.cls at hown
  refine lv_iload_n hx hb dX4_strongMask_0 rfl (lv_at hl 0 rfl) ?_
  refine lv_bipush (v := nI 64) hx hb dX4_strongMask_1 (by decide +kernel) ?_
  refine lv_icmp_ne (tgt := 12) hx hb dX4_strongMask_3 (by decide) (fun h => ?_) (fun h => ?_)
  ·
    have h : ¬ b = 64 := fun z9 => h ((nI_eq (a := b) (b := 64) (by omega) (by omega)).mpr z9)
    refine lv_lconst (v := 1) hx hb dX4_strongMask_12 (by decide +kernel) ?_
    refine lv_iload_n hx hb dX4_strongMask_13 rfl (lv_at hl 0 rfl) ?_
    refine lv_lshl (v := 1 <<< ((nI b).toInt64 &&& 63)) hx hb dX4_strongMask_14 rfl ?_
    refine lv_lconst (v := 1) hx hb dX4_strongMask_15 (by decide +kernel) ?_
    refine lv_lsub hx hb dX4_strongMask_16 ?_
    exact ds_lret hx hb hr hlk () (by unfold ds_mask; rw [if_neg h]) hP hD hS (Nat.le_of_ble_eq_true rfl) (Nat.le_of_ble_eq_true rfl) dX4_strongMask_17
  ·
    have h : b = 64 := (nI_eq (a := b) (b := 64) (by omega) (by omega)).mp h
    refine lv_ldc2 (v := -1) hx hb hown (ht _ iw_98) dX4_strongMask_6 ?_
    refine lv_goto (tgt := 17) hx hb dX4_strongMask_9 (by decide) ?_
    exact ds_lret hx hb hr hlk () (by unfold ds_mask; rw [if_pos h]) hP hD hS (Nat.le_of_ble_eq_true rfl) (Nat.le_of_ble_eq_true rfl) dX4_strongMask_17
