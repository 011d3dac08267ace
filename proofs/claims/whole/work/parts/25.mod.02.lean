set_option maxHeartbeats 4000000 in
set_option maxRecDepth 100000 in
theorem m_no1 (Ll : Launch) (D : va_G) (cI cL : ClassId) (x : Int32) (h1 : ¬ x = 0) (h2 : ¬ x = nI 1) (sz : Nat) : Met Ll yX5_no wsX5_no { frames := 0, cells := 0, slots := 0, locals := 0 } (ds_P D cI cL [.int x] [] sz) (ds_Qi D (fun (r : Int32) (u : Unit) => r = nI 1) (fun u : Unit => []) (va_A [] sz)) 0 0 (va_A [] sz) := by
  refine ds_enter (Qf := (fun A9 => ds_Qi D (fun (r : Int32) (u : Unit) => r = nI 1) (fun u : Unit => []) A9)) (cc := cX5_no) (maxL := 1) (ret := (some .boolean)) (by decide) rfl (Nat.le_of_ble_eq_true rfl) ?_
  intro Pp Ee Ss Mm Aa Bb Me Cc hx hb hml hr ht hown hlk hnm A H locs hA hP hD hS hK ls hl
  have hl : lv_has ls 1 [(0, .int x)] := hl
  change Ss.vm.findClass RX5 = some Mm.cls at hown
  refine lv_iload_n hx hb dX5_no_0 rfl (lv_at hl 0 rfl) ?_
  refine lv_if_eq (tgt := 13) hx hb dX5_no_1 (by decide) (fun h => ?_) (fun h => ?_)
  ·
    exact absurd h h1
  ·
    refine lv_iload_n hx hb dX5_no_4 rfl (lv_at hl 0 rfl) ?_
    refine lv_iconst (v := nI 1) hx hb dX5_no_5 (by decide +kernel) ?_
    refine lv_icmp_eq (tgt := 13) hx hb dX5_no_6 (by decide) (fun h => ?_) (fun h => ?_)
    ·
      exact absurd h h2
    ·
      refine lv_iconst (v := nI 1) hx hb dX5_no_9 (by decide +kernel) ?_
      refine lv_goto (tgt := 14) hx hb dX5_no_10 (by decide) ?_
      exact ds_iret hx hb hr hlk (by decide +kernel) () rfl hP hD hS (Nat.le_of_ble_eq_true rfl) (Nat.le_of_ble_eq_true rfl) dX5_no_14
set_option maxHeartbeats 4000000 in
set_option maxRecDepth 100000 in
theorem m_bad0 (Ll : Launch) (D : va_G) (cI cL : ClassId) (s : Nat) (b : Nat) (h1 : 4 ≤ s) (h2 : s ≤ 256) (h3 : b ≤ 64) (sz : Nat) : Met Ll yX5_bad wsX5_bad { frames := 0, cells := 0, slots := 0, locals := 0 } (ds_P D cI cL [.int (nI s), .int (nI b)] [] sz) (ds_Qi D (fun (r : Int32) (u : Unit) => r = nI 0) (fun u : Unit => []) (va_A [] sz)) 0 0 (va_A [] sz) := by
  refine ds_enter (Qf := (fun A9 => ds_Qi D (fun (r : Int32) (u : Unit) => r = nI 0) (fun u : Unit => []) A9)) (cc := cX5_bad) (maxL := 2) (ret := (some .boolean)) (by decide) rfl (Nat.le_of_ble_eq_true rfl) ?_
  intro Pp Ee Ss Mm Aa Bb Me Cc hx hb hml hr ht hown hlk hnm A H locs hA hP hD hS hK ls hl
  have hl : lv_has ls 2 [(0, .int (nI s)), (1, .int (nI b))] := hl
  change Ss.vm.findClass RX5 = some Mm.cls at hown
  refine lv_iload_n hx hb dX5_bad_0 rfl (lv_at hl 0 rfl) ?_
  refine lv_iconst (v := nI 4) hx hb dX5_bad_1 (by decide +kernel) ?_
  refine lv_icmp_lt (tgt := 22) hx hb dX5_bad_2 (by decide) (fun h9 => ?_) (fun h9 => ?_)
  ·
    have h9 : s < 4 := (nI_ltI (a := s) (b := 4) (by omega) (by omega)).mp h9
    exfalso; omega
  ·
    have h9 : ¬ s < 4 := fun z9 => h9 ((nI_ltI (a := s) (b := 4) (by omega) (by omega)).mpr z9)
    refine lv_iload_n hx hb dX5_bad_5 rfl (lv_at hl 0 rfl) ?_
    refine lv_sipush (v := nI 256) hx hb dX5_bad_6 (by decide +kernel) ?_
    refine lv_icmp_gt (tgt := 22) hx hb dX5_bad_9 (by decide) (fun h8 => ?_) (fun h8 => ?_)
    ·
      have h8 : 256 < s := (nI_ltI (a := 256) (b := s) (by omega) (by omega)).mp h8
      exfalso; omega
    ·
      have h8 : ¬ 256 < s := fun z9 => h8 ((nI_ltI (a := 256) (b := s) (by omega) (by omega)).mpr z9)
      refine lv_iload_n hx hb dX5_bad_12 rfl (lv_at hl 1 rfl) ?_
      refine lv_if_lt (tgt := 22) hx hb dX5_bad_13 (by decide) (fun h7 => ?_) (fun h7 => ?_)
      ·
        rw [← nI_0] at h7
        have h7 : b < 0 := (nI_ltI (a := b) (b := 0) (by omega) (by omega)).mp h7
        exfalso; omega
      ·
        rw [← nI_0] at h7
        have h7 : ¬ b < 0 := fun z9 => h7 ((nI_ltI (a := b) (b := 0) (by omega) (by omega)).mpr z9)
        refine lv_iload_n hx hb dX5_bad_16 rfl (lv_at hl 1 rfl) ?_
        refine lv_bipush (v := nI 64) hx hb dX5_bad_17 (by decide +kernel) ?_
        refine lv_icmp_le (tgt := 26) hx hb dX5_bad_19 (by decide) (fun h => ?_) (fun h => ?_)
        ·
          have h : b ≤ 64 := (nI_leI (a := b) (b := 64) (by omega) (by omega)).mp h
          refine lv_iconst (v := nI 0) hx hb dX5_bad_26 (by decide +kernel) ?_
          exact ds_iret hx hb hr hlk (by decide +kernel) () rfl hP hD hS (Nat.le_of_ble_eq_true rfl) (Nat.le_of_ble_eq_true rfl) dX5_bad_27
        ·
          have h : ¬ b ≤ 64 := fun z9 => h ((nI_leI (a := b) (b := 64) (by omega) (by omega)).mpr z9)
          exfalso; omega
