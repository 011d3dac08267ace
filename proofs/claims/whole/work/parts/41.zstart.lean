theorem ds_lay0 : ∀ w ∈ wsX00, w ∈ lw_tbl := by decide +kernel
theorem ds_lay1 : ∀ w ∈ wsX10, w ∈ lw_tbl := by decide +kernel
theorem ds_lay2 : ∀ w ∈ wsX20, w ∈ lw_tbl := by decide +kernel
theorem ds_lay3 : ∀ w ∈ wsX30, w ∈ lw_tbl := by decide +kernel
theorem ds_lay4 : ∀ w ∈ wsX40, w ∈ lw_tbl := by decide +kernel
theorem ds_lay5 : ∀ w ∈ wsX50, w ∈ lw_tbl := by decide +kernel
theorem ds_xI_in : ∀ w ∈ ds_xI, w ∈ lw_tbl := by decide +kernel
theorem ds_xO_in : ∀ w ∈ ds_xO, w ∈ lw_tbl := by decide +kernel
theorem ds_all_in : ∀ w ∈ ds_all, w ∈ lw_tbl := fun w h => (List.mem_append.mp h).elim (fun h => ds_words_in w h) (fun h => (List.mem_append.mp h).elim (fun h => ds_lay0 w h) (fun h => (List.mem_append.mp h).elim (fun h => ds_lay1 w h) (fun h => (List.mem_append.mp h).elim (fun h => ds_lay2 w h) (fun h => (List.mem_append.mp h).elim (fun h => ds_lay3 w h) (fun h => (List.mem_append.mp h).elim (fun h => ds_lay4 w h) (fun h => (List.mem_append.mp h).elim (fun h => ds_lay5 w h) (fun h => (List.mem_append.mp h).elim (fun h => ds_xI_in w h) (fun h => ds_xO_in w h))))))))
theorem ds_tx_in : ∀ q ∈ ds_tx, Cond.stringRef RX4 q.1 q.2 ∈ lw_tbl := by decide +kernel
theorem ds_tx_ex : ∀ q ∈ ds_tx, Cond.exactly (Term.string RX4 q.1) "java/lang/String" ∈ flatC (Jvm.Cond.and given_1 narrow_1) := by decide +kernel
set_option maxHeartbeats 4000000 in
theorem ds_start {s : State} {b : Nat} (hts : ∀ w ∈ lw_tbl, w.before #[Value.ref b] s = true) (hgv : (Jvm.Cond.and given_1 narrow_1).before #[Value.ref b] s = true) : ∃ (D : va_G) (cI cL : ClassId), ds_K D cI cL s ∧ ds_Z (fun q => s.heap.size ≤ q) s s.heap := by
  have hs := flat_of_before _ hgv
  obtain ⟨c0, i0, k0⟩ := u_known (C := RX0) (T := TX0) (N := 6) hts ds_lay0 (hts _ (ds_all_in _ iw_12))
  obtain ⟨c1, i1, k1⟩ := u_known (C := RX1) (T := TX1) (N := 2) hts ds_lay1 (hts _ (ds_all_in _ iw_5))
  obtain ⟨c2, i2, k2⟩ := u_known (C := RX2) (T := TX2) (N := 4) hts ds_lay2 (hts _ (ds_all_in _ iw_23))
  obtain ⟨c3, i3, k3⟩ := u_known (C := RX3) (T := TX3) (N := 9) hts ds_lay3 (hts _ (ds_all_in _ iw_17))
  obtain ⟨c4, i4, k4⟩ := u_known (C := RX4) (T := TX4) (N := 8) hts ds_lay4 (hts _ (ds_all_in _ iw_297))
  obtain ⟨c5, i5, k5⟩ := u_known (C := RX5) (T := TX5) (N := 12) hts ds_lay5 (hts _ (ds_all_in _ iw_301))
  obtain ⟨cI, kI, mI, a1, a2, a3⟩ := Cond.arrayClass_spec (hts _ (ds_all_in _ iw_121))
  obtain ⟨cL, kL, mL, l1, l2, l3⟩ := Cond.arrayClass_spec (hts _ (ds_all_in _ iw_191))
  refine ⟨(fun k => match k with | 0 => c0 | 1 => c1 | 2 => c2 | 3 => c3 | 4 => c4 | _ => c5, fun k => match k with | 0 => i0 | 1 => i1 | 2 => i2 | 3 => i3 | 4 => i4 | _ => i5), cI, cL, ⟨⟨?_, ?_⟩, ?_, ?_, ?_⟩, ?_, ?_⟩
  · intro k q hq
    have hk : k < 6 := (List.getElem?_eq_some_iff.mp hq).1
    rcases (show k = 0 ∨ k = 1 ∨ k = 2 ∨ k = 3 ∨ k = 4 ∨ k = 5 by omega) with rfl | rfl | rfl | rfl | rfl | rfl
    · cases hq; exact k0
    · cases hq; exact k1
    · cases hq; exact k2
    · cases hq; exact k3
    · cases hq; exact k4
    · cases hq; exact k5
  · intro k q hq
    have hk : k < 2 := (List.getElem?_eq_some_iff.mp hq).1
    rcases (show k = 0 ∨ k = 1 by omega) with rfl | rfl
    · cases hq; exact ⟨fun n z => ⟨fun k h => (by cases h), kI, a2, mI, a3⟩, a1⟩
    · cases hq; exact ⟨fun n z => ⟨fun k h => (by cases h), kL, l2, mL, l3⟩, l1⟩
  · exact fun w hw => va_Nw.of (ds_isN_tab (ds_nW_ok w hw)) (hts w (ds_nW_in w hw))
  · intro q hq
    obtain ⟨a, c, cell, k, he, -⟩ := Cond.exactly_spec (hs _ (ds_tx_ex q hq))
    exact ⟨a, vk_R.of (hts _ (ds_tx_in q hq)) he⟩
  · exact va_Nc.of (hs (.not (.castable "java/lang/IndexOutOfBoundsException" "java/lang/IllegalArgumentException")) (by decide +kernel))
  · exact vx_Zqof (hts (.laysStatic Bundle.tN "UNASSIGNED_STACK" Bundle.steD) (by decide +kernel)) (hts (.initialized Bundle.tN) (by decide +kernel)) (hs (.isRef (.static Bundle.tN "UNASSIGNED_STACK" Bundle.steD)) (by decide +kernel)) (fun a h1 h2 => absurd h1 (Nat.not_lt.mpr h2))
  · exact vx_Zqof (hts (.laysStatic Bundle.tN "SUPPRESSED_SENTINEL" Bundle.listD) (by decide +kernel)) (hts (.initialized Bundle.tN) (by decide +kernel)) (hs (.isRef (.static Bundle.tN "SUPPRESSED_SENTINEL" Bundle.listD)) (by decide +kernel)) (fun a h1 h2 => absurd h1 (Nat.not_lt.mpr h2))
theorem law_lt {L i : Nat} (hL : L ≤ 3072) (hi : i ≤ 3072) : nI L - nI 6 < nI i ↔ L < i + 6 := by
  rw [Int32.lt_iff_toInt_lt, pk_sub_toInt (by omega) (by omega), nI_toInt (by omega)]
  omega
