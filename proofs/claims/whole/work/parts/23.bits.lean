theorem wb_tb (n : Nat) : (lN n).toBitVec = BitVec.ofNat 64 n := rfl
theorem wb_inj {a b : Int64} (h : a.toBitVec = b.toBitVec) : a = b := Int64.toBitVec_inj.mp h
theorem wb_tn {n : Nat} (h : n < 2 ^ 64) : (lN n).toBitVec.toNat = n := by rw [wb_tb, BitVec.toNat_ofNat, Nat.mod_eq_of_lt h]
theorem wb_of (x : Int64) : ∃ n, n < 2 ^ 64 ∧ x = lN n := ⟨x.toBitVec.toNat, x.toBitVec.isLt, wb_inj (by rw [wb_tb]; simp)⟩
theorem wb_of32 (x : Int32) : ∃ n, n < 2 ^ 32 ∧ x = nI n := ⟨x.toBitVec.toNat, x.toBitVec.isLt, Int32.toBitVec_inj.mp (by show _ = BitVec.ofNat 32 _; simp)⟩
theorem wb_c : ∀ k, k < 64 → ((nI k).toInt64 &&& 63) = lN k := by decide +kernel
theorem wb_cu : ∀ k, k < 64 → ((nI k).toInt64.toUInt64 &&& Int64.toUInt64 63) = UInt64.ofNat k := by decide +kernel
theorem wb_sm : ∀ k, k < 64 → (BitVec.ofNat 64 k).smod 64 = BitVec.ofNat 64 k := by decide +kernel
theorem wb_pw {a b : Nat} (h : a ≤ b) : 2 ^ b = 2 ^ a * 2 ^ (b - a) := by rw [← Nat.pow_add]; congr 1; omega
theorem wb_lt2 {a b : Nat} (h : a < b) : 2 ^ a < 2 ^ b := Nat.pow_lt_pow_right (by decide) h
theorem wb_mod (n : Nat) : lN n = lN (n % 2 ^ 64) := wb_inj (by rw [wb_tb, wb_tb]; apply BitVec.eq_of_toNat_eq; rw [BitVec.toNat_ofNat, BitVec.toNat_ofNat, Nat.mod_mod])
theorem wb_shr {n k : Nat} (hn : n < 2 ^ 64) (hk : k < 64) : ((lN n).toUInt64 >>> ((nI k).toInt64.toUInt64 &&& Int64.toUInt64 63)).toInt64 = lN (n / 2 ^ k) := by
  rw [wb_cu k hk]
  apply wb_inj
  apply BitVec.eq_of_toNat_eq
  show ((lN n).toUInt64 >>> UInt64.ofNat k).toNat = (BitVec.ofNat 64 _).toNat
  have h1 : (UInt64.ofNat k).toNat = k := by
    show (BitVec.ofNat 64 k).toNat = k
    rw [BitVec.toNat_ofNat, Nat.mod_eq_of_lt (by omega)]
  have h2 : (lN n).toUInt64.toNat = n := wb_tn hn
  rw [UInt64.toNat_shiftRight, h1, h2, Nat.mod_eq_of_lt hk, Nat.shiftRight_eq_div_pow, BitVec.toNat_ofNat, Nat.mod_eq_of_lt (Nat.lt_of_le_of_lt (Nat.div_le_self _ _) hn)]
theorem wb_shl (n : Nat) {k : Nat} (hk : k < 64) : lN n <<< ((nI k).toInt64 &&& 63) = lN (n * 2 ^ k) := by
  rw [wb_c k hk]
  apply wb_inj
  rw [Int64.toBitVec_shiftLeft, wb_tb, wb_tb, wb_tb, wb_sm k hk]
  apply BitVec.eq_of_toNat_eq
  rw [BitVec.shiftLeft_eq', BitVec.toNat_shiftLeft, BitVec.toNat_ofNat, BitVec.toNat_ofNat, BitVec.toNat_ofNat, Nat.mod_eq_of_lt (show k < 2 ^ 64 by omega), Nat.shiftLeft_eq, Nat.mul_mod, Nat.mod_mod, ← Nat.mul_mod]
theorem wb_and {a b : Nat} (ha : a < 2 ^ 64) (hb : b < 2 ^ 64) : lN a &&& lN b = lN (a &&& b) := by
  apply wb_inj
  rw [Int64.toBitVec_and, wb_tb, wb_tb, wb_tb]
  apply BitVec.eq_of_toNat_eq
  rw [BitVec.toNat_and, BitVec.toNat_ofNat, BitVec.toNat_ofNat, BitVec.toNat_ofNat, Nat.mod_eq_of_lt ha, Nat.mod_eq_of_lt hb, Nat.mod_eq_of_lt (Nat.and_lt_two_pow _ hb)]
theorem wb_or {a b : Nat} (ha : a < 2 ^ 64) (hb : b < 2 ^ 64) : lN a ||| lN b = lN (a ||| b) := by
  apply wb_inj
  rw [Int64.toBitVec_or, wb_tb, wb_tb, wb_tb]
  apply BitVec.eq_of_toNat_eq
  rw [BitVec.toNat_or, BitVec.toNat_ofNat, BitVec.toNat_ofNat, BitVec.toNat_ofNat, Nat.mod_eq_of_lt ha, Nat.mod_eq_of_lt hb, Nat.mod_eq_of_lt (Nat.or_lt_two_pow ha hb)]
theorem wb_mask {n k : Nat} (hn : n < 2 ^ 64) (hk : k < 64) : lN n &&& lN (2 ^ k - 1) = lN (n % 2 ^ k) := by
  rw [wb_and hn (by have := wb_lt2 hk; omega), Nat.and_two_pow_sub_one_eq_mod]
theorem lN_z {m : Nat} : lN m = 0 ↔ m % 2 ^ 64 = 0 := by
  rw [← Int64.toBitVec_inj, wb_tb]
  constructor
  · intro h
    have h1 := congrArg BitVec.toNat h
    rw [BitVec.toNat_ofNat] at h1
    exact h1
  · intro h
    apply BitVec.eq_of_toNat_eq
    rw [BitVec.toNat_ofNat, h]
    rfl
theorem mk_mask {b : Nat} (h : b < 64) : ds_mask b = lN (2 ^ b - 1) := by
  unfold ds_mask
  rw [if_neg (by omega)]
  have e : (1 : Int64) <<< ((nI b).toInt64 &&& 63) = lN (2 ^ b) := by
    have := wb_shl 1 h
    rw [Nat.one_mul] at this
    exact this
  rw [e]
  exact lN_sub (b := 1) Nat.one_le_two_pow
theorem mk_eq {b : Nat} (hb : b ≤ 64) (d : Int64) : (d &&& ds_mask b = 0) ↔ (b = 0 ∨ d <<< ((nI (64 - b)).toInt64 &&& 63) = 0) := by
  obtain ⟨n, hn, rfl⟩ := wb_of d
  by_cases e : b = 64
  · subst e
    have e1 : ds_mask 64 = lN (2 ^ 64 - 1) := rfl
    rw [e1, wb_and hn (by decide), Nat.and_two_pow_sub_one_eq_mod, Nat.sub_self, wb_shl n (by decide), Nat.pow_zero, Nat.mul_one, lN_z, lN_z, Nat.mod_mod]
    exact ⟨fun h => Or.inr h, fun h => h.elim (fun z => absurd z (by decide)) id⟩
  · rw [mk_mask (by omega), wb_mask hn (by omega), lN_z]
    have hp : 2 ^ b < 2 ^ 64 := wb_lt2 (by omega)
    rw [Nat.mod_eq_of_lt (Nat.lt_trans (Nat.mod_lt _ (Nat.two_pow_pos b)) hp)]
    by_cases e0 : b = 0
    · subst e0
      exact ⟨fun _ => Or.inl rfl, fun _ => Nat.mod_one n⟩
    · rw [wb_shl n (by omega), lN_z, wb_pw (show b ≤ 64 by omega), Nat.mul_mod_mul_right]
      constructor
      · intro h
        rw [h, Nat.zero_mul]
        exact Or.inr rfl
      · rintro (h | h)
        · exact absurd h e0
        · rcases Nat.mul_eq_zero.mp h with h | h
          · exact h
          · exact absurd h (Nat.ne_of_gt (Nat.two_pow_pos _))
theorem oct_z : ∀ j, j < 32 → 8 ≤ j → (nI 255).toBitVec.getLsbD j = false := by decide +kernel
theorem oct_k {v : Int64} {k : Nat} (h : k ≤ 56) : (v >>> ((nI k).toInt64 &&& 63)).toInt32 &&& nI 255 = (v.toUInt64 >>> ((nI k).toInt64.toUInt64 &&& Int64.toUInt64 63)).toInt64.toInt32 &&& nI 255 := by
  rw [wb_c k (by omega), wb_cu k (by omega)]
  apply Int32.toBitVec_inj.mp
  have e1 : (UInt64.ofNat k).toBitVec % 64 = BitVec.ofNat 64 k := by
    apply BitVec.eq_of_toNat_eq
    rw [BitVec.toNat_umod]
    show (k % 2 ^ 64) % 64 = k % 2 ^ 64
    omega
  have e2 : (v >>> lN k).toBitVec = v.toBitVec.sshiftRight k := by
    rw [Int64.toBitVec_shiftRight, wb_tb]
    show v.toBitVec.sshiftRight' ((BitVec.ofNat 64 k).smod 64) = _
    rw [wb_sm k (by omega), BitVec.sshiftRight_eq', BitVec.toNat_ofNat, Nat.mod_eq_of_lt (by omega)]
  have e3 : (v.toUInt64 >>> UInt64.ofNat k).toInt64.toBitVec = v.toBitVec >>> k := by
    rw [UInt64.toBitVec_toInt64, UInt64.toBitVec_shiftRight]
    show v.toBitVec >>> ((UInt64.ofNat k).toBitVec % 64) = _
    rw [e1, BitVec.ushiftRight_eq', BitVec.toNat_ofNat, Nat.mod_eq_of_lt (by omega)]
  rw [Int32.toBitVec_and, Int32.toBitVec_and, Int64.toBitVec_toInt32, Int64.toBitVec_toInt32, e2, e3]
  apply BitVec.eq_of_getLsbD_eq
  intro j hj
  rw [BitVec.getLsbD_and, BitVec.getLsbD_and]
  by_cases e : j < 8
  · rw [BitVec.getLsbD_signExtend, BitVec.getLsbD_signExtend, BitVec.getLsbD_sshiftRight, BitVec.getLsbD_ushiftRight, if_pos (show j < 64 by omega), if_pos (show j < 64 by omega), if_pos (show k + j < 64 by omega), decide_eq_false (show ¬ 64 ≤ j by omega)]
    simp
  · rw [oct_z j hj (by omega), Bool.and_false, Bool.and_false]
theorem oct_m {v : Int64} {i : Nat} (_ : i < 8) : (v >>> ((nI (56 - 8 * i)).toInt64 &&& 63)).toInt32 &&& nI 255 = ds_oct v i := oct_k (by omega)
