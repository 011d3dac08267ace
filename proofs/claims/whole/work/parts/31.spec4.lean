theorem sel_end {P : Nat → Bool} {m j : Nat} {bf bo : Option Nat} (hj : m ≤ j) (h : (bo = none ∧ pick P m bf = fsN P j (m - j)) ∨ (∃ x, bo = some x ∧ x < 300 ∧ pick P m bf = some x)) : pick P m bf = bo := by
  rcases h with ⟨e7, hp9⟩ | ⟨x, e7, -, hp9⟩
  · rw [e7]
    exact hp9.trans (fsN_end hj)
  · rw [e7]
    exact hp9
theorem upd2_0 {f : Nat → Int32} {v w : Int32} : upd (upd f 0 v) 1 w 0 = v := (pk_un (by decide)).trans pk_us
