def mQ (t : rw_T) (O Z : Nat → Int32) : Prop := mR t.1 t.2.2.1 t.2.1 t.2.2.2 O Z
theorem su_W_congr {f g : Nat → Int32} {p n : Nat} (h : ∀ j, j < n → f (p + j) = g (p + j)) : su_W f p n = su_W g p n := by
  unfold su_W
  rw [su_A_congr p n h, su_B_congr p n h]
theorem mk_x {b : Nat} (hb : b ≤ 64) (x y : Int64) : ((x ^^^ y) &&& ds_mask b = 0) ↔ (b = 0 ∨ (y ^^^ x) <<< ((nI (64 - b)).toInt64 &&& 63) = 0) := by
  rw [Int64.xor_comm x y]
  exact mk_eq hb _
theorem bl_min2 {n s i : Nat} (h0 : 0 < s) (h : i < bn n s) : (if n - s * i < s then n - s * i else s) = bl n s i := by
  rw [Nat.mul_comm s i]
  exact bl_min h0 h
theorem mR_len {lo ln : Nat} {fo fn O Z : Nat → Int32} (h : mR lo ln fo fn O Z) : lo ≤ 1200 ∧ ln ≤ 1200 ∧ Z 0 = nI lo ∧ Z 1 = nI ln := ⟨h.1, h.2.1, h.2.2.1, h.2.2.2.1⟩
theorem mR_W0 {lo ln : Nat} {fo fn O Z : Nat → Int32} (h : mR lo ln fo fn O Z) {p n : Nat} (hp : p + n ≤ lo) : su_W O p n = su_W fo p n ∧ su_S O p n = su_S fo p n :=
  ⟨su_W_congr (fun j hj => h.2.2.2.2.1 _ (by omega)), su_S_congr p n (fun j hj => h.2.2.2.2.1 _ (by omega))⟩
theorem mR_W1 {lo ln : Nat} {fo fn O Z : Nat → Int32} (h : mR lo ln fo fn O Z) {p n : Nat} (hp : p + n ≤ ln) : su_W (fun j => O (1200 + j)) p n = su_W fn p n ∧ su_S (fun j => O (1200 + j)) p n = su_S fn p n :=
  ⟨su_W_congr (fun j hj => h.2.2.2.2.2 _ (by omega)), su_S_congr p n (fun j hj => h.2.2.2.2.2 _ (by omega))⟩
theorem upd_01 {f : Nat → Int32} {v : Int32} : upd f 0 v 0 = v ∧ upd f 0 v 1 = f 1 ∧ upd f 1 v 1 = v ∧ upd f 1 v 0 = f 0 := ⟨pk_us, pk_un (by decide), pk_us, pk_un (by decide)⟩
theorem rz_at {f : Nat → Int32} {n k j : Nat} : rz f n k j = if n ≤ j ∧ j < k then 0 else f j := rfl
theorem e_size_ok {x : Int32} {k : Nat} (hx : rok x) (hk : k ≤ 1200) : e_size x (nI k) = 0 := by
  unfold e_size
  refine if_pos ⟨hx, fun h => ?_⟩
  rcases h with h | h
  · exact nI_pos (by omega) h
  · exact absurd ((nI_ltI (by omega) (by omega)).mp h) (by omega)
theorem n_size_0 {k lo ln : Nat} {fo fn : Nat → Int32} (hk : k ≤ 1200) : n_size 0 (nI k) (lo, fo, ln, fn) = (k, rz fo lo k, ln, fn) := by
  unfold n_size
  rw [if_pos (e_size_ok (Or.inl rfl) hk), if_pos rfl, nI_clamp (by omega)]
theorem n_size_1 {k lo ln : Nat} {fo fn : Nat → Int32} (hk : k ≤ 1200) : n_size (nI 1) (nI k) (lo, fo, ln, fn) = (lo, fo, k, rz fn ln k) := by
  unfold n_size
  rw [if_pos (e_size_ok (Or.inr rfl) hk), if_neg (by decide), nI_clamp (by omega)]
theorem n_size_x {x y : Int32} {t : rw_T} (h : ¬ (rok x ∧ ¬ (y < 0 ∨ nI 1200 < y))) : n_size x y t = t ∧ e_size x y = 1 := by
  have e : e_size x y = 1 := if_neg h
  refine ⟨?_, e⟩
  unfold n_size
  rw [if_neg (by rw [e]; decide)]
theorem mQ_size0 {k lo ln : Nat} {fo fn O Z : Nat → Int32} (hk : k ≤ 1200) (h : mR lo ln fo fn O Z) : mQ (n_size 0 (nI k) (lo, fo, ln, fn)) (rz O lo k) (upd Z 0 (nI k)) := by
  rw [n_size_0 hk]
  obtain ⟨h1, h2, h3, h4, h5, h6⟩ := h
  refine ⟨hk, h2, pk_us, (pk_un (by decide)).trans h4, fun j hj => ?_, fun j hj => ?_⟩
  · show rz O lo k j = rz fo lo k j
    rw [rz_at, rz_at]
    by_cases e : lo ≤ j ∧ j < k
    · rw [if_pos e, if_pos e]
    · rw [if_neg e, if_neg e, h5 j (by have : j < k := hj; omega)]
  · rw [rz_at, if_neg (by omega)]
    exact h6 j hj
theorem mQ_size1 {k lo ln : Nat} {fo fn O Z : Nat → Int32} (hk : k ≤ 1200) (h : mR lo ln fo fn O Z) : mQ (n_size (nI 1) (nI k) (lo, fo, ln, fn)) (rz O (1200 + ln) (1200 + k)) (upd Z 1 (nI k)) := by
  rw [n_size_1 hk]
  obtain ⟨h1, h2, h3, h4, h5, h6⟩ := h
  refine ⟨h1, hk, (pk_un (by decide)).trans h3, pk_us, fun j hj => ?_, fun j hj => ?_⟩
  · rw [rz_at, if_neg (by have : j < lo := hj; omega)]
    exact h5 j hj
  · rw [rz_at]
    have hj : j < k := hj
    show _ = rz fn ln k j
    rw [rz_at]
    by_cases e : ln ≤ j
    · rw [if_pos (by omega), if_pos (by omega)]
    · rw [if_neg (by omega), if_neg (by omega), h6 j (by omega)]
/-- put -/
theorem iok_of {q n : Nat} (h : q < n) (hn : n ≤ 1200) : iok (nI q) n := fun z => by
  rcases z with z | z
  · exact nI_pos (by omega) z
  · exact absurd ((nI_leI (by omega) (by omega)).mp z) (by omega)
theorem gok_of {p k n : Nat} (h : p + k ≤ n) (hn : n ≤ 1200) : gok (nI p) (nI k) n := fun z => by
  rcases z with z | z | z
  · exact nI_pos (by omega) z
  · exact nI_pos (by omega) z
  · exact absurd ((sub_lt_big hn (by omega) (by omega)).mp z) (by omega)
theorem e_put_r {x y : Int32} {lo ln : Nat} (h : ¬ rok x) : e_put x y lo ln = 1 := if_neg h
theorem e_put_x {x y : Int32} {lo ln : Nat} (h : rok x) (h2 : ¬ iok y (rsel x lo ln)) : e_put x y lo ln = 2 := by
  unfold e_put
  rw [if_pos h, if_neg h2]
theorem e_put_ok {x y : Int32} {lo ln : Nat} (h : rok x) (h2 : iok y (rsel x lo ln)) : e_put x y lo ln = 0 := by
  unfold e_put
  rw [if_pos h, if_pos h2]
theorem n_put_x {x y : Int32} {v : Int64} {t : rw_T} (h : ¬ e_put x y t.1 t.2.2.1 = 0) : n_put x y v t = t := if_neg h
theorem n_put_0 {q lo ln : Nat} {fo fn : Nat → Int32} {v : Int64} (hl : lo ≤ 1200) (hq : q < lo) : n_put 0 (nI q) v (lo, fo, ln, fn) = (lo, wr fo q v (min 8 (lo - q)), ln, fn) := by
  unfold n_put
  rw [if_pos (e_put_ok (Or.inl rfl) (by rw [rsel_0]; exact iok_of hq hl)), if_pos rfl, nI_clamp (by omega)]
theorem n_put_1 {q lo ln : Nat} {fo fn : Nat → Int32} {v : Int64} (hl : ln ≤ 1200) (hq : q < ln) : n_put (nI 1) (nI q) v (lo, fo, ln, fn) = (lo, fo, ln, wr fn q v (min 8 (ln - q))) := by
  unfold n_put
  rw [if_pos (e_put_ok (Or.inr rfl) (by rw [rsel_1]; exact iok_of hq hl)), if_neg (by decide), nI_clamp (by omega)]
theorem wr_at {f : Nat → Int32} {q i j : Nat} {v : Int64} : wr f q v i j = if q ≤ j ∧ j < q + i then ds_oct v (j - q) else f j := rfl
theorem mQ_put0 {q lo ln : Nat} {fo fn O Z : Nat → Int32} {v : Int64} (hq : q < lo) (h : mR lo ln fo fn O Z) : mQ (n_put 0 (nI q) v (lo, fo, ln, fn)) (wr O q v (min 8 (lo - q))) Z := by
  obtain ⟨h1, h2, h3, h4, h5, h6⟩ := h
  rw [n_put_0 h1 hq]
  refine ⟨h1, h2, h3, h4, fun j hj => ?_, fun j hj => ?_⟩
  · have hj : j < lo := hj
    show wr O q v (min 8 (lo - q)) j = wr fo q v (min 8 (lo - q)) j
    rw [wr_at, wr_at, h5 j hj]
  · rw [wr_at, if_neg (by omega)]
    exact h6 j hj
theorem mQ_put1 {q lo ln : Nat} {fo fn O Z : Nat → Int32} {v : Int64} (hq : q < ln) (h : mR lo ln fo fn O Z) : mQ (n_put (nI 1) (nI q) v (lo, fo, ln, fn)) (wr O (1200 + q) v (min 8 (ln - q))) Z := by
  obtain ⟨h1, h2, h3, h4, h5, h6⟩ := h
  rw [n_put_1 h2 hq]
  refine ⟨h1, h2, h3, h4, fun j hj => ?_, fun j hj => ?_⟩
  · have hj : j < lo := hj
    show wr O (1200 + q) v (min 8 (ln - q)) j = fo j
    rw [wr_at, if_neg (by omega)]
    exact h5 j hj
  · have hj : j < ln := hj
    show wr O (1200 + q) v (min 8 (ln - q)) (1200 + j) = wr fn q v (min 8 (ln - q)) j
    rw [wr_at, wr_at, h6 j hj]
    by_cases e : q ≤ j ∧ j < q + min 8 (ln - q)
    · rw [if_pos e, if_pos (by omega), show 1200 + j - (1200 + q) = j - q by omega]
    · rw [if_neg e, if_neg (by omega)]
/-- sums and octets -/
theorem e_sum_r {x y z : Int32} {lo ln : Nat} (h : ¬ rok x) : e_sum x y z lo ln = 1 := if_neg h
theorem e_sum_x {x y z : Int32} {lo ln : Nat} (h : rok x) (h2 : ¬ gok y z (rsel x lo ln)) : e_sum x y z lo ln = 2 := by
  unfold e_sum
  rw [if_pos h, if_neg h2]
theorem e_sum_ok {x y z : Int32} {lo ln : Nat} (h : rok x) (h2 : gok y z (rsel x lo ln)) : e_sum x y z lo ln = 0 := by
  unfold e_sum
  rw [if_pos h, if_pos h2]
theorem v_octet_0 {q lo ln : Nat} {fo fn : Nat → Int32} (hq : q < 1200) : v_octet 0 (nI q) (lo, fo, ln, fn) = fo q := by
  unfold v_octet
  rw [rsel_0, nI_clamp (by omega)]
theorem v_octet_1 {q lo ln : Nat} {fo fn : Nat → Int32} (hq : q < 1200) : v_octet (nI 1) (nI q) (lo, fo, ln, fn) = fn q := by
  unfold v_octet
  rw [rsel_1, nI_clamp (by omega)]
theorem v_weak_0 {p k lo ln : Nat} {fo fn : Nat → Int32} (hq : p + k ≤ 1200) : v_weak 0 (nI p) (nI k) (lo, fo, ln, fn) = su_W fo p k := by
  unfold v_weak
  rw [rsel_0, nI_clamp (by omega), nI_clamp (by omega)]
theorem v_weak_1 {p k lo ln : Nat} {fo fn : Nat → Int32} (hq : p + k ≤ 1200) : v_weak (nI 1) (nI p) (nI k) (lo, fo, ln, fn) = su_W fn p k := by
  unfold v_weak
  rw [rsel_1, nI_clamp (by omega), nI_clamp (by omega)]
theorem v_strong_0 {p k lo ln : Nat} {fo fn : Nat → Int32} (hq : p + k ≤ 1200) : v_strong 0 (nI p) (nI k) (lo, fo, ln, fn) = su_S fo p k := by
  unfold v_strong
  rw [rsel_0, nI_clamp (by omega), nI_clamp (by omega)]
theorem v_strong_1 {p k lo ln : Nat} {fo fn : Nat → Int32} (hq : p + k ≤ 1200) : v_strong (nI 1) (nI p) (nI k) (lo, fo, ln, fn) = su_S fn p k := by
  unfold v_strong
  rw [rsel_1, nI_clamp (by omega), nI_clamp (by omega)]
/-- find, token, count -/
theorem e_find_b {x y z w : Int32} {lo : Nat} (h : ¬ bok x y) : e_find x y z w lo = 1 := if_neg h
theorem e_find_x {s b lo : Nat} {z w : Int32} (h : bok (nI s) (nI b)) (hs : s ≤ 256) (h2 : z < 0 ∨ nI (bn lo s) ≤ z ∨ w < 0) : e_find (nI s) (nI b) z w lo = 2 := by
  unfold e_find
  rw [if_pos h, nI_clamp (by omega), if_neg (fun q => q h2)]
theorem e_find_ok {s b lo : Nat} {z w : Int32} (h : bok (nI s) (nI b)) (hs : s ≤ 256) (h2 : ¬ (z < 0 ∨ nI (bn lo s) ≤ z ∨ w < 0)) : e_find (nI s) (nI b) z w lo = 0 := by
  unfold e_find
  rw [if_pos h, nI_clamp (by omega), if_pos h2]
theorem bok_of {s b : Nat} (h1 : 4 ≤ s) (h2 : s ≤ 256) (h3 : b ≤ 64) : bok (nI s) (nI b) := fun z => by
  rcases z with z | z | z | z
  · exact absurd ((nI_ltI (by omega) (by omega)).mp z) (by omega)
  · exact absurd ((nI_ltI (by omega) (by omega)).mp z) (by omega)
  · exact nI_pos (by omega) z
  · exact absurd ((nI_ltI (by omega) (by omega)).mp z) (by omega)
theorem wok_nat {y : Int32} (h : wok y) : y = 0 ∨ y = nI 1 ∨ y = nI 2 := by
  obtain ⟨q, hq, rfl⟩ := le_nat (n := 2) (by omega) h
  rcases (show q = 0 ∨ q = 1 ∨ q = 2 by omega) with rfl | rfl | rfl
  · exact Or.inl rfl
  · exact Or.inr (Or.inl rfl)
  · exact Or.inr (Or.inr rfl)
theorem e_token_w {x y : Int32} {c : Nat} (h : ¬ wok y) : e_token x y c = 1 := if_neg h
theorem e_token_x {x y : Int32} {c : Nat} (h : wok y) (h2 : ¬ iok x c) : e_token x y c = 2 := by
  unfold e_token
  rw [if_pos h, if_neg h2]
theorem e_token_ok {x y : Int32} {c : Nat} (h : wok y) (h2 : iok x c) : e_token x y c = 0 := by
  unfold e_token
  rw [if_pos h, if_pos h2]
theorem v_token_0 {q : Nat} {fk ff fl : Nat → Int32} (hq : q < 1200) : v_token (nI q) 0 fk ff fl = fk q := by
  unfold v_token
  rw [if_pos rfl, nI_clamp (by omega)]
theorem v_token_1 {q : Nat} {fk ff fl : Nat → Int32} (hq : q < 1200) : v_token (nI q) (nI 1) fk ff fl = ff q := by
  unfold v_token
  rw [if_neg (by decide), if_pos rfl, nI_clamp (by omega)]
theorem v_token_2 {q : Nat} {fk ff fl : Nat → Int32} (hq : q < 1200) : v_token (nI q) (nI 2) fk ff fl = fl q := by
  unfold v_token
  rw [if_neg (by decide), if_neg (by decide), nI_clamp (by omega)]
/-- move -/
theorem e_move_r {x y z v w : Int32} {lo ln : Nat} (h : ¬ (rok x ∧ rok z)) : e_move x y z v w lo ln = 1 := if_neg h
theorem e_move_x {x y z v w : Int32} {lo ln : Nat} (h : rok x ∧ rok z) (h2 : ¬ (gok y w (rsel x lo ln) ∧ gok v w (rsel z lo ln))) : e_move x y z v w lo ln = 2 := by
  unfold e_move
  rw [if_pos h, if_neg h2]
theorem e_move_ok {x y z v w : Int32} {lo ln : Nat} (h : rok x ∧ rok z) (h2 : gok y w (rsel x lo ln) ∧ gok v w (rsel z lo ln)) : e_move x y z v w lo ln = 0 := by
  unfold e_move
  rw [if_pos h, if_pos h2]
theorem n_move_x {x y z v w : Int32} {t : rw_T} (h : ¬ e_move x y z v w t.1 t.2.2.1 = 0) : n_move x y z v w t = t := if_neg h
theorem v_count_0 {lo ln c : Nat} : v_count 0 lo ln c = nI lo := if_pos rfl
theorem v_count_1 {lo ln c : Nat} : v_count (nI 1) lo ln c = nI ln := (if_neg (by decide)).trans (if_pos rfl)
theorem v_count_2 {lo ln c : Nat} : v_count (nI 2) lo ln c = nI c := (if_neg (by decide)).trans (if_neg (by decide))
theorem wok_of {k : Nat} (h : k ≤ 2) : wok (nI k) := fun z => by
  rcases z with z | z
  · exact nI_pos (by omega) z
  · exact absurd ((nI_ltI (by omega) (by omega)).mp z) (by omega)
theorem find_nat {z w : Int32} {m : Nat} (hm : m ≤ 300) (h : ¬ (z < 0 ∨ nI m ≤ z ∨ w < 0)) : ∃ k p, k < m ∧ p < 2 ^ 31 ∧ z = nI k ∧ w = nI p := by
  obtain ⟨k, hk, rfl⟩ := iok_nat (y := z) (n := m) (by omega) (fun q => h (q.elim Or.inl (fun q => Or.inr (Or.inl q))))
  obtain ⟨p, hp, rfl⟩ := nI_of (x := w) (fun q => h (Or.inr (Or.inr q)))
  exact ⟨k, p, hk, hp, rfl, rfl⟩
theorem cpy_s {f g : Nat → Int32} {sp dp i : Nat} : va_cpy f g sp dp (i + 1) = upd (va_cpy f g sp dp i) (dp + i) (f (sp + i)) := by
  funext j
  show (if dp ≤ j ∧ j < dp + (i + 1) then f (sp + (j - dp)) else g j) = if j = dp + i then f (sp + i) else (if dp ≤ j ∧ j < dp + i then f (sp + (j - dp)) else g j)
  by_cases e : j = dp + i
  · rw [if_pos (by omega), if_pos e, show j - dp = i by omega]
  · rw [if_neg e]
    by_cases e2 : dp ≤ j ∧ j < dp + i
    · rw [if_pos e2, if_pos (by omega)]
    · rw [if_neg e2, if_neg (by omega)]
theorem cpy_0 {f g : Nat → Int32} {sp dp : Nat} : va_cpy f g sp dp 0 = g := by
  funext j
  exact pk_cpy_out (by omega)
/-- through the row between -/
theorem mv_two {O M : Nat → Int32} {a b m j : Nat} : va_cpy (va_cpy O M a 0 m) O 0 b m j = if b ≤ j ∧ j < b + m then O (a + (j - b)) else O j := by
  by_cases e : b ≤ j ∧ j < b + m
  · rw [if_pos e, pk_cpy_in e.1 e.2, pk_cpy_in (by omega) (by omega), Nat.zero_add, Nat.sub_zero]
  · rw [if_neg e, pk_cpy_out (by omega)]
theorem n_move_ok0 {x : Int32} {p q m lo ln : Nat} {fo fn : Nat → Int32} (hl : lo ≤ 1200) (hn : ln ≤ 1200) (hx : rok x) (h1 : p + m ≤ rsel x lo ln) (h2 : q + m ≤ lo) :
    n_move x (nI p) 0 (nI q) (nI m) (lo, fo, ln, fn) = (lo, va_cpy (rsel x fo fn) fo p q m, ln, fn) ∧ e_move x (nI p) 0 (nI q) (nI m) lo ln = 0 := by
  have hs : rsel x lo ln ≤ 1200 := by
    rcases hx with rfl | rfl
    · rw [rsel_0]
      exact hl
    · rw [rsel_1]
      exact hn
  have e : e_move x (nI p) 0 (nI q) (nI m) lo ln = 0 := e_move_ok ⟨hx, Or.inl rfl⟩ ⟨gok_of h1 hs, by rw [rsel_0]; exact gok_of h2 hl⟩
  refine ⟨?_, e⟩
  unfold n_move
  rw [if_pos e, if_pos rfl, nI_clamp (by omega), nI_clamp (by omega), nI_clamp (by omega)]
theorem n_move_ok1 {x : Int32} {p q m lo ln : Nat} {fo fn : Nat → Int32} (hl : lo ≤ 1200) (hn : ln ≤ 1200) (hx : rok x) (h1 : p + m ≤ rsel x lo ln) (h2 : q + m ≤ ln) :
    n_move x (nI p) (nI 1) (nI q) (nI m) (lo, fo, ln, fn) = (lo, fo, ln, va_cpy (rsel x fo fn) fn p q m) ∧ e_move x (nI p) (nI 1) (nI q) (nI m) lo ln = 0 := by
  have hs : rsel x lo ln ≤ 1200 := by
    rcases hx with rfl | rfl
    · rw [rsel_0]
      exact hl
    · rw [rsel_1]
      exact hn
  have e : e_move x (nI p) (nI 1) (nI q) (nI m) lo ln = 0 := e_move_ok ⟨hx, Or.inr rfl⟩ ⟨gok_of h1 hs, by rw [rsel_1]; exact gok_of h2 hn⟩
  refine ⟨?_, e⟩
  unfold n_move
  rw [if_pos e, if_neg (by decide), nI_clamp (by omega), nI_clamp (by omega), nI_clamp (by omega)]
theorem mQ_move00 {p q m lo ln : Nat} {fo fn O M Z : Nat → Int32} (h1 : p + m ≤ lo) (h2 : q + m ≤ lo) (h : mR lo ln fo fn O Z) : mQ (n_move 0 (nI p) 0 (nI q) (nI m) (lo, fo, ln, fn)) (va_cpy (va_cpy O M p 0 m) O 0 q m) Z := by
  obtain ⟨g1, g2, g3, g4, g5, g6⟩ := h
  rw [(n_move_ok0 (x := 0) g1 g2 (Or.inl rfl) (by rw [rsel_0]; exact h1) h2).1, rsel_0]
  refine ⟨g1, g2, g3, g4, fun j hj => ?_, fun j hj => ?_⟩
  · have hj : j < lo := hj
    rw [mv_two]
    show _ = va_cpy fo fo p q m j
    by_cases e : q ≤ j ∧ j < q + m
    · rw [if_pos e, pk_cpy_in e.1 e.2, g5 _ (by omega)]
    · rw [if_neg e, pk_cpy_out (by omega), g5 j hj]
  · rw [mv_two, if_neg (by omega)]
    exact g6 j hj
theorem mQ_move10 {p q m lo ln : Nat} {fo fn O M Z : Nat → Int32} (h1 : p + m ≤ ln) (h2 : q + m ≤ lo) (h : mR lo ln fo fn O Z) : mQ (n_move (nI 1) (nI p) 0 (nI q) (nI m) (lo, fo, ln, fn)) (va_cpy (va_cpy O M (1200 + p) 0 m) O 0 q m) Z := by
  obtain ⟨g1, g2, g3, g4, g5, g6⟩ := h
  rw [(n_move_ok0 (x := nI 1) g1 g2 (Or.inr rfl) (by rw [rsel_1]; exact h1) h2).1, rsel_1]
  refine ⟨g1, g2, g3, g4, fun j hj => ?_, fun j hj => ?_⟩
  · have hj : j < lo := hj
    rw [mv_two]
    show _ = va_cpy fn fo p q m j
    by_cases e : q ≤ j ∧ j < q + m
    · rw [if_pos e, pk_cpy_in e.1 e.2, Nat.add_assoc, g6 _ (by omega)]
    · rw [if_neg e, pk_cpy_out (by omega), g5 j hj]
  · rw [mv_two, if_neg (by omega)]
    exact g6 j hj
theorem mQ_move01 {p q m lo ln : Nat} {fo fn O M Z : Nat → Int32} (h1 : p + m ≤ lo) (h2 : q + m ≤ ln) (h : mR lo ln fo fn O Z) : mQ (n_move 0 (nI p) (nI 1) (nI q) (nI m) (lo, fo, ln, fn)) (va_cpy (va_cpy O M p 0 m) O 0 (1200 + q) m) Z := by
  obtain ⟨g1, g2, g3, g4, g5, g6⟩ := h
  rw [(n_move_ok1 (x := 0) g1 g2 (Or.inl rfl) (by rw [rsel_0]; exact h1) h2).1, rsel_0]
  refine ⟨g1, g2, g3, g4, fun j hj => ?_, fun j hj => ?_⟩
  · have hj : j < lo := hj
    rw [mv_two, if_neg (by omega)]
    exact g5 j hj
  · have hj : j < ln := hj
    rw [mv_two]
    show _ = va_cpy fo fn p q m j
    by_cases e : q ≤ j ∧ j < q + m
    · rw [if_pos (by omega), pk_cpy_in e.1 e.2, show 1200 + j - (1200 + q) = j - q by omega, g5 _ (by omega)]
    · rw [if_neg (by omega), pk_cpy_out (by omega), g6 j hj]
theorem mQ_move11 {p q m lo ln : Nat} {fo fn O M Z : Nat → Int32} (h1 : p + m ≤ ln) (h2 : q + m ≤ ln) (h : mR lo ln fo fn O Z) : mQ (n_move (nI 1) (nI p) (nI 1) (nI q) (nI m) (lo, fo, ln, fn)) (va_cpy (va_cpy O M (1200 + p) 0 m) O 0 (1200 + q) m) Z := by
  obtain ⟨g1, g2, g3, g4, g5, g6⟩ := h
  rw [(n_move_ok1 (x := nI 1) g1 g2 (Or.inr rfl) (by rw [rsel_1]; exact h1) h2).1, rsel_1]
  refine ⟨g1, g2, g3, g4, fun j hj => ?_, fun j hj => ?_⟩
  · have hj : j < lo := hj
    rw [mv_two, if_neg (by omega)]
    exact g5 j hj
  · have hj : j < ln := hj
    rw [mv_two]
    show _ = va_cpy fn fn p q m j
    by_cases e : q ≤ j ∧ j < q + m
    · rw [if_pos (by omega), pk_cpy_in e.1 e.2, show 1200 + j - (1200 + q) = j - q by omega, Nat.add_assoc, g6 _ (by omega)]
    · rw [if_neg (by omega), pk_cpy_out (by omega), g6 j hj]
