theorem nOK_t {g : Int → Int} {len p lo hi : Int} (h : tkK g len p = 2 ∧ tkE g len p - tkS g len p ≤ 3 ∧ lo ≤ vlF g len p ∧ vlF g len p ≤ hi) : ¬ nOK g len p lo hi = false := by unfold nOK; rw [decide_eq_true h]; decide
theorem nOK_f {g : Int → Int} {len p lo hi : Int} (h : ¬ (tkK g len p = 2 ∧ tkE g len p - tkS g len p ≤ 3 ∧ lo ≤ vlF g len p ∧ vlF g len p ≤ hi)) : nOK g len p lo hi = false := decide_eq_false h
theorem mP_bd {g : Int → Int} {len p : Int} (h0 : 0 ≤ p) (h : p ≤ len) : ∀ i : Nat, 0 ≤ mP g len p i ∧ mP g len p i ≤ len
  | 0 => by have a := tkS_bd g h; have b := tkE_bd g h0 h; rw [mP]; omega
  | i + 1 => by
    have a := mP_bd (g := g) h0 h i
    have b1 := tkS_bd g a.2; have c1 := tkE_bd g a.1 a.2
    have b2 := tkS_bd g c1.2; have c2 := tkE_bd g (show 0 ≤ tkE g len (mP g len p i) by omega) c1.2
    have b3 := tkS_bd g c2.2; have c3 := tkE_bd g (show 0 ≤ tkE g len (tkE g len (mP g len p i)) by omega) c2.2
    rw [mP]; omega
/-- one case more, or the first that fails -/
theorem mdL_end (g : Int → Int) (len p l : Int) {i : Int} (h0 : 0 ≤ i) (h4 : i ≤ 4) (h : 4 ≤ i ∨ 10 ≤ mA g len p i.toNat) : mdL g len p (4 - i).toNat i.toNat l = (1, l, i) := by
  by_cases q : i = 4
  · subst q; rfl
  · rw [show (4 - i).toNat = (3 - i).toNat + 1 by omega, mdL, if_pos (by omega), Int.toNat_of_nonneg h0]
theorem mdL_f1 (g : Int → Int) (len p l : Int) {i : Int} (h0 : 0 ≤ i) (h4 : i < 4) (h : ¬ 10 ≤ mA g len p i.toNat) (h1 : nOK g len (mP g len p i.toNat) 0 36 = false) : mdL g len p (4 - i).toNat i.toNat l = (0, mP g len p i.toNat, i) := by
  rw [show (4 - i).toNat = (3 - i).toNat + 1 by omega, mdL, if_neg h, if_pos h1, Int.toNat_of_nonneg h0]
theorem mdL_f2 (g : Int → Int) (len p l : Int) {i : Int} (h0 : 0 ≤ i) (h4 : i < 4) (h : ¬ 10 ≤ mA g len p i.toNat) (h1 : ¬ nOK g len (mP g len p i.toNat) 0 36 = false) (h2 : nOK g len (tkE g len (mP g len p i.toNat)) 0 3 = false) : mdL g len p (4 - i).toNat i.toNat l = (0, tkE g len (mP g len p i.toNat), i) := by
  rw [show (4 - i).toNat = (3 - i).toNat + 1 by omega, mdL, if_neg h, if_neg h1, if_pos h2, Int.toNat_of_nonneg h0]
theorem mdL_f3 (g : Int → Int) (len p l : Int) {i : Int} (h0 : 0 ≤ i) (h4 : i < 4) (h : ¬ 10 ≤ mA g len p i.toNat) (h1 : ¬ nOK g len (mP g len p i.toNat) 0 36 = false) (h2 : ¬ nOK g len (tkE g len (mP g len p i.toNat)) 0 3 = false) (h3 : nOK g len (tkE g len (tkE g len (mP g len p i.toNat))) (if i = 3 then 10 - mA g len p i.toNat else 1) (10 - mA g len p i.toNat) = false) : mdL g len p (4 - i).toNat i.toNat l = (0, tkE g len (tkE g len (mP g len p i.toNat)), i) := by
  have e : (if i.toNat = 3 then 10 - mA g len p i.toNat else 1) = (if i = 3 then 10 - mA g len p i.toNat else 1) := by
    by_cases q : i = 3
    · rw [if_pos q, if_pos (by omega)]
    · rw [if_neg q, if_neg (by omega)]
  rw [show (4 - i).toNat = (3 - i).toNat + 1 by omega, mdL, if_neg h, if_neg h1, if_neg h2, e, if_pos h3, Int.toNat_of_nonneg h0]
theorem mdL_s (g : Int → Int) (len p l : Int) {i : Int} (h0 : 0 ≤ i) (h4 : i < 4) (h : ¬ 10 ≤ mA g len p i.toNat) (h1 : ¬ nOK g len (mP g len p i.toNat) 0 36 = false) (h2 : ¬ nOK g len (tkE g len (mP g len p i.toNat)) 0 3 = false) (h3 : ¬ nOK g len (tkE g len (tkE g len (mP g len p i.toNat))) (if i = 3 then 10 - mA g len p i.toNat else 1) (10 - mA g len p i.toNat) = false) : mdL g len p (4 - i).toNat i.toNat l = mdL g len p (4 - (i + 1)).toNat (i + 1).toNat (tkE g len (tkE g len (mP g len p i.toNat))) := by
  have e : (if i.toNat = 3 then 10 - mA g len p i.toNat else 1) = (if i = 3 then 10 - mA g len p i.toNat else 1) := by
    by_cases q : i = 3
    · rw [if_pos q, if_pos (by omega)]
    · rw [if_neg q, if_neg (by omega)]
  rw [show (4 - i).toNat = (4 - (i + 1)).toNat + 1 by omega, mdL, if_neg h, if_neg h1, if_neg h2, e, if_neg h3, toN_s h0]
theorem mP_s (g : Int → Int) (len p : Int) {i : Int} (h : 0 ≤ i) : mP g len p (i + 1).toNat = tkE g len (tkE g len (tkE g len (mP g len p i.toNat))) := by rw [toN_s h, mP]
theorem mA_s (g : Int → Int) (len p : Int) {i : Int} (h : 0 ≤ i) : mA g len p (i + 1).toNat = mA g len p i.toNat + vlF g len (tkE g len (tkE g len (mP g len p i.toNat))) := by rw [toN_s h, mA]
