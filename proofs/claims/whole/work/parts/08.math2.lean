/-! ===== the memo of chances, what is left to spend ===== -/
def chI (u v n : Int) : Int := (v - 1) * 2808 + (36 * u * (u - 1)) / 2 + n - 1
def MemoOK (cs mp ch : Int → Int) : Prop := ∀ (k : Nat) (v n : Int), 1 ≤ k → k ≤ 12 → 1 ≤ v → v ≤ 10 → 1 ≤ n → n ≤ 36 * (k : Int) → ch (chI (k : Int) v n) = 0 ∨ ch (chI (k : Int) v n) = WN cs mp k v n + 1
theorem tri_bd {k : Int} (h : 1 ≤ k) (h2 : k ≤ 12) : 0 ≤ 36 * k * (k - 1) ∧ 36 * k * (k - 1) ≤ 4752 ∧ 0 ≤ (36 * k * (k - 1)) / 2 ∧ (36 * k * (k - 1)) / 2 + 36 * k ≤ 2808 := by
  have : k = 1 ∨ k = 2 ∨ k = 3 ∨ k = 4 ∨ k = 5 ∨ k = 6 ∨ k = 7 ∨ k = 8 ∨ k = 9 ∨ k = 10 ∨ k = 11 ∨ k = 12 := by omega
  rcases this with rfl | rfl | rfl | rfl | rfl | rfl | rfl | rfl | rfl | rfl | rfl | rfl <;> decide
theorem tri_lt {k j : Int} (h : 1 ≤ k) (hj : k < j) (h2 : j ≤ 12) : (36 * k * (k - 1)) / 2 + 36 * k ≤ (36 * j * (j - 1)) / 2 := by
  have a : k = 1 ∨ k = 2 ∨ k = 3 ∨ k = 4 ∨ k = 5 ∨ k = 6 ∨ k = 7 ∨ k = 8 ∨ k = 9 ∨ k = 10 ∨ k = 11 := by omega
  have b : j = 2 ∨ j = 3 ∨ j = 4 ∨ j = 5 ∨ j = 6 ∨ j = 7 ∨ j = 8 ∨ j = 9 ∨ j = 10 ∨ j = 11 ∨ j = 12 := by omega
  rcases a with rfl | rfl | rfl | rfl | rfl | rfl | rfl | rfl | rfl | rfl | rfl <;> rcases b with rfl | rfl | rfl | rfl | rfl | rfl | rfl | rfl | rfl | rfl | rfl <;> first | decide | (exfalso; omega)
theorem chI_bd {k v n : Int} (h : 1 ≤ k) (h2 : k ≤ 12) (hv : 1 ≤ v) (hv2 : v ≤ 10) (hn : 1 ≤ n) (hn2 : n ≤ 36 * k) : 0 ≤ chI k v n ∧ chI k v n < 28080 := by
  have := tri_bd h h2
  unfold chI; omega
theorem chI_inj {k v n j w q : Int} (h : 1 ≤ k) (h2 : k ≤ 12) (hv : 1 ≤ v) (hv2 : v ≤ 10) (hn : 1 ≤ n) (hn2 : n ≤ 36 * k) (g : 1 ≤ j) (g2 : j ≤ 12) (gv : 1 ≤ w) (gv2 : w ≤ 10) (gn : 1 ≤ q) (gn2 : q ≤ 36 * j) (e : chI k v n = chI j w q) : k = j ∧ v = w ∧ n = q := by
  have t1 := tri_bd h h2
  have t2 := tri_bd g g2
  unfold chI at e
  have hvw : v = w := by omega
  have hkj : k = j := by
    rcases Int.lt_trichotomy k j with a | a | a
    · have := tri_lt h a g2; omega
    · exact a
    · have := tri_lt g a h2; omega
  subst hkj
  exact ⟨rfl, hvw, by omega⟩
theorem MemoOK.put {cs mp ch : Int → Int} (hM : MemoOK cs mp ch) {k : Nat} {v n : Int} (h : 1 ≤ k) (h2 : k ≤ 12) (hv : 1 ≤ v) (hv2 : v ≤ 10) (hn : 1 ≤ n) (hn2 : n ≤ 36 * (k : Int)) : MemoOK cs mp (uZ ch (chI (k : Int) v n) (WN cs mp k v n + 1)) := by
  intro j w q g g2 gv gv2 gn gn2
  by_cases e : chI (j : Int) w q = chI (k : Int) v n
  · obtain ⟨a, b, d⟩ := chI_inj (by omega) (by omega) gv gv2 gn gn2 (by omega) (by omega) hv hv2 hn hn2 e
    have a' : j = k := by omega
    subst a'; subst b; subst d
    rw [uZ_s]; exact Or.inr rfl
  · rw [uZ_n _ _ e]; exact hM j w q g g2 gv gv2 gn gn2
theorem MemoOK.zero {cs mp ch : Int → Int} (h : ∀ i, 0 ≤ i → i < 28080 → ch i = 0) : MemoOK cs mp ch := fun k v n a b d f g i => Or.inl (by
  have := chI_bd (k := (k : Int)) (by omega) (by omega) d f g i
  exact h _ this.1 this.2)
/-- the table of means -/
def MeanOK (cs mp me : Int → Int) : Prop := ∀ (k : Nat) (v : Int), k ≤ 12 → 0 ≤ v → v ≤ 10 → me ((k : Int) * 11 + v) = MK cs mp k v
theorem MeanOK.at {cs mp me : Int → Int} (h : MeanOK cs mp me) {u v : Int} (h0 : 0 ≤ u) (h1 : u ≤ 12) (hv : 0 ≤ v) (hv2 : v ≤ 10) : me (u * 11 + v) = MK cs mp u.toNat v := by
  have := h u.toNat v (by omega) hv hv2
  rw [Int.toNat_of_nonneg h0] at this; exact this
/-- SPEND -/
def SP (cs mp : Int → Int) (ov mn u v : Int) : Int := if 0 < MK cs mp ov.toNat mn then (1000 * (MK cs mp u.toNat v * (10 : Int) ^ (ov - u).toNat)) / MK cs mp ov.toNat mn else 0
theorem MK_top {cs mp : Int → Int} (hM : MoodOK cs mp) (u : Nat) (v : Int) (hu : u ≤ 12) : MK cs mp u v ≤ 432000000000000 := by
  have h := MK_le hM u v
  have : u = 0 ∨ u = 1 ∨ u = 2 ∨ u = 3 ∨ u = 4 ∨ u = 5 ∨ u = 6 ∨ u = 7 ∨ u = 8 ∨ u = 9 ∨ u = 10 ∨ u = 11 ∨ u = 12 := by omega
  have b : 36 * (u : Int) * (10 : Int) ^ u ≤ 432000000000000 := by
    rcases this with rfl | rfl | rfl | rfl | rfl | rfl | rfl | rfl | rfl | rfl | rfl | rfl | rfl <;> decide
  exact Int.le_trans h b
theorem p10_le {u w : Nat} (h : u ≤ w) : (10 : Int) ^ u ≤ (10 : Int) ^ w := by
  obtain ⟨k, rfl⟩ := Nat.exists_eq_add_of_le h
  rw [Int.pow_add]
  have h1 := p10_pos u
  have h2 : 1 ≤ (10 : Int) ^ k := p10_pos k
  calc (10 : Int) ^ u = (10 : Int) ^ u * 1 := (Int.mul_one _).symm
    _ ≤ (10 : Int) ^ u * (10 : Int) ^ k := Int.mul_le_mul_of_nonneg_left h2 (Int.le_of_lt h1)
theorem MK_left {cs mp : Int → Int} (hM : MoodOK cs mp) {ov mn u v : Int} (hu : 0 ≤ u) (huo : u ≤ ov) (hv : v ≤ mn) : MK cs mp u.toNat v * (10 : Int) ^ (ov - u).toNat ≤ MK cs mp ov.toNat mn := by
  have h := MK_share hM u.toNat hv (ov - u).toNat
  rw [show u.toNat + (ov - u).toNat = ov.toNat by omega] at h
  exact h
theorem SP_bd {cs mp : Int → Int} (hM : MoodOK cs mp) {ov mn u v : Int} (hu : 0 ≤ u) (huo : u ≤ ov) (hv : v ≤ mn) : 0 ≤ SP cs mp ov mn u v ∧ SP cs mp ov mn u v ≤ 1000 := by
  unfold SP
  split
  · rename_i h
    have h1 := MK_left hM hu huo hv
    have h0 : 0 ≤ MK cs mp u.toNat v * (10 : Int) ^ (ov - u).toNat := mul_nn (MK_nn _ _) (Int.le_of_lt (p10_pos _))
    constructor
    · exact Int.ediv_nonneg (by omega) (Int.le_of_lt h)
    · have h2 : 1000 * (MK cs mp u.toNat v * (10 : Int) ^ (ov - u).toNat) ≤ 1000 * MK cs mp ov.toNat mn := by omega
      have h3 := Int.ediv_le_ediv h h2
      rw [Int.mul_ediv_cancel _ (by omega)] at h3
      exact h3
  · omega
/-- the least mood that does -/
def bmN (P : Int → Bool) : Nat → Int → Int
  | 0, _ => -1
  | n + 1, m => if P m = true then m else bmN P n (m + 1)
