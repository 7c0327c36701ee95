/-! ===== targets ===== -/
theorem mul_bd {a b A B : Int} (ha : 0 ≤ a) (hA : a ≤ A) (hb : 0 ≤ b) (hB : b ≤ B) : 0 ≤ a * b ∧ a * b ≤ A * B :=
  ⟨Int.mul_nonneg ha hb, Int.mul_le_mul hA hB hb (by omega)⟩
/-- going down from n to the first that does, 1 at the least -/
def kdN (P : Int → Bool) : Nat → Int
  | 0 => 1
  | n + 1 => if n = 0 then 1 else if P ((n : Int) + 1) = true then (n : Int) + 1 else kdN P n
theorem kdN_eq (P : Int → Bool) : ∀ (n : Nat) {g : Int}, 1 ≤ n → 1 ≤ g → g ≤ (n : Int) → (g = 1 ∨ P g = true) → (∀ t, g + 1 ≤ t → t ≤ (n : Int) → ¬ P t = true) → kdN P n = g
  | 0, g, h, _, _, _, _ => by omega
  | n + 1, g, _, h1, h2, h3, h4 => by
    rw [kdN]
    by_cases h : n = 0
    · rw [if_pos h]; omega
    · rw [if_neg h]
      by_cases q : P ((n : Int) + 1) = true
      · rw [if_pos q]
        by_cases e : g = (n : Int) + 1
        · exact e.symm
        · exact absurd q (h4 _ (by omega) (by omega))
      · rw [if_neg q]
        refine kdN_eq P n (by omega) h1 ?_ h3 (fun t a b => h4 t a (by omega))
        rcases h3 with a | a
        · omega
        · by_cases e : g = (n : Int) + 1
          · rw [e] at a; exact absurd a q
          · omega
/-- keeping the odds -/
def KP (cs mp : Int → Int) (u k v kept runs : Int) : Int → Bool := fun t => decide (WN cs mp u.toNat v (kept - runs) ≤ WN cs mp (u - k).toNat v (t - runs) * (10 : Int) ^ k.toNat)
def KO (cs mp : Int → Int) (u k v kept runs : Int) : Int := kdN (KP cs mp u k v kept runs) kept.toNat
theorem KP_anti {cs mp : Int → Int} (hM : MoodOK cs mp) {u k v kept runs t w : Int} (h : t ≤ w) (hw : KP cs mp u k v kept runs w = true) : KP cs mp u k v kept runs t = true := by
  unfold KP at hw ⊢
  have h1 := of_decide_eq_true hw
  refine decide_eq_true (Int.le_trans h1 (Int.mul_le_mul_of_nonneg_right (WN_mono hM _ _ (by omega)) (Int.le_of_lt (p10_pos _))))
theorem kdN_bd (P : Int → Bool) : ∀ n : Nat, 1 ≤ kdN P n ∧ (1 ≤ n → kdN P n ≤ (n : Int))
  | 0 => ⟨Int.le_refl _, fun h => absurd h (by decide)⟩
  | n + 1 => by
    have h := kdN_bd P n
    rw [kdN]
    split
    · exact ⟨by omega, fun _ => by omega⟩
    · split
      · exact ⟨by omega, fun _ => by omega⟩
      · exact ⟨h.1, fun _ => by have := h.2 (by omega); omega⟩
/-- the bend: how far above par -/
def bh (tot pr be : Int) : Int := if 0 < (if tot - pr < be then tot - pr else be) then (if tot - pr < be then tot - pr else be) else 0
def BS (cs mp : Int → Int) (ov mn pr be tot u v : Int) : Int := (SP cs mp ov mn u v * (be - bh tot pr be) + (1000 * u / ov) * bh tot pr be) / be
theorem bh_bd {tot pr be : Int} (h : 1 ≤ be) : 0 ≤ bh tot pr be ∧ bh tot pr be ≤ be := by unfold bh; split <;> split <;> omega
theorem BS_bd {cs mp : Int → Int} (hM : MoodOK cs mp) {ov mn pr be tot u v : Int} (h : 1 ≤ be) (hu : 0 ≤ u) (huo : u ≤ ov) (ho : 1 ≤ ov) (hv : v ≤ mn) : 0 ≤ BS cs mp ov mn pr be tot u v ∧ BS cs mp ov mn pr be tot u v ≤ 1000 := by
  have hs := SP_bd hM (ov := ov) (mn := mn) hu huo hv
  have hb := bh_bd (tot := tot) (pr := pr) h
  have hd0 : 0 ≤ 1000 * u / ov := Int.ediv_nonneg (by omega) (by omega)
  have hd1 : 1000 * u / ov ≤ 1000 := by
    have := Int.ediv_le_ediv (show 0 < ov by omega) (show 1000 * u ≤ 1000 * ov by omega)
    rw [Int.mul_ediv_cancel _ (by omega)] at this; exact this
  have a := mul_bd hs.1 hs.2 (show 0 ≤ be - bh tot pr be by omega) (Int.le_refl _)
  have b := mul_bd hd0 hd1 hb.1 (Int.le_refl _)
  unfold BS
  constructor
  · exact Int.ediv_nonneg (by omega) (by omega)
  · have : SP cs mp ov mn u v * (be - bh tot pr be) + (1000 * u / ov) * bh tot pr be ≤ 1000 * be := by omega
    have := Int.ediv_le_ediv (show 0 < be by omega) this
    rw [Int.mul_ediv_cancel _ (by omega)] at this; exact this
/-- at least 1 -/
def al1 (x : Int) : Int := if x < 1 then 1 else x
