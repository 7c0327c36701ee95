theorem tk_overs {g : Int → Int} (hg : ∀ k, 0 ≤ g k ∧ g k ≤ 255) {len p tk nu : Int} (hl : p ≤ len) (hR : TKR g len p tk nu) : tk = 8408791 ↔ tkK g len p = 1 ∧ tkE g len p - tkS g len p = 5 ∧ g (tkS g len p + 0) = 111 ∧ g (tkS g len p + 1) = 118 ∧ g (tkS g len p + 2) = 101 ∧ g (tkS g len p + 3) = 114 ∧ g (tkS g len p + 4) = 115 := by
  obtain ⟨r0, r1, r2, r3, r4⟩ := hR
  have hb' : 0 ≤ tkK g len p ∧ tkK g len p ≤ 4 := kdF_bd (atF g len (tkS g len p))
  have hd : tkK g len p = 0 ∨ tkK g len p = 1 ∨ tkK g len p = 2 ∨ tkK g len p = 3 ∨ tkK g len p = 4 := by omega
  rcases hd with q | q | q | q | q
  · have := r0 q; constructor <;> intro z <;> omega
  · have h := tk_all hl (Or.inl q)
    have hL : ∀ k : Nat, k < (tkE g len p - tkS g len p).toNat → 97 ≤ g (tkS g len p + (k : Int)) ∧ g (tkS g len p + (k : Int)) ≤ 122 := fun k z => (kd1 (hg _).1).mp (by rw [h.2.2 _ (by omega) (by omega), q])
    rw [r1 q]
    by_cases c : tkE g len p - tkS g len p ≤ 9
    · rw [if_pos c, wc_overs hL]
      constructor
      · rintro ⟨a, b⟩; exact ⟨q, by omega, b⟩
      · rintro ⟨_, a, b⟩; exact ⟨by omega, b⟩
    · rw [if_neg c]; constructor <;> intro z <;> omega
  · have r := r2 q
    constructor
    · intro z; split at r <;> omega
    · intro z; omega
  · have := r3 q; constructor <;> intro z <;> omega
  · have := r4 q; constructor <;> intro z <;> omega
theorem tk_men {g : Int → Int} (hg : ∀ k, 0 ≤ g k ∧ g k ≤ 255) {len p tk nu : Int} (hl : p ≤ len) (hR : TKR g len p tk nu) : tk = 9626 ↔ tkK g len p = 1 ∧ tkE g len p - tkS g len p = 3 ∧ g (tkS g len p + 0) = 109 ∧ g (tkS g len p + 1) = 101 ∧ g (tkS g len p + 2) = 110 := by
  obtain ⟨r0, r1, r2, r3, r4⟩ := hR
  have hb' : 0 ≤ tkK g len p ∧ tkK g len p ≤ 4 := kdF_bd (atF g len (tkS g len p))
  have hd : tkK g len p = 0 ∨ tkK g len p = 1 ∨ tkK g len p = 2 ∨ tkK g len p = 3 ∨ tkK g len p = 4 := by omega
  rcases hd with q | q | q | q | q
  · have := r0 q; constructor <;> intro z <;> omega
  · have h := tk_all hl (Or.inl q)
    have hL : ∀ k : Nat, k < (tkE g len p - tkS g len p).toNat → 97 ≤ g (tkS g len p + (k : Int)) ∧ g (tkS g len p + (k : Int)) ≤ 122 := fun k z => (kd1 (hg _).1).mp (by rw [h.2.2 _ (by omega) (by omega), q])
    rw [r1 q]
    by_cases c : tkE g len p - tkS g len p ≤ 9
    · rw [if_pos c, wc_men hL]
      constructor
      · rintro ⟨a, b⟩; exact ⟨q, by omega, b⟩
      · rintro ⟨_, a, b⟩; exact ⟨by omega, b⟩
    · rw [if_neg c]; constructor <;> intro z <;> omega
  · have r := r2 q
    constructor
    · intro z; split at r <;> omega
    · intro z; omega
  · have := r3 q; constructor <;> intro z <;> omega
  · have := r4 q; constructor <;> intro z <;> omega
theorem tk_mood {g : Int → Int} (hg : ∀ k, 0 ≤ g k ∧ g k ≤ 255) {len p tk nu : Int} (hl : p ≤ len) (hR : TKR g len p tk nu) : tk = 267223 ↔ tkK g len p = 1 ∧ tkE g len p - tkS g len p = 4 ∧ g (tkS g len p + 0) = 109 ∧ g (tkS g len p + 1) = 111 ∧ g (tkS g len p + 2) = 111 ∧ g (tkS g len p + 3) = 100 := by
  obtain ⟨r0, r1, r2, r3, r4⟩ := hR
  have hb' : 0 ≤ tkK g len p ∧ tkK g len p ≤ 4 := kdF_bd (atF g len (tkS g len p))
  have hd : tkK g len p = 0 ∨ tkK g len p = 1 ∨ tkK g len p = 2 ∨ tkK g len p = 3 ∨ tkK g len p = 4 := by omega
  rcases hd with q | q | q | q | q
  · have := r0 q; constructor <;> intro z <;> omega
  · have h := tk_all hl (Or.inl q)
    have hL : ∀ k : Nat, k < (tkE g len p - tkS g len p).toNat → 97 ≤ g (tkS g len p + (k : Int)) ∧ g (tkS g len p + (k : Int)) ≤ 122 := fun k z => (kd1 (hg _).1).mp (by rw [h.2.2 _ (by omega) (by omega), q])
    rw [r1 q]
    by_cases c : tkE g len p - tkS g len p ≤ 9
    · rw [if_pos c, wc_mood hL]
      constructor
      · rintro ⟨a, b⟩; exact ⟨q, by omega, b⟩
      · rintro ⟨_, a, b⟩; exact ⟨by omega, b⟩
    · rw [if_neg c]; constructor <;> intro z <;> omega
  · have r := r2 q
    constructor
    · intro z; split at r <;> omega
    · intro z; omega
  · have := r3 q; constructor <;> intro z <;> omega
  · have := r4 q; constructor <;> intro z <;> omega
theorem tk_par {g : Int → Int} (hg : ∀ k, 0 ≤ g k ∧ g k ≤ 255) {len p tk nu : Int} (hl : p ≤ len) (hR : TKR g len p tk nu) : tk = 11709 ↔ tkK g len p = 1 ∧ tkE g len p - tkS g len p = 3 ∧ g (tkS g len p + 0) = 112 ∧ g (tkS g len p + 1) = 97 ∧ g (tkS g len p + 2) = 114 := by
  obtain ⟨r0, r1, r2, r3, r4⟩ := hR
  have hb' : 0 ≤ tkK g len p ∧ tkK g len p ≤ 4 := kdF_bd (atF g len (tkS g len p))
  have hd : tkK g len p = 0 ∨ tkK g len p = 1 ∨ tkK g len p = 2 ∨ tkK g len p = 3 ∨ tkK g len p = 4 := by omega
  rcases hd with q | q | q | q | q
  · have := r0 q; constructor <;> intro z <;> omega
  · have h := tk_all hl (Or.inl q)
    have hL : ∀ k : Nat, k < (tkE g len p - tkS g len p).toNat → 97 ≤ g (tkS g len p + (k : Int)) ∧ g (tkS g len p + (k : Int)) ≤ 122 := fun k z => (kd1 (hg _).1).mp (by rw [h.2.2 _ (by omega) (by omega), q])
    rw [r1 q]
    by_cases c : tkE g len p - tkS g len p ≤ 9
    · rw [if_pos c, wc_par hL]
      constructor
      · rintro ⟨a, b⟩; exact ⟨q, by omega, b⟩
      · rintro ⟨_, a, b⟩; exact ⟨by omega, b⟩
    · rw [if_neg c]; constructor <;> intro z <;> omega
  · have r := r2 q
    constructor
    · intro z; split at r <;> omega
    · intro z; omega
  · have := r3 q; constructor <;> intro z <;> omega
  · have := r4 q; constructor <;> intro z <;> omega
theorem tk_cloud {g : Int → Int} (hg : ∀ k, 0 ≤ g k ∧ g k ≤ 255) {len p tk nu : Int} (hl : p ≤ len) (hR : TKR g len p tk nu) : tk = 1842025 ↔ tkK g len p = 1 ∧ tkE g len p - tkS g len p = 5 ∧ g (tkS g len p + 0) = 99 ∧ g (tkS g len p + 1) = 108 ∧ g (tkS g len p + 2) = 111 ∧ g (tkS g len p + 3) = 117 ∧ g (tkS g len p + 4) = 100 := by
  obtain ⟨r0, r1, r2, r3, r4⟩ := hR
  have hb' : 0 ≤ tkK g len p ∧ tkK g len p ≤ 4 := kdF_bd (atF g len (tkS g len p))
  have hd : tkK g len p = 0 ∨ tkK g len p = 1 ∨ tkK g len p = 2 ∨ tkK g len p = 3 ∨ tkK g len p = 4 := by omega
  rcases hd with q | q | q | q | q
  · have := r0 q; constructor <;> intro z <;> omega
  · have h := tk_all hl (Or.inl q)
    have hL : ∀ k : Nat, k < (tkE g len p - tkS g len p).toNat → 97 ≤ g (tkS g len p + (k : Int)) ∧ g (tkS g len p + (k : Int)) ≤ 122 := fun k z => (kd1 (hg _).1).mp (by rw [h.2.2 _ (by omega) (by omega), q])
    rw [r1 q]
    by_cases c : tkE g len p - tkS g len p ≤ 9
    · rw [if_pos c, wc_cloud hL]
      constructor
      · rintro ⟨a, b⟩; exact ⟨q, by omega, b⟩
      · rintro ⟨_, a, b⟩; exact ⟨by omega, b⟩
    · rw [if_neg c]; constructor <;> intro z <;> omega
  · have r := r2 q
    constructor
    · intro z; split at r <;> omega
    · intro z; omega
  · have := r3 q; constructor <;> intro z <;> omega
  · have := r4 q; constructor <;> intro z <;> omega
theorem tk_line {g : Int → Int} (hg : ∀ k, 0 ≤ g k ∧ g k ≤ 255) {len p tk nu : Int} (hl : p ≤ len) (hR : TKR g len p tk nu) : tk = 243140 ↔ tkK g len p = 1 ∧ tkE g len p - tkS g len p = 4 ∧ g (tkS g len p + 0) = 108 ∧ g (tkS g len p + 1) = 105 ∧ g (tkS g len p + 2) = 110 ∧ g (tkS g len p + 3) = 101 := by
  obtain ⟨r0, r1, r2, r3, r4⟩ := hR
  have hb' : 0 ≤ tkK g len p ∧ tkK g len p ≤ 4 := kdF_bd (atF g len (tkS g len p))
  have hd : tkK g len p = 0 ∨ tkK g len p = 1 ∨ tkK g len p = 2 ∨ tkK g len p = 3 ∨ tkK g len p = 4 := by omega
  rcases hd with q | q | q | q | q
  · have := r0 q; constructor <;> intro z <;> omega
  · have h := tk_all hl (Or.inl q)
    have hL : ∀ k : Nat, k < (tkE g len p - tkS g len p).toNat → 97 ≤ g (tkS g len p + (k : Int)) ∧ g (tkS g len p + (k : Int)) ≤ 122 := fun k z => (kd1 (hg _).1).mp (by rw [h.2.2 _ (by omega) (by omega), q])
    rw [r1 q]
    by_cases c : tkE g len p - tkS g len p ≤ 9
    · rw [if_pos c, wc_line hL]
      constructor
      · rintro ⟨a, b⟩; exact ⟨q, by omega, b⟩
      · rintro ⟨_, a, b⟩; exact ⟨by omega, b⟩
    · rw [if_neg c]; constructor <;> intro z <;> omega
  · have r := r2 q
    constructor
    · intro z; split at r <;> omega
    · intro z; omega
  · have := r3 q; constructor <;> intro z <;> omega
  · have := r4 q; constructor <;> intro z <;> omega
