/-! ===== a line of a text ===== -/
theorem sp_overs {g : Int → Int} {len p : Int} (hl : p ≤ len) (h0 : 0 ≤ p) : spF g (tkS g len p) (tkE g len p) 0 = 1 ↔ tkK g len p = 1 ∧ tkE g len p - tkS g len p = 5 ∧ g (tkS g len p + 0) = 111 ∧ g (tkS g len p + 1) = 118 ∧ g (tkS g len p + 2) = 101 ∧ g (tkS g len p + 3) = 114 ∧ g (tkS g len p + 4) = 115 := by
  have hs := tkS_bd g hl
  have he := tkE_bd g h0 hl
  constructor
  · intro h
    unfold spF at h
    split at h
    · rename_i q
      obtain ⟨q1, q2⟩ := q
      have q1 : tkE g len p - tkS g len p = 5 := q1
      have a0 : g (tkS g len p + 0) = 111 := q2 0 (by decide)
      have a1 : g (tkS g len p + 1) = 118 := q2 1 (by decide)
      have a2 : g (tkS g len p + 2) = 101 := q2 2 (by decide)
      have a3 : g (tkS g len p + 3) = 114 := q2 3 (by decide)
      have a4 : g (tkS g len p + 4) = 115 := q2 4 (by decide)
      refine ⟨?_, q1, a0, a1, a2, a3, a4⟩
      unfold tkK atF
      rw [if_pos (by omega)]
      rw [Int.add_zero] at a0
      rw [a0]; decide
    · exact absurd h (by decide)
  · rintro ⟨_, q1, a0, a1, a2, a3, a4⟩
    refine spF_1 q1 (fun k p1 p2 => ?_)
    have p2 : k < 5 := p2
    have hk : k = 0 ∨ k = 1 ∨ k = 2 ∨ k = 3 ∨ k = 4 := by omega
    rcases hk with rfl | rfl | rfl | rfl | rfl
    · exact a0
    · exact a1
    · exact a2
    · exact a3
    · exact a4
theorem sp_men {g : Int → Int} {len p : Int} (hl : p ≤ len) (h0 : 0 ≤ p) : spF g (tkS g len p) (tkE g len p) 1 = 1 ↔ tkK g len p = 1 ∧ tkE g len p - tkS g len p = 3 ∧ g (tkS g len p + 0) = 109 ∧ g (tkS g len p + 1) = 101 ∧ g (tkS g len p + 2) = 110 := by
  have hs := tkS_bd g hl
  have he := tkE_bd g h0 hl
  constructor
  · intro h
    unfold spF at h
    split at h
    · rename_i q
      obtain ⟨q1, q2⟩ := q
      have q1 : tkE g len p - tkS g len p = 3 := q1
      have a0 : g (tkS g len p + 0) = 109 := q2 0 (by decide)
      have a1 : g (tkS g len p + 1) = 101 := q2 1 (by decide)
      have a2 : g (tkS g len p + 2) = 110 := q2 2 (by decide)
      refine ⟨?_, q1, a0, a1, a2⟩
      unfold tkK atF
      rw [if_pos (by omega)]
      rw [Int.add_zero] at a0
      rw [a0]; decide
    · exact absurd h (by decide)
  · rintro ⟨_, q1, a0, a1, a2⟩
    refine spF_1 q1 (fun k p1 p2 => ?_)
    have p2 : k < 3 := p2
    have hk : k = 0 ∨ k = 1 ∨ k = 2 := by omega
    rcases hk with rfl | rfl | rfl
    · exact a0
    · exact a1
    · exact a2
theorem sp_mood {g : Int → Int} {len p : Int} (hl : p ≤ len) (h0 : 0 ≤ p) : spF g (tkS g len p) (tkE g len p) 2 = 1 ↔ tkK g len p = 1 ∧ tkE g len p - tkS g len p = 4 ∧ g (tkS g len p + 0) = 109 ∧ g (tkS g len p + 1) = 111 ∧ g (tkS g len p + 2) = 111 ∧ g (tkS g len p + 3) = 100 := by
  have hs := tkS_bd g hl
  have he := tkE_bd g h0 hl
  constructor
  · intro h
    unfold spF at h
    split at h
    · rename_i q
      obtain ⟨q1, q2⟩ := q
      have q1 : tkE g len p - tkS g len p = 4 := q1
      have a0 : g (tkS g len p + 0) = 109 := q2 0 (by decide)
      have a1 : g (tkS g len p + 1) = 111 := q2 1 (by decide)
      have a2 : g (tkS g len p + 2) = 111 := q2 2 (by decide)
      have a3 : g (tkS g len p + 3) = 100 := q2 3 (by decide)
      refine ⟨?_, q1, a0, a1, a2, a3⟩
      unfold tkK atF
      rw [if_pos (by omega)]
      rw [Int.add_zero] at a0
      rw [a0]; decide
    · exact absurd h (by decide)
  · rintro ⟨_, q1, a0, a1, a2, a3⟩
    refine spF_1 q1 (fun k p1 p2 => ?_)
    have p2 : k < 4 := p2
    have hk : k = 0 ∨ k = 1 ∨ k = 2 ∨ k = 3 := by omega
    rcases hk with rfl | rfl | rfl | rfl
    · exact a0
    · exact a1
    · exact a2
    · exact a3
theorem sp_par {g : Int → Int} {len p : Int} (hl : p ≤ len) (h0 : 0 ≤ p) : spF g (tkS g len p) (tkE g len p) 3 = 1 ↔ tkK g len p = 1 ∧ tkE g len p - tkS g len p = 3 ∧ g (tkS g len p + 0) = 112 ∧ g (tkS g len p + 1) = 97 ∧ g (tkS g len p + 2) = 114 := by
  have hs := tkS_bd g hl
  have he := tkE_bd g h0 hl
  constructor
  · intro h
    unfold spF at h
    split at h
    · rename_i q
      obtain ⟨q1, q2⟩ := q
      have q1 : tkE g len p - tkS g len p = 3 := q1
      have a0 : g (tkS g len p + 0) = 112 := q2 0 (by decide)
      have a1 : g (tkS g len p + 1) = 97 := q2 1 (by decide)
      have a2 : g (tkS g len p + 2) = 114 := q2 2 (by decide)
      refine ⟨?_, q1, a0, a1, a2⟩
      unfold tkK atF
      rw [if_pos (by omega)]
      rw [Int.add_zero] at a0
      rw [a0]; decide
    · exact absurd h (by decide)
  · rintro ⟨_, q1, a0, a1, a2⟩
    refine spF_1 q1 (fun k p1 p2 => ?_)
    have p2 : k < 3 := p2
    have hk : k = 0 ∨ k = 1 ∨ k = 2 := by omega
    rcases hk with rfl | rfl | rfl
    · exact a0
    · exact a1
    · exact a2
theorem sp_cloud {g : Int → Int} {len p : Int} (hl : p ≤ len) (h0 : 0 ≤ p) : spF g (tkS g len p) (tkE g len p) 4 = 1 ↔ tkK g len p = 1 ∧ tkE g len p - tkS g len p = 5 ∧ g (tkS g len p + 0) = 99 ∧ g (tkS g len p + 1) = 108 ∧ g (tkS g len p + 2) = 111 ∧ g (tkS g len p + 3) = 117 ∧ g (tkS g len p + 4) = 100 := by
  have hs := tkS_bd g hl
  have he := tkE_bd g h0 hl
  constructor
  · intro h
    unfold spF at h
    split at h
    · rename_i q
      obtain ⟨q1, q2⟩ := q
      have q1 : tkE g len p - tkS g len p = 5 := q1
      have a0 : g (tkS g len p + 0) = 99 := q2 0 (by decide)
      have a1 : g (tkS g len p + 1) = 108 := q2 1 (by decide)
      have a2 : g (tkS g len p + 2) = 111 := q2 2 (by decide)
      have a3 : g (tkS g len p + 3) = 117 := q2 3 (by decide)
      have a4 : g (tkS g len p + 4) = 100 := q2 4 (by decide)
      refine ⟨?_, q1, a0, a1, a2, a3, a4⟩
      unfold tkK atF
      rw [if_pos (by omega)]
      rw [Int.add_zero] at a0
      rw [a0]; decide
    · exact absurd h (by decide)
  · rintro ⟨_, q1, a0, a1, a2, a3, a4⟩
    refine spF_1 q1 (fun k p1 p2 => ?_)
    have p2 : k < 5 := p2
    have hk : k = 0 ∨ k = 1 ∨ k = 2 ∨ k = 3 ∨ k = 4 := by omega
    rcases hk with rfl | rfl | rfl | rfl | rfl
    · exact a0
    · exact a1
    · exact a2
    · exact a3
    · exact a4
theorem sp_line {g : Int → Int} {len p : Int} (hl : p ≤ len) (h0 : 0 ≤ p) : spF g (tkS g len p) (tkE g len p) 5 = 1 ↔ tkK g len p = 1 ∧ tkE g len p - tkS g len p = 4 ∧ g (tkS g len p + 0) = 108 ∧ g (tkS g len p + 1) = 105 ∧ g (tkS g len p + 2) = 110 ∧ g (tkS g len p + 3) = 101 := by
  have hs := tkS_bd g hl
  have he := tkE_bd g h0 hl
  constructor
  · intro h
    unfold spF at h
    split at h
    · rename_i q
      obtain ⟨q1, q2⟩ := q
      have q1 : tkE g len p - tkS g len p = 4 := q1
      have a0 : g (tkS g len p + 0) = 108 := q2 0 (by decide)
      have a1 : g (tkS g len p + 1) = 105 := q2 1 (by decide)
      have a2 : g (tkS g len p + 2) = 110 := q2 2 (by decide)
      have a3 : g (tkS g len p + 3) = 101 := q2 3 (by decide)
      refine ⟨?_, q1, a0, a1, a2, a3⟩
      unfold tkK atF
      rw [if_pos (by omega)]
      rw [Int.add_zero] at a0
      rw [a0]; decide
    · exact absurd h (by decide)
  · rintro ⟨_, q1, a0, a1, a2, a3⟩
    refine spF_1 q1 (fun k p1 p2 => ?_)
    have p2 : k < 4 := p2
    have hk : k = 0 ∨ k = 1 ∨ k = 2 ∨ k = 3 := by omega
    rcases hk with rfl | rfl | rfl | rfl
    · exact a0
    · exact a1
    · exact a2
    · exact a3
/-- the word of the line at a place -/
def lnW (g : Int → Int) (len p : Int) : Int := lnF g (tkS g len p) (tkE g len p)
theorem lnW_bd (g : Int → Int) (len p : Int) : -1 ≤ lnW g len p ∧ lnW g len p ≤ 5 := lnF_bd _ _ _
theorem lnW_tk {g : Int → Int} (hg : ∀ k, 0 ≤ g k ∧ g k ≤ 255) {len p tk nu : Int} (hl : p ≤ len) (hp9 : 0 ≤ p) (hR : TKR g len p tk nu) : lnW g len p = if tk = 8408791 then 0 else if tk = 9626 then 1 else if tk = 267223 then 2 else if tk = 11709 then 3 else if tk = 1842025 then 4 else if tk = 243140 then 5 else -1 := by
  have h0 : spF g (tkS g len p) (tkE g len p) 0 = 1 ↔ tk = 8408791 := (sp_overs hl hp9).trans (tk_overs hg hl hR).symm
  have h1 : spF g (tkS g len p) (tkE g len p) 1 = 1 ↔ tk = 9626 := (sp_men hl hp9).trans (tk_men hg hl hR).symm
  have h2 : spF g (tkS g len p) (tkE g len p) 2 = 1 ↔ tk = 267223 := (sp_mood hl hp9).trans (tk_mood hg hl hR).symm
  have h3 : spF g (tkS g len p) (tkE g len p) 3 = 1 ↔ tk = 11709 := (sp_par hl hp9).trans (tk_par hg hl hR).symm
  have h4 : spF g (tkS g len p) (tkE g len p) 4 = 1 ↔ tk = 1842025 := (sp_cloud hl hp9).trans (tk_cloud hg hl hR).symm
  have h5 : spF g (tkS g len p) (tkE g len p) 5 = 1 ↔ tk = 243140 := (sp_line hl hp9).trans (tk_line hg hl hR).symm
  unfold lnW lnF
  by_cases q0 : tk = 8408791
  · rw [if_pos (h0.mpr q0), if_pos q0]
  · rw [if_neg (fun z => q0 (h0.mp z)), if_neg q0]
    by_cases q1 : tk = 9626
    · rw [if_pos (h1.mpr q1), if_pos q1]
    · rw [if_neg (fun z => q1 (h1.mp z)), if_neg q1]
      by_cases q2 : tk = 267223
      · rw [if_pos (h2.mpr q2), if_pos q2]
      · rw [if_neg (fun z => q2 (h2.mp z)), if_neg q2]
        by_cases q3 : tk = 11709
        · rw [if_pos (h3.mpr q3), if_pos q3]
        · rw [if_neg (fun z => q3 (h3.mp z)), if_neg q3]
          by_cases q4 : tk = 1842025
          · rw [if_pos (h4.mpr q4), if_pos q4]
          · rw [if_neg (fun z => q4 (h4.mp z)), if_neg q4]
            by_cases q5 : tk = 243140
            · rw [if_pos (h5.mpr q5), if_pos q5]
            · rw [if_neg (fun z => q5 (h5.mp z)), if_neg q5]
/-- a number in its bounds, as 1 or 0 -/
def nQ (g : Int → Int) (len p lo hi : Int) : Int := if (tkK g len p = 2 ∧ tkE g len p - tkS g len p ≤ 3 ∧ lo ≤ vlF g len p ∧ vlF g len p ≤ hi) then 1 else 0
theorem nQ_1 {g : Int → Int} {len p lo hi : Int} (h : nQ g len p lo hi = 1) : tkK g len p = 2 ∧ tkE g len p - tkS g len p ≤ 3 ∧ lo ≤ vlF g len p ∧ vlF g len p ≤ hi := by
  unfold nQ at h; split at h
  · rename_i q; exact q
  · exact absurd h (by decide)
theorem nQ_bd (g : Int → Int) (len p lo hi : Int) : nQ g len p lo hi = 0 ∨ nQ g len p lo hi = 1 := by
  unfold nQ; split
  · exact Or.inr rfl
  · exact Or.inl rfl
/-- what is read of the line at a place: 1 or 0, the place ahead of the last token read -/
def lnR (g : Int → Int) (len p : Int) : Int × Int := if lnW g len p = 0 then (nQ g len (tkE g len p) 1 12, tkE g len p) else if lnW g len p = 1 then (nQ g len (tkE g len p) 1 10, tkE g len p) else if lnW g len p = 2 then ((mdT g len (tkE g len p)).1, (mdT g len (tkE g len p)).2.1) else if lnW g len p = 3 then (if nQ g len (tkE g len p) 0 400 = 0 then (0, tkE g len p) else (nQ g len (tkE g len (tkE g len p)) 1 300, tkE g len (tkE g len p))) else if lnW g len p = 4 then (if nQ g len (tkE g len p) 0 10 = 0 then (0, tkE g len p) else (nQ g len (tkE g len (tkE g len p)) 0 12, tkE g len (tkE g len p))) else if lnW g len p = 5 then (nQ g len (tkE g len p) 0 99, tkE g len p) else (0, p)
/-- what the class keeps of a line, what the model does -/
def CLN (g : Int → Int) (len p : Int) (nb : Int → Int) (b : Int) : Prop := nb b = vlF g len (tkE g len p) ∧ ((lnW g len p = 3 ∨ lnW g len p = 4) → nb (b + 1) = vlF g len (tkE g len (tkE g len p))) ∧ (lnW g len p = 2 → ∀ j, 0 ≤ j → j < (mdT g len (tkE g len p)).2.2 → nb (b + 1 + 3 * j) = vlF g len (mP g len (tkE g len p) j.toNat) ∧ nb (b + 1 + 3 * j + 1) = vlF g len (tkE g len (mP g len (tkE g len p) j.toNat)) ∧ nb (b + 1 + 3 * j + 2) = vlF g len (tkE g len (tkE g len (mP g len (tkE g len p) j.toNat))))
def MLN (g : Int → Int) (len p : Int) (rd : Int → Int) (w : Int) : Prop := rd w = lnW g len p ∧ rd (w + 1) = vlF g len (tkE g len p) ∧ ((lnW g len p = 3 ∨ lnW g len p = 4) → rd (w + 2) = vlF g len (tkE g len (tkE g len p))) ∧ (lnW g len p = 2 → rd (w + 2) = (mdT g len (tkE g len p)).2.2 ∧ ∀ j, 0 ≤ j → j < (mdT g len (tkE g len p)).2.2 → rd (w + 3 + 3 * j) = vlF g len (mP g len (tkE g len p) j.toNat) ∧ rd (w + 3 + 3 * j + 1) = vlF g len (tkE g len (mP g len (tkE g len p) j.toNat)) ∧ rd (w + 3 + 3 * j + 2) = vlF g len (tkE g len (tkE g len (mP g len (tkE g len p) j.toNat))))
theorem CLN_1 {g : Int → Int} {len p : Int} {nb : Int → Int} {b : Int} {c : Prop} [Decidable c] (hw : lnW g len p = 0 ∨ lnW g len p = 1 ∨ lnW g len p = 5) (h : (if c then (1 : Int) else 0) = 1) : CLN g len p (if c then uZ nb (b + 0) (vlF g len (tkE g len p)) else nb) b := by
  have hc : c := by split at h; · assumption
                    · exact absurd h (by decide)
  rw [if_pos hc]
  exact ⟨by rw [Int.add_zero, uZ_s], fun q => by omega, fun q => by omega⟩
theorem CLN_2 {g : Int → Int} {len p : Int} {nb : Int → Int} {b : Int} (hw : lnW g len p = 3 ∨ lnW g len p = 4) : CLN g len p (uZ (uZ nb (b + 0) (vlF g len (tkE g len p))) (b + 1) (vlF g len (tkE g len (tkE g len p)))) b :=
  ⟨by rw [uZ_n _ _ (by omega), Int.add_zero, uZ_s], fun _ => by rw [uZ_s], fun q => by omega⟩
theorem CLN_cong {g : Int → Int} {len p : Int} {n1 n2 : Int → Int} {b : Int} (h : CLN g len p n1 b) (he : ∀ j, b ≤ j → j < b + 13 → n2 j = n1 j) (hm : lnW g len p = 2 → (mdT g len (tkE g len p)).2.2 ≤ 4) : CLN g len p n2 b := by
  obtain ⟨h1, h2, h3⟩ := h
  refine ⟨by rw [he _ (by omega) (by omega)]; exact h1, fun q => by rw [he _ (by omega) (by omega)]; exact h2 q, fun q j a c => ?_⟩
  have := hm q
  rw [he _ (by omega) (by omega), he _ (by omega) (by omega), he _ (by omega) (by omega)]
  exact h3 q j a c
theorem MLN_cong {g : Int → Int} {len p : Int} {n1 n2 : Int → Int} {b : Int} (h : MLN g len p n1 b) (he : ∀ j, b ≤ j → j < b + 15 → n2 j = n1 j) (hm : lnW g len p = 2 → (mdT g len (tkE g len p)).2.2 ≤ 4) : MLN g len p n2 b := by
  obtain ⟨h0, h1, h2, h3⟩ := h
  refine ⟨by rw [he _ (by omega) (by omega)]; exact h0, by rw [he _ (by omega) (by omega)]; exact h1, fun q => by rw [he _ (by omega) (by omega)]; exact h2 q, fun q => ⟨by rw [he _ (by omega) (by omega)]; exact (h3 q).1, fun j a c => ?_⟩⟩
  have := hm q
  rw [he _ (by omega) (by omega), he _ (by omega) (by omega), he _ (by omega) (by omega)]
  exact (h3 q).2 j a c
/-- what a mood that is read says of its cases -/
theorem mdL_ok (g : Int → Int) (len p : Int) : ∀ (f i : Nat) (l : Int), f + i = 4 → (mdL g len p f i l).1 = 0 ∨ ((mdL g len p f i l).1 = 1 ∧ (i : Int) ≤ (mdL g len p f i l).2.2 ∧ (mdL g len p f i l).2.2 ≤ 4 ∧ ((mdL g len p f i l).2.2 = 4 ∨ 10 ≤ mA g len p (mdL g len p f i l).2.2.toNat) ∧ ∀ j : Nat, i ≤ j → (j : Int) < (mdL g len p f i l).2.2 → ¬ 10 ≤ mA g len p j ∧ ¬ nOK g len (mP g len p j) 0 36 = false ∧ ¬ nOK g len (tkE g len (mP g len p j)) 0 3 = false ∧ ¬ nOK g len (tkE g len (tkE g len (mP g len p j))) (if j = 3 then 10 - mA g len p j else 1) (10 - mA g len p j) = false)
  | 0, i, l, h => by
    refine Or.inr ⟨rfl, Int.le_refl _, ?_, Or.inl ?_, fun j a b => ?_⟩
    · show (i : Int) ≤ 4; omega
    · show (i : Int) = 4; omega
    · have b : (j : Int) < (i : Int) := b
      omega
  | f + 1, i, l, h => by
    rw [mdL]
    by_cases q : 10 ≤ mA g len p i
    · rw [if_pos q]
      refine Or.inr ⟨rfl, Int.le_refl _, ?_, Or.inr ?_, fun j a b => ?_⟩
      · show (i : Int) ≤ 4; omega
      · show 10 ≤ mA g len p ((i : Int)).toNat; exact q
      · have b : (j : Int) < (i : Int) := b
        omega
    · rw [if_neg q]
      by_cases q1 : nOK g len (mP g len p i) 0 36 = false
      · rw [if_pos q1]; exact Or.inl rfl
      · rw [if_neg q1]
        by_cases q2 : nOK g len (tkE g len (mP g len p i)) 0 3 = false
        · rw [if_pos q2]; exact Or.inl rfl
        · rw [if_neg q2]
          by_cases q3 : nOK g len (tkE g len (tkE g len (mP g len p i))) (if i = 3 then 10 - mA g len p i else 1) (10 - mA g len p i) = false
          · rw [if_pos q3]; exact Or.inl rfl
          · rw [if_neg q3]
            rcases mdL_ok g len p f (i + 1) (tkE g len (tkE g len (mP g len p i))) (by omega) with z | ⟨z1, z2, z3, z4, z5⟩
            · exact Or.inl z
            · refine Or.inr ⟨z1, by omega, z3, z4, fun j a b => ?_⟩
              by_cases e : j = i
              · subst e; exact ⟨q, q1, q2, q3⟩
              · exact z5 j (by omega) b
theorem mdT_ok {g : Int → Int} {len p : Int} (h : (mdT g len p).1 = 1) : nOK g len p 0 3 = true ∧ 0 ≤ (mdT g len p).2.2 ∧ (mdT g len p).2.2 ≤ 4 ∧ ((mdT g len p).2.2 = 4 ∨ 10 ≤ mA g len p (mdT g len p).2.2.toNat) ∧ ∀ j : Nat, (j : Int) < (mdT g len p).2.2 → ¬ 10 ≤ mA g len p j ∧ ¬ nOK g len (mP g len p j) 0 36 = false ∧ ¬ nOK g len (tkE g len (mP g len p j)) 0 3 = false ∧ ¬ nOK g len (tkE g len (tkE g len (mP g len p j))) (if j = 3 then 10 - mA g len p j else 1) (10 - mA g len p j) = false := by
  unfold mdT at h ⊢
  split at h
  · exact absurd (show (0 : Int) = 1 from h) (by decide)
  · rename_i q
    rw [if_neg q]
    rcases mdL_ok g len p 4 0 p rfl with z | ⟨z1, z2, z3, z4, z5⟩
    · rw [z] at h; exact absurd h (by decide)
    · exact ⟨by cases hh : nOK g len p 0 3 <;> simp_all, z2, z3, z4, fun j b => z5 j (Nat.zero_le _) b⟩
theorem mdT_bit (g : Int → Int) (len p : Int) : (mdT g len p).1 = 0 ∨ (mdT g len p).1 = 1 := by
  unfold mdT; split
  · exact Or.inl rfl
  · rcases mdL_ok g len p 4 0 p rfl with z | ⟨z1, _⟩
    · exact Or.inl z
    · exact Or.inr z1
theorem lnR_bit (g : Int → Int) (len p : Int) : (lnR g len p).1 = 0 ∨ (lnR g len p).1 = 1 := by
  unfold lnR
  split
  · exact nQ_bd _ _ _ _ _
  split
  · exact nQ_bd _ _ _ _ _
  split
  · exact mdT_bit _ _ _
  split
  · split
    · exact Or.inl rfl
    · exact nQ_bd _ _ _ _ _
  split
  · split
    · exact Or.inl rfl
    · exact nQ_bd _ _ _ _ _
  split
  · exact nQ_bd _ _ _ _ _
  · exact Or.inl rfl
theorem nOK_1 {g : Int → Int} {len p lo hi : Int} (h : ¬ nOK g len p lo hi = false) : tkK g len p = 2 ∧ tkE g len p - tkS g len p ≤ 3 ∧ lo ≤ vlF g len p ∧ vlF g len p ≤ hi := by
  unfold nOK at h
  exact of_decide_eq_true (by cases hh : decide (tkK g len p = 2 ∧ tkE g len p - tkS g len p ≤ 3 ∧ lo ≤ vlF g len p ∧ vlF g len p ≤ hi) with | true => rfl | false => exact absurd hh h)
/-- a place in a text stays in it -/
theorem tk_in {g : Int → Int} {len p : Int} (h0 : 0 ≤ p) (h : p ≤ len) : 0 ≤ tkE g len p ∧ tkE g len p ≤ len := by
  have a := tkS_bd g h; have b := tkE_bd g h0 h; omega
theorem mdL_in {g : Int → Int} {len p : Int} (h0 : 0 ≤ p) (h : p ≤ len) : ∀ (f i : Nat) (l : Int), 0 ≤ l → l ≤ len → 0 ≤ (mdL g len p f i l).2.1 ∧ (mdL g len p f i l).2.1 ≤ len
  | 0, i, l, a, b => ⟨a, b⟩
  | f + 1, i, l, a, b => by
    have m := mP_bd (g := g) h0 h i
    have e1 := tk_in (g := g) m.1 m.2
    have e2 := tk_in (g := g) e1.1 e1.2
    rw [mdL]
    by_cases q : 10 ≤ mA g len p i
    · rw [if_pos q]; exact ⟨a, b⟩
    rw [if_neg q]
    by_cases q1 : nOK g len (mP g len p i) 0 36 = false
    · rw [if_pos q1]; exact m
    rw [if_neg q1]
    by_cases q2 : nOK g len (tkE g len (mP g len p i)) 0 3 = false
    · rw [if_pos q2]; exact e1
    rw [if_neg q2]
    by_cases q3 : nOK g len (tkE g len (tkE g len (mP g len p i))) (if i = 3 then 10 - mA g len p i else 1) (10 - mA g len p i) = false
    · rw [if_pos q3]; exact e2
    · rw [if_neg q3]; exact mdL_in h0 h f (i + 1) _ e2.1 e2.2
theorem mdT_in {g : Int → Int} {len p : Int} (h0 : 0 ≤ p) (h : p ≤ len) : 0 ≤ (mdT g len p).2.1 ∧ (mdT g len p).2.1 ≤ len := by
  unfold mdT; split
  · exact ⟨h0, h⟩
  · exact mdL_in h0 h 4 0 p h0 h
theorem lnR_in {g : Int → Int} {len p : Int} (h0 : 0 ≤ p) (h : p ≤ len) : 0 ≤ (lnR g len p).2 ∧ (lnR g len p).2 ≤ len := by
  have e1 := tk_in (g := g) h0 h
  have e2 := tk_in (g := g) e1.1 e1.2
  unfold lnR
  split
  · exact e1
  split
  · exact e1
  split
  · exact mdT_in e1.1 e1.2
  split
  · split
    · exact e1
    · exact e2
  split
  · split
    · exact e1
    · exact e2
  split
  · exact e1
  · exact ⟨h0, h⟩
theorem lnR_2 {g : Int → Int} {len p : Int} (h : (lnR g len p).1 = 1) (hw : lnW g len p = 2) : (mdT g len (tkE g len p)).1 = 1 := by
  unfold lnR at h
  rw [if_neg (by omega), if_neg (by omega), if_pos hw] at h
  exact h
