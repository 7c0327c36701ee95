def stA (g : Int → Int) (len : Int) (w x : Int) : Nat → Int
  | 0 => x
  | i + 1 => if lnW g len (LnP g len i) = w then vlF g len (tkE g len (LnP g len i)) else stA g len w x i
theorem stA_s (g : Int → Int) (len : Int) (w x : Int) {i : Int} (h : 0 ≤ i) : stA g len w x (i + 1).toNat = if lnW g len (LnP g len i.toNat) = w then vlF g len (tkE g len (LnP g len i.toNat)) else stA g len w x i.toNat := by rw [toN_s h, stA]
def stB (g : Int → Int) (len : Int) (w x : Int) : Nat → Int
  | 0 => x
  | i + 1 => if lnW g len (LnP g len i) = w then vlF g len (tkE g len (tkE g len (LnP g len i))) else stB g len w x i
theorem stB_s (g : Int → Int) (len : Int) (w x : Int) {i : Int} (h : 0 ≤ i) : stB g len w x (i + 1).toNat = if lnW g len (LnP g len i.toNat) = w then vlF g len (tkE g len (tkE g len (LnP g len i.toNat))) else stB g len w x i.toNat := by rw [toN_s h, stB]
def csN (g : Int → Int) (len : Int) (cs : Int → Int) : Nat → Int → Int
  | 0 => cs
  | i + 1 => if lnW g len (LnP g len i) = 2 then uZ (csN g len cs i) (vlF g len (tkE g len (LnP g len i))) (mdT g len (tkE g len (LnP g len i))).2.2 else csN g len cs i
theorem csN_s (g : Int → Int) (len : Int) (cs : Int → Int) {i : Int} (h : 0 ≤ i) : csN g len cs (i + 1).toNat = if lnW g len (LnP g len i.toNat) = 2 then uZ (csN g len cs i.toNat) (vlF g len (tkE g len (LnP g len i.toNat))) (mdT g len (tkE g len (LnP g len i.toNat))).2.2 else csN g len cs i.toNat := by rw [toN_s h, csN]
def mpN (g : Int → Int) (len : Int) (mp : Int → Int) : Nat → Int → Int
  | 0 => mp
  | i + 1 => if lnW g len (LnP g len i) = 2 then mdM g len (tkE g len (LnP g len i)) (mpN g len mp i) (vlF g len (tkE g len (LnP g len i))) (3 * (mdT g len (tkE g len (LnP g len i))).2.2) else mpN g len mp i
theorem mpN_s (g : Int → Int) (len : Int) (mp : Int → Int) {i : Int} (h : 0 ≤ i) : mpN g len mp (i + 1).toNat = if lnW g len (LnP g len i.toNat) = 2 then mdM g len (tkE g len (LnP g len i.toNat)) (mpN g len mp i.toNat) (vlF g len (tkE g len (LnP g len i.toNat))) (3 * (mdT g len (tkE g len (LnP g len i.toNat))).2.2) else mpN g len mp i.toNat := by rw [toN_s h, mpN]
def hsL (g : Int → Int) (len : Int) (w : Int) : Nat → Int
  | 0 => 0
  | i + 1 => if lnW g len (LnP g len i) = w then 1 else hsL g len w i
theorem hsL_s (g : Int → Int) (len : Int) (w : Int) {i : Int} (h : 0 ≤ i) : hsL g len w (i + 1).toNat = if lnW g len (LnP g len i.toNat) = w then 1 else hsL g len w i.toNat := by rw [toN_s h, hsL]
def hs3 (g : Int → Int) (len : Int) : Nat → Int
  | 0 => 0
  | i + 1 => if lnW g len (LnP g len i) < 3 then 1 else hs3 g len i
theorem hs3_s (g : Int → Int) (len : Int) {i : Int} (h : 0 ≤ i) : hs3 g len (i + 1).toNat = if lnW g len (LnP g len i.toNat) < 3 then 1 else hs3 g len i.toNat := by rw [toN_s h, hs3]
/-- how many lines are told -/
def gn (g : Int → Int) (len : Int) : Nat := if (rdT g len).1 = -1 then (rdT g len).2.toNat else 0
theorem rdF_ok {g : Int → Int} {len : Int} (hl : 0 ≤ len) : ∀ (f i : Nat), f + i = 8 → (rdF g len f (i : Int) (LnP g len i)).1 = -1 → ∀ j : Nat, i ≤ j → (j : Int) < (rdF g len f (i : Int) (LnP g len i)).2 → (lnR g len (LnP g len j)).1 = 1
  | 0, i, h, h1, j, a, b => by rw [rdF] at h1; exact absurd (show (0 : Int) = -1 from h1) (by decide)
  | f + 1, i, h, h1, j, a, b => by
    have hb := LnP_bd g hl i
    have hb2 := lnR_in (g := g) hb.1 hb.2
    have hs := tkS_bd g hb2.2
    have hb3 := tk_in (g := g) hb2.1 hb2.2
    have hs9 := tkS_bd g hb3.2
    have bt := lnR_bit g len (LnP g len i)
    rw [rdF] at h1 b
    split at h1
    · have h1 : tkS g len (lnR g len (LnP g len i)).2 = -1 := h1
      omega
    · rename_i q
      rw [if_neg q] at b
      split at h1
      · rename_i q2
        rw [if_pos q2] at b
        have b : (j : Int) < (i : Int) + 1 := b
        rw [show j = i by omega]; omega
      · rename_i q2
        rw [if_neg q2] at b
        split at h1
        · rename_i q3
          rw [if_pos q3] at b
          by_cases e : j = i
          · rw [e]; omega
          · exact rdF_ok hl f (i + 1) (by omega) (by rw [LnP]; exact h1) j (by omega) (by rw [LnP]; exact b)
        · have h1 : tkS g len (tkE g len (lnR g len (LnP g len i)).2) = -1 := h1
          omega
theorem gn_ok {g : Int → Int} {len : Int} (hl : 0 ≤ len) {j : Nat} (h : j < gn g len) : (lnR g len (LnP g len j)).1 = 1 := by
  have hb := rdT_bd g len
  unfold gn at h
  split at h
  · rename_i q
    exact rdF_ok hl 8 0 rfl q j (Nat.zero_le _) (show (j : Int) < (rdT g len).2 by omega)
  · omega
theorem stA_all {g : Int → Int} {len w x lo hi : Int} (hx : lo ≤ x ∧ x ≤ hi) : ∀ n : Nat, (∀ j : Nat, j < n → lnW g len (LnP g len j) = w → lo ≤ vlF g len (tkE g len (LnP g len j)) ∧ vlF g len (tkE g len (LnP g len j)) ≤ hi) → lo ≤ stA g len w x n ∧ stA g len w x n ≤ hi
  | 0, _ => hx
  | n + 1, h => by
    rw [stA]; split
    · rename_i q; exact h n (by omega) q
    · exact stA_all hx n (fun j a => h j (by omega))
theorem stB_all {g : Int → Int} {len w x lo hi : Int} (hx : lo ≤ x ∧ x ≤ hi) : ∀ n : Nat, (∀ j : Nat, j < n → lnW g len (LnP g len j) = w → lo ≤ vlF g len (tkE g len (tkE g len (LnP g len j))) ∧ vlF g len (tkE g len (tkE g len (LnP g len j))) ≤ hi) → lo ≤ stB g len w x n ∧ stB g len w x n ≤ hi
  | 0, _ => hx
  | n + 1, h => by
    rw [stB]; split
    · rename_i q; exact h n (by omega) q
    · exact stB_all hx n (fun j a => h j (by omega))
theorem ln_v0 {g : Int → Int} {len p : Int} (h : (lnR g len p).1 = 1) (hw : lnW g len p = 0) : 1 ≤ vlF g len (tkE g len p) ∧ vlF g len (tkE g len p) ≤ 12 := by
  unfold lnR at h; rw [if_pos hw] at h; have := nQ_1 h; omega
theorem ln_v1 {g : Int → Int} {len p : Int} (h : (lnR g len p).1 = 1) (hw : lnW g len p = 1) : 1 ≤ vlF g len (tkE g len p) ∧ vlF g len (tkE g len p) ≤ 10 := by
  unfold lnR at h; rw [if_neg (by omega), if_pos hw] at h; have := nQ_1 h; omega
theorem ln_v5 {g : Int → Int} {len p : Int} (h : (lnR g len p).1 = 1) (hw : lnW g len p = 5) : 0 ≤ vlF g len (tkE g len p) ∧ vlF g len (tkE g len p) ≤ 99 := by
  unfold lnR at h; rw [if_neg (by omega), if_neg (by omega), if_neg (by omega), if_neg (by omega), if_neg (by omega), if_pos hw] at h; have := nQ_1 h; omega
theorem ln_v3 {g : Int → Int} {len p : Int} (h : (lnR g len p).1 = 1) (hw : lnW g len p = 3) : (0 ≤ vlF g len (tkE g len p) ∧ vlF g len (tkE g len p) ≤ 400) ∧ (1 ≤ vlF g len (tkE g len (tkE g len p)) ∧ vlF g len (tkE g len (tkE g len p)) ≤ 300) := by
  unfold lnR at h; rw [if_neg (by omega), if_neg (by omega), if_neg (by omega), if_pos hw] at h
  have b := nQ_bd g len (tkE g len p) 0 400
  split at h
  · exact absurd (show (0 : Int) = 1 from h) (by decide)
  · rename_i q
    have := nQ_1 h; have := nQ_1 (show nQ g len (tkE g len p) 0 400 = 1 by omega); omega
theorem ln_v4 {g : Int → Int} {len p : Int} (h : (lnR g len p).1 = 1) (hw : lnW g len p = 4) : (0 ≤ vlF g len (tkE g len p) ∧ vlF g len (tkE g len p) ≤ 10) ∧ (0 ≤ vlF g len (tkE g len (tkE g len p)) ∧ vlF g len (tkE g len (tkE g len p)) ≤ 12) := by
  unfold lnR at h; rw [if_neg (by omega), if_neg (by omega), if_neg (by omega), if_neg (by omega), if_pos hw] at h
  have b := nQ_bd g len (tkE g len p) 0 10
  split at h
  · exact absurd (show (0 : Int) = 1 from h) (by decide)
  · rename_i q
    have := nQ_1 h; have := nQ_1 (show nQ g len (tkE g len p) 0 10 = 1 by omega); omega
theorem sum_mA {g : Int → Int} {len q : Int} {mp : Int → Int} {a : Int} (h : (mdT g len q).1 = 1) : ∀ n : Nat, (n : Int) ≤ (mdT g len q).2.2 → sumN (fun i => mdM g len q mp a (3 * (mdT g len q).2.2) (12 * a + 3 * i + 2)) n = mA g len q n
  | 0, _ => rfl
  | n + 1, hn => by
    rw [sumN, sum_mA h n (by omega), mA]
    congr 1
    unfold mdM
    rw [if_pos (by omega), show 12 * a + 3 * (n : Int) + 2 - 12 * a = 3 * (n : Int) + 2 by omega, mdV_2]
    rfl
theorem MoodOK_md {g : Int → Int} {len q : Int} {cs mp : Int → Int} (hM : MoodOK cs mp) (h : (mdT g len q).1 = 1) : MoodOK (uZ cs (vlF g len q) (mdT g len q).2.2) (mdM g len q mp (vlF g len q) (3 * (mdT g len q).2.2)) := by
  have hv := mdT_a h
  have ho := mdT_ok h
  generalize vlF g len q = a at hv ⊢
  intro m h0 h4
  by_cases e : m = a
  · subst e
    rw [uZ_s]
    refine ⟨⟨ho.2.1, ho.2.2.1⟩, fun i i0 i1 => ?_, ?_⟩
    · have z := ho.2.2.2.2 i.toNat (by omega)
      have z1 := nOK_1 z.2.1
      have z2 := nOK_1 z.2.2.1
      have z3 := nOK_1 z.2.2.2
      have b := mA_bd h i.toNat (by omega)
      have lo : 1 ≤ (if i.toNat = 3 then 10 - mA g len q i.toNat else 1) := by split <;> omega
      unfold mdM
      rw [if_pos (by omega), if_pos (by omega), if_pos (by omega), show 12 * m + 3 * i - 12 * m = 3 * i by omega, show 12 * m + 3 * i + 1 - 12 * m = 3 * i + 1 by omega, show 12 * m + 3 * i + 2 - 12 * m = 3 * i + 2 by omega, mdV_0, mdV_1, mdV_2]
      omega
    · have b := mA_bd h (mdT g len q).2.2.toNat (by omega)
      rw [sum_mA h _ (by omega)]
      exact b.2
  · rw [uZ_n _ _ e]
    have hm := hM m h0 h4
    have he : ∀ i r, 0 ≤ i → i < cs m → 0 ≤ r → r ≤ 2 → mdM g len q mp a (3 * (mdT g len q).2.2) (12 * m + 3 * i + r) = mp (12 * m + 3 * i + r) := fun i r i0 i1 r0 r2 => by
      unfold mdM; rw [if_neg (by omega)]
    refine ⟨hm.1, fun i i0 i1 => ?_, ?_⟩
    · have e0 := he i 0 i0 i1 (by decide) (by decide)
      rw [Int.add_zero] at e0
      rw [e0, he i 1 i0 i1 (by decide) (by decide), he i 2 i0 i1 (by decide) (by decide)]
      exact hm.2.1 i i0 i1
    · rw [sumN_cong (g := fun i => mp (12 * m + 3 * i + 2)) (fun i i0 i1 => he i 2 i0 (by omega) (by decide) (by decide))]
      exact hm.2.2
theorem MoodOK_N {g : Int → Int} {len : Int} {cs mp : Int → Int} (hM : MoodOK cs mp) : ∀ n : Nat, (∀ j : Nat, j < n → (lnR g len (LnP g len j)).1 = 1) → MoodOK (csN g len cs n) (mpN g len mp n)
  | 0, _ => hM
  | n + 1, h => by
    have a := MoodOK_N hM n (fun j b => h j (by omega))
    rw [csN, mpN]
    by_cases q : lnW g len (LnP g len n) = 2
    · rw [if_pos q, if_pos q]; exact MoodOK_md a (lnR_2 (h n (by omega)) q)
    · rw [if_neg q, if_neg q]; exact a
theorem csN_no {g : Int → Int} {len : Int} (cs mp : Int → Int) : ∀ n : Nat, ¬ hsL g len 2 n = 1 → csN g len cs n = cs ∧ mpN g len mp n = mp
  | 0, _ => ⟨rfl, rfl⟩
  | n + 1, h => by
    rw [hsL] at h
    by_cases q : lnW g len (LnP g len n) = 2
    · rw [if_pos q] at h; exact absurd rfl h
    · rw [if_neg q] at h; rw [csN, mpN, if_neg q, if_neg q]; exact csN_no cs mp n h
theorem hsL_bit (g : Int → Int) (len w : Int) : ∀ n : Nat, hsL g len w n = 0 ∨ hsL g len w n = 1
  | 0 => Or.inl rfl
  | n + 1 => by
    rw [hsL]; split
    · exact Or.inr rfl
    · exact hsL_bit g len w n
theorem hsN_L {g : Int → Int} {len w : Int} {wd : Int → Int} : ∀ n : Nat, (∀ j : Nat, j < n → wd (j : Int) = lnW g len (LnP g len j)) → hsN wd w n = hsL g len w n
  | 0, _ => rfl
  | n + 1, h => by rw [hsN, hsL, h n (by omega), hsN_L n (fun j a => h j (by omega))]
theorem hs3_or {g : Int → Int} {len : Int} : ∀ n : Nat, (∀ j : Nat, j < n → (lnR g len (LnP g len j)).1 = 1) → (hs3 g len n = 1 ↔ hsL g len 0 n = 1 ∨ hsL g len 1 n = 1 ∨ hsL g len 2 n = 1)
  | 0, _ => by
    rw [hs3, hsL, hsL, hsL]; omega
  | n + 1, h => by
    have a := hs3_or n (fun j b => h j (by omega))
    have w := lnR_w (h n (by omega))
    rw [hs3, hsL, hsL, hsL]
    by_cases q : lnW g len (LnP g len n) < 3
    · rw [if_pos q]
      refine ⟨fun _ => ?_, fun _ => rfl⟩
      have q3 : lnW g len (LnP g len n) = 0 ∨ lnW g len (LnP g len n) = 1 ∨ lnW g len (LnP g len n) = 2 := by omega
      rcases q3 with e | e | e
      · exact Or.inl (if_pos e)
      · exact Or.inr (Or.inl (if_pos e))
      · exact Or.inr (Or.inr (if_pos e))
    · rw [if_neg q, if_neg (by omega), if_neg (by omega), if_neg (by omega)]
      exact a
theorem stA_no {g : Int → Int} {len w x : Int} : ∀ n : Nat, ¬ hsL g len w n = 1 → stA g len w x n = x
  | 0, _ => rfl
  | n + 1, h => by
    rw [hsL] at h
    by_cases q : lnW g len (LnP g len n) = w
    · rw [if_pos q] at h; exact absurd rfl h
    · rw [if_neg q] at h; rw [stA, if_neg q]; exact stA_no n h
