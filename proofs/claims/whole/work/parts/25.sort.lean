theorem fb_holes : ∀ (m n : Nat) (f : Nat → Nat), (∀ i, i < n → f i < m) → (∀ i j, i < j → j < n → f i ≠ f j) → n ≤ m := by
  intro m
  induction m with
  | zero =>
    intro n f h1 _
    rcases Nat.eq_zero_or_pos n with h | h
    · omega
    · exact absurd (h1 0 h) (Nat.not_lt_zero _)
  | succ m ih =>
    intro n f h1 h2
    by_cases hx : ∃ i, i < n ∧ f i = m
    · obtain ⟨a, ha, hfa⟩ := hx
      have hg := ih (n - 1) (fun i => if i < a then f i else f (i + 1)) (by
        intro i hi
        by_cases q : i < a
        · simp only [if_pos q]
          have b1 := h1 i (by omega)
          have b2 := h2 i a q ha
          omega
        · simp only [if_neg q]
          have b1 := h1 (i + 1) (by omega)
          have b2 := h2 a (i + 1) (by omega) (by omega)
          omega) (by
        intro i j hij hj
        by_cases q : i < a
        · by_cases r : j < a
          · simp only [if_pos q, if_pos r]
            exact h2 i j hij (by omega)
          · simp only [if_pos q, if_neg r]
            exact h2 i (j + 1) (by omega) (by omega)
        · have r : ¬ j < a := by omega
          simp only [if_neg q, if_neg r]
          exact h2 (i + 1) (j + 1) (by omega) (by omega))
      omega
    · have hg := ih n f (fun i hi => by
        have b1 := h1 i hi
        have b2 : f i ≠ m := fun e => hx ⟨i, hi, e⟩
        omega) h2
      omega
theorem fb_twice {m n : Nat} {f : Nat → Nat} (h : ∀ i, i < n → f i < m) (hm : m < n) : ∃ i j, i < j ∧ j < n ∧ f i = f j := by
  refine Classical.byContradiction fun hx => ?_
  have := fb_holes m n f h (fun i j hij hj e => hx ⟨i, j, hij, hj, e⟩)
  omega
theorem fb_onto {n : Nat} {f : Nat → Nat} (h : ∀ i, i < n → f i < n) (h2 : ∀ i j, i < j → j < n → f i ≠ f j) {y : Nat} (hy : y < n) : ∃ i, i < n ∧ f i = y := by
  refine Classical.byContradiction fun hx => ?_
  have hne : ∀ i, i < n → f i ≠ y := fun i hi e => hx ⟨i, hi, e⟩
  have := fb_holes (n - 1) n (fun i => if f i < y then f i else f i - 1) (by
    intro i hi
    have b1 := h i hi
    have b2 := hne i hi
    by_cases q : f i < y
    · simp only [if_pos q]; omega
    · simp only [if_neg q]; omega) (by
    intro i j hij hj
    have b1 := hne i (by omega)
    have b2 := hne j hj
    have b3 := h2 i j hij hj
    by_cases q : f i < y
    · by_cases r : f j < y
      · simp only [if_pos q, if_pos r]; exact b3
      · simp only [if_pos q, if_neg r]; omega
    · by_cases r : f j < y
      · simp only [if_neg q, if_pos r]; omega
      · simp only [if_neg q, if_neg r]; omega)
  omega
/-! ===== how many places have a property ===== -/
/-! ===== sorting by putting in, and ranks ===== -/
def foF (fi : Int → Int) (k : Int) : Int → Int := fun j => if j < k then fi j else 0
/-- i comes ahead of j -/
def bef (v : Int → Int) (i j : Int) : Prop := v i < v j ∨ (v i = v j ∧ i < j)
theorem rk_mono (v : Int → Int) {i j : Int} (hi : 0 ≤ i) (h : v i < v j ∨ (v i = v j ∧ i < j)) : ∀ k : Nat, rkN v i k + (if i < (k : Int) then 1 else 0) ≤ rkN v j k
  | 0 => by show (0 : Int) + (if i < ((0 : Nat) : Int) then 1 else 0) ≤ 0; rw [if_neg (by omega)]; decide
  | k + 1 => by
    have ih := rk_mono v hi h k
    rw [rkN, rkN]
    by_cases e : i = (k : Int)
    · subst e
      rw [if_neg (by omega : ¬ (k : Int) < (k : Int))] at ih
      rw [if_neg (by omega), if_pos h, if_pos (by omega)]
      omega
    · by_cases q : v (k : Int) < v i ∨ (v (k : Int) = v i ∧ (k : Int) < i)
      · rw [if_pos q, if_pos (show v (k : Int) < v j ∨ (v (k : Int) = v j ∧ (k : Int) < j) by omega)]
        split at ih <;> split <;> omega
      · rw [if_neg q]
        split at ih <;> split <;> split <;> omega
theorem rk_lt (v : Int → Int) {j : Int} (hj : 0 ≤ j) : ∀ k : Nat, rkN v j k + (if j < (k : Int) then 1 else 0) ≤ (k : Int)
  | 0 => by show (0 : Int) + (if j < ((0 : Nat) : Int) then 1 else 0) ≤ 0; rw [if_neg (by omega)]; decide
  | k + 1 => by
    have ih := rk_lt v hj k
    rw [rkN]
    by_cases e : j = (k : Int)
    · subst e
      rw [if_neg (by omega : ¬ (k : Int) < (k : Int))] at ih
      rw [if_neg (by omega), if_pos (by omega)]
      omega
    · split at ih <;> split <;> split <;> omega
def rkF (v : Int → Int) (k : Nat) : Nat → Nat := fun i => (rkN v (i : Int) k).toNat
theorem rkF_lt (v : Int → Int) (k : Nat) : ∀ i, i < k → rkF v k i < k := fun i h => by
  have := rk_lt v (j := (i : Int)) (by omega) k
  rw [if_pos (by omega)] at this
  unfold rkF
  have := (rkN_bd v (i : Int) k).1
  omega
theorem rkF_inj (v : Int → Int) (k : Nat) : ∀ i j, i < j → j < k → rkF v k i ≠ rkF v k j := fun i j hij hj e => by
  unfold rkF at e
  have b1 := (rkN_bd v (i : Int) k).1
  have b2 := (rkN_bd v (j : Int) k).1
  rcases Int.lt_trichotomy (v (i : Int)) (v (j : Int)) with q | q | q
  · have := rk_mono v (i := (i : Int)) (j := (j : Int)) (by omega) (Or.inl q) k
    rw [if_pos (by omega)] at this; omega
  · have := rk_mono v (i := (i : Int)) (j := (j : Int)) (by omega) (Or.inr ⟨q, by omega⟩) k
    rw [if_pos (by omega)] at this; omega
  · have := rk_mono v (i := (j : Int)) (j := (i : Int)) (by omega) (Or.inl q) k
    rw [if_pos (by omega)] at this; omega
def wsN (v : Int → Int) (r : Nat → Nat) (t : Nat) : Nat → Int
  | 0 => 0
  | n + 1 => wsN v r t n + (if r n < t then v (n : Int) else 0)
def eqN (v : Int → Int) (r : Nat → Nat) (t : Nat) : Nat → Int
  | 0 => 0
  | n + 1 => eqN v r t n + (if r n = t then v (n : Int) else 0)
theorem wsN_t (v : Int → Int) (r : Nat → Nat) (t : Nat) : ∀ n, wsN v r (t + 1) n = wsN v r t n + eqN v r t n
  | 0 => rfl
  | n + 1 => by
    rw [wsN, wsN, eqN, wsN_t v r t n]
    by_cases a : r n = t
    · rw [if_pos (show r n < t + 1 by omega), if_neg (show ¬ r n < t by omega), if_pos a]; omega
    · by_cases b : r n < t
      · rw [if_pos (show r n < t + 1 by omega), if_pos b, if_neg a]; omega
      · rw [if_neg (show ¬ r n < t + 1 by omega), if_neg b, if_neg a]; omega
theorem eqN_one (v : Int → Int) (r : Nat → Nat) (t j0 : Nat) (h0 : r j0 = t) : ∀ n, (∀ j, j < n → r j = t → j = j0) → eqN v r t n = if j0 < n then v (j0 : Int) else 0
  | 0, _ => by rw [eqN, if_neg (Nat.not_lt_zero _)]
  | n + 1, h => by
    rw [eqN, eqN_one v r t j0 h0 n (fun j a b => h j (by omega) b)]
    by_cases e : n = j0
    · subst e
      rw [if_neg (Nat.lt_irrefl _), if_pos h0, if_pos (Nat.lt_succ_self _)]; omega
    · rw [if_neg (fun q => e (h n (Nat.lt_succ_self _) q))]
      by_cases q : j0 < n
      · rw [if_pos q, if_pos (by omega)]; omega
      · rw [if_neg q, if_neg (by omega)]; omega
theorem wsN_0 (v : Int → Int) (r : Nat → Nat) : ∀ n, wsN v r 0 n = 0
  | 0 => rfl
  | n + 1 => by rw [wsN, wsN_0 v r n, if_neg (Nat.not_lt_zero _)]; rfl
/-- one step of t over ranks -/
theorem wsN_rk (v w : Int → Int) (k t : Nat) (ht : t < k) : ∃ j0, j0 < k ∧ rkF v k j0 = t ∧ wsN w (rkF v k) (t + 1) k = wsN w (rkF v k) t k + w (j0 : Int) := by
  obtain ⟨j0, h1, h2⟩ := fb_onto (rkF_lt v k) (rkF_inj v k) ht
  refine ⟨j0, h1, h2, ?_⟩
  rw [wsN_t, eqN_one w (rkF v k) t j0 h2 k (fun j a b => by
    rcases Nat.lt_trichotomy j j0 with q | q | q
    · exact absurd (b.trans h2.symm) (rkF_inj v k j j0 q h1)
    · exact q
    · exact absurd (h2.trans b.symm) (rkF_inj v k j0 j q a)), if_pos h1]
theorem wsN_cnt (v : Int → Int) (k : Nat) : ∀ t : Nat, t ≤ k → wsN (fun _ => 1) (rkF v k) t k = (t : Int)
  | 0, _ => wsN_0 _ _ _
  | t + 1, h => by
    obtain ⟨j0, _, _, e⟩ := wsN_rk v (fun _ => 1) k t (by omega)
    rw [e, wsN_cnt v k t (by omega)]; omega
/-- sorted, and each at its rank -/
def SrtS (so : Int → Int) (k : Int) : Prop := ∀ p q, 0 ≤ p → p < q → q < k → so p ≤ so q
def SrtR (v so : Int → Int) (k : Int) : Prop := ∀ j, 0 ≤ j → j < k → so (rkN v j k.toNat) = v j
theorem srt_sum {v so : Int → Int} {k : Nat} (hR : SrtR v so (k : Int)) : ∀ t : Nat, t ≤ k → sumN so t = wsN v (rkF v k) t k
  | 0, _ => (wsN_0 _ _ _).symm
  | t + 1, h => by
    obtain ⟨j0, h1, h2, e⟩ := wsN_rk v v k t (by omega)
    rw [e, ← srt_sum hR t (by omega)]
    show sumN so t + so (t : Int) = _
    have hr := hR (j0 : Int) (by omega) (by omega)
    have hb := (rkN_bd v (j0 : Int) k).1
    unfold rkF at h2
    rw [show ((k : Int)).toNat = k from rfl, show rkN v (j0 : Int) k = (t : Int) by omega] at hr
    rw [hr]
theorem wo_ws (v : Int → Int) (t : Int) (k : Nat) (h0 : 0 ≤ t) : ∀ n : Nat, woN v t (k : Int) n + wsN v (rkF v k) t.toNat n = sumN v n
  | 0 => rfl
  | n + 1 => by
    have ih := wo_ws v t k h0 n
    show woN v t (k : Int) n + (if t ≤ rkN v (n : Int) ((k : Int)).toNat then v (n : Int) else 0) + (wsN v (rkF v k) t.toNat n + (if rkF v k n < t.toNat then v (n : Int) else 0)) = sumN v n + v (n : Int)
    have hb := (rkN_bd v (n : Int) k).1
    have e : ((k : Int)).toNat = k := rfl
    rw [e]
    unfold rkF
    by_cases q : t ≤ rkN v (n : Int) k
    · rw [if_pos q, if_neg (by omega)]; unfold rkF at ih; omega
    · rw [if_neg q, if_pos (by omega)]; unfold rkF at ih; omega
theorem foF_sum (fi : Int → Int) (k : Nat) : ∀ n : Nat, k ≤ n → sumN (foF fi (k : Int)) n = sumN fi k
  | 0, h => by
    have e : k = 0 := by omega
    subst e; rfl
  | n + 1, h => by
    by_cases e : k = n + 1
    · subst e
      exact sumN_cong (fun i a b => by unfold foF; rw [if_pos (by omega)])
    · show sumN (foF fi (k : Int)) n + foF fi (k : Int) (n : Int) = _
      rw [foF_sum fi k n (by omega)]
      unfold foF; rw [if_neg (by omega)]; omega
/-- what the sorted row gives is what the ranks give -/
theorem wo_srt {fi so : Int → Int} {f t al : Int} (hf0 : 0 ≤ f) (hf : f ≤ al) (h0 : 0 ≤ t) (ht : t ≤ al) (hR : SrtR (foF fi f) so al) : sumN fi f.toNat - sumN so t.toNat = woN (foF fi f) t al al.toNat := by
  obtain ⟨k, rfl⟩ := Int.eq_ofNat_of_zero_le (show 0 ≤ al by omega)
  obtain ⟨g, rfl⟩ := Int.eq_ofNat_of_zero_le hf0
  have a := wo_ws (foF fi (g : Int)) t k h0 k
  have b := srt_sum (k := k) hR t.toNat (by omega)
  have d := foF_sum fi g k (by omega)
  show sumN fi g - sumN so t.toNat = woN (foF fi (g : Int)) t (k : Int) k
  rw [← d, b]
  omega
/-- one element more -/
theorem srt_put {v so s2 : Int → Int} {k to : Int} (hk : 0 ≤ k) (hS : SrtS so k) (hR : SrtR v so k) (ht0 : 0 ≤ to) (htk : to ≤ k) (hlo : to = 0 ∨ so (to - 1) ≤ v k) (hhi : ∀ p, to ≤ p → p < k → v k < so p)
    (e1 : ∀ p, 0 ≤ p → p < to → s2 p = so p) (e2 : s2 to = v k) (e3 : ∀ p, to < p → p ≤ k → s2 p = so (p - 1)) : SrtS s2 (k + 1) ∧ SrtR v s2 (k + 1) := by
  have hbel : ∀ p, 0 ≤ p → p < to → so p ≤ v k := fun p a b => by
    rcases hlo with q | q
    · omega
    · by_cases e : p = to - 1
      · rw [e]; exact q
      · exact Int.le_trans (hS p (to - 1) a (by omega) (by omega)) q
  constructor
  · intro p q hp hpq hq
    rcases Int.lt_trichotomy q to with a | a | a
    · rw [e1 p hp (by omega), e1 q (by omega) a]; exact hS p q hp hpq (by omega)
    · subst a
      rw [e1 p hp hpq, e2]; exact hbel p hp hpq
    · rw [e3 q a (by omega)]
      rcases Int.lt_trichotomy p to with b | b | b
      · rw [e1 p hp b]; exact Int.le_trans (hbel p hp b) (Int.le_of_lt (hhi _ (by omega) (by omega)))
      · subst b
        rw [e2]; exact Int.le_of_lt (hhi _ (by omega) (by omega))
      · rw [e3 p b (by omega)]; exact hS _ _ (by omega) (by omega) (by omega)
  · obtain ⟨n, rfl⟩ := Int.eq_ofNat_of_zero_le hk
    have hrk : ∀ j, 0 ≤ j → j < (n : Int) → (v j ≤ v (n : Int) ↔ rkN v j n < to) := fun j a b => by
      have h1 := hR j a b
      have h2 := (rkN_bd v j n).1
      have h3 := rk_lt v a n
      rw [if_pos b] at h3
      rw [show ((n : Int)).toNat = n from rfl] at h1
      constructor
      · intro q
        by_cases c : rkN v j n < to
        · exact c
        · have := hhi _ (show to ≤ rkN v j n by omega) (by omega)
          rw [h1] at this; omega
      · intro q
        have := hbel _ h2 q
        rw [h1] at this; exact this
    have hcnt : rkN v (n : Int) n = to := by
      have h1 := wsN_cnt v n to.toNat (by omega)
      have h2 : ∀ m : Nat, m ≤ n → rkN v (n : Int) m = wsN (fun _ => 1) (rkF v n) to.toNat m := by
        intro m
        induction m with
        | zero => intro _; rfl
        | succ m ih =>
          intro hm
          rw [rkN, wsN, ih (by omega)]
          have h4 := hrk (m : Int) (by omega) (by omega)
          have h5 := (rkN_bd v (m : Int) n).1
          unfold rkF
          by_cases q : v (m : Int) ≤ v (n : Int)
          · rw [if_pos (by omega), if_pos (by have := h4.mp q; omega)]
          · rw [if_neg (by omega), if_neg (by intro z; exact q (h4.mpr (by omega)))]
      rw [h2 n (Nat.le_refl _), h1]; omega
    intro j hj hjn
    rw [show (((n : Int) + 1)).toNat = n + 1 by omega, rkN]
    by_cases e : j = (n : Int)
    · subst e
      rw [if_neg (by omega), hcnt, Int.add_zero, e2]
    · have h1 := hR j hj (by omega)
      rw [show ((n : Int)).toNat = n from rfl] at h1
      have h4 := hrk j hj (by omega)
      have h2 := (rkN_bd v j n).1
      have h3 := rk_lt v hj n
      rw [if_pos (show j < (n : Int) by omega)] at h3
      by_cases q : v (n : Int) < v j
      · rw [if_pos (Or.inl q), e3 _ (by have : ¬ rkN v j n < to := fun z => absurd (h4.mpr z) (by omega)
                                        omega) (by omega), show rkN v j n + 1 - 1 = rkN v j n by omega, h1]
      · rw [if_neg (by omega), Int.add_zero, e1 _ h2 (h4.mp (by omega)), h1]
