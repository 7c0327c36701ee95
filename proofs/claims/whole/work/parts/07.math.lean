/-! ===== MAKES and WINS as numbers ===== -/
def sumN (f : Int → Int) : Nat → Int
  | 0 => 0
  | n + 1 => sumN f n + f (n : Int)
def mxF (f : Int → Int) : Nat → Int
  | 0 => 0
  | n + 1 => if mxF f n < f (n : Int) then f (n : Int) else mxF f n
def MK (cs mp : Int → Int) : Nat → Int → Int
  | 0, _ => 0
  | u + 1, v => if v ≤ 0 then 0 else mxF (fun m => sumN (fun i => mp (12 * m + 3 * i + 2) * (mp (12 * m + 3 * i) * (10 : Int) ^ u + MK cs mp u (v - mp (12 * m + 3 * i + 1)))) (cs m).toNat) 4
def WN (cs mp : Int → Int) : Nat → Int → Int → Int
  | 0, _, n => if n ≤ 0 then 1 else 0
  | u + 1, v, n => if n ≤ 0 then (10 : Int) ^ (u + 1) else if v ≤ 0 then 0 else mxF (fun m => sumN (fun i => mp (12 * m + 3 * i + 2) * WN cs mp u (v - mp (12 * m + 3 * i + 1)) (n - mp (12 * m + 3 * i))) (cs m).toNat) 4
/-- what a mood makes, wins -/
def MKin (cs mp : Int → Int) (m : Int) (u : Nat) (v : Int) : Int := sumN (fun i => mp (12 * m + 3 * i + 2) * (mp (12 * m + 3 * i) * (10 : Int) ^ u + MK cs mp u (v - mp (12 * m + 3 * i + 1)))) (cs m).toNat
def WNin (cs mp : Int → Int) (m : Int) (u : Nat) (v n : Int) : Int := sumN (fun i => mp (12 * m + 3 * i + 2) * WN cs mp u (v - mp (12 * m + 3 * i + 1)) (n - mp (12 * m + 3 * i))) (cs m).toNat
def MoodOK (cs mp : Int → Int) : Prop := ∀ m, 0 ≤ m → m < 4 → (0 ≤ cs m ∧ cs m ≤ 4) ∧ (∀ i, 0 ≤ i → i < cs m → (0 ≤ mp (12 * m + 3 * i) ∧ mp (12 * m + 3 * i) ≤ 36) ∧ (0 ≤ mp (12 * m + 3 * i + 1) ∧ mp (12 * m + 3 * i + 1) ≤ 3) ∧ (1 ≤ mp (12 * m + 3 * i + 2) ∧ mp (12 * m + 3 * i + 2) ≤ 10)) ∧ sumN (fun i => mp (12 * m + 3 * i + 2)) (cs m).toNat ≤ 10
theorem MK_succ (cs mp : Int → Int) (u : Nat) {v : Int} (h : 0 < v) : MK cs mp (u + 1) v = mxF (fun m => MKin cs mp m u v) 4 := by rw [MK, if_neg (by omega)]; rfl
theorem MK_men (cs mp : Int → Int) (u : Nat) {v : Int} (h : v ≤ 0) : MK cs mp u v = 0 := by cases u with
  | zero => rfl
  | succ u => rw [MK, if_pos h]
theorem WN_succ (cs mp : Int → Int) (u : Nat) {v n : Int} (h : 0 < v) (hn : 0 < n) : WN cs mp (u + 1) v n = mxF (fun m => WNin cs mp m u v n) 4 := by rw [WN, if_neg (by omega), if_neg (by omega)]; rfl
theorem WN_got (cs mp : Int → Int) (u : Nat) (v : Int) {n : Int} (h : n ≤ 0) : WN cs mp u v n = (10 : Int) ^ u := by cases u with
  | zero => rw [WN, if_pos h]; rfl
  | succ u => rw [WN, if_pos h]
theorem WN_men (cs mp : Int → Int) (u : Nat) {v n : Int} (h : v ≤ 0) (hn : 0 < n) : WN cs mp u v n = 0 := by cases u with
  | zero => rw [WN, if_neg (by omega)]
  | succ u => rw [WN, if_neg (by omega), if_pos h]
theorem sumN_le {f g : Int → Int} : ∀ {n : Nat}, (∀ i : Int, 0 ≤ i → i < (n : Int) → f i ≤ g i) → sumN f n ≤ sumN g n
  | 0, _ => Int.le_refl _
  | n + 1, h => by
    have h1 := sumN_le (f := f) (g := g) (n := n) (fun i a b => h i a (by omega))
    have h2 := h (n : Int) (by omega) (by omega)
    show sumN f n + f n ≤ sumN g n + g n
    omega
theorem sumN_cong {f g : Int → Int} : ∀ {n : Nat}, (∀ i : Int, 0 ≤ i → i < (n : Int) → f i = g i) → sumN f n = sumN g n
  | 0, _ => rfl
  | n + 1, h => by
    have h1 := sumN_cong (f := f) (g := g) (n := n) (fun i a b => h i a (by omega))
    have h2 := h (n : Int) (by omega) (by omega)
    show sumN f n + f n = sumN g n + g n
    rw [h1, h2]
theorem sumN_nn {f : Int → Int} : ∀ {n : Nat}, (∀ i : Int, 0 ≤ i → i < (n : Int) → 0 ≤ f i) → 0 ≤ sumN f n
  | 0, _ => Int.le_refl _
  | n + 1, h => by
    have h1 := sumN_nn (f := f) (n := n) (fun i a b => h i a (by omega))
    have h2 := h (n : Int) (by omega) (by omega)
    show 0 ≤ sumN f n + f n
    omega
theorem sumN_mulr (f : Int → Int) (c : Int) : ∀ n : Nat, sumN (fun i => f i * c) n = sumN f n * c
  | 0 => by show (0 : Int) = 0 * c; rw [Int.zero_mul]
  | n + 1 => by
    show sumN (fun i => f i * c) n + f n * c = (sumN f n + f n) * c
    rw [sumN_mulr f c n, Int.add_mul]
theorem sumN_part {f : Int → Int} {n : Nat} (hf : ∀ i : Int, 0 ≤ i → i < (n : Int) → 0 ≤ f i) : ∀ {k : Nat}, k ≤ n → sumN f k ≤ sumN f n := by
  induction n with
  | zero => intro k hk; have : k = 0 := by omega
            subst this; exact Int.le_refl _
  | succ n ih =>
    intro k hk
    rcases Nat.lt_or_ge k (n + 1) with q | q
    · have h1 := ih (fun i a b => hf i a (by omega)) (k := k) (by omega)
      have h2 := hf (n : Int) (by omega) (by omega)
      show sumN f k ≤ sumN f n + f n
      omega
    · have : k = n + 1 := by omega
      subst this; exact Int.le_refl _
theorem mxF_nn (f : Int → Int) : ∀ n : Nat, 0 ≤ mxF f n
  | 0 => Int.le_refl _
  | n + 1 => by
    have h := mxF_nn f n
    show 0 ≤ if mxF f n < f n then f n else mxF f n
    split <;> omega
theorem mxF_le {f g : Int → Int} : ∀ {n : Nat}, (∀ i : Int, 0 ≤ i → i < (n : Int) → f i ≤ g i) → mxF f n ≤ mxF g n
  | 0, _ => Int.le_refl _
  | n + 1, h => by
    have h1 := mxF_le (f := f) (g := g) (n := n) (fun i a b => h i a (by omega))
    have h2 := h (n : Int) (by omega) (by omega)
    show (if mxF f n < f n then f n else mxF f n) ≤ if mxF g n < g n then g n else mxF g n
    split <;> split <;> omega
theorem mxF_cong {f g : Int → Int} : ∀ {n : Nat}, (∀ i : Int, 0 ≤ i → i < (n : Int) → f i = g i) → mxF f n = mxF g n
  | 0, _ => rfl
  | n + 1, h => by
    have h1 := mxF_cong (f := f) (g := g) (n := n) (fun i a b => h i a (by omega))
    have h2 := h (n : Int) (by omega) (by omega)
    show (if mxF f n < f n then f n else mxF f n) = if mxF g n < g n then g n else mxF g n
    rw [h1, h2]
theorem mxF_bd {f : Int → Int} {c : Int} (hc : 0 ≤ c) : ∀ {n : Nat}, (∀ i : Int, 0 ≤ i → i < (n : Int) → f i ≤ c) → mxF f n ≤ c
  | 0, _ => hc
  | n + 1, h => by
    have h1 := mxF_bd (f := f) hc (n := n) (fun i a b => h i a (by omega))
    have h2 := h (n : Int) (by omega) (by omega)
    show (if mxF f n < f n then f n else mxF f n) ≤ c
    split <;> omega
theorem mxF_mul {f : Int → Int} {c : Int} (hc : 0 < c) : ∀ {n : Nat}, mxF (fun i => c * f i) n = c * mxF f n
  | 0 => by show (0 : Int) = c * 0; rw [Int.mul_zero]
  | n + 1 => by
    show (if mxF (fun i => c * f i) n < c * f n then c * f n else mxF (fun i => c * f i) n) = c * if mxF f n < f n then f n else mxF f n
    rw [mxF_mul hc]
    by_cases h : mxF f n < f n
    · rw [if_pos h, if_pos (Int.mul_lt_mul_of_pos_left h hc)]
    · rw [if_neg h, if_neg (fun q => h (Int.lt_of_mul_lt_mul_left q (Int.le_of_lt hc)))]
theorem p10_pos (u : Nat) : 0 < (10 : Int) ^ u := Int.pow_pos (by decide)
/-- a mood's cases, as wanted in the bounds -/
theorem MoodOK.case {cs mp : Int → Int} (h : MoodOK cs mp) {m i : Int} (h0 : 0 ≤ m) (h4 : m < 4) (hi : 0 ≤ i) (hc : i < ((cs m).toNat : Int)) : (0 ≤ mp (12 * m + 3 * i) ∧ mp (12 * m + 3 * i) ≤ 36) ∧ (0 ≤ mp (12 * m + 3 * i + 1) ∧ mp (12 * m + 3 * i + 1) ≤ 3) ∧ (1 ≤ mp (12 * m + 3 * i + 2) ∧ mp (12 * m + 3 * i + 2) ≤ 10) := (h m h0 h4).2.1 i hi (by omega)
theorem mul_nn {a b : Int} (ha : 0 ≤ a) (hb : 0 ≤ b) : 0 ≤ a * b := Int.mul_nonneg ha hb
theorem WN_nn {cs mp : Int → Int} (hM : MoodOK cs mp) : ∀ (u : Nat) (v n : Int), 0 ≤ WN cs mp u v n
  | 0, v, n => by rw [WN]; split <;> omega
  | u + 1, v, n => by
    rw [WN]
    split
    · exact Int.le_of_lt (p10_pos _)
    · split
      · exact Int.le_refl _
      · exact mxF_nn _ _
theorem WNin_nn {cs mp : Int → Int} (hM : MoodOK cs mp) {m : Int} (h0 : 0 ≤ m) (h4 : m < 4) (u : Nat) (v n : Int) : 0 ≤ WNin cs mp m u v n :=
  sumN_nn (fun i a b => mul_nn (by have := (hM.case h0 h4 a b).2.2; omega) (WN_nn hM u _ _))
theorem WN_le {cs mp : Int → Int} (hM : MoodOK cs mp) : ∀ (u : Nat) (v n : Int), WN cs mp u v n ≤ (10 : Int) ^ u
  | 0, v, n => by rw [WN]; show (if n ≤ 0 then (1 : Int) else 0) ≤ 1; split <;> omega
  | u + 1, v, n => by
    have hp := p10_pos (u + 1)
    rw [WN]
    split
    · exact Int.le_refl _
    · split
      · omega
      · refine mxF_bd (Int.le_of_lt hp) (fun m a b => ?_)
        have h1 : sumN (fun i => mp (12 * m + 3 * i + 2) * WN cs mp u (v - mp (12 * m + 3 * i + 1)) (n - mp (12 * m + 3 * i))) (cs m).toNat ≤ sumN (fun i => mp (12 * m + 3 * i + 2) * (10 : Int) ^ u) (cs m).toNat :=
          sumN_le (fun i a2 b2 => Int.mul_le_mul_of_nonneg_left (WN_le hM u _ _) (by have := (hM.case a b a2 b2).2.2; omega))
        rw [sumN_mulr] at h1
        have h2 : sumN (fun i => mp (12 * m + 3 * i + 2)) (cs m).toNat * (10 : Int) ^ u ≤ 10 * (10 : Int) ^ u := Int.mul_le_mul_of_nonneg_right (hM m a b).2.2 (Int.le_of_lt (p10_pos u))
        have h3 : (10 : Int) ^ (u + 1) = 10 * (10 : Int) ^ u := by rw [Int.pow_succ, Int.mul_comm]
        rw [h3]
        exact Int.le_trans h1 h2
theorem WNin_le {cs mp : Int → Int} (hM : MoodOK cs mp) {m : Int} (h0 : 0 ≤ m) (h4 : m < 4) (u : Nat) (v n : Int) : WNin cs mp m u v n ≤ (10 : Int) ^ (u + 1) := by
  have h1 : WNin cs mp m u v n ≤ sumN (fun i => mp (12 * m + 3 * i + 2) * (10 : Int) ^ u) (cs m).toNat :=
    sumN_le (fun i a2 b2 => Int.mul_le_mul_of_nonneg_left (WN_le hM u _ _) (by have := (hM.case h0 h4 a2 b2).2.2; omega))
  rw [sumN_mulr] at h1
  have h2 : sumN (fun i => mp (12 * m + 3 * i + 2)) (cs m).toNat * (10 : Int) ^ u ≤ 10 * (10 : Int) ^ u := Int.mul_le_mul_of_nonneg_right (hM m h0 h4).2.2 (Int.le_of_lt (p10_pos u))
  have h3 : (10 : Int) ^ (u + 1) = 10 * (10 : Int) ^ u := by rw [Int.pow_succ, Int.mul_comm]
  rw [h3]
  exact Int.le_trans h1 h2
theorem WN_mono {cs mp : Int → Int} (hM : MoodOK cs mp) : ∀ (u : Nat) (v : Int) {n n' : Int}, n ≤ n' → WN cs mp u v n' ≤ WN cs mp u v n
  | 0, v, n, n', h => by rw [WN, WN]; split <;> split <;> omega
  | u + 1, v, n, n', h => by
    by_cases h1 : n ≤ 0
    · rw [WN_got cs mp (u + 1) v h1]; exact WN_le hM _ _ _
    · rw [WN, WN, if_neg h1, if_neg (show ¬ n' ≤ 0 by omega)]
      by_cases h2 : v ≤ 0
      · rw [if_pos h2, if_pos h2]; exact Int.le_refl _
      · rw [if_neg h2, if_neg h2]
        exact mxF_le (fun m a b => sumN_le (fun i a2 b2 => Int.mul_le_mul_of_nonneg_left (WN_mono hM u _ (by omega)) (by have := (hM.case a b a2 b2).2.2; omega)))
theorem WN_far {cs mp : Int → Int} (hM : MoodOK cs mp) : ∀ (u : Nat) (v : Int) {n : Int}, 36 * (u : Int) < n → WN cs mp u v n = 0
  | 0, v, n, h => by rw [WN, if_neg (by omega)]
  | u + 1, v, n, h => by
    by_cases h2 : v ≤ 0
    · exact WN_men cs mp (u + 1) h2 (by omega)
    · have h3 : WN cs mp (u + 1) v n ≤ 0 := by
        rw [WN, if_neg (by omega), if_neg h2]
        refine mxF_bd (Int.le_refl _) (fun m a b => ?_)
        have h1 : sumN (fun i => mp (12 * m + 3 * i + 2) * WN cs mp u (v - mp (12 * m + 3 * i + 1)) (n - mp (12 * m + 3 * i))) (cs m).toNat ≤ sumN (fun i => mp (12 * m + 3 * i + 2) * 0) (cs m).toNat := by
          refine sumN_le (fun i a2 b2 => ?_)
          rw [WN_far hM u _ (by have := (hM.case a b a2 b2).1; omega)]
          exact Int.le_refl _
        rw [sumN_mulr, Int.mul_zero] at h1
        exact h1
      exact Int.le_antisymm h3 (WN_nn hM _ _ _)
theorem MK_nn {cs mp : Int → Int} (u : Nat) (v : Int) : 0 ≤ MK cs mp u v := by cases u with
  | zero => exact Int.le_refl _
  | succ u =>
    rw [MK]; split
    · exact Int.le_refl _
    · exact mxF_nn _ _
theorem MKin_nn {cs mp : Int → Int} (hM : MoodOK cs mp) {m : Int} (h0 : 0 ≤ m) (h4 : m < 4) (u : Nat) (v : Int) : 0 ≤ MKin cs mp m u v :=
  sumN_nn (fun i a b => mul_nn (by have := (hM.case h0 h4 a b).2.2; omega) (Int.add_nonneg (mul_nn (by have := (hM.case h0 h4 a b).1; omega) (Int.le_of_lt (p10_pos u))) (MK_nn u _)))
theorem MK_le {cs mp : Int → Int} (hM : MoodOK cs mp) : ∀ (u : Nat) (v : Int), MK cs mp u v ≤ 36 * (u : Int) * (10 : Int) ^ u
  | 0, v => by show (0 : Int) ≤ _; simp
  | u + 1, v => by
    have hp := p10_pos u
    have hr : (10 : Int) ^ (u + 1) = 10 * (10 : Int) ^ u := by rw [Int.pow_succ, Int.mul_comm]
    have hpos : 0 ≤ 36 * ((u + 1 : Nat) : Int) * (10 : Int) ^ (u + 1) := mul_nn (by omega) (Int.le_of_lt (p10_pos _))
    rw [MK]; split
    · exact hpos
    · refine mxF_bd hpos (fun m a b => ?_)
      have h1 : sumN (fun i => mp (12 * m + 3 * i + 2) * (mp (12 * m + 3 * i) * (10 : Int) ^ u + MK cs mp u (v - mp (12 * m + 3 * i + 1)))) (cs m).toNat ≤ sumN (fun i => mp (12 * m + 3 * i + 2) * (36 * ((u + 1 : Nat) : Int) * (10 : Int) ^ u)) (cs m).toNat := by
        refine sumN_le (fun i a2 b2 => Int.mul_le_mul_of_nonneg_left ?_ (by have := (hM.case a b a2 b2).2.2; omega))
        have e1 : mp (12 * m + 3 * i) * (10 : Int) ^ u ≤ 36 * (10 : Int) ^ u := Int.mul_le_mul_of_nonneg_right (by have := (hM.case a b a2 b2).1; omega) (Int.le_of_lt hp)
        have e2 := MK_le hM u (v - mp (12 * m + 3 * i + 1))
        have e3 : 36 * ((u + 1 : Nat) : Int) * (10 : Int) ^ u = 36 * (10 : Int) ^ u + 36 * (u : Int) * (10 : Int) ^ u := by
          rw [← Int.add_mul]; congr 1; omega
        rw [e3]; exact Int.add_le_add e1 e2
      rw [sumN_mulr] at h1
      have h2 : sumN (fun i => mp (12 * m + 3 * i + 2)) (cs m).toNat * (36 * ((u + 1 : Nat) : Int) * (10 : Int) ^ u) ≤ 10 * (36 * ((u + 1 : Nat) : Int) * (10 : Int) ^ u) := Int.mul_le_mul_of_nonneg_right (hM m a b).2.2 (mul_nn (by omega) (Int.le_of_lt hp))
      have h3 : 36 * ((u + 1 : Nat) : Int) * (10 : Int) ^ (u + 1) = 10 * (36 * ((u + 1 : Nat) : Int) * (10 : Int) ^ u) := by
        rw [hr, Int.mul_left_comm]
      rw [h3]; exact Int.le_trans h1 h2
theorem MK_monov {cs mp : Int → Int} (hM : MoodOK cs mp) : ∀ (u : Nat) {v v' : Int}, v ≤ v' → MK cs mp u v ≤ MK cs mp u v'
  | 0, v, v', _ => Int.le_refl _
  | u + 1, v, v', h => by
    by_cases h1 : v ≤ 0
    · rw [MK_men cs mp (u + 1) h1]; exact MK_nn _ _
    · rw [MK, MK, if_neg h1, if_neg (show ¬ v' ≤ 0 by omega)]
      exact mxF_le (fun m a b => sumN_le (fun i a2 b2 => Int.mul_le_mul_of_nonneg_left (Int.add_le_add_left (MK_monov hM u (by omega)) _) (by have := (hM.case a b a2 b2).2.2; omega)))
theorem MK_monou {cs mp : Int → Int} (hM : MoodOK cs mp) : ∀ (u : Nat) (v : Int), 10 * MK cs mp u v ≤ MK cs mp (u + 1) v
  | 0, v => by show 10 * (0 : Int) ≤ _; rw [Int.mul_zero]; exact MK_nn _ _
  | u + 1, v => by
    by_cases h1 : v ≤ 0
    · rw [MK_men cs mp (u + 1) h1, Int.mul_zero]; exact MK_nn _ _
    · rw [MK, MK, if_neg h1, if_neg h1, ← mxF_mul (by decide)]
      refine mxF_le (fun m a b => ?_)
      show 10 * sumN _ _ ≤ sumN _ _
      rw [Int.mul_comm, ← sumN_mulr]
      refine sumN_le (fun i a2 b2 => ?_)
      show mp (12 * m + 3 * i + 2) * (mp (12 * m + 3 * i) * (10 : Int) ^ u + MK cs mp u (v - mp (12 * m + 3 * i + 1))) * 10 ≤ mp (12 * m + 3 * i + 2) * (mp (12 * m + 3 * i) * (10 : Int) ^ (u + 1) + MK cs mp (u + 1) (v - mp (12 * m + 3 * i + 1)))
      rw [Int.mul_assoc]
      refine Int.mul_le_mul_of_nonneg_left ?_ (by have := (hM.case a b a2 b2).2.2; omega)
      rw [Int.add_mul, Int.mul_assoc, ← Int.pow_succ, Int.mul_comm (MK cs mp u _) 10]
      exact Int.add_le_add_left (MK_monou hM u _) _
theorem MK_share {cs mp : Int → Int} (hM : MoodOK cs mp) (u : Nat) {v w : Int} (hv : v ≤ w) : ∀ k : Nat, MK cs mp u v * (10 : Int) ^ k ≤ MK cs mp (u + k) w
  | 0 => by rw [Int.pow_zero, Int.mul_one]; exact MK_monov hM u hv
  | k + 1 => by
    have h1 := MK_share hM u hv k
    have h2 := MK_monou hM (u + k) w
    have h3 : MK cs mp u v * (10 : Int) ^ (k + 1) = 10 * (MK cs mp u v * (10 : Int) ^ k) := by
      rw [Int.pow_succ, ← Int.mul_assoc, Int.mul_comm]
    rw [h3]
    exact Int.le_trans (Int.mul_le_mul_of_nonneg_left h1 (by decide)) h2
