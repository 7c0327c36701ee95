theorem wc_pos {g : Int → Int} {s : Int} : ∀ n : Nat, (∀ k : Nat, k < n → 97 ≤ g (s + (k : Int)) ∧ g (s + (k : Int)) ≤ 122) → (n : Int) ≤ wcN g s n
  | 0, _ => by rw [wcN]; decide
  | n + 1, h => by
    have a := wc_pos n (fun k z => h k (by omega)); have b := h n (by omega)
    rw [wcN]; omega
theorem wc_inv {g : Int → Int} {s : Int} {n : Nat} (h : ∀ k : Nat, k < n → 97 ≤ g (s + (k : Int)) ∧ g (s + (k : Int)) ≤ 122) {v : Int} (hv : wcN g s n = v) (h1 : 1 ≤ v) : ∃ m : Nat, n = m + 1 ∧ wcN g s m = v / 27 ∧ g (s + (m : Int)) = v % 27 + 96 := by
  cases n with
  | zero => rw [wcN] at hv; omega
  | succ m =>
    have b := h m (by omega)
    rw [wcN] at hv
    exact ⟨m, rfl, by omega, by omega⟩
theorem wc_zero {g : Int → Int} {s : Int} {n : Nat} (h : ∀ k : Nat, k < n → 97 ≤ g (s + (k : Int)) ∧ g (s + (k : Int)) ≤ 122) (hv : wcN g s n = 0) : n = 0 := by
  have := wc_pos n h; omega
theorem wc_overs {g : Int → Int} {s : Int} {n : Nat} (h : ∀ k : Nat, k < n → 97 ≤ g (s + (k : Int)) ∧ g (s + (k : Int)) ≤ 122) : wcN g s n = 8408791 ↔ n = 5 ∧ g (s + 0) = 111 ∧ g (s + 1) = 118 ∧ g (s + 2) = 101 ∧ g (s + 3) = 114 ∧ g (s + 4) = 115 := by
  constructor
  · intro hv
    obtain ⟨m0, e0, a0, b0⟩ := wc_inv h hv (by decide)
    have a0x : wcN g s m0 = 311436 := by omega
    have h0 : ∀ k : Nat, k < m0 → 97 ≤ g (s + (k : Int)) ∧ g (s + (k : Int)) ≤ 122 := fun k z => h k (by omega)
    obtain ⟨m1, e1, a1, b1⟩ := wc_inv h0 a0x (by decide)
    have a1x : wcN g s m1 = 11534 := by omega
    have h1 : ∀ k : Nat, k < m1 → 97 ≤ g (s + (k : Int)) ∧ g (s + (k : Int)) ≤ 122 := fun k z => h k (by omega)
    obtain ⟨m2, e2, a2, b2⟩ := wc_inv h1 a1x (by decide)
    have a2x : wcN g s m2 = 427 := by omega
    have h2 : ∀ k : Nat, k < m2 → 97 ≤ g (s + (k : Int)) ∧ g (s + (k : Int)) ≤ 122 := fun k z => h k (by omega)
    obtain ⟨m3, e3, a3, b3⟩ := wc_inv h2 a2x (by decide)
    have a3x : wcN g s m3 = 15 := by omega
    have h3 : ∀ k : Nat, k < m3 → 97 ≤ g (s + (k : Int)) ∧ g (s + (k : Int)) ≤ 122 := fun k z => h k (by omega)
    obtain ⟨m4, e4, a4, b4⟩ := wc_inv h3 a3x (by decide)
    have a4x : wcN g s m4 = 0 := by omega
    have h4 : ∀ k : Nat, k < m4 → 97 ≤ g (s + (k : Int)) ∧ g (s + (k : Int)) ≤ 122 := fun k z => h k (by omega)
    have z := wc_zero h4 a4x
    have f0 : m0 = 4 := by omega
    rw [f0] at b0
    have f1 : m1 = 3 := by omega
    rw [f1] at b1
    have f2 : m2 = 2 := by omega
    rw [f2] at b2
    have f3 : m3 = 1 := by omega
    rw [f3] at b3
    have f4 : m4 = 0 := by omega
    rw [f4] at b4
    exact ⟨by omega, b4, b3, b2, b1, b0⟩
  · rintro ⟨rfl, c0, c1, c2, c3, c4⟩
    show 27 * (27 * (27 * (27 * (27 * 0 + g (s + 0) - 96) + g (s + 1) - 96) + g (s + 2) - 96) + g (s + 3) - 96) + g (s + 4) - 96 = 8408791
    omega
theorem wc_men {g : Int → Int} {s : Int} {n : Nat} (h : ∀ k : Nat, k < n → 97 ≤ g (s + (k : Int)) ∧ g (s + (k : Int)) ≤ 122) : wcN g s n = 9626 ↔ n = 3 ∧ g (s + 0) = 109 ∧ g (s + 1) = 101 ∧ g (s + 2) = 110 := by
  constructor
  · intro hv
    obtain ⟨m0, e0, a0, b0⟩ := wc_inv h hv (by decide)
    have a0x : wcN g s m0 = 356 := by omega
    have h0 : ∀ k : Nat, k < m0 → 97 ≤ g (s + (k : Int)) ∧ g (s + (k : Int)) ≤ 122 := fun k z => h k (by omega)
    obtain ⟨m1, e1, a1, b1⟩ := wc_inv h0 a0x (by decide)
    have a1x : wcN g s m1 = 13 := by omega
    have h1 : ∀ k : Nat, k < m1 → 97 ≤ g (s + (k : Int)) ∧ g (s + (k : Int)) ≤ 122 := fun k z => h k (by omega)
    obtain ⟨m2, e2, a2, b2⟩ := wc_inv h1 a1x (by decide)
    have a2x : wcN g s m2 = 0 := by omega
    have h2 : ∀ k : Nat, k < m2 → 97 ≤ g (s + (k : Int)) ∧ g (s + (k : Int)) ≤ 122 := fun k z => h k (by omega)
    have z := wc_zero h2 a2x
    have f0 : m0 = 2 := by omega
    rw [f0] at b0
    have f1 : m1 = 1 := by omega
    rw [f1] at b1
    have f2 : m2 = 0 := by omega
    rw [f2] at b2
    exact ⟨by omega, b2, b1, b0⟩
  · rintro ⟨rfl, c0, c1, c2⟩
    show 27 * (27 * (27 * 0 + g (s + 0) - 96) + g (s + 1) - 96) + g (s + 2) - 96 = 9626
    omega
theorem wc_mood {g : Int → Int} {s : Int} {n : Nat} (h : ∀ k : Nat, k < n → 97 ≤ g (s + (k : Int)) ∧ g (s + (k : Int)) ≤ 122) : wcN g s n = 267223 ↔ n = 4 ∧ g (s + 0) = 109 ∧ g (s + 1) = 111 ∧ g (s + 2) = 111 ∧ g (s + 3) = 100 := by
  constructor
  · intro hv
    obtain ⟨m0, e0, a0, b0⟩ := wc_inv h hv (by decide)
    have a0x : wcN g s m0 = 9897 := by omega
    have h0 : ∀ k : Nat, k < m0 → 97 ≤ g (s + (k : Int)) ∧ g (s + (k : Int)) ≤ 122 := fun k z => h k (by omega)
    obtain ⟨m1, e1, a1, b1⟩ := wc_inv h0 a0x (by decide)
    have a1x : wcN g s m1 = 366 := by omega
    have h1 : ∀ k : Nat, k < m1 → 97 ≤ g (s + (k : Int)) ∧ g (s + (k : Int)) ≤ 122 := fun k z => h k (by omega)
    obtain ⟨m2, e2, a2, b2⟩ := wc_inv h1 a1x (by decide)
    have a2x : wcN g s m2 = 13 := by omega
    have h2 : ∀ k : Nat, k < m2 → 97 ≤ g (s + (k : Int)) ∧ g (s + (k : Int)) ≤ 122 := fun k z => h k (by omega)
    obtain ⟨m3, e3, a3, b3⟩ := wc_inv h2 a2x (by decide)
    have a3x : wcN g s m3 = 0 := by omega
    have h3 : ∀ k : Nat, k < m3 → 97 ≤ g (s + (k : Int)) ∧ g (s + (k : Int)) ≤ 122 := fun k z => h k (by omega)
    have z := wc_zero h3 a3x
    have f0 : m0 = 3 := by omega
    rw [f0] at b0
    have f1 : m1 = 2 := by omega
    rw [f1] at b1
    have f2 : m2 = 1 := by omega
    rw [f2] at b2
    have f3 : m3 = 0 := by omega
    rw [f3] at b3
    exact ⟨by omega, b3, b2, b1, b0⟩
  · rintro ⟨rfl, c0, c1, c2, c3⟩
    show 27 * (27 * (27 * (27 * 0 + g (s + 0) - 96) + g (s + 1) - 96) + g (s + 2) - 96) + g (s + 3) - 96 = 267223
    omega
theorem wc_par {g : Int → Int} {s : Int} {n : Nat} (h : ∀ k : Nat, k < n → 97 ≤ g (s + (k : Int)) ∧ g (s + (k : Int)) ≤ 122) : wcN g s n = 11709 ↔ n = 3 ∧ g (s + 0) = 112 ∧ g (s + 1) = 97 ∧ g (s + 2) = 114 := by
  constructor
  · intro hv
    obtain ⟨m0, e0, a0, b0⟩ := wc_inv h hv (by decide)
    have a0x : wcN g s m0 = 433 := by omega
    have h0 : ∀ k : Nat, k < m0 → 97 ≤ g (s + (k : Int)) ∧ g (s + (k : Int)) ≤ 122 := fun k z => h k (by omega)
    obtain ⟨m1, e1, a1, b1⟩ := wc_inv h0 a0x (by decide)
    have a1x : wcN g s m1 = 16 := by omega
    have h1 : ∀ k : Nat, k < m1 → 97 ≤ g (s + (k : Int)) ∧ g (s + (k : Int)) ≤ 122 := fun k z => h k (by omega)
    obtain ⟨m2, e2, a2, b2⟩ := wc_inv h1 a1x (by decide)
    have a2x : wcN g s m2 = 0 := by omega
    have h2 : ∀ k : Nat, k < m2 → 97 ≤ g (s + (k : Int)) ∧ g (s + (k : Int)) ≤ 122 := fun k z => h k (by omega)
    have z := wc_zero h2 a2x
    have f0 : m0 = 2 := by omega
    rw [f0] at b0
    have f1 : m1 = 1 := by omega
    rw [f1] at b1
    have f2 : m2 = 0 := by omega
    rw [f2] at b2
    exact ⟨by omega, b2, b1, b0⟩
  · rintro ⟨rfl, c0, c1, c2⟩
    show 27 * (27 * (27 * 0 + g (s + 0) - 96) + g (s + 1) - 96) + g (s + 2) - 96 = 11709
    omega
theorem wc_cloud {g : Int → Int} {s : Int} {n : Nat} (h : ∀ k : Nat, k < n → 97 ≤ g (s + (k : Int)) ∧ g (s + (k : Int)) ≤ 122) : wcN g s n = 1842025 ↔ n = 5 ∧ g (s + 0) = 99 ∧ g (s + 1) = 108 ∧ g (s + 2) = 111 ∧ g (s + 3) = 117 ∧ g (s + 4) = 100 := by
  constructor
  · intro hv
    obtain ⟨m0, e0, a0, b0⟩ := wc_inv h hv (by decide)
    have a0x : wcN g s m0 = 68223 := by omega
    have h0 : ∀ k : Nat, k < m0 → 97 ≤ g (s + (k : Int)) ∧ g (s + (k : Int)) ≤ 122 := fun k z => h k (by omega)
    obtain ⟨m1, e1, a1, b1⟩ := wc_inv h0 a0x (by decide)
    have a1x : wcN g s m1 = 2526 := by omega
    have h1 : ∀ k : Nat, k < m1 → 97 ≤ g (s + (k : Int)) ∧ g (s + (k : Int)) ≤ 122 := fun k z => h k (by omega)
    obtain ⟨m2, e2, a2, b2⟩ := wc_inv h1 a1x (by decide)
    have a2x : wcN g s m2 = 93 := by omega
    have h2 : ∀ k : Nat, k < m2 → 97 ≤ g (s + (k : Int)) ∧ g (s + (k : Int)) ≤ 122 := fun k z => h k (by omega)
    obtain ⟨m3, e3, a3, b3⟩ := wc_inv h2 a2x (by decide)
    have a3x : wcN g s m3 = 3 := by omega
    have h3 : ∀ k : Nat, k < m3 → 97 ≤ g (s + (k : Int)) ∧ g (s + (k : Int)) ≤ 122 := fun k z => h k (by omega)
    obtain ⟨m4, e4, a4, b4⟩ := wc_inv h3 a3x (by decide)
    have a4x : wcN g s m4 = 0 := by omega
    have h4 : ∀ k : Nat, k < m4 → 97 ≤ g (s + (k : Int)) ∧ g (s + (k : Int)) ≤ 122 := fun k z => h k (by omega)
    have z := wc_zero h4 a4x
    have f0 : m0 = 4 := by omega
    rw [f0] at b0
    have f1 : m1 = 3 := by omega
    rw [f1] at b1
    have f2 : m2 = 2 := by omega
    rw [f2] at b2
    have f3 : m3 = 1 := by omega
    rw [f3] at b3
    have f4 : m4 = 0 := by omega
    rw [f4] at b4
    exact ⟨by omega, b4, b3, b2, b1, b0⟩
  · rintro ⟨rfl, c0, c1, c2, c3, c4⟩
    show 27 * (27 * (27 * (27 * (27 * 0 + g (s + 0) - 96) + g (s + 1) - 96) + g (s + 2) - 96) + g (s + 3) - 96) + g (s + 4) - 96 = 1842025
    omega
theorem wc_line {g : Int → Int} {s : Int} {n : Nat} (h : ∀ k : Nat, k < n → 97 ≤ g (s + (k : Int)) ∧ g (s + (k : Int)) ≤ 122) : wcN g s n = 243140 ↔ n = 4 ∧ g (s + 0) = 108 ∧ g (s + 1) = 105 ∧ g (s + 2) = 110 ∧ g (s + 3) = 101 := by
  constructor
  · intro hv
    obtain ⟨m0, e0, a0, b0⟩ := wc_inv h hv (by decide)
    have a0x : wcN g s m0 = 9005 := by omega
    have h0 : ∀ k : Nat, k < m0 → 97 ≤ g (s + (k : Int)) ∧ g (s + (k : Int)) ≤ 122 := fun k z => h k (by omega)
    obtain ⟨m1, e1, a1, b1⟩ := wc_inv h0 a0x (by decide)
    have a1x : wcN g s m1 = 333 := by omega
    have h1 : ∀ k : Nat, k < m1 → 97 ≤ g (s + (k : Int)) ∧ g (s + (k : Int)) ≤ 122 := fun k z => h k (by omega)
    obtain ⟨m2, e2, a2, b2⟩ := wc_inv h1 a1x (by decide)
    have a2x : wcN g s m2 = 12 := by omega
    have h2 : ∀ k : Nat, k < m2 → 97 ≤ g (s + (k : Int)) ∧ g (s + (k : Int)) ≤ 122 := fun k z => h k (by omega)
    obtain ⟨m3, e3, a3, b3⟩ := wc_inv h2 a2x (by decide)
    have a3x : wcN g s m3 = 0 := by omega
    have h3 : ∀ k : Nat, k < m3 → 97 ≤ g (s + (k : Int)) ∧ g (s + (k : Int)) ≤ 122 := fun k z => h k (by omega)
    have z := wc_zero h3 a3x
    have f0 : m0 = 3 := by omega
    rw [f0] at b0
    have f1 : m1 = 2 := by omega
    rw [f1] at b1
    have f2 : m2 = 1 := by omega
    rw [f2] at b2
    have f3 : m3 = 0 := by omega
    rw [f3] at b3
    exact ⟨by omega, b3, b2, b1, b0⟩
  · rintro ⟨rfl, c0, c1, c2, c3⟩
    show 27 * (27 * (27 * (27 * 0 + g (s + 0) - 96) + g (s + 1) - 96) + g (s + 2) - 96) + g (s + 3) - 96 = 243140
    omega
