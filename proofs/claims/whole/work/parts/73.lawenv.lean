theorem vk_RL {own tx : String} {k a : Nat} {A : Array Value} {U : State} (h1 : (Cond.stringRef own k tx).before A U = true) (h2 : (Term.string own k).eval A U none [] U = some (.ref a)) : vk_R own k tx a U := vk_R.of h1 h2
set_option maxRecDepth 20000 in
theorem nwL_in : ∀ w ∈ nwL, w ∈ lw_tbl := in_r _ [103, 109, 110, 119, 127, 148, 153, 154, 155, 156, 157, 159, 160, 161, 162, 163, 165, 166, 168, 169, 171, 173, 175, 176, 194, 202, 214, 231, 237, 239, 240, 250, 256, 258, 260, 262, 276, 307, 313, 319, 330, 334, 338, 347, 351, 388, 392, 402, 414, 421, 505, 506, 514, 518, 519, 524, 535, 536, 546, 561, 574, 578, 586, 591, 596, 600, 609, 613, 621, 629, 637, 648, 656, 661, 670, 675, 676, 685, 702, 706, 713, 727, 745, 749, 760, 764, 769, 773, 774, 775] (by decide +kernel)
theorem nwL_tab : ∀ w ∈ nwL, w.onTables = true := by decide +kernel
def nrL : List Cond := flatC (Jvm.Cond.and given_1 narrow_1)
def sT (i : Nat) : Term := .string "RainTarget$Reader" ([76, 82, 84, 86, 88, 90].getD i 0)
def sV (i : Nat) : Term := .field (sT i) "java/lang/String" "value" "[B"
def tT : Term := .static "RainTarget" "TEN" "[J"
set_option maxRecDepth 20000 in
theorem nr_ex : ∀ i, i < 6 → Cond.exactly (sT i) "java/lang/String" ∈ nrL := by decide +kernel
set_option maxRecDepth 20000 in
theorem nr_co : ∀ i, i < 6 → Cond.eq (.field (sT i) "java/lang/String" "coder" "B") (.int 0) ∈ nrL := by decide +kernel
set_option maxRecDepth 20000 in
theorem nr_ar : ∀ i, i < 6 → Cond.arrayOf (sV i) .byte ∈ nrL := by decide +kernel
set_option maxRecDepth 20000 in
theorem nr_le : ∀ i, i < 6 → Cond.eq (.length (sV i)) (.int (Int32.ofNat (scL.getD i 0))) ∈ nrL := by decide +kernel
set_option maxRecDepth 20000 in
theorem nr_el : ∀ i, i < 6 → ∀ j, j < scL.getD i 0 → Cond.eq (.elem (sV i) (.int (Int32.ofNat j))) (.int ((scB.getD i []).getD j 0)) ∈ nrL := by decide +kernel
set_option maxRecDepth 20000 in
theorem nr_ne : ∀ i, i < 6 → ∀ j, j < 6 → i ≠ j → (Cond.not (Cond.eq (sT i) (sT j)) ∈ nrL ∨ Cond.not (Cond.eq (sT j) (sT i)) ∈ nrL) := by decide +kernel
set_option maxRecDepth 20000 in
theorem nr_t : ∀ j, j < 13 → Cond.eq (.elem tT (.int (Int32.ofNat j))) (.long (lZ ((10 : Int) ^ j))) ∈ nrL := by decide +kernel
set_option maxRecDepth 20000 in
theorem nr_ta : Cond.arrayOf tT .long ∈ nrL := by decide +kernel
set_option maxRecDepth 20000 in
theorem nr_tl : Cond.eq (.length tT) (.int (Int32.ofNat 13)) ∈ nrL := by decide +kernel
set_option maxRecDepth 20000 in
theorem nr_cs : Cond.eq (.static "java/lang/String" "COMPACT_STRINGS" "Z") (.int 1) ∈ nrL := by decide +kernel
set_option maxRecDepth 20000 in
theorem nr_fm : Cond.isRef (.static "jdk/internal/util/Preconditions" "SIOOBE_FORMATTER" "Ljava/util/function/BiFunction;") ∈ nrL := by decide +kernel
theorem sc_l31 : ∀ i, i < 6 → scL.getD i 0 < 2 ^ 31 := by decide +kernel
set_option maxHeartbeats 4000000 in
set_option maxRecDepth 20000 in
/-- what stands at the law's entry: the tables' classes, the arrays' classes, the words of nest mates, the row of tens, the String constants -/
theorem lw_env {s : State} {b : Nat} (hts : ∀ w ∈ lw_tbl, w.before #[Value.ref b] s = true) (hgv : (Jvm.Cond.and given_1 narrow_1).before #[Value.ref b] s = true) : ∃ (D : va_G) (cI cJ : ClassId) (tn : Nat) (aK aV : Nat → Nat), EV D cI cJ tn (fun q => s.heap.size ≤ q) s ∧ STR aK aV (fun q => s.heap.size ≤ q) s := by
  have hs : ∀ w ∈ nrL, w.before #[Value.ref b] s = true := flat_of_before _ hgv
  have hA : ∀ a : Nat, a < s.heap.size → ¬ (fun q : Nat => s.heap.size ≤ q) a := fun a h => Nat.not_le.mpr h
  obtain ⟨c0, iS0, hKn0⟩ := u_known (C := RX0) (T := TX0) (N := 3) (n := 3) hts inX0 (hts (.instantiable RX0 3) (List.mem_of_getElem? (i := 213) (by decide +kernel)))
  obtain ⟨c1, iS1, hKn1⟩ := u_known (C := RX1) (T := TX1) (N := 3) (n := 3) hts inX1 (hts (.instantiable RX1 3) (List.mem_of_getElem? (i := 230) (by decide +kernel)))
  obtain ⟨c2, iS2, hKn2⟩ := u_known (C := RX2) (T := TX2) (N := 2) (n := 2) hts inX2 (hts (.instantiable RX2 2) (List.mem_of_getElem? (i := 306) (by decide +kernel)))
  obtain ⟨c3, iS3, hKn3⟩ := u_known (C := RX3) (T := TX3) (N := 2) (n := 2) hts inX3 (hts (.instantiable RX3 2) (List.mem_of_getElem? (i := 193) (by decide +kernel)))
  obtain ⟨c4, iS4, hKn4⟩ := u_known (C := RX4) (T := TX4) (N := 7) (n := 7) hts inX4 (hts (.instantiable RX4 7) (List.mem_of_getElem? (i := 118) (by decide +kernel)))
  obtain ⟨c5, iS5, hKn5⟩ := u_known (C := RX5) (T := TX5) (N := 5) (n := 5) hts inX5 (hts (.instantiable RX5 5) (List.mem_of_getElem? (i := 249) (by decide +kernel)))
  obtain ⟨c6, iS6, hKn6⟩ := u_known (C := RX6) (T := TX6) (N := 7) (n := 7) hts inX6 (hts (.instantiable RX6 7) (List.mem_of_getElem? (i := 147) (by decide +kernel)))
  obtain ⟨c7, iS7, hKn7⟩ := u_known (C := RX7) (T := TX7) (N := 2) (n := 2) hts inX7 (hts (.instantiable RX7 2) (List.mem_of_getElem? (i := 102) (by decide +kernel)))
  obtain ⟨c8, iS8, hKn8⟩ := u_known (C := RX8) (T := TX8) (N := 8) (n := 8) hts inX8 (hts (.instantiable RX8 8) (List.mem_of_getElem? (i := 275) (by decide +kernel)))
  obtain ⟨c9, iS9, hKn9⟩ := u_known (C := RX9) (T := TX9) (N := 9) (n := 9) hts inX9 (hts (.instantiable RX9 9) (List.mem_of_getElem? (i := 94) (by decide +kernel)))
  obtain ⟨c10, iS10, hKn10⟩ := u_known (C := RX10) (T := TX10) (N := 40) (n := 40) hts inX10 (hts (.instantiable RX10 40) (List.mem_of_getElem? (i := 782) (by decide +kernel)))
  obtain ⟨dC, dI, hKc⟩ : ∃ (dC : Nat → ClassId) (dI : Nat → Nat → Nat), ∀ (k : Nat) (q : vw_C), vwCl[k]? = some q → u_Kn s q.1 q.2.1 q.2.2 (dC k) (dI k) := by
    refine ⟨fun k => if k = 0 then c0 else if k = 1 then c1 else if k = 2 then c2 else if k = 3 then c3 else if k = 4 then c4 else if k = 5 then c5 else if k = 6 then c6 else if k = 7 then c7 else if k = 8 then c8 else if k = 9 then c9 else c10, fun k => if k = 0 then iS0 else if k = 1 then iS1 else if k = 2 then iS2 else if k = 3 then iS3 else if k = 4 then iS4 else if k = 5 then iS5 else if k = 6 then iS6 else if k = 7 then iS7 else if k = 8 then iS8 else if k = 9 then iS9 else iS10, ?_⟩
    intro k q hq
    match k, hq with
    | 0, hq => cases hq; exact hKn0
    | 1, hq => cases hq; exact hKn1
    | 2, hq => cases hq; exact hKn2
    | 3, hq => cases hq; exact hKn3
    | 4, hq => cases hq; exact hKn4
    | 5, hq => cases hq; exact hKn5
    | 6, hq => cases hq; exact hKn6
    | 7, hq => cases hq; exact hKn7
    | 8, hq => cases hq; exact hKn8
    | 9, hq => cases hq; exact hKn9
    | 10, hq => cases hq; exact hKn10
    | k + 11, hq => simp at hq
  obtain ⟨cI, kI, compI, hI1, hI2, hI3⟩ := Cond.arrayClass_spec (args := #[Value.ref b]) (first := s) (o := none) (s := s) (idx := []) (type := .int) (hts (.arrayClass .int) (List.mem_of_getElem? (i := 116) (by decide +kernel)))
  obtain ⟨cJ, kJ, compJ, hJ1, hJ2, hJ3⟩ := Cond.arrayClass_spec (args := #[Value.ref b]) (first := s) (o := none) (s := s) (idx := []) (type := .long) (hts (.arrayClass .long) (List.mem_of_getElem? (i := 228) (by decide +kernel)))
  have hK : va_K (dC, dI) vwCl [(cI, .int), (cJ, .long)] s := by
    refine ⟨hKc, fun k q hq => ?_⟩
    match k, hq with
    | 0, hq => cases hq; exact ⟨fun n z => ⟨fun k h => (by cases h), kI, hI2, compI, hI3⟩, hI1⟩
    | 1, hq => cases hq; exact ⟨fun n z => ⟨fun k h => (by cases h), kJ, hJ2, compJ, hJ3⟩, hJ1⟩
    | k + 2, hq => simp at hq
  have hN : NW s := fun w hw => va_Nw.of (nwL_tab w hw) (hts w (nwL_in w hw))
  obtain ⟨tn, ht1, ht2⟩ := va_Tof (args := #[Value.ref b]) (s := s) (tm := tT) (ty := .long) (N := 13) (f := tnV) (A := fun q => s.heap.size ≤ q) (by decide) (hs _ nr_ta) (va_eqt (hs _ nr_tl)) (fun j hj => va_eqtl (hs _ (nr_t j hj))) hA
  have hZ := va_Zref (A := fun q => s.heap.size ≤ q) (hts (.laysStatic "RainTarget" "TEN" "[J") (List.mem_of_getElem? (i := 342) (by decide +kernel))) (hts (.initialized RX9) (List.mem_of_getElem? (i := 76) (by decide +kernel))) ht1 hA
  obtain ⟨aK, aV, hS1, hS2⟩ := vk_Sof (args := #[Value.ref b]) (s := s) (N := 6) (tm := sT) (len := scL) (byt := scB) (A := fun q => s.heap.size ≤ q) sc_l31 (fun i hi => hs _ (nr_ex i hi)) (fun i hi => hs _ (nr_co i hi)) (fun i hi => hs _ (nr_ar i hi)) (fun i hi => hs _ (nr_le i hi)) (fun i hi j hj => hs _ (nr_el i hi j hj)) (fun i j hi hj hij => (nr_ne i hi j hj hij).elim (fun h => Or.inl (hs _ h)) (fun h => Or.inr (hs _ h))) hA
  have hc := va_Zof (A := fun q => s.heap.size ≤ q) (hts (.laysStatic "java/lang/String" "COMPACT_STRINGS" "Z") (List.mem_of_getElem? (i := 440) (by decide +kernel))) (hts (.initialized "java/lang/String") (List.mem_of_getElem? (i := 89) (by decide +kernel))) (va_eqt (hs _ nr_cs)) hA
  have hf := va_Zqof (A := fun q => s.heap.size ≤ q) (hts (.laysStatic "jdk/internal/util/Preconditions" "SIOOBE_FORMATTER" "Ljava/util/function/BiFunction;") (List.mem_of_getElem? (i := 456) (by decide +kernel))) (hts (.initialized "jdk/internal/util/Preconditions") (List.mem_of_getElem? (i := 91) (by decide +kernel))) (hs _ nr_fm) hA
  refine ⟨(dC, dI), cI, cJ, tn, aK, aV, ⟨hK, hN, hZ, ht2⟩, hS1, hc, hf, vk_RL (hts (.stringRef "RainTarget$Reader" 76 "overs") (List.mem_of_getElem? (i := 426) (by decide +kernel))) (hS2 0 (by decide)), vk_RL (hts (.stringRef "RainTarget$Reader" 82 "men") (List.mem_of_getElem? (i := 479) (by decide +kernel))) (hS2 1 (by decide)), vk_RL (hts (.stringRef "RainTarget$Reader" 84 "mood") (List.mem_of_getElem? (i := 480) (by decide +kernel))) (hS2 2 (by decide)), vk_RL (hts (.stringRef "RainTarget$Reader" 86 "par") (List.mem_of_getElem? (i := 481) (by decide +kernel))) (hS2 3 (by decide)), vk_RL (hts (.stringRef "RainTarget$Reader" 88 "cloud") (List.mem_of_getElem? (i := 482) (by decide +kernel))) (hS2 4 (by decide)), vk_RL (hts (.stringRef "RainTarget$Reader" 90 "line") (List.mem_of_getElem? (i := 483) (by decide +kernel))) (hS2 5 (by decide))⟩
