def nOK (g : Int → Int) (len p lo hi : Int) : Bool := decide (tkK g len p = 2 ∧ tkE g len p - tkS g len p ≤ 3 ∧ lo ≤ vlF g len p ∧ vlF g len p ≤ hi)
/-- a mood's cases: the place ahead of case i, the tenths so far -/
def mP (g : Int → Int) (len p : Int) : Nat → Int
  | 0 => tkE g len p
  | i + 1 => tkE g len (tkE g len (tkE g len (mP g len p i)))
def mA (g : Int → Int) (len p : Int) : Nat → Int
  | 0 => 0
  | i + 1 => mA g len p i + vlF g len (tkE g len (tkE g len (mP g len p i)))
/-- what is read of the cases from case i on: 1 or 0, the place ahead of the last token, how many cases -/
def mdL (g : Int → Int) (len p : Int) : Nat → Nat → Int → Int × Int × Int
  | 0, i, l => (1, l, (i : Int))
  | f + 1, i, l => if 10 ≤ mA g len p i then (1, l, (i : Int)) else if nOK g len (mP g len p i) 0 36 = false then (0, mP g len p i, (i : Int)) else if nOK g len (tkE g len (mP g len p i)) 0 3 = false then (0, tkE g len (mP g len p i), (i : Int)) else if nOK g len (tkE g len (tkE g len (mP g len p i))) (if i = 3 then 10 - mA g len p i else 1) (10 - mA g len p i) = false then (0, tkE g len (tkE g len (mP g len p i)), (i : Int)) else mdL g len p f (i + 1) (tkE g len (tkE g len (mP g len p i)))
def mdT (g : Int → Int) (len p : Int) : Int × Int × Int := if nOK g len p 0 3 = false then (0, p, 0) else mdL g len p 4 0 p
set_option maxHeartbeats 4000000 in
set_option maxRecDepth 100000 in
theorem c_X4_number (l : Launch) (D : va_G) (cI cJ : ClassId) (tn : Nat) (rdr : Nat) (t : Nat) (wq : Nat) (nq : Nat) (nb : Int → Int) (li : Int) (kd : Int) (st : Int) (en : Int) (a : Int) (b : Int) (ra : I32 a) (rb : I32 b)  : Met l yX4_number wsX4_number ({ frames := 1, cells := 0, slots := 0, locals := 22 } : Room) (va_Pc [.ref rdr, .int (nZ a), .int (nZ b)] (RoP D cI cJ tn [(rdr, .inr (4, [.ref t, .ref wq, .ref nq, .int (nZ li), .int (nZ kd), .int (nZ st), .int (nZ en)])), (nq, .inl (cI, 104, .inl (aZ nb)))])) (vp_Si (fun r9 : Int32 => r9 = nZ (if (0 ≤ a ∧ a ≤ 7) ∧ (0 ≤ b ∧ b ≤ 12) then nb (a * 13 + b) else 0))) 0 0 (fun _ => False) := by
  refine Met.ofW (cc := cX4_number) (maxL := 3) (ret := (some .int)) (by decide) rfl ?_
  intro p e s m args below meth c s₁ B hml hv
  obtain ⟨rfl, hE, hP⟩ := hv
  have hx := B.exec
  have hb := B.bytes
  have hr := B.returns
  have hts := atoms_spec (ws := wsX4_number) B.pre
  have hown : s.vm.findClass RX4 = some m.cls := findClass_of_methodNamed B.named
  have hlocks := B.notSynchronized
  have hS : va_S (fun _ => False) s.heap s.heap [] := va_S.rf
  have hK := hE.1
  have hN := hE.2.1
  have hl := lv_entry ([.ref rdr, .int (nZ a), .int (nZ b)]) (n := 3) (Nat.le_of_ble_eq_true rfl)
  rw [lg_entry_eq]
  generalize (lg_sl ([.ref rdr, .int (nZ a), .int (nZ b)]) ++ List.replicate (3 - (lg_sl ([.ref rdr, .int (nZ a), .int (nZ b)])).length) Slot.unset).toArray = ls at hl ⊢
  have hl : lv_has ls 3 [(0, .ref rdr), (1, .int (nZ a)), (2, .int (nZ b))] := hl
  have iX4 : ∀ w ∈ u_ws RX4 TX4 7, w ∈ wsX4_number := fun _ h => List.mem_cons_of_mem _ (List.mem_append_right _ h)
  refine lv_iload_n hx hb dX4_number_0 rfl (lv_at hl 1 rfl) ?_
  refine lv_iconst (v := nZ 0) hx hb dX4_number_1 rfl ?_
  refine lv_bipush (v := nZ 7) hx hb dX4_number_2 (by decide) ?_
  refine vp_callSi ((va_runSN (As := [.int (nZ a), .int (nZ 0), .int (nZ 7)]) (rest := []) ⟨hx, hb, hml, hown, hts⟩ (c_X9_within l D cI cJ tn a 0 7 ra (by decide) (by decide) ) ⟨va_cnB 3 hts gX4_number_X9_within_n46 rfl rfl rfl (nw_X4_46 hN) (hts (.initialized RX9) (List.mem_of_getElem? (i := 3) rfl)) (by decide +kernel) ⟨Nat.le_of_ble_eq_true rfl, Nat.le_of_ble_eq_true rfl⟩, (hts (.static yX9_within) (List.mem_of_getElem? (i := 2) rfl)), trivial⟩ ⟨RoP.blind, fun U hU hW => ⟨rfl, RoP.call hE hS (hP.sub (ws' := []) [] rfl) hU hW⟩⟩ rfl rfl hl.1 rfl (lv_room (Nat.le_of_ble_eq_true rfl)) dX4_number_4 ⟨Nat.le_of_ble_eq_true rfl, Nat.le_of_ble_eq_true rfl⟩).run) (fun r4 hr4 => ?_)
  subst hr4
  refine z_nameI (fun r4 er4 => ?_)
  refine z_if_eq (tgt := 20) hx hb dX4_number_7 (by decide) (by omega) (fun c_7 => ?_) (fun c_7 => ?_)
  · refine lv_iconst (v := nZ 0) hx hb dX4_number_20 rfl ?_
    exact W.iret (v := nZ 0) hx hb hr (fun t9 ht9 _ => ⟨nZ 0, rfl, congrArg nZ (show (0 : Int) = if (0 ≤ a ∧ a ≤ 7) ∧ (0 ≤ b ∧ b ≤ 12) then nb (a * 13 + b) else 0 from (by first | (rw [if_pos (by omega)]; done) | (rw [if_neg (by omega)]; done))), ht9⟩) (fun _ h => by cases h) dX4_number_21
  · refine lv_iload_n hx hb dX4_number_10 rfl (lv_at hl 2 rfl) ?_
    refine lv_iconst (v := nZ 0) hx hb dX4_number_11 rfl ?_
    refine lv_bipush (v := nZ 12) hx hb dX4_number_12 (by decide) ?_
    refine vp_callSi ((va_runSN (As := [.int (nZ b), .int (nZ 0), .int (nZ 12)]) (rest := []) ⟨hx, hb, hml, hown, hts⟩ (c_X9_within l D cI cJ tn b 0 12 rb (by decide) (by decide) ) ⟨va_cnB 3 hts gX4_number_X9_within_n46 rfl rfl rfl (nw_X4_46 hN) (hts (.initialized RX9) (List.mem_of_getElem? (i := 3) rfl)) (by decide +kernel) ⟨Nat.le_of_ble_eq_true rfl, Nat.le_of_ble_eq_true rfl⟩, (hts (.static yX9_within) (List.mem_of_getElem? (i := 2) rfl)), trivial⟩ ⟨RoP.blind, fun U hU hW => ⟨rfl, RoP.call hE hS (hP.sub (ws' := []) [] rfl) hU hW⟩⟩ rfl rfl hl.1 rfl (lv_room (Nat.le_of_ble_eq_true rfl)) dX4_number_14 ⟨Nat.le_of_ble_eq_true rfl, Nat.le_of_ble_eq_true rfl⟩).run) (fun r14 hr14 => ?_)
    subst hr14
    refine z_nameI (fun r14 er14 => ?_)
    refine z_if_ne (tgt := 22) hx hb dX4_number_17 (by decide) (by omega) (fun c_17 => ?_) (fun c_17 => ?_)
    · refine lv_aload_n hx hb dX4_number_22 rfl (lv_at hl 0 rfl) ?_
      refine va_get (D := D) (ci := 4) (v := .ref nq) (C := RX4) (T := TX4) (N := 7) hx hb hts iX4 hown hK hP 0 rfl rfl 2 (by decide) (hts (.fieldLink RX4 15 "RainTarget$Reader" "numbers" "[I") (List.mem_of_getElem? (i := 1) rfl)) (fun _ h9 => h9) rfl dX4_number_23 ?_
      refine lv_iload_n hx hb dX4_number_26 rfl (lv_at hl 1 rfl) ?_
      refine lv_bipush (v := nZ 13) hx hb dX4_number_27 (by decide) ?_
      refine z_imul hx hb dX4_number_29 ?_
      refine lv_iload_n hx hb dX4_number_30 rfl (lv_at hl 2 rfl) ?_
      refine z_iadd hx hb dX4_number_31 ?_
      refine z_iald hx hb hK hP 1 0 rfl rfl (by omega) (by omega) (by omega) dX4_number_32 ?_
      exact W.iret (v := nZ (nb ((a * 13) + b))) hx hb hr (fun t9 ht9 _ => ⟨nZ (nb ((a * 13) + b)), rfl, congrArg nZ (show (nb ((a * 13) + b) : Int) = if (0 ≤ a ∧ a ≤ 7) ∧ (0 ≤ b ∧ b ≤ 12) then nb (a * 13 + b) else 0 from (by first | (rw [if_pos (by omega)]; done) | (rw [if_neg (by omega)]; done))), ht9⟩) (fun _ h => by cases h) dX4_number_33
    · refine lv_iconst (v := nZ 0) hx hb dX4_number_20 rfl ?_
      exact W.iret (v := nZ 0) hx hb hr (fun t9 ht9 _ => ⟨nZ 0, rfl, congrArg nZ (show (0 : Int) = if (0 ≤ a ∧ a ≤ 7) ∧ (0 ≤ b ∧ b ≤ 12) then nb (a * 13 + b) else 0 from (by first | (rw [if_pos (by omega)]; done) | (rw [if_neg (by omega)]; done))), ht9⟩) (fun _ h => by cases h) dX4_number_21

set_option maxHeartbeats 4000000 in
set_option maxRecDepth 100000 in
theorem c_X4_word (l : Launch) (D : va_G) (cI cJ : ClassId) (tn : Nat) (rdr : Nat) (t : Nat) (wq : Nat) (nq : Nat) (wd : Int → Int) (li : Int) (kd : Int) (st : Int) (en : Int) (a : Int) (ra : I32 a)  : Met l yX4_word wsX4_word ({ frames := 1, cells := 0, slots := 0, locals := 22 } : Room) (va_Pc [.ref rdr, .int (nZ a)] (RoP D cI cJ tn [(rdr, .inr (4, [.ref t, .ref wq, .ref nq, .int (nZ li), .int (nZ kd), .int (nZ st), .int (nZ en)])), (wq, .inl (cI, 8, .inl (aZ wd)))])) (vp_Si (fun r9 : Int32 => r9 = nZ (if 0 ≤ a ∧ a ≤ 7 then wd a else -1))) 0 0 (fun _ => False) := by
  refine Met.ofW (cc := cX4_word) (maxL := 2) (ret := (some .int)) (by decide) rfl ?_
  intro p e s m args below meth c s₁ B hml hv
  obtain ⟨rfl, hE, hP⟩ := hv
  have hx := B.exec
  have hb := B.bytes
  have hr := B.returns
  have hts := atoms_spec (ws := wsX4_word) B.pre
  have hown : s.vm.findClass RX4 = some m.cls := findClass_of_methodNamed B.named
  have hlocks := B.notSynchronized
  have hS : va_S (fun _ => False) s.heap s.heap [] := va_S.rf
  have hK := hE.1
  have hN := hE.2.1
  have hl := lv_entry ([.ref rdr, .int (nZ a)]) (n := 2) (Nat.le_of_ble_eq_true rfl)
  rw [lg_entry_eq]
  generalize (lg_sl ([.ref rdr, .int (nZ a)]) ++ List.replicate (2 - (lg_sl ([.ref rdr, .int (nZ a)])).length) Slot.unset).toArray = ls at hl ⊢
  have hl : lv_has ls 2 [(0, .ref rdr), (1, .int (nZ a))] := hl
  have iX4 : ∀ w ∈ u_ws RX4 TX4 7, w ∈ wsX4_word := fun _ h => List.mem_cons_of_mem _ (List.mem_append_right _ h)
  refine lv_iload_n hx hb dX4_word_0 rfl (lv_at hl 1 rfl) ?_
  refine lv_iconst (v := nZ 0) hx hb dX4_word_1 rfl ?_
  refine lv_bipush (v := nZ 7) hx hb dX4_word_2 (by decide) ?_
  refine vp_callSi ((va_runSN (As := [.int (nZ a), .int (nZ 0), .int (nZ 7)]) (rest := []) ⟨hx, hb, hml, hown, hts⟩ (c_X9_within l D cI cJ tn a 0 7 ra (by decide) (by decide) ) ⟨va_cnB 3 hts gX4_word_X9_within_n46 rfl rfl rfl (nw_X4_46 hN) (hts (.initialized RX9) (List.mem_of_getElem? (i := 3) rfl)) (by decide +kernel) ⟨Nat.le_of_ble_eq_true rfl, Nat.le_of_ble_eq_true rfl⟩, (hts (.static yX9_within) (List.mem_of_getElem? (i := 2) rfl)), trivial⟩ ⟨RoP.blind, fun U hU hW => ⟨rfl, RoP.call hE hS (hP.sub (ws' := []) [] rfl) hU hW⟩⟩ rfl rfl hl.1 rfl (lv_room (Nat.le_of_ble_eq_true rfl)) dX4_word_4 ⟨Nat.le_of_ble_eq_true rfl, Nat.le_of_ble_eq_true rfl⟩).run) (fun r4 hr4 => ?_)
  subst hr4
  refine z_nameI (fun r4 er4 => ?_)
  refine z_if_eq (tgt := 19) hx hb dX4_word_7 (by decide) (by omega) (fun c_7 => ?_) (fun c_7 => ?_)
  · refine lv_iconst (v := nZ (-1)) hx hb dX4_word_19 rfl ?_
    exact W.iret (v := nZ (-1)) hx hb hr (fun t9 ht9 _ => ⟨nZ (-1), rfl, congrArg nZ (show (-1 : Int) = if 0 ≤ a ∧ a ≤ 7 then wd a else -1 from (by first | (rw [if_pos (by omega)]; done) | (rw [if_neg (by omega)]; done))), ht9⟩) (fun _ h => by cases h) dX4_word_20
  · refine lv_aload_n hx hb dX4_word_10 rfl (lv_at hl 0 rfl) ?_
    refine va_get (D := D) (ci := 4) (v := .ref wq) (C := RX4) (T := TX4) (N := 7) hx hb hts iX4 hown hK hP 0 rfl rfl 1 (by decide) (hts (.fieldLink RX4 9 "RainTarget$Reader" "words" "[I") (List.mem_of_getElem? (i := 1) rfl)) (fun _ h9 => h9) rfl dX4_word_11 ?_
    refine lv_iload_n hx hb dX4_word_14 rfl (lv_at hl 1 rfl) ?_
    refine z_iald hx hb hK hP 1 0 rfl rfl (by omega) (by omega) (by omega) dX4_word_15 ?_
    refine lv_goto (tgt := 20) hx hb dX4_word_16 (by decide) ?_
    exact W.iret (v := nZ (wd a)) hx hb hr (fun t9 ht9 _ => ⟨nZ (wd a), rfl, congrArg nZ (show (wd a : Int) = if 0 ≤ a ∧ a ≤ 7 then wd a else -1 from (by first | (rw [if_pos (by omega)]; done) | (rw [if_neg (by omega)]; done))), ht9⟩) (fun _ h => by cases h) dX4_word_20

def hsN (wd : Int → Int) (w : Int) : Nat → Int
  | 0 => 0
  | n + 1 => if wd (n : Int) = w then 1 else hsN wd w n
theorem hsN_1 {wd : Int → Int} {w : Int} : ∀ {n : Nat} {j : Int}, 0 ≤ j → j < (n : Int) → wd j = w → hsN wd w n = 1
  | 0, j, a, b, _ => by omega
  | n + 1, j, a, b, h => by
    rw [hsN]
    by_cases q : wd (n : Int) = w
    · rw [if_pos q]
    · rw [if_neg q]
      exact hsN_1 a (by rcases Int.lt_or_le j (n : Int) with z | z
                        · exact z
                        · exact absurd (show wd (n : Int) = w by rw [← h]; congr 1; omega) q) h
theorem hsN_0 {wd : Int → Int} {w : Int} : ∀ {n : Nat}, (∀ j, 0 ≤ j → j < (n : Int) → wd j ≠ w) → hsN wd w n = 0
  | 0, _ => rfl
  | n + 1, h => by rw [hsN, if_neg (h (n : Int) (by omega) (by omega))]; exact hsN_0 (fun j a b => h j a (by omega))
set_option maxHeartbeats 4000000 in
set_option maxRecDepth 100000 in
theorem c_X4_has (l : Launch) (D : va_G) (cI cJ : ClassId) (tn : Nat) (rdr : Nat) (t : Nat) (wq : Nat) (nq : Nat) (wd : Int → Int) (li : Int) (kd : Int) (st : Int) (en : Int) (a : Int) (ra : I32 a) (hl0 : 0 ≤ li) (hl1 : li ≤ 8) (rwd : ∀ k, I32 (wd k))  : Met l yX4_has wsX4_has ({ frames := 2, cells := 0, slots := 0, locals := 43 } : Room) (va_Pc [.ref rdr, .int (nZ a)] (RoP D cI cJ tn [(rdr, .inr (4, [.ref t, .ref wq, .ref nq, .int (nZ li), .int (nZ kd), .int (nZ st), .int (nZ en)])), (wq, .inl (cI, 8, .inl (aZ wd)))])) (vp_Si (fun r9 : Int32 => r9 = nZ (hsN wd a li.toNat))) 0 0 (fun _ => False) := by
  refine Met.ofW (cc := cX4_has) (maxL := 3) (ret := (some .boolean)) (by decide) rfl ?_
  intro p e s m args below meth c s₁ B hml hv
  obtain ⟨rfl, hE, hP⟩ := hv
  have hx := B.exec
  have hb := B.bytes
  have hr := B.returns
  have hts := atoms_spec (ws := wsX4_has) B.pre
  have hown : s.vm.findClass RX4 = some m.cls := findClass_of_methodNamed B.named
  have hlocks := B.notSynchronized
  have hS : va_S (fun _ => False) s.heap s.heap [] := va_S.rf
  have hK := hE.1
  have hN := hE.2.1
  have hl := lv_entry ([.ref rdr, .int (nZ a)]) (n := 3) (Nat.le_of_ble_eq_true rfl)
  rw [lg_entry_eq]
  generalize (lg_sl ([.ref rdr, .int (nZ a)]) ++ List.replicate (3 - (lg_sl ([.ref rdr, .int (nZ a)])).length) Slot.unset).toArray = ls at hl ⊢
  have hl : lv_has ls 3 [(0, .ref rdr), (1, .int (nZ a))] := hl
  have iX4 : ∀ w ∈ u_ws RX4 TX4 7, w ∈ wsX4_has := fun _ h => List.mem_cons_of_mem _ (List.mem_append_right _ h)
  refine lv_iconst (v := nZ 0) hx hb dX4_has_0 rfl ?_
  refine lv_istore_n (lv' := [(2, .int (nZ 0)), (0, .ref rdr), (1, .int (nZ a))]) hx hb dX4_has_1 rfl hl (by decide) rfl (fun ls hl => ?_)
  refine z_rloop1 (fun (i : Int) => (0 ≤ i) ∧ (i ≤ li) ∧ (∀ j, 0 ≤ j → j < i → wd j ≠ a)) (fun (i : Int) => (li - i).toNat) (fun (i : Int) => [(0, .ref rdr), (1, .int (nZ a)), (2, .int (nZ i))]) ?_ 0 ⟨(by first | assumption | omega), (by first | assumption | omega), (fun j p1 p2 => by omega)⟩ (lv_sub hl [1, 2, 0] rfl)
  intro i hI2 ih2 ls hl
  have hl : lv_has ls 3 [(0, .ref rdr), (1, .int (nZ a)), (2, .int (nZ i))] := hl
  obtain ⟨hi0, hi1, hno⟩ : (0 ≤ i) ∧ (i ≤ li) ∧ (∀ j, 0 ≤ j → j < i → wd j ≠ a) := hI2
  refine lv_iload_n hx hb dX4_has_2 rfl (lv_at hl 2 rfl) ?_
  refine lv_aload_n hx hb dX4_has_3 rfl (lv_at hl 0 rfl) ?_
  refine va_get (D := D) (ci := 4) (v := .int (nZ li)) (C := RX4) (T := TX4) (N := 7) hx hb hts iX4 hown hK hP 0 rfl rfl 3 (by decide) (hts (.fieldLink RX4 22 "RainTarget$Reader" "lines" "I") (List.mem_of_getElem? (i := 1) rfl)) (fun _ h9 => h9) rfl dX4_has_4 ?_
  refine z_icmp_ge (tgt := 27) hx hb dX4_has_7 (by decide) (by omega) (by omega) (fun c_7 => ?_) (fun c_7 => ?_)
  · refine lv_iconst (v := nZ 0) hx hb dX4_has_27 rfl ?_
    exact W.zret (v := nZ 0) hx hb hr (z_bool (show (0 : Int) = 0 ∨ (0 : Int) = 1 from by omega)) (fun t9 ht9 _ => ⟨nZ 0, rfl, congrArg nZ (show (0 : Int) = hsN wd a li.toNat from (hsN_0 (fun j p1 p2 => hno j p1 (by omega))).symm), ht9⟩) (fun _ h => by cases h) dX4_has_28
  · refine lv_aload_n hx hb dX4_has_10 rfl (lv_at hl 0 rfl) ?_
    refine lv_iload_n hx hb dX4_has_11 rfl (lv_at hl 2 rfl) ?_
    refine vp_callSi ((va_runV (As := [.int (nZ i)]) (rest := []) ⟨hx, hb, hml, hown, hts⟩ (c_X4_word l D cI cJ tn rdr t wq nq wd li kd st en i (by omega) ) (cwV 1 hts gX4_has_X4_word rfl rfl rfl (by decide +kernel) ⟨Nat.le_of_ble_eq_true rfl, Nat.le_of_ble_eq_true rfl⟩) ⟨RoP.blind, va_recv hK hP (ci := 4) (q0 := 0) rfl rfl, fun U hU hW => ⟨rfl, RoP.call hE hS (hP.sub (ws' := [(rdr, .inr (4, [.ref t, .ref wq, .ref nq, .int (nZ li), .int (nZ kd), .int (nZ st), .int (nZ en)])), (wq, .inl (cI, 8, .inl (aZ wd)))]) [0, 1] rfl) hU hW⟩⟩ rfl rfl hl.1 rfl (lv_room (Nat.le_of_ble_eq_true rfl)) dX4_has_12 ⟨Nat.le_of_ble_eq_true rfl, Nat.le_of_ble_eq_true rfl⟩).run) (fun r12 hr12 => ?_)
    subst hr12
    refine z_nameI (fun r12 er12 => ?_)
    have hwi := rwd i
    refine lv_iload_n hx hb dX4_has_15 rfl (lv_at hl 1 rfl) ?_
    refine z_icmp_ne (tgt := 21) hx hb dX4_has_16 (by decide) (by omega) (by omega) (fun c_16 => ?_) (fun c_16 => ?_)
    · refine lv_iinc (v := nZ (i + 1)) (lv' := [(2, .int (nZ (i + 1))), (0, .ref rdr), (1, .int (nZ a))]) hx hb dX4_has_21 hl (k := 2) rfl (nZ_add _ _) (by decide) rfl (fun ls hl => ?_)
      refine lv_goto (tgt := 2) hx hb dX4_has_24 (by decide) ?_
      exact ih2 (i + 1) ⟨(by first | assumption | omega), (by first | assumption | omega), (fun j p1 p2 => if q : j = i then (by rw [q]; omega) else hno j p1 (by omega))⟩ (show (li - (i + 1)).toNat < (li - i).toNat from by omega) ls (lv_sub hl [1, 2, 0] rfl)
    · refine lv_iconst (v := nZ 1) hx hb dX4_has_19 rfl ?_
      exact W.zret (v := nZ 1) hx hb hr (z_bool (show (1 : Int) = 0 ∨ (1 : Int) = 1 from by omega)) (fun t9 ht9 _ => ⟨nZ 1, rfl, congrArg nZ (show (1 : Int) = hsN wd a li.toNat from (hsN_1 hi0 (by omega) (by omega)).symm), ht9⟩) (fun _ h => by cases h) dX4_has_20

