theorem mul_bd2 {a b A B : Int} (ha : 0 ≤ a) (hA : a ≤ A) (hb : -B ≤ b) (hB : b ≤ B) : -(A * B) ≤ a * b ∧ a * b ≤ A * B := by
  have hB0 : 0 ≤ B := by omega
  constructor
  · rcases Int.le_total 0 b with q | q
    · have := Int.mul_nonneg ha q; have := Int.mul_nonneg (show 0 ≤ A by omega) hB0; omega
    · have h1 := mul_bd (b := -b) ha hA (by omega) (show -b ≤ B by omega)
      rw [Int.mul_neg] at h1; omega
  · rcases Int.le_total 0 b with q | q
    · exact (mul_bd ha hA q hB).2
    · have := Int.mul_nonneg (show 0 ≤ A by omega) hB0
      have h1 := mul_bd (b := -b) ha hA (by omega) (show -b ≤ B by omega)
      rw [Int.mul_neg] at h1; omega
theorem tdiv_bd {a b A : Int} (h1 : -A ≤ a) (h2 : a ≤ A) (hb : 0 < b) : -A ≤ Int.tdiv a b ∧ Int.tdiv a b ≤ A := by
  have h := Int.natAbs_tdiv a b
  have h3 : (Int.tdiv a b).natAbs ≤ a.natAbs := by rw [h]; exact Nat.div_le_self _ _
  omega
theorem woN_bd {fo : Int → Int} (h : ∀ k, 0 ≤ fo k ∧ fo k ≤ 36) (t al : Int) : ∀ n : Nat, 0 ≤ woN fo t al n ∧ woN fo t al n ≤ 36 * (n : Int)
  | 0 => ⟨Int.le_refl _, Int.le_refl _⟩
  | n + 1 => by
    have a := woN_bd h t al n
    have b := h (n : Int)
    show 0 ≤ woN fo t al n + _ ∧ woN fo t al n + _ ≤ _
    split <;> omega
set_option maxHeartbeats 4000000 in
set_option maxRecDepth 100000 in
theorem c_X8_atLeastOne (l : Launch) (D : va_G) (cI cJ : ClassId) (tn : Nat) (a : Int) (ra : I64 a)  : Met l yX8_atLeastOne wsX8_atLeastOne ({ frames := 1, cells := 0, slots := 0, locals := 23 } : Room) (va_Pc [.long (lZ a)] (RoP D cI cJ tn [])) (vp_Si (fun r9 : Int32 => r9 = nZ (al1 a))) 0 0 (fun _ => False) := by
  refine Met.ofW (cc := cX8_atLeastOne) (maxL := 2) (ret := (some .int)) (by decide) rfl ?_
  intro p e s m args below meth c s₁ B hml hv
  obtain ⟨rfl, hE, hP⟩ := hv
  have hx := B.exec
  have hb := B.bytes
  have hr := B.returns
  have hts := atoms_spec (ws := wsX8_atLeastOne) B.pre
  have hown : s.vm.findClass RX8 = some m.cls := findClass_of_methodNamed B.named
  have hlocks := B.notSynchronized
  have hS : va_S (fun _ => False) s.heap s.heap [] := va_S.rf
  have hK := hE.1
  have hN := hE.2.1
  have hl := lv_entry ([.long (lZ a)]) (n := 2) (Nat.le_of_ble_eq_true rfl)
  rw [lg_entry_eq]
  generalize (lg_sl ([.long (lZ a)]) ++ List.replicate (2 - (lg_sl ([.long (lZ a)])).length) Slot.unset).toArray = ls at hl ⊢
  have hl : lv_has ls 2 [(0, .long (lZ a))] := hl
  refine lv_lconst (v := lZ 1) hx hb dX8_atLeastOne_0 rfl ?_
  refine lv_lload_n hx hb dX8_atLeastOne_1 rfl (lv_at hl 0 rfl) ?_
  refine z_mmaxl hx hb (hml.trans hl.1.symm) hown (hts (.methodLink RX8 109 Lib.MathLoose.max_long.x) (List.mem_of_getElem? (i := 1) rfl)) (hts (.static Lib.MathLoose.max_long.x) (List.mem_of_getElem? (i := 2) rfl)) (hts (.initialized "java/lang/Math") (List.mem_of_getElem? (i := 3) rfl)) (hts (.code Lib.MathLoose.max_long.x Lib.MathLoose.max_long.code 4 (some .long)) (List.mem_of_getElem? (i := 4) rfl)) (Nat.le_of_ble_eq_true rfl) (Nat.le_of_ble_eq_true rfl) (Nat.zero_le _) (Nat.zero_le _) (by decide) (by omega) dX8_atLeastOne_2 ?_
  refine z_nameL (fun r2 er2 => ?_)
  refine z_l2i hx hb dX8_atLeastOne_5 ?_
  exact W.iret (v := nZ r2) hx hb hr (fun t9 ht9 _ => ⟨nZ r2, rfl, congrArg nZ (show (r2 : Int) = al1 a from (by unfold al1; rw [er2])), ht9⟩) (fun _ h => by cases h) dX8_atLeastOne_6

set_option maxHeartbeats 4000000 in
set_option maxRecDepth 100000 in
theorem c_X8_begin (l : Launch) (D : va_G) (cI cJ : ClassId) (tn : Nat) (sz : Nat) (w : Nat) (g : Nat) (h : Nat) (f : Nat) (kq : Nat) (fq : Nat) (rule : Int) (taken : Int) (lost : Int) (kept : Int) (told : Int) (tot : Int) (a : Int)   : Met l yX8_begin wsX8_begin ({ frames := 0, cells := 0, slots := 0, locals := 0 } : Room) (va_Pc [.ref w, .int (nZ a)] (WrP D cI cJ tn [(w, .inr (8, [.ref g, .ref h, .ref f, .ref kq, .int (nZ rule), .int (nZ taken), .int (nZ lost), .int (nZ kept)])), (f, .inr (1, [.ref fq, .int (nZ told), .int (nZ tot)]))] sz)) (va_Qv (fun u9 : Unit => True) (fun u9 t9 => WrQ D (va_A [(w, .inr (8, [.ref g, .ref h, .ref f, .ref kq, .int (nZ rule), .int (nZ taken), .int (nZ lost), .int (nZ kept)])), (f, .inr (1, [.ref fq, .int (nZ told), .int (nZ tot)]))] sz) [(w, .inr (8, [.ref g, .ref h, .ref f, .ref kq, .int (nZ a), .int (nZ 0), .int (nZ 0), .int (nZ (tot + 1))])), (f, .inr (1, [.ref fq, .int (nZ told), .int (nZ tot)]))] t9) (va_A [(w, .inr (8, [.ref g, .ref h, .ref f, .ref kq, .int (nZ rule), .int (nZ taken), .int (nZ lost), .int (nZ kept)])), (f, .inr (1, [.ref fq, .int (nZ told), .int (nZ tot)]))] sz)) 0 0 (va_A [(w, .inr (8, [.ref g, .ref h, .ref f, .ref kq, .int (nZ rule), .int (nZ taken), .int (nZ lost), .int (nZ kept)])), (f, .inr (1, [.ref fq, .int (nZ told), .int (nZ tot)]))] sz) := by
  refine Met.ofW (cc := cX8_begin) (maxL := 2) (ret := none) (by decide) rfl ?_
  intro p e s m args below meth c s₁ B hml hv
  obtain ⟨rfl, hsz, hE, hP, hD0⟩ := hv
  have hx := B.exec
  have hb := B.bytes
  have hr := B.returns
  have hts := atoms_spec (ws := wsX8_begin) B.pre
  have hown : s.vm.findClass RX8 = some m.cls := findClass_of_methodNamed B.named
  have hlocks := B.notSynchronized
  subst hsz
  have hD := hD0.self (sz := s.heap.size)
  generalize hAe : va_A [(w, .inr (8, [.ref g, .ref h, .ref f, .ref kq, .int (nZ rule), .int (nZ taken), .int (nZ lost), .int (nZ kept)])), (f, .inr (1, [.ref fq, .int (nZ told), .int (nZ tot)]))] s.heap.size = A at hD hE ⊢
  have hA : ∀ q : Nat, s.heap.size ≤ q → A q := fun q h => by rw [← hAe]; exact Or.inr h
  have hS : va_S A s.heap s.heap [] := va_S.rf
  have hK := hE.1
  have hN := hE.2.1
  have hl := lv_entry ([.ref w, .int (nZ a)]) (n := 2) (Nat.le_of_ble_eq_true rfl)
  rw [lg_entry_eq]
  generalize (lg_sl ([.ref w, .int (nZ a)]) ++ List.replicate (2 - (lg_sl ([.ref w, .int (nZ a)])).length) Slot.unset).toArray = ls at hl ⊢
  have hl : lv_has ls 2 [(0, .ref w), (1, .int (nZ a))] := hl
  have iX1 : ∀ w ∈ u_ws RX1 TX1 3, w ∈ wsX8_begin := fun _ h => List.mem_cons_of_mem _ (List.mem_append_right _ h)
  have iX8 : ∀ w ∈ u_ws RX8 TX8 8, w ∈ wsX8_begin := fun _ h => List.mem_cons_of_mem _ (List.mem_append_left _ (List.mem_append_right _ h))
  refine lv_aload_n hx hb dX8_begin_0 rfl (lv_at hl 0 rfl) ?_
  refine lv_iload_n hx hb dX8_begin_1 rfl (lv_at hl 1 rfl) ?_
  refine va_put (D := D) (ci := 8) (v := .int (nZ a)) (ty := .int) (C := RX8) (T := TX8) (N := 8) hx hb hts iX8 tyX8 tyX8_ok nmX8 hown hK hP hD hS 0 rfl rfl 4 (by decide) (hts (.fieldLink RX8 67 "RainTarget$Umpire" "rule" "I") (List.mem_of_getElem? (i := 1) rfl)) (fun _ h9 => h9) rfl (by decide +kernel) rfl rfl (Nat.le_of_ble_eq_true rfl) dX8_begin_2 (fun H locs hP hD hS => ?_)
  have hP : va_P D vwCl [(w, .inr (8, [.ref g, .ref h, .ref f, .ref kq, .int (nZ a), .int (nZ taken), .int (nZ lost), .int (nZ kept)])), (f, .inr (1, [.ref fq, .int (nZ told), .int (nZ tot)]))] H := hP
  have hD : va_D A [(w, .inr (8, [.ref g, .ref h, .ref f, .ref kq, .int (nZ a), .int (nZ taken), .int (nZ lost), .int (nZ kept)])), (f, .inr (1, [.ref fq, .int (nZ told), .int (nZ tot)]))] := hD
  refine lv_aload_n hx hb dX8_begin_5 rfl (lv_at hl 0 rfl) ?_
  refine lv_iconst (v := nZ 0) hx hb dX8_begin_6 rfl ?_
  refine va_put (D := D) (ci := 8) (v := .int (nZ 0)) (ty := .int) (C := RX8) (T := TX8) (N := 8) hx hb hts iX8 tyX8 tyX8_ok nmX8 hown hK hP hD hS 0 rfl rfl 5 (by decide) (hts (.fieldLink RX8 70 "RainTarget$Umpire" "taken" "I") (List.mem_of_getElem? (i := 2) rfl)) (fun _ h9 => h9) rfl (by decide +kernel) rfl rfl (Nat.le_of_ble_eq_true rfl) dX8_begin_7 (fun H locs hP hD hS => ?_)
  have hP : va_P D vwCl [(w, .inr (8, [.ref g, .ref h, .ref f, .ref kq, .int (nZ a), .int (nZ 0), .int (nZ lost), .int (nZ kept)])), (f, .inr (1, [.ref fq, .int (nZ told), .int (nZ tot)]))] H := hP
  have hD : va_D A [(w, .inr (8, [.ref g, .ref h, .ref f, .ref kq, .int (nZ a), .int (nZ 0), .int (nZ lost), .int (nZ kept)])), (f, .inr (1, [.ref fq, .int (nZ told), .int (nZ tot)]))] := hD
  refine lv_aload_n hx hb dX8_begin_10 rfl (lv_at hl 0 rfl) ?_
  refine lv_iconst (v := nZ 0) hx hb dX8_begin_11 rfl ?_
  refine va_put (D := D) (ci := 8) (v := .int (nZ 0)) (ty := .int) (C := RX8) (T := TX8) (N := 8) hx hb hts iX8 tyX8 tyX8_ok nmX8 hown hK hP hD hS 0 rfl rfl 6 (by decide) (hts (.fieldLink RX8 73 "RainTarget$Umpire" "lost" "I") (List.mem_of_getElem? (i := 3) rfl)) (fun _ h9 => h9) rfl (by decide +kernel) rfl rfl (Nat.le_of_ble_eq_true rfl) dX8_begin_12 (fun H locs hP hD hS => ?_)
  have hP : va_P D vwCl [(w, .inr (8, [.ref g, .ref h, .ref f, .ref kq, .int (nZ a), .int (nZ 0), .int (nZ 0), .int (nZ kept)])), (f, .inr (1, [.ref fq, .int (nZ told), .int (nZ tot)]))] H := hP
  have hD : va_D A [(w, .inr (8, [.ref g, .ref h, .ref f, .ref kq, .int (nZ a), .int (nZ 0), .int (nZ 0), .int (nZ kept)])), (f, .inr (1, [.ref fq, .int (nZ told), .int (nZ tot)]))] := hD
  refine lv_aload_n hx hb dX8_begin_15 rfl (lv_at hl 0 rfl) ?_
  refine lv_aload_n hx hb dX8_begin_16 rfl (lv_at hl 0 rfl) ?_
  refine va_get (D := D) (ci := 8) (v := .ref f) (C := RX8) (T := TX8) (N := 8) hx hb hts iX8 hown hK hP 0 rfl rfl 2 (by decide) (hts (.fieldLink RX8 23 "RainTarget$Umpire" "first" "LRainTarget$FirstSide;") (List.mem_of_getElem? (i := 4) rfl)) (fun _ h9 => h9) rfl dX8_begin_17 ?_
  refine va_getN (D := D) (ci := 1) (v := .int (nZ tot)) (C := RX1) (T := TX1) (N := 3) hx hb hts iX1 hown hK hP 1 rfl rfl 2 (by decide) (va_Nw.use rfl (nw_X8_76 hN)) (fun _ h9 => h9) rfl dX8_begin_20 ?_
  refine lv_iconst (v := nZ 1) hx hb dX8_begin_23 rfl ?_
  refine z_iadd hx hb dX8_begin_24 ?_
  refine va_put (D := D) (ci := 8) (v := .int (nZ (tot + 1))) (ty := .int) (C := RX8) (T := TX8) (N := 8) hx hb hts iX8 tyX8 tyX8_ok nmX8 hown hK hP hD hS 0 rfl rfl 7 (by decide) (hts (.fieldLink RX8 81 "RainTarget$Umpire" "kept" "I") (List.mem_of_getElem? (i := 5) rfl)) (fun _ h9 => h9) rfl (by decide +kernel) rfl rfl (Nat.le_of_ble_eq_true rfl) dX8_begin_25 (fun H locs hP hD hS => ?_)
  have hP : va_P D vwCl [(w, .inr (8, [.ref g, .ref h, .ref f, .ref kq, .int (nZ a), .int (nZ 0), .int (nZ 0), .int (nZ (tot + 1))])), (f, .inr (1, [.ref fq, .int (nZ told), .int (nZ tot)]))] H := hP
  have hD : va_D A [(w, .inr (8, [.ref g, .ref h, .ref f, .ref kq, .int (nZ a), .int (nZ 0), .int (nZ 0), .int (nZ (tot + 1))])), (f, .inr (1, [.ref fq, .int (nZ told), .int (nZ tot)]))] := hD
  have hP9 := hP.sub (ws' := [(w, .inr (8, [.ref g, .ref h, .ref f, .ref kq, .int (nZ a), .int (nZ 0), .int (nZ 0), .int (nZ (tot + 1))])), (f, .inr (1, [.ref fq, .int (nZ told), .int (nZ tot)]))]) [0, 1] rfl
  have hD9 := hD.sub (ws' := [(w, .inr (8, [.ref g, .ref h, .ref f, .ref kq, .int (nZ a), .int (nZ 0), .int (nZ 0), .int (nZ (tot + 1))])), (f, .inr (1, [.ref fq, .int (nZ told), .int (nZ tot)]))]) [0, 1] (by decide) rfl
  exact W.vret hx hb hr (fun t9 ht9 _ => ⟨⟨(), rfl, trivial, ⟨by rw [ht9]; exact hP9, hD9⟩⟩, hS.F ht9⟩) hS.2.2 dX8_begin_28

set_option maxHeartbeats 4000000 in
set_option maxRecDepth 100000 in
theorem c_X8_said (l : Launch) (D : va_G) (cI cJ : ClassId) (tn : Nat) (w : Nat) (g : Nat) (h : Nat) (f : Nat) (kq : Nat) (fq : Nat) (rule : Int) (taken : Int) (lost : Int) (kept : Int) (told : Int) (tot : Int) (a : Int) (b : Int) (ht0 : 0 ≤ tot) (ht1 : tot ≤ 1000) (ha0 : 0 ≤ a) (ha1 : a ≤ 99) (hb0 : 0 ≤ b) (hb1 : b ≤ 1000)  : Met l yX8_said wsX8_said ({ frames := 2, cells := 0, slots := 0, locals := 44 } : Room) (va_Pc [.ref w, .int (nZ a), .int (nZ b)] (RoP D cI cJ tn [(w, .inr (8, [.ref g, .ref h, .ref f, .ref kq, .int (nZ rule), .int (nZ taken), .int (nZ lost), .int (nZ kept)])), (f, .inr (1, [.ref fq, .int (nZ told), .int (nZ tot)]))])) (vp_Si (fun r9 : Int32 => r9 = nZ (al1 (tot + 1 - a * b)))) 0 0 (fun _ => False) := by
  refine Met.ofW (cc := cX8_said) (maxL := 3) (ret := (some .int)) (by decide) rfl ?_
  intro p e s m args below meth c s₁ B hml hv
  obtain ⟨rfl, hE, hP⟩ := hv
  have hx := B.exec
  have hb := B.bytes
  have hr := B.returns
  have hts := atoms_spec (ws := wsX8_said) B.pre
  have hown : s.vm.findClass RX8 = some m.cls := findClass_of_methodNamed B.named
  have hlocks := B.notSynchronized
  have hS : va_S (fun _ => False) s.heap s.heap [] := va_S.rf
  have hK := hE.1
  have hN := hE.2.1
  have hl := lv_entry ([.ref w, .int (nZ a), .int (nZ b)]) (n := 3) (Nat.le_of_ble_eq_true rfl)
  rw [lg_entry_eq]
  generalize (lg_sl ([.ref w, .int (nZ a), .int (nZ b)]) ++ List.replicate (3 - (lg_sl ([.ref w, .int (nZ a), .int (nZ b)])).length) Slot.unset).toArray = ls at hl ⊢
  have hl : lv_has ls 3 [(0, .ref w), (1, .int (nZ a)), (2, .int (nZ b))] := hl
  have iX1 : ∀ w ∈ u_ws RX1 TX1 3, w ∈ wsX8_said := fun _ h => List.mem_cons_of_mem _ (List.mem_append_right _ h)
  have iX8 : ∀ w ∈ u_ws RX8 TX8 8, w ∈ wsX8_said := fun _ h => List.mem_cons_of_mem _ (List.mem_append_left _ (List.mem_append_right _ h))
  refine lv_aload_n hx hb dX8_said_0 rfl (lv_at hl 0 rfl) ?_
  refine va_get (D := D) (ci := 8) (v := .ref f) (C := RX8) (T := TX8) (N := 8) hx hb hts iX8 hown hK hP 0 rfl rfl 2 (by decide) (hts (.fieldLink RX8 23 "RainTarget$Umpire" "first" "LRainTarget$FirstSide;") (List.mem_of_getElem? (i := 1) rfl)) (fun _ h9 => h9) rfl dX8_said_1 ?_
  refine va_getN (D := D) (ci := 1) (v := .int (nZ tot)) (C := RX1) (T := TX1) (N := 3) hx hb hts iX1 hown hK hP 1 rfl rfl 2 (by decide) (va_Nw.use rfl (nw_X8_76 hN)) (fun _ h9 => h9) rfl dX8_said_4 ?_
  refine lv_iconst (v := nZ 1) hx hb dX8_said_7 rfl ?_
  refine z_iadd hx hb dX8_said_8 ?_
  refine lv_iload_n hx hb dX8_said_9 rfl (lv_at hl 1 rfl) ?_
  refine lv_iload_n hx hb dX8_said_10 rfl (lv_at hl 2 rfl) ?_
  refine z_imul hx hb dX8_said_11 ?_
  have hab := mul_bd ha0 ha1 hb0 hb1
  refine z_isub hx hb dX8_said_12 ?_
  refine z_i2l hx hb dX8_said_13 (by omega) ?_
  refine vp_callSi ((va_runS (As := [.long (lZ ((tot + 1) - (a * b)))]) (rest := []) ⟨hx, hb, hml, hown, hts⟩ (c_X8_atLeastOne l D cI cJ tn ((tot + 1) - (a * b)) (by first | assumption | omega) ) (va_cwS 1 hts gX8_said_X8_atLeastOne rfl rfl rfl (by decide +kernel) ⟨Nat.le_of_ble_eq_true rfl, Nat.le_of_ble_eq_true rfl⟩) ⟨RoP.blind, fun U hU hW => ⟨rfl, RoP.call hE hS (hP.sub (ws' := []) [] rfl) hU hW⟩⟩ rfl rfl hl.1 rfl (lv_room (Nat.le_of_ble_eq_true rfl)) dX8_said_14 ⟨Nat.le_of_ble_eq_true rfl, Nat.le_of_ble_eq_true rfl⟩).run) (fun r14 hr14 => ?_)
  subst hr14
  refine z_nameI (fun r14 er14 => ?_)
  exact W.iret (v := nZ r14) hx hb hr (fun t9 ht9 _ => ⟨nZ r14, rfl, congrArg nZ (show (r14 : Int) = al1 (tot + 1 - a * b) from (by rw [er14])), ht9⟩) (fun _ h => by cases h) dX8_said_17

set_option maxHeartbeats 4000000 in
set_option maxRecDepth 100000 in
theorem c_X8_bentShare (l : Launch) (D : va_G) (cI cJ : ClassId) (tn : Nat) (w : Nat) (g : Nat) (h : Nat) (f : Nat) (kq : Nat) (q1 : Nat) (q2 : Nat) (q3 : Nat) (fq : Nat) (me : Int → Int) (cs : Int → Int) (mp : Int → Int) (so : Int) (sm : Int) (sp : Int) (sb : Int) (sc : Int) (sd : Int) (sl : Int) (rule : Int) (taken : Int) (lost : Int) (kept : Int) (told : Int) (tot : Int) (u : Int) (v : Int) (hM : MoodOK cs mp) (hMe : MeanOK cs mp me) (ho1 : 1 ≤ so) (ho : so ≤ 12) (hm : sm ≤ 10) (hp0 : 0 ≤ sp) (hp1 : sp ≤ 400) (hb0 : 1 ≤ sb) (hb1 : sb ≤ 300) (ht0 : 0 ≤ tot) (ht1 : tot ≤ 1000) (hu0 : 0 ≤ u) (hu1 : u ≤ so) (hv0 : 0 ≤ v) (hv1 : v ≤ sm)  : Met l yX8_bentShare wsX8_bentShare ({ frames := 3, cells := 0, slots := 0, locals := 69 } : Room) (va_Pc [.ref w, .int (nZ u), .int (nZ v)] (RoP D cI cJ tn [(w, .inr (8, [.ref g, .ref h, .ref f, .ref kq, .int (nZ rule), .int (nZ taken), .int (nZ lost), .int (nZ kept)])), (g, .inr (6, [.int (nZ so), .int (nZ sm), .int (nZ sp), .int (nZ sb), .int (nZ sc), .int (nZ sd), .int (nZ sl)])), (h, .inr (0, [.ref q1, .ref q2, .ref q3])), (q2, .inl (cJ, 143, .inr (.inl (bZ me)))), (f, .inr (1, [.ref fq, .int (nZ told), .int (nZ tot)]))])) (vp_Si (fun r9 : Int32 => r9 = nZ (BS cs mp so sm sp sb tot u v))) 0 0 (fun _ => False) := by
  refine Met.ofW (cc := cX8_bentShare) (maxL := 8) (ret := (some .int)) (by decide) rfl ?_
  intro p e s m args below meth c s₁ B hml hv
  obtain ⟨rfl, hE, hP⟩ := hv
  have hx := B.exec
  have hb := B.bytes
  have hr := B.returns
  have hts := atoms_spec (ws := wsX8_bentShare) B.pre
  have hown : s.vm.findClass RX8 = some m.cls := findClass_of_methodNamed B.named
  have hlocks := B.notSynchronized
  have hS : va_S (fun _ => False) s.heap s.heap [] := va_S.rf
  have hK := hE.1
  have hN := hE.2.1
  have hl := lv_entry ([.ref w, .int (nZ u), .int (nZ v)]) (n := 8) (Nat.le_of_ble_eq_true rfl)
  rw [lg_entry_eq]
  generalize (lg_sl ([.ref w, .int (nZ u), .int (nZ v)]) ++ List.replicate (8 - (lg_sl ([.ref w, .int (nZ u), .int (nZ v)])).length) Slot.unset).toArray = ls at hl ⊢
  have hl : lv_has ls 8 [(0, .ref w), (1, .int (nZ u)), (2, .int (nZ v))] := hl
  have iX1 : ∀ w ∈ u_ws RX1 TX1 3, w ∈ wsX8_bentShare := fun _ h => List.mem_cons_of_mem _ (List.mem_append_left _ (List.mem_append_right _ h))
  have iX6 : ∀ w ∈ u_ws RX6 TX6 7, w ∈ wsX8_bentShare := fun _ h => List.mem_cons_of_mem _ (List.mem_append_left _ (List.mem_append_left _ (List.mem_append_right _ h)))
  have iX8 : ∀ w ∈ u_ws RX8 TX8 8, w ∈ wsX8_bentShare := fun _ h => List.mem_cons_of_mem _ (List.mem_append_left _ (List.mem_append_left _ (List.mem_append_left _ (List.mem_append_right _ h))))
  refine lv_aload_n hx hb dX8_bentShare_0 rfl (lv_at hl 0 rfl) ?_
  refine va_get (D := D) (ci := 8) (v := .ref g) (C := RX8) (T := TX8) (N := 8) hx hb hts iX8 hown hK hP 0 rfl rfl 0 (by decide) (hts (.fieldLink RX8 15 "RainTarget$Umpire" "settings" "LRainTarget$Settings;") (List.mem_of_getElem? (i := 1) rfl)) (fun _ h9 => h9) rfl dX8_bentShare_1 ?_
  refine va_getN (D := D) (ci := 6) (v := .int (nZ sb)) (C := RX6) (T := TX6) (N := 7) hx hb hts iX6 hown hK hP 1 rfl rfl 3 (by decide) (va_Nw.use rfl (nw_X8_112 hN)) (fun _ h9 => h9) rfl dX8_bentShare_4 ?_
  refine lv_istore_n (lv' := [(3, .int (nZ sb)), (0, .ref w), (1, .int (nZ u)), (2, .int (nZ v))]) hx hb dX8_bentShare_7 rfl hl (by decide) rfl (fun ls hl => ?_)
  refine lv_iconst (v := nZ 0) hx hb dX8_bentShare_8 rfl ?_
  refine lv_iload_n hx hb dX8_bentShare_9 rfl (lv_at hl 0 rfl) ?_
  refine lv_aload_n hx hb dX8_bentShare_10 rfl (lv_at hl 1 rfl) ?_
  refine va_get (D := D) (ci := 8) (v := .ref f) (C := RX8) (T := TX8) (N := 8) hx hb hts iX8 hown hK hP 0 rfl rfl 2 (by decide) (hts (.fieldLink RX8 23 "RainTarget$Umpire" "first" "LRainTarget$FirstSide;") (List.mem_of_getElem? (i := 2) rfl)) (fun _ h9 => h9) rfl dX8_bentShare_11 ?_
  refine va_getN (D := D) (ci := 1) (v := .int (nZ tot)) (C := RX1) (T := TX1) (N := 3) hx hb hts iX1 hown hK hP 4 rfl rfl 2 (by decide) (va_Nw.use rfl (nw_X8_76 hN)) (fun _ h9 => h9) rfl dX8_bentShare_14 ?_
  refine lv_aload_n hx hb dX8_bentShare_17 rfl (lv_at hl 1 rfl) ?_
  refine va_get (D := D) (ci := 8) (v := .ref g) (C := RX8) (T := TX8) (N := 8) hx hb hts iX8 hown hK hP 0 rfl rfl 0 (by decide) (hts (.fieldLink RX8 15 "RainTarget$Umpire" "settings" "LRainTarget$Settings;") (List.mem_of_getElem? (i := 1) rfl)) (fun _ h9 => h9) rfl dX8_bentShare_18 ?_
  refine va_getN (D := D) (ci := 6) (v := .int (nZ sp)) (C := RX6) (T := TX6) (N := 7) hx hb hts iX6 hown hK hP 1 rfl rfl 2 (by decide) (va_Nw.use rfl (nw_X8_115 hN)) (fun _ h9 => h9) rfl dX8_bentShare_21 ?_
  refine z_isub hx hb dX8_bentShare_24 ?_
  refine z_mmin hx hb (hml.trans hl.1.symm) hown (hts (.methodLink RX8 118 Lib.Math.min.name) (List.mem_of_getElem? (i := 3) rfl)) (hts (.static Lib.Math.min.name) (List.mem_of_getElem? (i := 4) rfl)) (hts (.initialized "java/lang/Math") (List.mem_of_getElem? (i := 5) rfl)) (hts (.code Lib.Math.min.name Lib.Math.min.code 2 (some .int)) (List.mem_of_getElem? (i := 6) rfl)) (Nat.le_of_ble_eq_true rfl) (Nat.le_of_ble_eq_true rfl) (Nat.zero_le _) (Nat.zero_le _) (by omega) (by omega) dX8_bentShare_25 ?_
  refine z_nameI (fun r25 er25 => ?_)
  refine z_mmax hx hb (hml.trans hl.1.symm) hown (hts (.methodLink RX8 121 Lib.Math.max.name) (List.mem_of_getElem? (i := 7) rfl)) (hts (.static Lib.Math.max.name) (List.mem_of_getElem? (i := 8) rfl)) (hts (.initialized "java/lang/Math") (List.mem_of_getElem? (i := 5) rfl)) (hts (.code Lib.Math.max.name Lib.Math.max.code 2 (some .int)) (List.mem_of_getElem? (i := 9) rfl)) (Nat.le_of_ble_eq_true rfl) (Nat.le_of_ble_eq_true rfl) (Nat.zero_le _) (Nat.zero_le _) (by decide) (by omega) dX8_bentShare_28 ?_
  refine z_nameI (fun r28 er28 => ?_)
  have hbh : r28 = bh tot sp sb := by unfold bh; rw [er28, er25]
  have hbb := bh_bd (tot := tot) (pr := sp) hb0
  refine lv_istore (lv' := [(4, .int (nZ r28)), (3, .int (nZ sb)), (0, .ref w), (1, .int (nZ u)), (2, .int (nZ v))]) hx hb dX8_bentShare_31 hl (by decide) rfl (fun ls hl => ?_)
  refine lv_aload_n hx hb dX8_bentShare_33 rfl (lv_at hl 2 rfl) ?_
  refine va_get (D := D) (ci := 8) (v := .ref h) (C := RX8) (T := TX8) (N := 8) hx hb hts iX8 hown hK hP 0 rfl rfl 1 (by decide) (hts (.fieldLink RX8 19 "RainTarget$Umpire" "batting" "LRainTarget$Batting;") (List.mem_of_getElem? (i := 10) rfl)) (fun _ h9 => h9) rfl dX8_bentShare_34 ?_
  refine lv_iload_n hx hb dX8_bentShare_37 rfl (lv_at hl 3 rfl) ?_
  refine lv_iload_n hx hb dX8_bentShare_38 rfl (lv_at hl 4 rfl) ?_
  refine lv_aload_n hx hb dX8_bentShare_39 rfl (lv_at hl 2 rfl) ?_
  refine va_get (D := D) (ci := 8) (v := .ref g) (C := RX8) (T := TX8) (N := 8) hx hb hts iX8 hown hK hP 0 rfl rfl 0 (by decide) (hts (.fieldLink RX8 15 "RainTarget$Umpire" "settings" "LRainTarget$Settings;") (List.mem_of_getElem? (i := 1) rfl)) (fun _ h9 => h9) rfl dX8_bentShare_40 ?_
  refine vp_callSi ((va_runVN (As := [.int (nZ u), .int (nZ v), .ref g]) (rest := []) ⟨hx, hb, hml, hown, hts⟩ (c_X0_share l D cI cJ tn h q1 q2 q3 g me cs mp so sm sp sb sc sd sl u v hM hMe ho hm hu0 hu1 hv0 hv1 ) ⟨va_cnB 3 hts gX8_bentShare_X0_share_n84 rfl rfl rfl (nw_X8_84 hN) (hts (.initialized RX0) (List.mem_of_getElem? (i := 12) rfl)) (by decide +kernel) ⟨Nat.le_of_ble_eq_true rfl, Nat.le_of_ble_eq_true rfl⟩, (hts (.instanceMethod yX0_share) (List.mem_of_getElem? (i := 11) rfl)), (hts (.selects RX0 yX0_share yX0_share) (List.mem_of_getElem? (i := 13) rfl))⟩ ⟨RoP.blind, va_recv hK hP (ci := 0) (q0 := 2) rfl rfl, fun U hU hW => ⟨rfl, RoP.call hE hS (hP.sub (ws' := [(h, .inr (0, [.ref q1, .ref q2, .ref q3])), (q2, .inl (cJ, 143, .inr (.inl (bZ me)))), (g, .inr (6, [.int (nZ so), .int (nZ sm), .int (nZ sp), .int (nZ sb), .int (nZ sc), .int (nZ sd), .int (nZ sl)]))]) [2, 3, 1] rfl) hU hW⟩⟩ rfl rfl hl.1 rfl (lv_room (Nat.le_of_ble_eq_true rfl)) dX8_bentShare_43 ⟨Nat.le_of_ble_eq_true rfl, Nat.le_of_ble_eq_true rfl⟩).run) (fun r43 hr43 => ?_)
  subst hr43
  refine z_nameI (fun r43 er43 => ?_)
  have hsp := SP_bd hM (ov := so) (mn := sm) hu0 hu1 hv1
  refine lv_istore (lv' := [(5, .int (nZ r43)), (4, .int (nZ r28)), (3, .int (nZ sb)), (0, .ref w), (1, .int (nZ u)), (2, .int (nZ v))]) hx hb dX8_bentShare_46 hl (by decide) rfl (fun ls hl => ?_)
  refine lv_sipush (v := nZ 1000) hx hb dX8_bentShare_48 (by decide) ?_
  refine lv_iload_n hx hb dX8_bentShare_51 rfl (lv_at hl 4 rfl) ?_
  refine z_imul hx hb dX8_bentShare_52 ?_
  refine z_i2l hx hb dX8_bentShare_53 (by omega) ?_
  refine lv_aload_n hx hb dX8_bentShare_54 rfl (lv_at hl 3 rfl) ?_
  refine va_get (D := D) (ci := 8) (v := .ref g) (C := RX8) (T := TX8) (N := 8) hx hb hts iX8 hown hK hP 0 rfl rfl 0 (by decide) (hts (.fieldLink RX8 15 "RainTarget$Umpire" "settings" "LRainTarget$Settings;") (List.mem_of_getElem? (i := 1) rfl)) (fun _ h9 => h9) rfl dX8_bentShare_55 ?_
  refine va_getN (D := D) (ci := 6) (v := .int (nZ so)) (C := RX6) (T := TX6) (N := 7) hx hb hts iX6 hown hK hP 1 rfl rfl 0 (by decide) (va_Nw.use rfl (nw_X8_51 hN)) (fun _ h9 => h9) rfl dX8_bentShare_58 ?_
  refine z_i2l hx hb dX8_bentShare_61 (by omega) ?_
  refine vp_callSl ((va_runSN (As := [.long (lZ (1000 * u)), .long (lZ so)]) (rest := []) ⟨hx, hb, hml, hown, hts⟩ (c_X9_cut l D cI cJ tn (1000 * u) so (by omega) (by omega) ) ⟨va_cnB 2 hts gX8_bentShare_X9_cut_n93 rfl rfl rfl (nw_X8_93 hN) (hts (.initialized RX9) (List.mem_of_getElem? (i := 22) rfl)) (by decide +kernel) ⟨Nat.le_of_ble_eq_true rfl, Nat.le_of_ble_eq_true rfl⟩, (hts (.static yX9_cut) (List.mem_of_getElem? (i := 27) rfl)), trivial⟩ ⟨RoP.blind, fun U hU hW => ⟨rfl, RoP.call hE hS (hP.sub (ws' := []) [] rfl) hU hW⟩⟩ rfl rfl hl.1 rfl (lv_room (Nat.le_of_ble_eq_true rfl)) dX8_bentShare_62 ⟨Nat.le_of_ble_eq_true rfl, Nat.le_of_ble_eq_true rfl⟩).run) (fun r62 hr62 => ?_)
  subst hr62
  refine z_nameL (fun r62 er62 => ?_)
  have e62 : r62 = 1000 * u / so := by rw [er62, if_pos (by omega), tdivN (by omega)]
  have hd0 : 0 ≤ 1000 * u / so := Int.ediv_nonneg (by omega) (by omega)
  have hd1 : 1000 * u / so ≤ 1000 := by
    have := Int.ediv_le_ediv (show 0 < so by omega) (show 1000 * u ≤ 1000 * so by omega)
    rw [Int.mul_ediv_cancel _ (by omega)] at this; exact this
  refine lv_lstore (lv' := [(6, .long (lZ r62)), (5, .int (nZ r43)), (4, .int (nZ r28)), (3, .int (nZ sb)), (0, .ref w), (1, .int (nZ u)), (2, .int (nZ v))]) hx hb dX8_bentShare_65 hl (by decide) rfl (fun ls hl => ?_)
  refine lv_iload hx hb dX8_bentShare_67 (lv_at hl 1 rfl) ?_
  refine lv_iload_n hx hb dX8_bentShare_69 rfl (lv_at hl 3 rfl) ?_
  refine lv_iload hx hb dX8_bentShare_70 (lv_at hl 2 rfl) ?_
  refine z_isub hx hb dX8_bentShare_72 ?_
  have hm1 := mul_bd (a := r43) (b := sb - r28) (A := 1000) (B := 300) (by omega) (by omega) (by omega) (by omega)
  refine z_imul hx hb dX8_bentShare_73 ?_
  refine z_i2l hx hb dX8_bentShare_74 (by omega) ?_
  refine lv_lload hx hb dX8_bentShare_75 (lv_at hl 0 rfl) ?_
  refine lv_iload hx hb dX8_bentShare_77 (lv_at hl 2 rfl) ?_
  refine z_i2l hx hb dX8_bentShare_79 (by omega) ?_
  have hm2 := mul_bd (a := r62) (b := r28) (A := 1000) (B := 300) (by omega) (by omega) (by omega) (by omega)
  refine z_lmul hx hb dX8_bentShare_80 ?_
  refine z_ladd hx hb dX8_bentShare_81 ?_
  refine lv_iload_n hx hb dX8_bentShare_82 rfl (lv_at hl 3 rfl) ?_
  refine z_i2l hx hb dX8_bentShare_83 (by omega) ?_
  refine vp_callSl ((va_runSN (As := [.long (lZ ((r43 * (sb - r28)) + (r62 * r28))), .long (lZ sb)]) (rest := []) ⟨hx, hb, hml, hown, hts⟩ (c_X9_cut l D cI cJ tn ((r43 * (sb - r28)) + (r62 * r28)) sb (by omega) (by omega) ) ⟨va_cnB 2 hts gX8_bentShare_X9_cut_n93 rfl rfl rfl (nw_X8_93 hN) (hts (.initialized RX9) (List.mem_of_getElem? (i := 22) rfl)) (by decide +kernel) ⟨Nat.le_of_ble_eq_true rfl, Nat.le_of_ble_eq_true rfl⟩, (hts (.static yX9_cut) (List.mem_of_getElem? (i := 27) rfl)), trivial⟩ ⟨RoP.blind, fun U hU hW => ⟨rfl, RoP.call hE hS (hP.sub (ws' := []) [] rfl) hU hW⟩⟩ rfl rfl hl.1 rfl (lv_room (Nat.le_of_ble_eq_true rfl)) dX8_bentShare_84 ⟨Nat.le_of_ble_eq_true rfl, Nat.le_of_ble_eq_true rfl⟩).run) (fun r84 hr84 => ?_)
  subst hr84
  refine z_nameL (fun r84 er84 => ?_)
  refine z_l2i hx hb dX8_bentShare_87 ?_
  exact W.iret (v := nZ r84) hx hb hr (fun t9 ht9 _ => ⟨nZ r84, rfl, congrArg nZ (show (r84 : Int) = BS cs mp so sm sp sb tot u v from (by unfold BS; rw [er84, if_pos (by omega), tdivN (by omega), er43, e62, hbh])), ht9⟩) (fun _ h => by cases h) dX8_bentShare_88

set_option maxHeartbeats 4000000 in
set_option maxRecDepth 100000 in
theorem c_X8_keepingOdds (l : Launch) (D : va_G) (cI cJ : ClassId) (tn : Nat) (sz : Nat) (w : Nat) (g : Nat) (h : Nat) (f : Nat) (kq : Nat) (q1 : Nat) (q2 : Nat) (q3 : Nat) (p1 : Nat) (p2 : Nat) (cs : Int → Int) (mp : Int → Int) (ch : Int → Int) (rule : Int) (taken : Int) (lost : Int) (kept : Int) (k : Int) (u : Int) (v : Int) (b : Int) (hM : MoodOK cs mp) (hmemo : MemoOK cs mp ch) (hk0 : 0 ≤ k) (hku : k ≤ u) (hu2 : u ≤ 12) (hv1 : -100 ≤ v) (hv2 : v ≤ 10) (hkp1 : 1 ≤ kept) (hkp2 : kept ≤ 500) (hb0 : 0 ≤ b) (hb1 : b ≤ 500)  : Met l yX8_keepingOdds wsX8_keepingOdds ({ frames := 28, cells := 0, slots := 0, locals := 847 } : Room) (va_Pc [.ref w, .int (nZ k), .int (nZ u), .int (nZ v), .int (nZ b)] (WrP D cI cJ tn [(w, .inr (8, [.ref g, .ref h, .ref f, .ref kq, .int (nZ rule), .int (nZ taken), .int (nZ lost), .int (nZ kept)])), (h, .inr (0, [.ref q1, .ref q2, .ref q3])), (q3, .inl (cJ, 28080, .inr (.inl (bZ ch)))), (q1, .inr (3, [.ref p1, .ref p2])), (p1, .inl (cI, 4, .inl (aZ cs))), (p2, .inl (cI, 48, .inl (aZ mp)))] sz)) (va_Qi (fun (r9 : Int32) (u9 : (Int → Int)) => r9 = nZ (KO cs mp u k v kept b) ∧ MemoOK cs mp u9) (fun u9 t9 => WrQ D (va_A [(w, .inr (8, [.ref g, .ref h, .ref f, .ref kq, .int (nZ rule), .int (nZ taken), .int (nZ lost), .int (nZ kept)])), (h, .inr (0, [.ref q1, .ref q2, .ref q3])), (q3, .inl (cJ, 28080, .inr (.inl (bZ ch)))), (q1, .inr (3, [.ref p1, .ref p2])), (p1, .inl (cI, 4, .inl (aZ cs))), (p2, .inl (cI, 48, .inl (aZ mp)))] sz) [(w, .inr (8, [.ref g, .ref h, .ref f, .ref kq, .int (nZ rule), .int (nZ taken), .int (nZ lost), .int (nZ kept)])), (h, .inr (0, [.ref q1, .ref q2, .ref q3])), (q3, .inl (cJ, 28080, .inr (.inl (bZ u9)))), (q1, .inr (3, [.ref p1, .ref p2])), (p1, .inl (cI, 4, .inl (aZ cs))), (p2, .inl (cI, 48, .inl (aZ mp)))] t9) (va_A [(w, .inr (8, [.ref g, .ref h, .ref f, .ref kq, .int (nZ rule), .int (nZ taken), .int (nZ lost), .int (nZ kept)])), (h, .inr (0, [.ref q1, .ref q2, .ref q3])), (q3, .inl (cJ, 28080, .inr (.inl (bZ ch)))), (q1, .inr (3, [.ref p1, .ref p2])), (p1, .inl (cI, 4, .inl (aZ cs))), (p2, .inl (cI, 48, .inl (aZ mp)))] sz)) 0 0 (va_A [(w, .inr (8, [.ref g, .ref h, .ref f, .ref kq, .int (nZ rule), .int (nZ taken), .int (nZ lost), .int (nZ kept)])), (h, .inr (0, [.ref q1, .ref q2, .ref q3])), (q3, .inl (cJ, 28080, .inr (.inl (bZ ch)))), (q1, .inr (3, [.ref p1, .ref p2])), (p1, .inl (cI, 4, .inl (aZ cs))), (p2, .inl (cI, 48, .inl (aZ mp)))] sz) := by
  refine Met.ofW (cc := cX8_keepingOdds) (maxL := 10) (ret := (some .int)) (by decide) rfl ?_
  intro p e s m args below meth c s₁ B hml hv
  obtain ⟨rfl, hsz, hE, hP, hD0⟩ := hv
  have hx := B.exec
  have hb := B.bytes
  have hr := B.returns
  have hts := atoms_spec (ws := wsX8_keepingOdds) B.pre
  have hown : s.vm.findClass RX8 = some m.cls := findClass_of_methodNamed B.named
  have hlocks := B.notSynchronized
  subst hsz
  have hD := hD0.self (sz := s.heap.size)
  generalize hAe : va_A [(w, .inr (8, [.ref g, .ref h, .ref f, .ref kq, .int (nZ rule), .int (nZ taken), .int (nZ lost), .int (nZ kept)])), (h, .inr (0, [.ref q1, .ref q2, .ref q3])), (q3, .inl (cJ, 28080, .inr (.inl (bZ ch)))), (q1, .inr (3, [.ref p1, .ref p2])), (p1, .inl (cI, 4, .inl (aZ cs))), (p2, .inl (cI, 48, .inl (aZ mp)))] s.heap.size = A at hD hE ⊢
  have hA : ∀ q : Nat, s.heap.size ≤ q → A q := fun q h => by rw [← hAe]; exact Or.inr h
  have hS : va_S A s.heap s.heap [] := va_S.rf
  have hK := hE.1
  have hN := hE.2.1
  have hl := lv_entry ([.ref w, .int (nZ k), .int (nZ u), .int (nZ v), .int (nZ b)]) (n := 10) (Nat.le_of_ble_eq_true rfl)
  rw [lg_entry_eq]
  generalize (lg_sl ([.ref w, .int (nZ k), .int (nZ u), .int (nZ v), .int (nZ b)]) ++ List.replicate (10 - (lg_sl ([.ref w, .int (nZ k), .int (nZ u), .int (nZ v), .int (nZ b)])).length) Slot.unset).toArray = ls at hl ⊢
  have hl : lv_has ls 10 [(0, .ref w), (1, .int (nZ k)), (2, .int (nZ u)), (3, .int (nZ v)), (4, .int (nZ b))] := hl
  have iX8 : ∀ w ∈ u_ws RX8 TX8 8, w ∈ wsX8_keepingOdds := fun _ h => List.mem_cons_of_mem _ (List.mem_append_left _ (List.mem_append_left _ (List.mem_append_right _ h)))
  refine lv_aload_n hx hb dX8_keepingOdds_0 rfl (lv_at hl 0 rfl) ?_
  refine va_get (D := D) (ci := 8) (v := .ref h) (C := RX8) (T := TX8) (N := 8) hx hb hts iX8 hown hK hP 0 rfl rfl 1 (by decide) (hts (.fieldLink RX8 19 "RainTarget$Umpire" "batting" "LRainTarget$Batting;") (List.mem_of_getElem? (i := 1) rfl)) (fun _ h9 => h9) rfl dX8_keepingOdds_1 ?_
  refine lv_iload_n hx hb dX8_keepingOdds_4 rfl (lv_at hl 2 rfl) ?_
  refine z_topi (y := (u.toNat : Int)) (by omega) ?_
  refine lv_iload_n hx hb dX8_keepingOdds_5 rfl (lv_at hl 3 rfl) ?_
  refine lv_aload_n hx hb dX8_keepingOdds_6 rfl (lv_at hl 0 rfl) ?_
  refine va_get (D := D) (ci := 8) (v := .int (nZ kept)) (C := RX8) (T := TX8) (N := 8) hx hb hts iX8 hown hK hP 0 rfl rfl 7 (by decide) (hts (.fieldLink RX8 81 "RainTarget$Umpire" "kept" "I") (List.mem_of_getElem? (i := 2) rfl)) (fun _ h9 => h9) rfl dX8_keepingOdds_7 ?_
  refine lv_iload hx hb dX8_keepingOdds_10 (lv_at hl 4 rfl) ?_
  refine z_isub hx hb dX8_keepingOdds_12 ?_
  have hFc := va_free (wc := [(h, .inr (0, [.ref q1, .ref q2, .ref q3])), (q3, .inl (cJ, 28080, .inr (.inl (bZ ch)))), (q1, .inr (3, [.ref p1, .ref p2])), (p1, .inl (cI, 4, .inl (aZ cs))), (p2, .inl (cI, 48, .inl (aZ mp)))]) hD hS hA [1, 2, 3, 4, 5] rfl
  have hPc := hP.sub (ws' := [(h, .inr (0, [.ref q1, .ref q2, .ref q3])), (q3, .inl (cJ, 28080, .inr (.inl (bZ ch)))), (q1, .inr (3, [.ref p1, .ref p2])), (p1, .inl (cI, 4, .inl (aZ cs))), (p2, .inl (cI, 48, .inl (aZ mp)))]) [1, 2, 3, 4, 5] rfl
  have hDc := hD.sub (ws' := [(h, .inr (0, [.ref q1, .ref q2, .ref q3])), (q3, .inl (cJ, 28080, .inr (.inl (bZ ch)))), (q1, .inr (3, [.ref p1, .ref p2])), (p1, .inl (cI, 4, .inl (aZ cs))), (p2, .inl (cI, 48, .inl (aZ mp)))]) [1, 2, 3, 4, 5] (by decide) rfl
  refine va_calll (va_runVN (As := [.int (nZ (u.toNat : Int)), .int (nZ v), .int (nZ (kept - b))]) (rest := []) ⟨hx, hb, hml, hown, hts⟩ (c_X0_chance l D cI cJ tn s.heap.size h q1 q2 q3 p1 p2 cs mp u.toNat ch v (kept - b) hM (by first | assumption | omega) hmemo hv1 hv2 (by first | assumption | omega) (by first | assumption | omega) ) ⟨va_cnB 3 hts gX8_keepingOdds_X0_chance_n123 rfl rfl rfl (nw_X8_123 hN) (hts (.initialized RX0) (List.mem_of_getElem? (i := 4) rfl)) (by decide +kernel) ⟨by show 2 * u.toNat + 3 + 1 ≤ 28; omega, by show 8 + (8 + 11) + (60 * u.toNat + 100) ≤ 847; omega⟩, (hts (.instanceMethod yX0_chance) (List.mem_of_getElem? (i := 3) rfl)), (hts (.selects RX0 yX0_chance yX0_chance) (List.mem_of_getElem? (i := 5) rfl))⟩ ⟨WrP.blind, va_recv hK hP (ci := 0) (q0 := 1) rfl rfl, fun U hU hW => ⟨rfl, WrP.call hE hS hPc hDc hFc hU hW⟩⟩ rfl rfl hl.1 rfl (lv_room (Nat.le_of_ble_eq_true rfl)) dX8_keepingOdds_13 ⟨Nat.le_of_ble_eq_true rfl, Nat.le_of_ble_eq_true rfl⟩) hS (fun q _ h => hFc q h) hFc (fun r13 u9 t9 H1 locs ht9 hvm hv13 hB9 hz9 hk9 hS => ?_)
  obtain ⟨ch2_13, rfl⟩ : ∃ z, z = u9 := ⟨_, rfl⟩
  obtain ⟨hP8, hD8⟩ := hB9
  rw [ht9] at hP8
  obtain ⟨hq13, hw13⟩ : r13 = lZ (WN cs mp u.toNat v (kept - b)) ∧ MemoOK cs mp ch2_13 := hv13
  subst hq13
  obtain ⟨hP, hD⟩ := va_join (wr := [(w, .inr (8, [.ref g, .ref h, .ref f, .ref kq, .int (nZ rule), .int (nZ taken), .int (nZ lost), .int (nZ kept)]))]) (w1 := [(h, .inr (0, [.ref q1, .ref q2, .ref q3])), (q3, .inl (cJ, 28080, .inr (.inl (bZ ch2_13)))), (q1, .inr (3, [.ref p1, .ref p2])), (p1, .inl (cI, 4, .inl (aZ cs))), (p2, .inl (cI, 48, .inl (aZ mp)))]) hP hD [1, 2, 3, 4, 5] [0] rfl rfl (by decide) (by decide) hk9 hFc hP8 hD8
  generalize H1 = H at hP hS ⊢
  have hP : va_P D vwCl [(w, .inr (8, [.ref g, .ref h, .ref f, .ref kq, .int (nZ rule), .int (nZ taken), .int (nZ lost), .int (nZ kept)])), (h, .inr (0, [.ref q1, .ref q2, .ref q3])), (q3, .inl (cJ, 28080, .inr (.inl (bZ ch2_13)))), (q1, .inr (3, [.ref p1, .ref p2])), (p1, .inl (cI, 4, .inl (aZ cs))), (p2, .inl (cI, 48, .inl (aZ mp)))] H := hP
  have hD : va_D A [(w, .inr (8, [.ref g, .ref h, .ref f, .ref kq, .int (nZ rule), .int (nZ taken), .int (nZ lost), .int (nZ kept)])), (h, .inr (0, [.ref q1, .ref q2, .ref q3])), (q3, .inl (cJ, 28080, .inr (.inl (bZ ch2_13)))), (q1, .inr (3, [.ref p1, .ref p2])), (p1, .inl (cI, 4, .inl (aZ cs))), (p2, .inl (cI, 48, .inl (aZ mp)))] := hD
  refine z_nameL (fun r13 er13 => ?_)
  have hW0 := WN_nn hM u.toNat v (kept - b)
  have hW1 := WN_top hM (show u.toNat ≤ 12 by omega) v (kept - b)
  refine lv_lstore (lv' := [(5, .long (lZ r13)), (0, .ref w), (1, .int (nZ k)), (2, .int (nZ u)), (3, .int (nZ v)), (4, .int (nZ b))]) hx hb dX8_keepingOdds_16 hl (by decide) rfl (fun ls hl => ?_)
  refine lv_iconst (v := nZ 1) hx hb dX8_keepingOdds_18 rfl ?_
  refine lv_istore (lv' := [(7, .int (nZ 1)), (5, .long (lZ r13)), (0, .ref w), (1, .int (nZ k)), (2, .int (nZ u)), (3, .int (nZ v)), (4, .int (nZ b))]) hx hb dX8_keepingOdds_19 hl (by decide) rfl (fun ls hl => ?_)
  refine lv_sipush (v := nZ 256) hx hb dX8_keepingOdds_21 (by decide) ?_
  refine lv_istore (lv' := [(8, .int (nZ 256)), (7, .int (nZ 1)), (5, .long (lZ r13)), (0, .ref w), (1, .int (nZ k)), (2, .int (nZ u)), (3, .int (nZ v)), (4, .int (nZ b))]) hx hb dX8_keepingOdds_24 hl (by decide) rfl (fun ls hl => ?_)
  refine z_loop3 (fun (cha : Int → Int) (gr : Int) (sp : Int) => (1 ≤ gr) ∧ (gr ≤ kept) ∧ (gr = 1 ∨ (KP cs mp u k v kept b) gr = true) ∧ (sp = 256 ∨ sp = 128 ∨ sp = 64 ∨ sp = 32 ∨ sp = 16 ∨ sp = 8 ∨ sp = 4 ∨ sp = 2 ∨ sp = 1 ∨ sp = 0) ∧ (∀ t, gr + (if sp = 0 then 1 else 2 * sp) ≤ t → t ≤ kept → ¬ (KP cs mp u k v kept b) t = true) ∧ (MemoOK cs mp cha)) (fun (cha : Int → Int) (gr : Int) (sp : Int) => (sp).toNat) (fun (cha : Int → Int) (gr : Int) (sp : Int) => [(w, .inr (8, [.ref g, .ref h, .ref f, .ref kq, .int (nZ rule), .int (nZ taken), .int (nZ lost), .int (nZ kept)])), (h, .inr (0, [.ref q1, .ref q2, .ref q3])), (q3, .inl (cJ, 28080, .inr (.inl (bZ cha)))), (q1, .inr (3, [.ref p1, .ref p2])), (p1, .inl (cI, 4, .inl (aZ cs))), (p2, .inl (cI, 48, .inl (aZ mp)))]) (fun (cha : Int → Int) (gr : Int) (sp : Int) => [(0, .ref w), (1, .int (nZ k)), (2, .int (nZ u)), (3, .int (nZ v)), (4, .int (nZ b)), (5, .long (lZ r13)), (7, .int (nZ gr)), (8, .int (nZ sp))]) ?_ ch2_13 1 256 ⟨(by first | assumption | omega), (by first | assumption | omega), (Or.inl rfl), (by first | assumption | omega), (fun t a c => by rw [if_neg (by decide)] at a; omega), hw13⟩ (hP.sub [0, 1, 2, 3, 4, 5] rfl) (hD.sub [0, 1, 2, 3, 4, 5] (by decide) rfl) hS (lv_sub hl [3, 4, 5, 6, 7, 2, 1, 0] rfl)
  intro cha gr sp hI26 ih26 H locs ls hP hD hS hl
  have hP : va_P D vwCl [(w, .inr (8, [.ref g, .ref h, .ref f, .ref kq, .int (nZ rule), .int (nZ taken), .int (nZ lost), .int (nZ kept)])), (h, .inr (0, [.ref q1, .ref q2, .ref q3])), (q3, .inl (cJ, 28080, .inr (.inl (bZ cha)))), (q1, .inr (3, [.ref p1, .ref p2])), (p1, .inl (cI, 4, .inl (aZ cs))), (p2, .inl (cI, 48, .inl (aZ mp)))] H := hP
  have hD : va_D A [(w, .inr (8, [.ref g, .ref h, .ref f, .ref kq, .int (nZ rule), .int (nZ taken), .int (nZ lost), .int (nZ kept)])), (h, .inr (0, [.ref q1, .ref q2, .ref q3])), (q3, .inl (cJ, 28080, .inr (.inl (bZ cha)))), (q1, .inr (3, [.ref p1, .ref p2])), (p1, .inl (cI, 4, .inl (aZ cs))), (p2, .inl (cI, 48, .inl (aZ mp)))] := hD
  have hl : lv_has ls 10 [(0, .ref w), (1, .int (nZ k)), (2, .int (nZ u)), (3, .int (nZ v)), (4, .int (nZ b)), (5, .long (lZ r13)), (7, .int (nZ gr)), (8, .int (nZ sp))] := hl
  obtain ⟨hg1, hgk, hgp, hsp, hbnd, hme⟩ : (1 ≤ gr) ∧ (gr ≤ kept) ∧ (gr = 1 ∨ (KP cs mp u k v kept b) gr = true) ∧ (sp = 256 ∨ sp = 128 ∨ sp = 64 ∨ sp = 32 ∨ sp = 16 ∨ sp = 8 ∨ sp = 4 ∨ sp = 2 ∨ sp = 1 ∨ sp = 0) ∧ (∀ t, gr + (if sp = 0 then 1 else 2 * sp) ≤ t → t ≤ kept → ¬ (KP cs mp u k v kept b) t = true) ∧ (MemoOK cs mp cha) := hI26
  refine lv_iload hx hb dX8_keepingOdds_26 (lv_at hl 7 rfl) ?_
  refine z_if_le (tgt := 87) hx hb dX8_keepingOdds_28 (by decide) (by omega) (fun c_28 => ?_) (fun c_28 => ?_)
  · refine lv_iload hx hb dX8_keepingOdds_87 (lv_at hl 6 rfl) ?_
    have hP9 := hP.sub (ws' := [(w, .inr (8, [.ref g, .ref h, .ref f, .ref kq, .int (nZ rule), .int (nZ taken), .int (nZ lost), .int (nZ kept)])), (h, .inr (0, [.ref q1, .ref q2, .ref q3])), (q3, .inl (cJ, 28080, .inr (.inl (bZ cha)))), (q1, .inr (3, [.ref p1, .ref p2])), (p1, .inl (cI, 4, .inl (aZ cs))), (p2, .inl (cI, 48, .inl (aZ mp)))]) [0, 1, 2, 3, 4, 5] rfl
    have hD9 := hD.sub (ws' := [(w, .inr (8, [.ref g, .ref h, .ref f, .ref kq, .int (nZ rule), .int (nZ taken), .int (nZ lost), .int (nZ kept)])), (h, .inr (0, [.ref q1, .ref q2, .ref q3])), (q3, .inl (cJ, 28080, .inr (.inl (bZ cha)))), (q1, .inr (3, [.ref p1, .ref p2])), (p1, .inl (cI, 4, .inl (aZ cs))), (p2, .inl (cI, 48, .inl (aZ mp)))]) [0, 1, 2, 3, 4, 5] (by decide) rfl
    exact W.iret (v := nZ gr) hx hb hr (fun t9 ht9 _ => ⟨⟨nZ gr, (cha), rfl, ⟨congrArg nZ (show (gr : Int) = KO cs mp u k v kept b from (by unfold KO; exact (kdN_eq _ kept.toNat (by omega) hg1 (by omega) hgp (fun t a c => hbnd t (by rw [if_pos (by omega)]; omega) (by omega))).symm)), hme⟩, ⟨by rw [ht9]; exact hP9, hD9⟩⟩, hS.F ht9⟩) hS.2.2 dX8_keepingOdds_89
  · refine lv_iload hx hb dX8_keepingOdds_31 (lv_at hl 6 rfl) ?_
    refine lv_iload hx hb dX8_keepingOdds_33 (lv_at hl 7 rfl) ?_
    refine z_iadd hx hb dX8_keepingOdds_35 ?_
    refine lv_istore (lv' := [(9, .int (nZ (gr + sp))), (0, .ref w), (1, .int (nZ k)), (2, .int (nZ u)), (3, .int (nZ v)), (4, .int (nZ b)), (5, .long (lZ r13)), (7, .int (nZ gr)), (8, .int (nZ sp))]) hx hb dX8_keepingOdds_36 hl (by decide) rfl (fun ls hl => ?_)
    refine lv_iload hx hb dX8_keepingOdds_38 (lv_at hl 0 rfl) ?_
    refine lv_aload_n hx hb dX8_keepingOdds_40 rfl (lv_at hl 1 rfl) ?_
    refine va_get (D := D) (ci := 8) (v := .int (nZ kept)) (C := RX8) (T := TX8) (N := 8) hx hb hts iX8 hown hK hP 0 rfl rfl 7 (by decide) (hts (.fieldLink RX8 81 "RainTarget$Umpire" "kept" "I") (List.mem_of_getElem? (i := 2) rfl)) (fun _ h9 => h9) rfl dX8_keepingOdds_41 ?_
    refine z_icmp_gt (tgt := 78) hx hb dX8_keepingOdds_44 (by decide) (by omega) (by omega) (fun c_44 => ?_) (fun c_44 => ?_)
    · refine lv_iload hx hb dX8_keepingOdds_78 (lv_at hl 8 rfl) ?_
      refine lv_iconst (v := nZ 2) hx hb dX8_keepingOdds_80 rfl ?_
      refine z_idiv hx hb dX8_keepingOdds_81 (by omega) (by omega) (by decide) ?_
      refine z_topi (tdivN (by omega)) ?_
      refine lv_istore (lv' := [(8, .int (nZ (sp / 2))), (9, .int (nZ (gr + sp))), (0, .ref w), (1, .int (nZ k)), (2, .int (nZ u)), (3, .int (nZ v)), (4, .int (nZ b)), (5, .long (lZ r13)), (7, .int (nZ gr))]) hx hb dX8_keepingOdds_82 hl (by decide) rfl (fun ls hl => ?_)
      refine lv_goto (tgt := 26) hx hb dX8_keepingOdds_84 (by decide) ?_
      exact ih26 cha gr (sp / 2) ⟨(by first | assumption | omega), (by first | assumption | omega), hgp, (by first | assumption | omega), (fun t a c => absurd c (by split at a <;> omega)), hme⟩ (show ((sp / 2)).toNat < (sp).toNat from by omega) _ _ ls (hP.sub [0, 1, 2, 3, 4, 5] rfl) (hD.sub [0, 1, 2, 3, 4, 5] (by decide) rfl) hS (lv_sub hl [2, 3, 4, 5, 6, 7, 8, 0] rfl)
    · refine lv_aload_n hx hb dX8_keepingOdds_47 rfl (lv_at hl 1 rfl) ?_
      refine va_get (D := D) (ci := 8) (v := .ref h) (C := RX8) (T := TX8) (N := 8) hx hb hts iX8 hown hK hP 0 rfl rfl 1 (by decide) (hts (.fieldLink RX8 19 "RainTarget$Umpire" "batting" "LRainTarget$Batting;") (List.mem_of_getElem? (i := 1) rfl)) (fun _ h9 => h9) rfl dX8_keepingOdds_48 ?_
      refine lv_iload_n hx hb dX8_keepingOdds_51 rfl (lv_at hl 3 rfl) ?_
      refine lv_iload_n hx hb dX8_keepingOdds_52 rfl (lv_at hl 2 rfl) ?_
      refine z_isub hx hb dX8_keepingOdds_53 ?_
      refine z_topi (y := (((u - k).toNat) : Int)) (by omega) ?_
      refine lv_iload_n hx hb dX8_keepingOdds_54 rfl (lv_at hl 4 rfl) ?_
      refine lv_iload hx hb dX8_keepingOdds_55 (lv_at hl 0 rfl) ?_
      refine lv_iload hx hb dX8_keepingOdds_57 (lv_at hl 5 rfl) ?_
      refine z_isub hx hb dX8_keepingOdds_59 ?_
      have hFc := va_free (wc := [(h, .inr (0, [.ref q1, .ref q2, .ref q3])), (q3, .inl (cJ, 28080, .inr (.inl (bZ cha)))), (q1, .inr (3, [.ref p1, .ref p2])), (p1, .inl (cI, 4, .inl (aZ cs))), (p2, .inl (cI, 48, .inl (aZ mp)))]) hD hS hA [1, 2, 3, 4, 5] rfl
      have hPc := hP.sub (ws' := [(h, .inr (0, [.ref q1, .ref q2, .ref q3])), (q3, .inl (cJ, 28080, .inr (.inl (bZ cha)))), (q1, .inr (3, [.ref p1, .ref p2])), (p1, .inl (cI, 4, .inl (aZ cs))), (p2, .inl (cI, 48, .inl (aZ mp)))]) [1, 2, 3, 4, 5] rfl
      have hDc := hD.sub (ws' := [(h, .inr (0, [.ref q1, .ref q2, .ref q3])), (q3, .inl (cJ, 28080, .inr (.inl (bZ cha)))), (q1, .inr (3, [.ref p1, .ref p2])), (p1, .inl (cI, 4, .inl (aZ cs))), (p2, .inl (cI, 48, .inl (aZ mp)))]) [1, 2, 3, 4, 5] (by decide) rfl
      refine va_calll (va_runVN (As := [.int (nZ (((u - k).toNat) : Int)), .int (nZ v), .int (nZ ((gr + sp) - b))]) (rest := []) ⟨hx, hb, hml, hown, hts⟩ (c_X0_chance l D cI cJ tn H.size h q1 q2 q3 p1 p2 cs mp ((u - k).toNat) cha v ((gr + sp) - b) hM (by first | assumption | omega) hme hv1 hv2 (by first | assumption | omega) (by first | assumption | omega) ) ⟨va_cnB 3 hts gX8_keepingOdds_X0_chance_n123 rfl rfl rfl (nw_X8_123 hN) (hts (.initialized RX0) (List.mem_of_getElem? (i := 4) rfl)) (by decide +kernel) ⟨by show 2 * ((u - k).toNat) + 3 + 1 ≤ 28; omega, by show 8 + (8 + 11) + (60 * ((u - k).toNat) + 100) ≤ 847; omega⟩, (hts (.instanceMethod yX0_chance) (List.mem_of_getElem? (i := 3) rfl)), (hts (.selects RX0 yX0_chance yX0_chance) (List.mem_of_getElem? (i := 5) rfl))⟩ ⟨WrP.blind, va_recv hK hP (ci := 0) (q0 := 1) rfl rfl, fun U hU hW => ⟨rfl, WrP.call hE hS hPc hDc hFc hU hW⟩⟩ rfl rfl hl.1 rfl (lv_room (Nat.le_of_ble_eq_true rfl)) dX8_keepingOdds_60 ⟨Nat.le_of_ble_eq_true rfl, Nat.le_of_ble_eq_true rfl⟩) hS (fun q _ h => hFc q h) hFc (fun r60 u9 t9 H1 locs ht9 hvm hv60 hB9 hz9 hk9 hS => ?_)
      obtain ⟨ch2_60, rfl⟩ : ∃ z, z = u9 := ⟨_, rfl⟩
      obtain ⟨hP8, hD8⟩ := hB9
      rw [ht9] at hP8
      obtain ⟨hq60, hw60⟩ : r60 = lZ (WN cs mp ((u - k).toNat) v ((gr + sp) - b)) ∧ MemoOK cs mp ch2_60 := hv60
      subst hq60
      obtain ⟨hP, hD⟩ := va_join (wr := [(w, .inr (8, [.ref g, .ref h, .ref f, .ref kq, .int (nZ rule), .int (nZ taken), .int (nZ lost), .int (nZ kept)]))]) (w1 := [(h, .inr (0, [.ref q1, .ref q2, .ref q3])), (q3, .inl (cJ, 28080, .inr (.inl (bZ ch2_60)))), (q1, .inr (3, [.ref p1, .ref p2])), (p1, .inl (cI, 4, .inl (aZ cs))), (p2, .inl (cI, 48, .inl (aZ mp)))]) hP hD [1, 2, 3, 4, 5] [0] rfl rfl (by decide) (by decide) hk9 hFc hP8 hD8
      generalize H1 = H at hP hS ⊢
      have hP : va_P D vwCl [(w, .inr (8, [.ref g, .ref h, .ref f, .ref kq, .int (nZ rule), .int (nZ taken), .int (nZ lost), .int (nZ kept)])), (h, .inr (0, [.ref q1, .ref q2, .ref q3])), (q3, .inl (cJ, 28080, .inr (.inl (bZ ch2_60)))), (q1, .inr (3, [.ref p1, .ref p2])), (p1, .inl (cI, 4, .inl (aZ cs))), (p2, .inl (cI, 48, .inl (aZ mp)))] H := hP
      have hD : va_D A [(w, .inr (8, [.ref g, .ref h, .ref f, .ref kq, .int (nZ rule), .int (nZ taken), .int (nZ lost), .int (nZ kept)])), (h, .inr (0, [.ref q1, .ref q2, .ref q3])), (q3, .inl (cJ, 28080, .inr (.inl (bZ ch2_60)))), (q1, .inr (3, [.ref p1, .ref p2])), (p1, .inl (cI, 4, .inl (aZ cs))), (p2, .inl (cI, 48, .inl (aZ mp)))] := hD
      refine z_nameL (fun r60 er60 => ?_)
      refine lv_iload_n hx hb dX8_keepingOdds_63 rfl (lv_at hl 2 rfl) ?_
      refine vp_callSl ((va_runSN (As := [.int (nZ k)]) (rest := [.long (lZ r60)]) ⟨hx, hb, hml, hown, hts⟩ (c_X9_power l D cI cJ tn k (by omega) ) ⟨va_cnB 1 hts gX8_keepingOdds_X9_power_n127 rfl rfl rfl (nw_X8_127 hN) (hts (.initialized RX9) (List.mem_of_getElem? (i := 13) rfl)) (by decide +kernel) ⟨Nat.le_of_ble_eq_true rfl, Nat.le_of_ble_eq_true rfl⟩, (hts (.static yX9_power) (List.mem_of_getElem? (i := 12) rfl)), trivial⟩ ⟨RoP.blind, fun U hU hW => ⟨rfl, RoP.call hE hS (hP.sub (ws' := []) [] rfl) hU hW⟩⟩ rfl rfl hl.1 rfl (lv_room (Nat.le_of_ble_eq_true rfl)) dX8_keepingOdds_64 ⟨Nat.le_of_ble_eq_true rfl, Nat.le_of_ble_eq_true rfl⟩).run) (fun r64 hr64 => ?_)
      subst hr64
      refine z_nameL (fun r64 er64 => ?_)
      have e64 : r64 = (10 : Int) ^ k.toNat := by rw [er64, if_pos (by omega)]
      have hN0 := WN_nn hM (u - k).toNat v (gr + sp - b)
      have hN1 := WN_le hM (u - k).toNat v (gr + sp - b)
      have hp0 := p10_pos (u - k).toNat
      have hpr0 : 0 ≤ r60 * r64 := by rw [er60, e64]; exact mul_nn hN0 (Int.le_of_lt (p10_pos _))
      have hpr1 : r60 * r64 ≤ 1000000000000 := by
        rw [er60, e64]
        have h1 := Int.mul_le_mul_of_nonneg_right hN1 (Int.le_of_lt (p10_pos k.toNat))
        rw [← Int.pow_add] at h1
        exact Int.le_trans h1 (p10_12 (by omega))
      have hKP : (KP cs mp u k v kept b) (gr + sp) = true ↔ r13 ≤ r60 * r64 := by
        unfold KP; rw [decide_eq_true_iff, er13, er60, e64]
      refine z_lmul hx hb dX8_keepingOdds_67 ?_
      refine lv_lload hx hb dX8_keepingOdds_68 (lv_at hl 6 rfl) ?_
      refine z_lcmp_lt (tgt := 78) hx hb dX8_keepingOdds_70 dX8_keepingOdds_71 (by decide) (by omega) (by omega) (fun c_70 => ?_) (fun c_70 => ?_)
      · refine lv_iload hx hb dX8_keepingOdds_78 (lv_at hl 8 rfl) ?_
        refine lv_iconst (v := nZ 2) hx hb dX8_keepingOdds_80 rfl ?_
        refine z_idiv hx hb dX8_keepingOdds_81 (by omega) (by omega) (by decide) ?_
        refine z_topi (tdivN (by omega)) ?_
        refine lv_istore (lv' := [(8, .int (nZ (sp / 2))), (9, .int (nZ (gr + sp))), (0, .ref w), (1, .int (nZ k)), (2, .int (nZ u)), (3, .int (nZ v)), (4, .int (nZ b)), (5, .long (lZ r13)), (7, .int (nZ gr))]) hx hb dX8_keepingOdds_82 hl (by decide) rfl (fun ls hl => ?_)
        refine lv_goto (tgt := 26) hx hb dX8_keepingOdds_84 (by decide) ?_
        exact ih26 ch2_60 gr (sp / 2) ⟨(by first | assumption | omega), (by first | assumption | omega), hgp, (by first | assumption | omega), (fun t a c q => absurd (hKP.mp (KP_anti hM (show gr + sp ≤ t by split at a <;> omega) q)) (by omega)), hw60⟩ (show ((sp / 2)).toNat < (sp).toNat from by omega) _ _ ls (hP.sub [0, 1, 2, 3, 4, 5] rfl) (hD.sub [0, 1, 2, 3, 4, 5] (by decide) rfl) hS (lv_sub hl [2, 3, 4, 5, 6, 7, 8, 0] rfl)
      · refine lv_iload hx hb dX8_keepingOdds_74 (lv_at hl 0 rfl) ?_
        refine lv_istore (lv' := [(7, .int (nZ (gr + sp))), (9, .int (nZ (gr + sp))), (0, .ref w), (1, .int (nZ k)), (2, .int (nZ u)), (3, .int (nZ v)), (4, .int (nZ b)), (5, .long (lZ r13)), (8, .int (nZ sp))]) hx hb dX8_keepingOdds_76 hl (by decide) rfl (fun ls hl => ?_)
        refine lv_iload hx hb dX8_keepingOdds_78 (lv_at hl 8 rfl) ?_
        refine lv_iconst (v := nZ 2) hx hb dX8_keepingOdds_80 rfl ?_
        refine z_idiv hx hb dX8_keepingOdds_81 (by omega) (by omega) (by decide) ?_
        refine z_topi (tdivN (by omega)) ?_
        refine lv_istore (lv' := [(8, .int (nZ (sp / 2))), (7, .int (nZ (gr + sp))), (9, .int (nZ (gr + sp))), (0, .ref w), (1, .int (nZ k)), (2, .int (nZ u)), (3, .int (nZ v)), (4, .int (nZ b)), (5, .long (lZ r13))]) hx hb dX8_keepingOdds_82 hl (by decide) rfl (fun ls hl => ?_)
        refine lv_goto (tgt := 26) hx hb dX8_keepingOdds_84 (by decide) ?_
        exact ih26 ch2_60 (gr + sp) (sp / 2) ⟨(by first | assumption | omega), (by first | assumption | omega), (Or.inr (hKP.mpr (by omega))), (by first | assumption | omega), (fun t a c => hbnd t (by rw [if_neg (by omega)]; split at a <;> omega) c), hw60⟩ (show ((sp / 2)).toNat < (sp).toNat from by omega) _ _ ls (hP.sub [0, 1, 2, 3, 4, 5] rfl) (hD.sub [0, 1, 2, 3, 4, 5] (by decide) rfl) hS (lv_sub hl [3, 4, 5, 6, 7, 8, 1, 0] rfl)

def hL (cs mp : Int → Int) (so sm sp sb tot rule lost k u v : Int) : Int := if rule = 2 then lost + (SP cs mp so sm u v - SP cs mp so sm (u - k) v) else if rule = 3 then lost + (BS cs mp so sm sp sb tot u v - BS cs mp so sm sp sb tot (u - k) v) else lost
def hKp (cs mp : Int → Int) (rule kept k u v b : Int) : Int := if rule = 4 then KO cs mp u k v kept b else kept
def TG (fo : Int → Int) (so sl tot rule taken lost kept : Int) : Int := if rule = 0 then al1 (Int.tdiv (tot * (so - taken)) so + 1) else if rule = 1 then al1 (woN fo taken so so.toNat + 1) else if rule = 2 ∨ rule = 3 then al1 (Int.tdiv (tot * (1000 - lost)) 1000 + 1) else if rule = 5 then al1 (tot + 1 - sl * taken) else kept
theorem hL_bd {cs mp : Int → Int} (hM : MoodOK cs mp) {so sm sp sb tot rule lost k u v : Int} (hb : 1 ≤ sb) (ho : 1 ≤ so) (hk : 0 ≤ k) (hku : k ≤ u) (hu : u ≤ so) (hv : v ≤ sm) : lost - 1000 ≤ hL cs mp so sm sp sb tot rule lost k u v ∧ hL cs mp so sm sp sb tot rule lost k u v ≤ lost + 1000 := by
  have a := SP_bd hM (ov := so) (mn := sm) (u := u) (by omega) hu hv
  have b := SP_bd hM (ov := so) (mn := sm) (u := u - k) (by omega) (by omega) hv
  have d := BS_bd hM (ov := so) (mn := sm) (pr := sp) (tot := tot) (u := u) hb (by omega) hu ho hv
  have f := BS_bd hM (ov := so) (mn := sm) (pr := sp) (tot := tot) (u := u - k) hb (by omega) (by omega) ho hv
  unfold hL; split
  · omega
  · split <;> omega
theorem hKp_bd (cs mp : Int → Int) (rule : Int) {kept : Int} (k u v b : Int) (h1 : 1 ≤ kept) : 1 ≤ hKp cs mp rule kept k u v b ∧ hKp cs mp rule kept k u v b ≤ kept := by
  unfold hKp; split
  · have := kdN_bd (KP cs mp u k v kept b) kept.toNat
    have h2 := this.2 (by omega)
    unfold KO; omega
  · omega
set_option maxHeartbeats 4000000 in
set_option maxRecDepth 100000 in
theorem c_X8_hear (l : Launch) (D : va_G) (cI cJ : ClassId) (tn : Nat) (sz : Nat) (w : Nat) (g : Nat) (h : Nat) (f : Nat) (kq : Nat) (q1 : Nat) (q2 : Nat) (q3 : Nat) (p1 : Nat) (p2 : Nat) (fq : Nat) (me : Int → Int) (ch : Int → Int) (cs : Int → Int) (mp : Int → Int) (so : Int) (sm : Int) (sp : Int) (sb : Int) (sc : Int) (sd : Int) (sl : Int) (rule : Int) (taken : Int) (lost : Int) (kept : Int) (told : Int) (tot : Int) (k : Int) (u : Int) (v : Int) (b : Int) (hM : MoodOK cs mp) (hMe : MeanOK cs mp me) (hmemo : MemoOK cs mp ch) (ho1 : 1 ≤ so) (ho : so ≤ 12) (hm : sm ≤ 10) (hp0 : 0 ≤ sp) (hp1 : sp ≤ 400) (hb0 : 1 ≤ sb) (hb1 : sb ≤ 300) (ht0 : 0 ≤ tot) (ht1 : tot ≤ 1000) (rr : I32 rule) (hk0 : 0 ≤ k) (hku : k ≤ u) (hu1 : u ≤ so) (hv0 : 0 ≤ v) (hv1 : v ≤ sm) (hkp1 : 1 ≤ kept) (hkp2 : kept ≤ 500) (hbb0 : 0 ≤ b) (hbb1 : b ≤ 500)  : Met l yX8_hear wsX8_hear ({ frames := 29, cells := 0, slots := 0, locals := 876 } : Room) (va_Pc [.ref w, .int (nZ k), .int (nZ u), .int (nZ v), .int (nZ b)] (WrP D cI cJ tn [(w, .inr (8, [.ref g, .ref h, .ref f, .ref kq, .int (nZ rule), .int (nZ taken), .int (nZ lost), .int (nZ kept)])), (g, .inr (6, [.int (nZ so), .int (nZ sm), .int (nZ sp), .int (nZ sb), .int (nZ sc), .int (nZ sd), .int (nZ sl)])), (h, .inr (0, [.ref q1, .ref q2, .ref q3])), (q2, .inl (cJ, 143, .inr (.inl (bZ me)))), (q3, .inl (cJ, 28080, .inr (.inl (bZ ch)))), (q1, .inr (3, [.ref p1, .ref p2])), (p1, .inl (cI, 4, .inl (aZ cs))), (p2, .inl (cI, 48, .inl (aZ mp))), (f, .inr (1, [.ref fq, .int (nZ told), .int (nZ tot)]))] sz)) (va_Qv (fun u9 : (Int → Int) => MemoOK cs mp u9) (fun u9 t9 => WrQ D (va_A [(w, .inr (8, [.ref g, .ref h, .ref f, .ref kq, .int (nZ rule), .int (nZ taken), .int (nZ lost), .int (nZ kept)])), (g, .inr (6, [.int (nZ so), .int (nZ sm), .int (nZ sp), .int (nZ sb), .int (nZ sc), .int (nZ sd), .int (nZ sl)])), (h, .inr (0, [.ref q1, .ref q2, .ref q3])), (q2, .inl (cJ, 143, .inr (.inl (bZ me)))), (q3, .inl (cJ, 28080, .inr (.inl (bZ ch)))), (q1, .inr (3, [.ref p1, .ref p2])), (p1, .inl (cI, 4, .inl (aZ cs))), (p2, .inl (cI, 48, .inl (aZ mp))), (f, .inr (1, [.ref fq, .int (nZ told), .int (nZ tot)]))] sz) [(w, .inr (8, [.ref g, .ref h, .ref f, .ref kq, .int (nZ rule), .int (nZ (taken + k)), .int (nZ (hL cs mp so sm sp sb tot rule lost k u v)), .int (nZ (hKp cs mp rule kept k u v b))])), (g, .inr (6, [.int (nZ so), .int (nZ sm), .int (nZ sp), .int (nZ sb), .int (nZ sc), .int (nZ sd), .int (nZ sl)])), (h, .inr (0, [.ref q1, .ref q2, .ref q3])), (q2, .inl (cJ, 143, .inr (.inl (bZ me)))), (q3, .inl (cJ, 28080, .inr (.inl (bZ u9)))), (q1, .inr (3, [.ref p1, .ref p2])), (p1, .inl (cI, 4, .inl (aZ cs))), (p2, .inl (cI, 48, .inl (aZ mp))), (f, .inr (1, [.ref fq, .int (nZ told), .int (nZ tot)]))] t9) (va_A [(w, .inr (8, [.ref g, .ref h, .ref f, .ref kq, .int (nZ rule), .int (nZ taken), .int (nZ lost), .int (nZ kept)])), (g, .inr (6, [.int (nZ so), .int (nZ sm), .int (nZ sp), .int (nZ sb), .int (nZ sc), .int (nZ sd), .int (nZ sl)])), (h, .inr (0, [.ref q1, .ref q2, .ref q3])), (q2, .inl (cJ, 143, .inr (.inl (bZ me)))), (q3, .inl (cJ, 28080, .inr (.inl (bZ ch)))), (q1, .inr (3, [.ref p1, .ref p2])), (p1, .inl (cI, 4, .inl (aZ cs))), (p2, .inl (cI, 48, .inl (aZ mp))), (f, .inr (1, [.ref fq, .int (nZ told), .int (nZ tot)]))] sz)) 0 0 (va_A [(w, .inr (8, [.ref g, .ref h, .ref f, .ref kq, .int (nZ rule), .int (nZ taken), .int (nZ lost), .int (nZ kept)])), (g, .inr (6, [.int (nZ so), .int (nZ sm), .int (nZ sp), .int (nZ sb), .int (nZ sc), .int (nZ sd), .int (nZ sl)])), (h, .inr (0, [.ref q1, .ref q2, .ref q3])), (q2, .inl (cJ, 143, .inr (.inl (bZ me)))), (q3, .inl (cJ, 28080, .inr (.inl (bZ ch)))), (q1, .inr (3, [.ref p1, .ref p2])), (p1, .inl (cI, 4, .inl (aZ cs))), (p2, .inl (cI, 48, .inl (aZ mp))), (f, .inr (1, [.ref fq, .int (nZ told), .int (nZ tot)]))] sz) := by
  refine Met.ofW (cc := cX8_hear) (maxL := 5) (ret := none) (by decide) rfl ?_
  intro p e s m args below meth c s₁ B hml hv
  obtain ⟨rfl, hsz, hE, hP, hD0⟩ := hv
  have hx := B.exec
  have hb := B.bytes
  have hr := B.returns
  have hts := atoms_spec (ws := wsX8_hear) B.pre
  have hown : s.vm.findClass RX8 = some m.cls := findClass_of_methodNamed B.named
  have hlocks := B.notSynchronized
  subst hsz
  have hD := hD0.self (sz := s.heap.size)
  generalize hAe : va_A [(w, .inr (8, [.ref g, .ref h, .ref f, .ref kq, .int (nZ rule), .int (nZ taken), .int (nZ lost), .int (nZ kept)])), (g, .inr (6, [.int (nZ so), .int (nZ sm), .int (nZ sp), .int (nZ sb), .int (nZ sc), .int (nZ sd), .int (nZ sl)])), (h, .inr (0, [.ref q1, .ref q2, .ref q3])), (q2, .inl (cJ, 143, .inr (.inl (bZ me)))), (q3, .inl (cJ, 28080, .inr (.inl (bZ ch)))), (q1, .inr (3, [.ref p1, .ref p2])), (p1, .inl (cI, 4, .inl (aZ cs))), (p2, .inl (cI, 48, .inl (aZ mp))), (f, .inr (1, [.ref fq, .int (nZ told), .int (nZ tot)]))] s.heap.size = A at hD hE ⊢
  have hA : ∀ q : Nat, s.heap.size ≤ q → A q := fun q h => by rw [← hAe]; exact Or.inr h
  have hS : va_S A s.heap s.heap [] := va_S.rf
  have hK := hE.1
  have hN := hE.2.1
  have hl := lv_entry ([.ref w, .int (nZ k), .int (nZ u), .int (nZ v), .int (nZ b)]) (n := 5) (Nat.le_of_ble_eq_true rfl)
  rw [lg_entry_eq]
  generalize (lg_sl ([.ref w, .int (nZ k), .int (nZ u), .int (nZ v), .int (nZ b)]) ++ List.replicate (5 - (lg_sl ([.ref w, .int (nZ k), .int (nZ u), .int (nZ v), .int (nZ b)])).length) Slot.unset).toArray = ls at hl ⊢
  have hl : lv_has ls 5 [(0, .ref w), (1, .int (nZ k)), (2, .int (nZ u)), (3, .int (nZ v)), (4, .int (nZ b))] := hl
  have iX8 : ∀ w ∈ u_ws RX8 TX8 8, w ∈ wsX8_hear := fun _ h => List.mem_cons_of_mem _ (List.mem_append_left _ (List.mem_append_left _ (List.mem_append_left _ (List.mem_append_left _ (List.mem_append_right _ h)))))
  refine lv_aload_n hx hb dX8_hear_0 rfl (lv_at hl 0 rfl) ?_
  refine lv_dup hx hb dX8_hear_1 rfl ?_
  refine va_get (D := D) (ci := 8) (v := .int (nZ taken)) (C := RX8) (T := TX8) (N := 8) hx hb hts iX8 hown hK hP 0 rfl rfl 5 (by decide) (hts (.fieldLink RX8 70 "RainTarget$Umpire" "taken" "I") (List.mem_of_getElem? (i := 1) rfl)) (fun _ h9 => h9) rfl dX8_hear_2 ?_
  refine lv_iload_n hx hb dX8_hear_5 rfl (lv_at hl 1 rfl) ?_
  refine z_iadd hx hb dX8_hear_6 ?_
  refine va_put (D := D) (ci := 8) (v := .int (nZ (taken + k))) (ty := .int) (C := RX8) (T := TX8) (N := 8) hx hb hts iX8 tyX8 tyX8_ok nmX8 hown hK hP hD hS 0 rfl rfl 5 (by decide) (hts (.fieldLink RX8 70 "RainTarget$Umpire" "taken" "I") (List.mem_of_getElem? (i := 1) rfl)) (fun _ h9 => h9) rfl (by decide +kernel) rfl rfl (Nat.le_of_ble_eq_true rfl) dX8_hear_7 (fun H locs hP hD hS => ?_)
  have hP : va_P D vwCl [(w, .inr (8, [.ref g, .ref h, .ref f, .ref kq, .int (nZ rule), .int (nZ (taken + k)), .int (nZ lost), .int (nZ kept)])), (g, .inr (6, [.int (nZ so), .int (nZ sm), .int (nZ sp), .int (nZ sb), .int (nZ sc), .int (nZ sd), .int (nZ sl)])), (h, .inr (0, [.ref q1, .ref q2, .ref q3])), (q2, .inl (cJ, 143, .inr (.inl (bZ me)))), (q3, .inl (cJ, 28080, .inr (.inl (bZ ch)))), (q1, .inr (3, [.ref p1, .ref p2])), (p1, .inl (cI, 4, .inl (aZ cs))), (p2, .inl (cI, 48, .inl (aZ mp))), (f, .inr (1, [.ref fq, .int (nZ told), .int (nZ tot)]))] H := hP
  have hD : va_D A [(w, .inr (8, [.ref g, .ref h, .ref f, .ref kq, .int (nZ rule), .int (nZ (taken + k)), .int (nZ lost), .int (nZ kept)])), (g, .inr (6, [.int (nZ so), .int (nZ sm), .int (nZ sp), .int (nZ sb), .int (nZ sc), .int (nZ sd), .int (nZ sl)])), (h, .inr (0, [.ref q1, .ref q2, .ref q3])), (q2, .inl (cJ, 143, .inr (.inl (bZ me)))), (q3, .inl (cJ, 28080, .inr (.inl (bZ ch)))), (q1, .inr (3, [.ref p1, .ref p2])), (p1, .inl (cI, 4, .inl (aZ cs))), (p2, .inl (cI, 48, .inl (aZ mp))), (f, .inr (1, [.ref fq, .int (nZ told), .int (nZ tot)]))] := hD
  refine lv_aload_n hx hb dX8_hear_10 rfl (lv_at hl 0 rfl) ?_
  refine va_get (D := D) (ci := 8) (v := .int (nZ rule)) (C := RX8) (T := TX8) (N := 8) hx hb hts iX8 hown hK hP 0 rfl rfl 4 (by decide) (hts (.fieldLink RX8 67 "RainTarget$Umpire" "rule" "I") (List.mem_of_getElem? (i := 2) rfl)) (fun _ h9 => h9) rfl dX8_hear_11 ?_
  refine lv_iconst (v := nZ 2) hx hb dX8_hear_14 rfl ?_
  refine z_icmp_ne (tgt := 59) hx hb dX8_hear_15 (by decide) (by omega) (by decide) (fun c_15 => ?_) (fun c_15 => ?_)
  · refine lv_aload_n hx hb dX8_hear_59 rfl (lv_at hl 0 rfl) ?_
    refine va_get (D := D) (ci := 8) (v := .int (nZ rule)) (C := RX8) (T := TX8) (N := 8) hx hb hts iX8 hown hK hP 0 rfl rfl 4 (by decide) (hts (.fieldLink RX8 67 "RainTarget$Umpire" "rule" "I") (List.mem_of_getElem? (i := 2) rfl)) (fun _ h9 => h9) rfl dX8_hear_60 ?_
    refine lv_iconst (v := nZ 3) hx hb dX8_hear_63 rfl ?_
    refine z_icmp_ne (tgt := 94) hx hb dX8_hear_64 (by decide) (by omega) (by decide) (fun c_64 => ?_) (fun c_64 => ?_)
    · refine lv_aload_n hx hb dX8_hear_94 rfl (lv_at hl 0 rfl) ?_
      refine va_get (D := D) (ci := 8) (v := .int (nZ rule)) (C := RX8) (T := TX8) (N := 8) hx hb hts iX8 hown hK hP 0 rfl rfl 4 (by decide) (hts (.fieldLink RX8 67 "RainTarget$Umpire" "rule" "I") (List.mem_of_getElem? (i := 2) rfl)) (fun _ h9 => h9) rfl dX8_hear_95 ?_
      refine lv_iconst (v := nZ 4) hx hb dX8_hear_98 rfl ?_
      refine z_icmp_ne (tgt := 115) hx hb dX8_hear_99 (by decide) (by omega) (by decide) (fun c_99 => ?_) (fun c_99 => ?_)
      · have eL : lost = hL cs mp so sm sp sb tot rule lost k u v := by unfold hL; rw [if_neg (by omega), if_neg (by omega)]
        have eK : kept = hKp cs mp rule kept k u v b := by unfold hKp; rw [if_neg (by omega)]
        have hP9 := hP.sub (ws' := [(w, .inr (8, [.ref g, .ref h, .ref f, .ref kq, .int (nZ rule), .int (nZ (taken + k)), .int (nZ lost), .int (nZ kept)])), (g, .inr (6, [.int (nZ so), .int (nZ sm), .int (nZ sp), .int (nZ sb), .int (nZ sc), .int (nZ sd), .int (nZ sl)])), (h, .inr (0, [.ref q1, .ref q2, .ref q3])), (q2, .inl (cJ, 143, .inr (.inl (bZ me)))), (q3, .inl (cJ, 28080, .inr (.inl (bZ ch)))), (q1, .inr (3, [.ref p1, .ref p2])), (p1, .inl (cI, 4, .inl (aZ cs))), (p2, .inl (cI, 48, .inl (aZ mp))), (f, .inr (1, [.ref fq, .int (nZ told), .int (nZ tot)]))]) [0, 1, 2, 3, 4, 5, 6, 7, 8] rfl
        have hD9 := hD.sub (ws' := [(w, .inr (8, [.ref g, .ref h, .ref f, .ref kq, .int (nZ rule), .int (nZ (taken + k)), .int (nZ lost), .int (nZ kept)])), (g, .inr (6, [.int (nZ so), .int (nZ sm), .int (nZ sp), .int (nZ sb), .int (nZ sc), .int (nZ sd), .int (nZ sl)])), (h, .inr (0, [.ref q1, .ref q2, .ref q3])), (q2, .inl (cJ, 143, .inr (.inl (bZ me)))), (q3, .inl (cJ, 28080, .inr (.inl (bZ ch)))), (q1, .inr (3, [.ref p1, .ref p2])), (p1, .inl (cI, 4, .inl (aZ cs))), (p2, .inl (cI, 48, .inl (aZ mp))), (f, .inr (1, [.ref fq, .int (nZ told), .int (nZ tot)]))]) [0, 1, 2, 3, 4, 5, 6, 7, 8] (by decide) rfl
        have hq9 : ([(w, .inr (8, [.ref g, .ref h, .ref f, .ref kq, .int (nZ rule), .int (nZ (taken + k)), .int (nZ lost), .int (nZ kept)])), (g, .inr (6, [.int (nZ so), .int (nZ sm), .int (nZ sp), .int (nZ sb), .int (nZ sc), .int (nZ sd), .int (nZ sl)])), (h, .inr (0, [.ref q1, .ref q2, .ref q3])), (q2, .inl (cJ, 143, .inr (.inl (bZ me)))), (q3, .inl (cJ, 28080, .inr (.inl (bZ ch)))), (q1, .inr (3, [.ref p1, .ref p2])), (p1, .inl (cI, 4, .inl (aZ cs))), (p2, .inl (cI, 48, .inl (aZ mp))), (f, .inr (1, [.ref fq, .int (nZ told), .int (nZ tot)]))] : va_W) = [(w, .inr (8, [.ref g, .ref h, .ref f, .ref kq, .int (nZ rule), .int (nZ (taken + k)), .int (nZ (hL cs mp so sm sp sb tot rule lost k u v)), .int (nZ (hKp cs mp rule kept k u v b))])), (g, .inr (6, [.int (nZ so), .int (nZ sm), .int (nZ sp), .int (nZ sb), .int (nZ sc), .int (nZ sd), .int (nZ sl)])), (h, .inr (0, [.ref q1, .ref q2, .ref q3])), (q2, .inl (cJ, 143, .inr (.inl (bZ me)))), (q3, .inl (cJ, 28080, .inr (.inl (bZ ch)))), (q1, .inr (3, [.ref p1, .ref p2])), (p1, .inl (cI, 4, .inl (aZ cs))), (p2, .inl (cI, 48, .inl (aZ mp))), (f, .inr (1, [.ref fq, .int (nZ told), .int (nZ tot)]))] := by rw [← eL, ← eK]
        rw [hq9] at hP9 hD9
        exact W.vret hx hb hr (fun t9 ht9 _ => ⟨⟨(ch), rfl, hmemo, ⟨by rw [ht9]; exact hP9, hD9⟩⟩, hS.F ht9⟩) hS.2.2 dX8_hear_115
      · refine lv_aload_n hx hb dX8_hear_102 rfl (lv_at hl 0 rfl) ?_
        refine lv_aload_n hx hb dX8_hear_103 rfl (lv_at hl 0 rfl) ?_
        refine lv_iload_n hx hb dX8_hear_104 rfl (lv_at hl 1 rfl) ?_
        refine lv_iload_n hx hb dX8_hear_105 rfl (lv_at hl 2 rfl) ?_
        refine lv_iload_n hx hb dX8_hear_106 rfl (lv_at hl 3 rfl) ?_
        refine lv_iload hx hb dX8_hear_107 (lv_at hl 4 rfl) ?_
        have hFc := va_free (wc := [(w, .inr (8, [.ref g, .ref h, .ref f, .ref kq, .int (nZ rule), .int (nZ (taken + k)), .int (nZ lost), .int (nZ kept)])), (h, .inr (0, [.ref q1, .ref q2, .ref q3])), (q3, .inl (cJ, 28080, .inr (.inl (bZ ch)))), (q1, .inr (3, [.ref p1, .ref p2])), (p1, .inl (cI, 4, .inl (aZ cs))), (p2, .inl (cI, 48, .inl (aZ mp)))]) hD hS hA [0, 2, 4, 5, 6, 7] rfl
        have hPc := hP.sub (ws' := [(w, .inr (8, [.ref g, .ref h, .ref f, .ref kq, .int (nZ rule), .int (nZ (taken + k)), .int (nZ lost), .int (nZ kept)])), (h, .inr (0, [.ref q1, .ref q2, .ref q3])), (q3, .inl (cJ, 28080, .inr (.inl (bZ ch)))), (q1, .inr (3, [.ref p1, .ref p2])), (p1, .inl (cI, 4, .inl (aZ cs))), (p2, .inl (cI, 48, .inl (aZ mp)))]) [0, 2, 4, 5, 6, 7] rfl
        have hDc := hD.sub (ws' := [(w, .inr (8, [.ref g, .ref h, .ref f, .ref kq, .int (nZ rule), .int (nZ (taken + k)), .int (nZ lost), .int (nZ kept)])), (h, .inr (0, [.ref q1, .ref q2, .ref q3])), (q3, .inl (cJ, 28080, .inr (.inl (bZ ch)))), (q1, .inr (3, [.ref p1, .ref p2])), (p1, .inl (cI, 4, .inl (aZ cs))), (p2, .inl (cI, 48, .inl (aZ mp)))]) [0, 2, 4, 5, 6, 7] (by decide) rfl
        refine va_calli (va_runV (As := [.int (nZ k), .int (nZ u), .int (nZ v), .int (nZ b)]) (rest := [.ref w]) ⟨hx, hb, hml, hown, hts⟩ (c_X8_keepingOdds l D cI cJ tn H.size w g h f kq q1 q2 q3 p1 p2 cs mp ch rule (taken + k) lost kept k u v b hM hmemo hk0 hku (by first | assumption | omega) (by first | assumption | omega) (by first | assumption | omega) hkp1 hkp2 hbb0 hbb1 ) (cwV 4 hts gX8_hear_X8_keepingOdds rfl rfl rfl (by decide +kernel) ⟨Nat.le_of_ble_eq_true rfl, Nat.le_of_ble_eq_true rfl⟩) ⟨WrP.blind, va_recv hK hP (ci := 8) (q0 := 0) rfl rfl, fun U hU hW => ⟨rfl, WrP.call hE hS hPc hDc hFc hU hW⟩⟩ rfl rfl hl.1 rfl (lv_room (Nat.le_of_ble_eq_true rfl)) dX8_hear_109 ⟨Nat.le_of_ble_eq_true rfl, Nat.le_of_ble_eq_true rfl⟩) hS (fun q _ h => hFc q h) hFc (fun r109 u9 t9 H1 locs ht9 hvm hv109 hB9 hz9 hk9 hS => ?_)
        obtain ⟨ch2_109, rfl⟩ : ∃ z, z = u9 := ⟨_, rfl⟩
        obtain ⟨hP8, hD8⟩ := hB9
        rw [ht9] at hP8
        obtain ⟨hq109, hw109⟩ : r109 = nZ (KO cs mp u k v kept b) ∧ MemoOK cs mp ch2_109 := hv109
        subst hq109
        obtain ⟨hP, hD⟩ := va_join (wr := [(g, .inr (6, [.int (nZ so), .int (nZ sm), .int (nZ sp), .int (nZ sb), .int (nZ sc), .int (nZ sd), .int (nZ sl)])), (q2, .inl (cJ, 143, .inr (.inl (bZ me)))), (f, .inr (1, [.ref fq, .int (nZ told), .int (nZ tot)]))]) (w1 := [(w, .inr (8, [.ref g, .ref h, .ref f, .ref kq, .int (nZ rule), .int (nZ (taken + k)), .int (nZ lost), .int (nZ kept)])), (h, .inr (0, [.ref q1, .ref q2, .ref q3])), (q3, .inl (cJ, 28080, .inr (.inl (bZ ch2_109)))), (q1, .inr (3, [.ref p1, .ref p2])), (p1, .inl (cI, 4, .inl (aZ cs))), (p2, .inl (cI, 48, .inl (aZ mp)))]) hP hD [0, 2, 4, 5, 6, 7] [1, 3, 8] rfl rfl (by decide) (by decide) hk9 hFc hP8 hD8
        generalize H1 = H at hP hS ⊢
        have hP : va_P D vwCl [(g, .inr (6, [.int (nZ so), .int (nZ sm), .int (nZ sp), .int (nZ sb), .int (nZ sc), .int (nZ sd), .int (nZ sl)])), (q2, .inl (cJ, 143, .inr (.inl (bZ me)))), (f, .inr (1, [.ref fq, .int (nZ told), .int (nZ tot)])), (w, .inr (8, [.ref g, .ref h, .ref f, .ref kq, .int (nZ rule), .int (nZ (taken + k)), .int (nZ lost), .int (nZ kept)])), (h, .inr (0, [.ref q1, .ref q2, .ref q3])), (q3, .inl (cJ, 28080, .inr (.inl (bZ ch2_109)))), (q1, .inr (3, [.ref p1, .ref p2])), (p1, .inl (cI, 4, .inl (aZ cs))), (p2, .inl (cI, 48, .inl (aZ mp)))] H := hP
        have hD : va_D A [(g, .inr (6, [.int (nZ so), .int (nZ sm), .int (nZ sp), .int (nZ sb), .int (nZ sc), .int (nZ sd), .int (nZ sl)])), (q2, .inl (cJ, 143, .inr (.inl (bZ me)))), (f, .inr (1, [.ref fq, .int (nZ told), .int (nZ tot)])), (w, .inr (8, [.ref g, .ref h, .ref f, .ref kq, .int (nZ rule), .int (nZ (taken + k)), .int (nZ lost), .int (nZ kept)])), (h, .inr (0, [.ref q1, .ref q2, .ref q3])), (q3, .inl (cJ, 28080, .inr (.inl (bZ ch2_109)))), (q1, .inr (3, [.ref p1, .ref p2])), (p1, .inl (cI, 4, .inl (aZ cs))), (p2, .inl (cI, 48, .inl (aZ mp)))] := hD
        refine z_nameI (fun r109 er109 => ?_)
        refine va_put (D := D) (ci := 8) (v := .int (nZ r109)) (ty := .int) (C := RX8) (T := TX8) (N := 8) hx hb hts iX8 tyX8 tyX8_ok nmX8 hown hK hP hD hS 3 rfl rfl 7 (by decide) (hts (.fieldLink RX8 81 "RainTarget$Umpire" "kept" "I") (List.mem_of_getElem? (i := 6) rfl)) (fun _ h9 => h9) rfl (by decide +kernel) rfl rfl (Nat.le_of_ble_eq_true rfl) dX8_hear_112 (fun H locs hP hD hS => ?_)
        have hP : va_P D vwCl [(g, .inr (6, [.int (nZ so), .int (nZ sm), .int (nZ sp), .int (nZ sb), .int (nZ sc), .int (nZ sd), .int (nZ sl)])), (q2, .inl (cJ, 143, .inr (.inl (bZ me)))), (f, .inr (1, [.ref fq, .int (nZ told), .int (nZ tot)])), (w, .inr (8, [.ref g, .ref h, .ref f, .ref kq, .int (nZ rule), .int (nZ (taken + k)), .int (nZ lost), .int (nZ r109)])), (h, .inr (0, [.ref q1, .ref q2, .ref q3])), (q3, .inl (cJ, 28080, .inr (.inl (bZ ch2_109)))), (q1, .inr (3, [.ref p1, .ref p2])), (p1, .inl (cI, 4, .inl (aZ cs))), (p2, .inl (cI, 48, .inl (aZ mp)))] H := hP
        have hD : va_D A [(g, .inr (6, [.int (nZ so), .int (nZ sm), .int (nZ sp), .int (nZ sb), .int (nZ sc), .int (nZ sd), .int (nZ sl)])), (q2, .inl (cJ, 143, .inr (.inl (bZ me)))), (f, .inr (1, [.ref fq, .int (nZ told), .int (nZ tot)])), (w, .inr (8, [.ref g, .ref h, .ref f, .ref kq, .int (nZ rule), .int (nZ (taken + k)), .int (nZ lost), .int (nZ r109)])), (h, .inr (0, [.ref q1, .ref q2, .ref q3])), (q3, .inl (cJ, 28080, .inr (.inl (bZ ch2_109)))), (q1, .inr (3, [.ref p1, .ref p2])), (p1, .inl (cI, 4, .inl (aZ cs))), (p2, .inl (cI, 48, .inl (aZ mp)))] := hD
        have eL : lost = hL cs mp so sm sp sb tot rule lost k u v := by unfold hL; rw [if_neg (by omega), if_neg (by omega)]
        have eK : r109 = hKp cs mp rule kept k u v b := by unfold hKp; rw [if_pos (by omega), er109]
        have hP9 := hP.sub (ws' := [(w, .inr (8, [.ref g, .ref h, .ref f, .ref kq, .int (nZ rule), .int (nZ (taken + k)), .int (nZ lost), .int (nZ r109)])), (g, .inr (6, [.int (nZ so), .int (nZ sm), .int (nZ sp), .int (nZ sb), .int (nZ sc), .int (nZ sd), .int (nZ sl)])), (h, .inr (0, [.ref q1, .ref q2, .ref q3])), (q2, .inl (cJ, 143, .inr (.inl (bZ me)))), (q3, .inl (cJ, 28080, .inr (.inl (bZ ch2_109)))), (q1, .inr (3, [.ref p1, .ref p2])), (p1, .inl (cI, 4, .inl (aZ cs))), (p2, .inl (cI, 48, .inl (aZ mp))), (f, .inr (1, [.ref fq, .int (nZ told), .int (nZ tot)]))]) [3, 0, 4, 1, 5, 6, 7, 8, 2] rfl
        have hD9 := hD.sub (ws' := [(w, .inr (8, [.ref g, .ref h, .ref f, .ref kq, .int (nZ rule), .int (nZ (taken + k)), .int (nZ lost), .int (nZ r109)])), (g, .inr (6, [.int (nZ so), .int (nZ sm), .int (nZ sp), .int (nZ sb), .int (nZ sc), .int (nZ sd), .int (nZ sl)])), (h, .inr (0, [.ref q1, .ref q2, .ref q3])), (q2, .inl (cJ, 143, .inr (.inl (bZ me)))), (q3, .inl (cJ, 28080, .inr (.inl (bZ ch2_109)))), (q1, .inr (3, [.ref p1, .ref p2])), (p1, .inl (cI, 4, .inl (aZ cs))), (p2, .inl (cI, 48, .inl (aZ mp))), (f, .inr (1, [.ref fq, .int (nZ told), .int (nZ tot)]))]) [3, 0, 4, 1, 5, 6, 7, 8, 2] (by decide) rfl
        have hq9 : ([(w, .inr (8, [.ref g, .ref h, .ref f, .ref kq, .int (nZ rule), .int (nZ (taken + k)), .int (nZ lost), .int (nZ r109)])), (g, .inr (6, [.int (nZ so), .int (nZ sm), .int (nZ sp), .int (nZ sb), .int (nZ sc), .int (nZ sd), .int (nZ sl)])), (h, .inr (0, [.ref q1, .ref q2, .ref q3])), (q2, .inl (cJ, 143, .inr (.inl (bZ me)))), (q3, .inl (cJ, 28080, .inr (.inl (bZ ch2_109)))), (q1, .inr (3, [.ref p1, .ref p2])), (p1, .inl (cI, 4, .inl (aZ cs))), (p2, .inl (cI, 48, .inl (aZ mp))), (f, .inr (1, [.ref fq, .int (nZ told), .int (nZ tot)]))] : va_W) = [(w, .inr (8, [.ref g, .ref h, .ref f, .ref kq, .int (nZ rule), .int (nZ (taken + k)), .int (nZ (hL cs mp so sm sp sb tot rule lost k u v)), .int (nZ (hKp cs mp rule kept k u v b))])), (g, .inr (6, [.int (nZ so), .int (nZ sm), .int (nZ sp), .int (nZ sb), .int (nZ sc), .int (nZ sd), .int (nZ sl)])), (h, .inr (0, [.ref q1, .ref q2, .ref q3])), (q2, .inl (cJ, 143, .inr (.inl (bZ me)))), (q3, .inl (cJ, 28080, .inr (.inl (bZ ch2_109)))), (q1, .inr (3, [.ref p1, .ref p2])), (p1, .inl (cI, 4, .inl (aZ cs))), (p2, .inl (cI, 48, .inl (aZ mp))), (f, .inr (1, [.ref fq, .int (nZ told), .int (nZ tot)]))] := by rw [← eL, ← eK]
        rw [hq9] at hP9 hD9
        exact W.vret hx hb hr (fun t9 ht9 _ => ⟨⟨(ch2_109), rfl, hw109, ⟨by rw [ht9]; exact hP9, hD9⟩⟩, hS.F ht9⟩) hS.2.2 dX8_hear_115
    · refine lv_aload_n hx hb dX8_hear_67 rfl (lv_at hl 0 rfl) ?_
      refine lv_dup hx hb dX8_hear_68 rfl ?_
      refine va_get (D := D) (ci := 8) (v := .int (nZ lost)) (C := RX8) (T := TX8) (N := 8) hx hb hts iX8 hown hK hP 0 rfl rfl 6 (by decide) (hts (.fieldLink RX8 73 "RainTarget$Umpire" "lost" "I") (List.mem_of_getElem? (i := 3) rfl)) (fun _ h9 => h9) rfl dX8_hear_69 ?_
      refine lv_aload_n hx hb dX8_hear_72 rfl (lv_at hl 0 rfl) ?_
      refine lv_iload_n hx hb dX8_hear_73 rfl (lv_at hl 2 rfl) ?_
      refine lv_iload_n hx hb dX8_hear_74 rfl (lv_at hl 3 rfl) ?_
      refine vp_callSi ((va_runV (As := [.int (nZ u), .int (nZ v)]) (rest := [.int (nZ lost), .ref w]) ⟨hx, hb, hml, hown, hts⟩ (c_X8_bentShare l D cI cJ tn w g h f kq q1 q2 q3 fq me cs mp so sm sp sb sc sd sl rule (taken + k) lost kept told tot u v hM hMe ho1 ho hm hp0 hp1 hb0 hb1 ht0 ht1 (by first | assumption | omega) hu1 hv0 hv1 ) (cwV 2 hts gX8_hear_X8_bentShare rfl rfl rfl (by decide +kernel) ⟨Nat.le_of_ble_eq_true rfl, Nat.le_of_ble_eq_true rfl⟩) ⟨RoP.blind, va_recv hK hP (ci := 8) (q0 := 0) rfl rfl, fun U hU hW => ⟨rfl, RoP.call hE hS (hP.sub (ws' := [(w, .inr (8, [.ref g, .ref h, .ref f, .ref kq, .int (nZ rule), .int (nZ (taken + k)), .int (nZ lost), .int (nZ kept)])), (g, .inr (6, [.int (nZ so), .int (nZ sm), .int (nZ sp), .int (nZ sb), .int (nZ sc), .int (nZ sd), .int (nZ sl)])), (h, .inr (0, [.ref q1, .ref q2, .ref q3])), (q2, .inl (cJ, 143, .inr (.inl (bZ me)))), (f, .inr (1, [.ref fq, .int (nZ told), .int (nZ tot)]))]) [0, 1, 2, 3, 8] rfl) hU hW⟩⟩ rfl rfl hl.1 rfl (lv_room (Nat.le_of_ble_eq_true rfl)) dX8_hear_75 ⟨Nat.le_of_ble_eq_true rfl, Nat.le_of_ble_eq_true rfl⟩).run) (fun r75 hr75 => ?_)
      subst hr75
      refine z_nameI (fun r75 er75 => ?_)
      refine lv_aload_n hx hb dX8_hear_78 rfl (lv_at hl 0 rfl) ?_
      refine lv_iload_n hx hb dX8_hear_79 rfl (lv_at hl 2 rfl) ?_
      refine lv_iload_n hx hb dX8_hear_80 rfl (lv_at hl 1 rfl) ?_
      refine z_isub hx hb dX8_hear_81 ?_
      refine lv_iload_n hx hb dX8_hear_82 rfl (lv_at hl 3 rfl) ?_
      refine vp_callSi ((va_runV (As := [.int (nZ (u - k)), .int (nZ v)]) (rest := [.int (nZ r75), .int (nZ lost), .ref w]) ⟨hx, hb, hml, hown, hts⟩ (c_X8_bentShare l D cI cJ tn w g h f kq q1 q2 q3 fq me cs mp so sm sp sb sc sd sl rule (taken + k) lost kept told tot (u - k) v hM hMe ho1 ho hm hp0 hp1 hb0 hb1 ht0 ht1 (by first | assumption | omega) (by first | assumption | omega) hv0 hv1 ) (cwV 2 hts gX8_hear_X8_bentShare rfl rfl rfl (by decide +kernel) ⟨Nat.le_of_ble_eq_true rfl, Nat.le_of_ble_eq_true rfl⟩) ⟨RoP.blind, va_recv hK hP (ci := 8) (q0 := 0) rfl rfl, fun U hU hW => ⟨rfl, RoP.call hE hS (hP.sub (ws' := [(w, .inr (8, [.ref g, .ref h, .ref f, .ref kq, .int (nZ rule), .int (nZ (taken + k)), .int (nZ lost), .int (nZ kept)])), (g, .inr (6, [.int (nZ so), .int (nZ sm), .int (nZ sp), .int (nZ sb), .int (nZ sc), .int (nZ sd), .int (nZ sl)])), (h, .inr (0, [.ref q1, .ref q2, .ref q3])), (q2, .inl (cJ, 143, .inr (.inl (bZ me)))), (f, .inr (1, [.ref fq, .int (nZ told), .int (nZ tot)]))]) [0, 1, 2, 3, 8] rfl) hU hW⟩⟩ rfl rfl hl.1 rfl (lv_room (Nat.le_of_ble_eq_true rfl)) dX8_hear_83 ⟨Nat.le_of_ble_eq_true rfl, Nat.le_of_ble_eq_true rfl⟩).run) (fun r83 hr83 => ?_)
      subst hr83
      refine z_nameI (fun r83 er83 => ?_)
      refine z_isub hx hb dX8_hear_86 ?_
      refine z_iadd hx hb dX8_hear_87 ?_
      refine va_put (D := D) (ci := 8) (v := .int (nZ (lost + (r75 - r83)))) (ty := .int) (C := RX8) (T := TX8) (N := 8) hx hb hts iX8 tyX8 tyX8_ok nmX8 hown hK hP hD hS 0 rfl rfl 6 (by decide) (hts (.fieldLink RX8 73 "RainTarget$Umpire" "lost" "I") (List.mem_of_getElem? (i := 3) rfl)) (fun _ h9 => h9) rfl (by decide +kernel) rfl rfl (Nat.le_of_ble_eq_true rfl) dX8_hear_88 (fun H locs hP hD hS => ?_)
      have hP : va_P D vwCl [(w, .inr (8, [.ref g, .ref h, .ref f, .ref kq, .int (nZ rule), .int (nZ (taken + k)), .int (nZ (lost + (r75 - r83))), .int (nZ kept)])), (g, .inr (6, [.int (nZ so), .int (nZ sm), .int (nZ sp), .int (nZ sb), .int (nZ sc), .int (nZ sd), .int (nZ sl)])), (h, .inr (0, [.ref q1, .ref q2, .ref q3])), (q2, .inl (cJ, 143, .inr (.inl (bZ me)))), (q3, .inl (cJ, 28080, .inr (.inl (bZ ch)))), (q1, .inr (3, [.ref p1, .ref p2])), (p1, .inl (cI, 4, .inl (aZ cs))), (p2, .inl (cI, 48, .inl (aZ mp))), (f, .inr (1, [.ref fq, .int (nZ told), .int (nZ tot)]))] H := hP
      have hD : va_D A [(w, .inr (8, [.ref g, .ref h, .ref f, .ref kq, .int (nZ rule), .int (nZ (taken + k)), .int (nZ (lost + (r75 - r83))), .int (nZ kept)])), (g, .inr (6, [.int (nZ so), .int (nZ sm), .int (nZ sp), .int (nZ sb), .int (nZ sc), .int (nZ sd), .int (nZ sl)])), (h, .inr (0, [.ref q1, .ref q2, .ref q3])), (q2, .inl (cJ, 143, .inr (.inl (bZ me)))), (q3, .inl (cJ, 28080, .inr (.inl (bZ ch)))), (q1, .inr (3, [.ref p1, .ref p2])), (p1, .inl (cI, 4, .inl (aZ cs))), (p2, .inl (cI, 48, .inl (aZ mp))), (f, .inr (1, [.ref fq, .int (nZ told), .int (nZ tot)]))] := hD
      refine lv_goto (tgt := 115) hx hb dX8_hear_91 (by decide) ?_
      have eL : lost + (r75 - r83) = hL cs mp so sm sp sb tot rule lost k u v := by unfold hL; rw [if_neg (by omega), if_pos (by omega), er75, er83]
      have eK : kept = hKp cs mp rule kept k u v b := by unfold hKp; rw [if_neg (by omega)]
      have hP9 := hP.sub (ws' := [(w, .inr (8, [.ref g, .ref h, .ref f, .ref kq, .int (nZ rule), .int (nZ (taken + k)), .int (nZ (lost + (r75 - r83))), .int (nZ kept)])), (g, .inr (6, [.int (nZ so), .int (nZ sm), .int (nZ sp), .int (nZ sb), .int (nZ sc), .int (nZ sd), .int (nZ sl)])), (h, .inr (0, [.ref q1, .ref q2, .ref q3])), (q2, .inl (cJ, 143, .inr (.inl (bZ me)))), (q3, .inl (cJ, 28080, .inr (.inl (bZ ch)))), (q1, .inr (3, [.ref p1, .ref p2])), (p1, .inl (cI, 4, .inl (aZ cs))), (p2, .inl (cI, 48, .inl (aZ mp))), (f, .inr (1, [.ref fq, .int (nZ told), .int (nZ tot)]))]) [0, 1, 2, 3, 4, 5, 6, 7, 8] rfl
      have hD9 := hD.sub (ws' := [(w, .inr (8, [.ref g, .ref h, .ref f, .ref kq, .int (nZ rule), .int (nZ (taken + k)), .int (nZ (lost + (r75 - r83))), .int (nZ kept)])), (g, .inr (6, [.int (nZ so), .int (nZ sm), .int (nZ sp), .int (nZ sb), .int (nZ sc), .int (nZ sd), .int (nZ sl)])), (h, .inr (0, [.ref q1, .ref q2, .ref q3])), (q2, .inl (cJ, 143, .inr (.inl (bZ me)))), (q3, .inl (cJ, 28080, .inr (.inl (bZ ch)))), (q1, .inr (3, [.ref p1, .ref p2])), (p1, .inl (cI, 4, .inl (aZ cs))), (p2, .inl (cI, 48, .inl (aZ mp))), (f, .inr (1, [.ref fq, .int (nZ told), .int (nZ tot)]))]) [0, 1, 2, 3, 4, 5, 6, 7, 8] (by decide) rfl
      have hq9 : ([(w, .inr (8, [.ref g, .ref h, .ref f, .ref kq, .int (nZ rule), .int (nZ (taken + k)), .int (nZ (lost + (r75 - r83))), .int (nZ kept)])), (g, .inr (6, [.int (nZ so), .int (nZ sm), .int (nZ sp), .int (nZ sb), .int (nZ sc), .int (nZ sd), .int (nZ sl)])), (h, .inr (0, [.ref q1, .ref q2, .ref q3])), (q2, .inl (cJ, 143, .inr (.inl (bZ me)))), (q3, .inl (cJ, 28080, .inr (.inl (bZ ch)))), (q1, .inr (3, [.ref p1, .ref p2])), (p1, .inl (cI, 4, .inl (aZ cs))), (p2, .inl (cI, 48, .inl (aZ mp))), (f, .inr (1, [.ref fq, .int (nZ told), .int (nZ tot)]))] : va_W) = [(w, .inr (8, [.ref g, .ref h, .ref f, .ref kq, .int (nZ rule), .int (nZ (taken + k)), .int (nZ (hL cs mp so sm sp sb tot rule lost k u v)), .int (nZ (hKp cs mp rule kept k u v b))])), (g, .inr (6, [.int (nZ so), .int (nZ sm), .int (nZ sp), .int (nZ sb), .int (nZ sc), .int (nZ sd), .int (nZ sl)])), (h, .inr (0, [.ref q1, .ref q2, .ref q3])), (q2, .inl (cJ, 143, .inr (.inl (bZ me)))), (q3, .inl (cJ, 28080, .inr (.inl (bZ ch)))), (q1, .inr (3, [.ref p1, .ref p2])), (p1, .inl (cI, 4, .inl (aZ cs))), (p2, .inl (cI, 48, .inl (aZ mp))), (f, .inr (1, [.ref fq, .int (nZ told), .int (nZ tot)]))] := by rw [← eL, ← eK]
      rw [hq9] at hP9 hD9
      exact W.vret hx hb hr (fun t9 ht9 _ => ⟨⟨(ch), rfl, hmemo, ⟨by rw [ht9]; exact hP9, hD9⟩⟩, hS.F ht9⟩) hS.2.2 dX8_hear_115
  · refine lv_aload_n hx hb dX8_hear_18 rfl (lv_at hl 0 rfl) ?_
    refine lv_dup hx hb dX8_hear_19 rfl ?_
    refine va_get (D := D) (ci := 8) (v := .int (nZ lost)) (C := RX8) (T := TX8) (N := 8) hx hb hts iX8 hown hK hP 0 rfl rfl 6 (by decide) (hts (.fieldLink RX8 73 "RainTarget$Umpire" "lost" "I") (List.mem_of_getElem? (i := 3) rfl)) (fun _ h9 => h9) rfl dX8_hear_20 ?_
    refine lv_aload_n hx hb dX8_hear_23 rfl (lv_at hl 0 rfl) ?_
    refine va_get (D := D) (ci := 8) (v := .ref h) (C := RX8) (T := TX8) (N := 8) hx hb hts iX8 hown hK hP 0 rfl rfl 1 (by decide) (hts (.fieldLink RX8 19 "RainTarget$Umpire" "batting" "LRainTarget$Batting;") (List.mem_of_getElem? (i := 4) rfl)) (fun _ h9 => h9) rfl dX8_hear_24 ?_
    refine lv_iload_n hx hb dX8_hear_27 rfl (lv_at hl 2 rfl) ?_
    refine lv_iload_n hx hb dX8_hear_28 rfl (lv_at hl 3 rfl) ?_
    refine lv_aload_n hx hb dX8_hear_29 rfl (lv_at hl 0 rfl) ?_
    refine va_get (D := D) (ci := 8) (v := .ref g) (C := RX8) (T := TX8) (N := 8) hx hb hts iX8 hown hK hP 0 rfl rfl 0 (by decide) (hts (.fieldLink RX8 15 "RainTarget$Umpire" "settings" "LRainTarget$Settings;") (List.mem_of_getElem? (i := 5) rfl)) (fun _ h9 => h9) rfl dX8_hear_30 ?_
    refine vp_callSi ((va_runVN (As := [.int (nZ u), .int (nZ v), .ref g]) (rest := [.int (nZ lost), .ref w]) ⟨hx, hb, hml, hown, hts⟩ (c_X0_share l D cI cJ tn h q1 q2 q3 g me cs mp so sm sp sb sc sd sl u v hM hMe ho hm (by first | assumption | omega) hu1 hv0 hv1 ) ⟨va_cnB 3 hts gX8_hear_X0_share_n84 rfl rfl rfl (nw_X8_84 hN) (hts (.initialized RX0) (List.mem_of_getElem? (i := 8) rfl)) (by decide +kernel) ⟨Nat.le_of_ble_eq_true rfl, Nat.le_of_ble_eq_true rfl⟩, (hts (.instanceMethod yX0_share) (List.mem_of_getElem? (i := 7) rfl)), (hts (.selects RX0 yX0_share yX0_share) (List.mem_of_getElem? (i := 9) rfl))⟩ ⟨RoP.blind, va_recv hK hP (ci := 0) (q0 := 2) rfl rfl, fun U hU hW => ⟨rfl, RoP.call hE hS (hP.sub (ws' := [(h, .inr (0, [.ref q1, .ref q2, .ref q3])), (q2, .inl (cJ, 143, .inr (.inl (bZ me)))), (g, .inr (6, [.int (nZ so), .int (nZ sm), .int (nZ sp), .int (nZ sb), .int (nZ sc), .int (nZ sd), .int (nZ sl)]))]) [2, 3, 1] rfl) hU hW⟩⟩ rfl rfl hl.1 rfl (lv_room (Nat.le_of_ble_eq_true rfl)) dX8_hear_33 ⟨Nat.le_of_ble_eq_true rfl, Nat.le_of_ble_eq_true rfl⟩).run) (fun r33 hr33 => ?_)
    subst hr33
    refine z_nameI (fun r33 er33 => ?_)
    refine lv_aload_n hx hb dX8_hear_36 rfl (lv_at hl 0 rfl) ?_
    refine va_get (D := D) (ci := 8) (v := .ref h) (C := RX8) (T := TX8) (N := 8) hx hb hts iX8 hown hK hP 0 rfl rfl 1 (by decide) (hts (.fieldLink RX8 19 "RainTarget$Umpire" "batting" "LRainTarget$Batting;") (List.mem_of_getElem? (i := 4) rfl)) (fun _ h9 => h9) rfl dX8_hear_37 ?_
    refine lv_iload_n hx hb dX8_hear_40 rfl (lv_at hl 2 rfl) ?_
    refine lv_iload_n hx hb dX8_hear_41 rfl (lv_at hl 1 rfl) ?_
    refine z_isub hx hb dX8_hear_42 ?_
    refine lv_iload_n hx hb dX8_hear_43 rfl (lv_at hl 3 rfl) ?_
    refine lv_aload_n hx hb dX8_hear_44 rfl (lv_at hl 0 rfl) ?_
    refine va_get (D := D) (ci := 8) (v := .ref g) (C := RX8) (T := TX8) (N := 8) hx hb hts iX8 hown hK hP 0 rfl rfl 0 (by decide) (hts (.fieldLink RX8 15 "RainTarget$Umpire" "settings" "LRainTarget$Settings;") (List.mem_of_getElem? (i := 5) rfl)) (fun _ h9 => h9) rfl dX8_hear_45 ?_
    refine vp_callSi ((va_runVN (As := [.int (nZ (u - k)), .int (nZ v), .ref g]) (rest := [.int (nZ r33), .int (nZ lost), .ref w]) ⟨hx, hb, hml, hown, hts⟩ (c_X0_share l D cI cJ tn h q1 q2 q3 g me cs mp so sm sp sb sc sd sl (u - k) v hM hMe ho hm (by first | assumption | omega) (by first | assumption | omega) hv0 hv1 ) ⟨va_cnB 3 hts gX8_hear_X0_share_n84 rfl rfl rfl (nw_X8_84 hN) (hts (.initialized RX0) (List.mem_of_getElem? (i := 8) rfl)) (by decide +kernel) ⟨Nat.le_of_ble_eq_true rfl, Nat.le_of_ble_eq_true rfl⟩, (hts (.instanceMethod yX0_share) (List.mem_of_getElem? (i := 7) rfl)), (hts (.selects RX0 yX0_share yX0_share) (List.mem_of_getElem? (i := 9) rfl))⟩ ⟨RoP.blind, va_recv hK hP (ci := 0) (q0 := 2) rfl rfl, fun U hU hW => ⟨rfl, RoP.call hE hS (hP.sub (ws' := [(h, .inr (0, [.ref q1, .ref q2, .ref q3])), (q2, .inl (cJ, 143, .inr (.inl (bZ me)))), (g, .inr (6, [.int (nZ so), .int (nZ sm), .int (nZ sp), .int (nZ sb), .int (nZ sc), .int (nZ sd), .int (nZ sl)]))]) [2, 3, 1] rfl) hU hW⟩⟩ rfl rfl hl.1 rfl (lv_room (Nat.le_of_ble_eq_true rfl)) dX8_hear_48 ⟨Nat.le_of_ble_eq_true rfl, Nat.le_of_ble_eq_true rfl⟩).run) (fun r48 hr48 => ?_)
    subst hr48
    refine z_nameI (fun r48 er48 => ?_)
    refine z_isub hx hb dX8_hear_51 ?_
    refine z_iadd hx hb dX8_hear_52 ?_
    refine va_put (D := D) (ci := 8) (v := .int (nZ (lost + (r33 - r48)))) (ty := .int) (C := RX8) (T := TX8) (N := 8) hx hb hts iX8 tyX8 tyX8_ok nmX8 hown hK hP hD hS 0 rfl rfl 6 (by decide) (hts (.fieldLink RX8 73 "RainTarget$Umpire" "lost" "I") (List.mem_of_getElem? (i := 3) rfl)) (fun _ h9 => h9) rfl (by decide +kernel) rfl rfl (Nat.le_of_ble_eq_true rfl) dX8_hear_53 (fun H locs hP hD hS => ?_)
    have hP : va_P D vwCl [(w, .inr (8, [.ref g, .ref h, .ref f, .ref kq, .int (nZ rule), .int (nZ (taken + k)), .int (nZ (lost + (r33 - r48))), .int (nZ kept)])), (g, .inr (6, [.int (nZ so), .int (nZ sm), .int (nZ sp), .int (nZ sb), .int (nZ sc), .int (nZ sd), .int (nZ sl)])), (h, .inr (0, [.ref q1, .ref q2, .ref q3])), (q2, .inl (cJ, 143, .inr (.inl (bZ me)))), (q3, .inl (cJ, 28080, .inr (.inl (bZ ch)))), (q1, .inr (3, [.ref p1, .ref p2])), (p1, .inl (cI, 4, .inl (aZ cs))), (p2, .inl (cI, 48, .inl (aZ mp))), (f, .inr (1, [.ref fq, .int (nZ told), .int (nZ tot)]))] H := hP
    have hD : va_D A [(w, .inr (8, [.ref g, .ref h, .ref f, .ref kq, .int (nZ rule), .int (nZ (taken + k)), .int (nZ (lost + (r33 - r48))), .int (nZ kept)])), (g, .inr (6, [.int (nZ so), .int (nZ sm), .int (nZ sp), .int (nZ sb), .int (nZ sc), .int (nZ sd), .int (nZ sl)])), (h, .inr (0, [.ref q1, .ref q2, .ref q3])), (q2, .inl (cJ, 143, .inr (.inl (bZ me)))), (q3, .inl (cJ, 28080, .inr (.inl (bZ ch)))), (q1, .inr (3, [.ref p1, .ref p2])), (p1, .inl (cI, 4, .inl (aZ cs))), (p2, .inl (cI, 48, .inl (aZ mp))), (f, .inr (1, [.ref fq, .int (nZ told), .int (nZ tot)]))] := hD
    refine lv_goto (tgt := 115) hx hb dX8_hear_56 (by decide) ?_
    have eL : lost + (r33 - r48) = hL cs mp so sm sp sb tot rule lost k u v := by unfold hL; rw [if_pos (by omega), er33, er48]
    have eK : kept = hKp cs mp rule kept k u v b := by unfold hKp; rw [if_neg (by omega)]
    have hP9 := hP.sub (ws' := [(w, .inr (8, [.ref g, .ref h, .ref f, .ref kq, .int (nZ rule), .int (nZ (taken + k)), .int (nZ (lost + (r33 - r48))), .int (nZ kept)])), (g, .inr (6, [.int (nZ so), .int (nZ sm), .int (nZ sp), .int (nZ sb), .int (nZ sc), .int (nZ sd), .int (nZ sl)])), (h, .inr (0, [.ref q1, .ref q2, .ref q3])), (q2, .inl (cJ, 143, .inr (.inl (bZ me)))), (q3, .inl (cJ, 28080, .inr (.inl (bZ ch)))), (q1, .inr (3, [.ref p1, .ref p2])), (p1, .inl (cI, 4, .inl (aZ cs))), (p2, .inl (cI, 48, .inl (aZ mp))), (f, .inr (1, [.ref fq, .int (nZ told), .int (nZ tot)]))]) [0, 1, 2, 3, 4, 5, 6, 7, 8] rfl
    have hD9 := hD.sub (ws' := [(w, .inr (8, [.ref g, .ref h, .ref f, .ref kq, .int (nZ rule), .int (nZ (taken + k)), .int (nZ (lost + (r33 - r48))), .int (nZ kept)])), (g, .inr (6, [.int (nZ so), .int (nZ sm), .int (nZ sp), .int (nZ sb), .int (nZ sc), .int (nZ sd), .int (nZ sl)])), (h, .inr (0, [.ref q1, .ref q2, .ref q3])), (q2, .inl (cJ, 143, .inr (.inl (bZ me)))), (q3, .inl (cJ, 28080, .inr (.inl (bZ ch)))), (q1, .inr (3, [.ref p1, .ref p2])), (p1, .inl (cI, 4, .inl (aZ cs))), (p2, .inl (cI, 48, .inl (aZ mp))), (f, .inr (1, [.ref fq, .int (nZ told), .int (nZ tot)]))]) [0, 1, 2, 3, 4, 5, 6, 7, 8] (by decide) rfl
    have hq9 : ([(w, .inr (8, [.ref g, .ref h, .ref f, .ref kq, .int (nZ rule), .int (nZ (taken + k)), .int (nZ (lost + (r33 - r48))), .int (nZ kept)])), (g, .inr (6, [.int (nZ so), .int (nZ sm), .int (nZ sp), .int (nZ sb), .int (nZ sc), .int (nZ sd), .int (nZ sl)])), (h, .inr (0, [.ref q1, .ref q2, .ref q3])), (q2, .inl (cJ, 143, .inr (.inl (bZ me)))), (q3, .inl (cJ, 28080, .inr (.inl (bZ ch)))), (q1, .inr (3, [.ref p1, .ref p2])), (p1, .inl (cI, 4, .inl (aZ cs))), (p2, .inl (cI, 48, .inl (aZ mp))), (f, .inr (1, [.ref fq, .int (nZ told), .int (nZ tot)]))] : va_W) = [(w, .inr (8, [.ref g, .ref h, .ref f, .ref kq, .int (nZ rule), .int (nZ (taken + k)), .int (nZ (hL cs mp so sm sp sb tot rule lost k u v)), .int (nZ (hKp cs mp rule kept k u v b))])), (g, .inr (6, [.int (nZ so), .int (nZ sm), .int (nZ sp), .int (nZ sb), .int (nZ sc), .int (nZ sd), .int (nZ sl)])), (h, .inr (0, [.ref q1, .ref q2, .ref q3])), (q2, .inl (cJ, 143, .inr (.inl (bZ me)))), (q3, .inl (cJ, 28080, .inr (.inl (bZ ch)))), (q1, .inr (3, [.ref p1, .ref p2])), (p1, .inl (cI, 4, .inl (aZ cs))), (p2, .inl (cI, 48, .inl (aZ mp))), (f, .inr (1, [.ref fq, .int (nZ told), .int (nZ tot)]))] := by rw [← eL, ← eK]
    rw [hq9] at hP9 hD9
    exact W.vret hx hb hr (fun t9 ht9 _ => ⟨⟨(ch), rfl, hmemo, ⟨by rw [ht9]; exact hP9, hD9⟩⟩, hS.F ht9⟩) hS.2.2 dX8_hear_115

set_option maxHeartbeats 4000000 in
set_option maxRecDepth 100000 in
theorem c_X8_ruled (l : Launch) (D : va_G) (cI cJ : ClassId) (tn : Nat) (w : Nat) (g : Nat) (h : Nat) (f : Nat) (kq : Nat) (fq : Nat) (fo : Int → Int) (so : Int) (sm : Int) (sp : Int) (sb : Int) (sc : Int) (sd : Int) (sl : Int) (rule : Int) (taken : Int) (lost : Int) (kept : Int) (told : Int) (tot : Int) (rr : I32 rule) (ho1 : 1 ≤ so) (ho : so ≤ 12) (hl0 : 0 ≤ sl) (hl1 : sl ≤ 99) (ht0 : 0 ≤ tot) (ht1 : tot ≤ 1000) (hta0 : 0 ≤ taken) (hta1 : taken ≤ 1000) (hlo0 : -30000 ≤ lost) (hlo1 : lost ≤ 30000) (hfo : ∀ k, 0 ≤ fo k ∧ fo k ≤ 36)  : Met l yX8_ruled wsX8_ruled ({ frames := 3, cells := 0, slots := 0, locals := 70 } : Room) (va_Pc [.ref w] (RoP D cI cJ tn [(w, .inr (8, [.ref g, .ref h, .ref f, .ref kq, .int (nZ rule), .int (nZ taken), .int (nZ lost), .int (nZ kept)])), (g, .inr (6, [.int (nZ so), .int (nZ sm), .int (nZ sp), .int (nZ sb), .int (nZ sc), .int (nZ sd), .int (nZ sl)])), (f, .inr (1, [.ref fq, .int (nZ told), .int (nZ tot)])), (fq, .inl (cI, 12, .inl (aZ fo)))])) (vp_Si (fun r9 : Int32 => r9 = nZ (TG fo so sl tot rule taken lost kept))) 0 0 (fun _ => False) := by
  refine Met.ofW (cc := cX8_ruled) (maxL := 1) (ret := (some .int)) (by decide) rfl ?_
  intro p e s m args below meth c s₁ B hml hv
  obtain ⟨rfl, hE, hP⟩ := hv
  have hx := B.exec
  have hb := B.bytes
  have hr := B.returns
  have hts := atoms_spec (ws := wsX8_ruled) B.pre
  have hown : s.vm.findClass RX8 = some m.cls := findClass_of_methodNamed B.named
  have hlocks := B.notSynchronized
  have hS : va_S (fun _ => False) s.heap s.heap [] := va_S.rf
  have hK := hE.1
  have hN := hE.2.1
  have hl := lv_entry ([.ref w]) (n := 1) (Nat.le_of_ble_eq_true rfl)
  rw [lg_entry_eq]
  generalize (lg_sl ([.ref w]) ++ List.replicate (1 - (lg_sl ([.ref w])).length) Slot.unset).toArray = ls at hl ⊢
  have hl : lv_has ls 1 [(0, .ref w)] := hl
  have iX1 : ∀ w ∈ u_ws RX1 TX1 3, w ∈ wsX8_ruled := fun _ h => List.mem_cons_of_mem _ (List.mem_append_left _ (List.mem_append_right _ h))
  have iX6 : ∀ w ∈ u_ws RX6 TX6 7, w ∈ wsX8_ruled := fun _ h => List.mem_cons_of_mem _ (List.mem_append_right _ h)
  have iX8 : ∀ w ∈ u_ws RX8 TX8 8, w ∈ wsX8_ruled := fun _ h => List.mem_cons_of_mem _ (List.mem_append_left _ (List.mem_append_left _ (List.mem_append_right _ h)))
  refine lv_aload_n hx hb dX8_ruled_0 rfl (lv_at hl 0 rfl) ?_
  refine va_get (D := D) (ci := 8) (v := .int (nZ rule)) (C := RX8) (T := TX8) (N := 8) hx hb hts iX8 hown hK hP 0 rfl rfl 4 (by decide) (hts (.fieldLink RX8 67 "RainTarget$Umpire" "rule" "I") (List.mem_of_getElem? (i := 1) rfl)) (fun _ h9 => h9) rfl dX8_ruled_1 ?_
  by_cases w4_0 : rule = 0
  · refine z_tabIn (off := 40) (tgt := 44) hx hb dX8_ruled_4 w4_0 (by decide) (by decide) (by decide) (by decide +kernel) (by decide) ?_
    refine lv_aload_n hx hb dX8_ruled_44 rfl (lv_at hl 0 rfl) ?_
    refine va_get (D := D) (ci := 8) (v := .ref f) (C := RX8) (T := TX8) (N := 8) hx hb hts iX8 hown hK hP 0 rfl rfl 2 (by decide) (hts (.fieldLink RX8 23 "RainTarget$Umpire" "first" "LRainTarget$FirstSide;") (List.mem_of_getElem? (i := 2) rfl)) (fun _ h9 => h9) rfl dX8_ruled_45 ?_
    refine va_getN (D := D) (ci := 1) (v := .int (nZ tot)) (C := RX1) (T := TX1) (N := 3) hx hb hts iX1 hown hK hP 2 rfl rfl 2 (by decide) (va_Nw.use rfl (nw_X8_76 hN)) (fun _ h9 => h9) rfl dX8_ruled_48 ?_
    refine lv_aload_n hx hb dX8_ruled_51 rfl (lv_at hl 0 rfl) ?_
    refine va_get (D := D) (ci := 8) (v := .ref g) (C := RX8) (T := TX8) (N := 8) hx hb hts iX8 hown hK hP 0 rfl rfl 0 (by decide) (hts (.fieldLink RX8 15 "RainTarget$Umpire" "settings" "LRainTarget$Settings;") (List.mem_of_getElem? (i := 3) rfl)) (fun _ h9 => h9) rfl dX8_ruled_52 ?_
    refine va_getN (D := D) (ci := 6) (v := .int (nZ so)) (C := RX6) (T := TX6) (N := 7) hx hb hts iX6 hown hK hP 1 rfl rfl 0 (by decide) (va_Nw.use rfl (nw_X8_51 hN)) (fun _ h9 => h9) rfl dX8_ruled_55 ?_
    refine lv_aload_n hx hb dX8_ruled_58 rfl (lv_at hl 0 rfl) ?_
    refine va_get (D := D) (ci := 8) (v := .int (nZ taken)) (C := RX8) (T := TX8) (N := 8) hx hb hts iX8 hown hK hP 0 rfl rfl 5 (by decide) (hts (.fieldLink RX8 70 "RainTarget$Umpire" "taken" "I") (List.mem_of_getElem? (i := 4) rfl)) (fun _ h9 => h9) rfl dX8_ruled_59 ?_
    refine z_isub hx hb dX8_ruled_62 ?_
    have hm1 := mul_bd2 (a := tot) (b := so - taken) (A := 1000) (B := 1000) ht0 ht1 (by omega) (by omega)
    refine z_imul hx hb dX8_ruled_63 ?_
    refine z_i2l hx hb dX8_ruled_64 (by omega) ?_
    refine lv_aload_n hx hb dX8_ruled_65 rfl (lv_at hl 0 rfl) ?_
    refine va_get (D := D) (ci := 8) (v := .ref g) (C := RX8) (T := TX8) (N := 8) hx hb hts iX8 hown hK hP 0 rfl rfl 0 (by decide) (hts (.fieldLink RX8 15 "RainTarget$Umpire" "settings" "LRainTarget$Settings;") (List.mem_of_getElem? (i := 3) rfl)) (fun _ h9 => h9) rfl dX8_ruled_66 ?_
    refine va_getN (D := D) (ci := 6) (v := .int (nZ so)) (C := RX6) (T := TX6) (N := 7) hx hb hts iX6 hown hK hP 1 rfl rfl 0 (by decide) (va_Nw.use rfl (nw_X8_51 hN)) (fun _ h9 => h9) rfl dX8_ruled_69 ?_
    refine z_i2l hx hb dX8_ruled_72 (by omega) ?_
    refine vp_callSl ((va_runSN (As := [.long (lZ (tot * (so - taken))), .long (lZ so)]) (rest := []) ⟨hx, hb, hml, hown, hts⟩ (c_X9_cut l D cI cJ tn (tot * (so - taken)) so (by omega) (by omega) ) ⟨va_cnB 2 hts gX8_ruled_X9_cut_n93 rfl rfl rfl (nw_X8_93 hN) (hts (.initialized RX9) (List.mem_of_getElem? (i := 9) rfl)) (by decide +kernel) ⟨Nat.le_of_ble_eq_true rfl, Nat.le_of_ble_eq_true rfl⟩, (hts (.static yX9_cut) (List.mem_of_getElem? (i := 8) rfl)), trivial⟩ ⟨RoP.blind, fun U hU hW => ⟨rfl, RoP.call hE hS (hP.sub (ws' := []) [] rfl) hU hW⟩⟩ rfl rfl hl.1 rfl (lv_room (Nat.le_of_ble_eq_true rfl)) dX8_ruled_73 ⟨Nat.le_of_ble_eq_true rfl, Nat.le_of_ble_eq_true rfl⟩).run) (fun r73 hr73 => ?_)
    subst hr73
    refine z_nameL (fun r73 er73 => ?_)
    have h73 : -1000000 ≤ r73 ∧ r73 ≤ 1000000 := by rw [er73, if_pos (by omega)]; exact tdiv_bd (by omega) (by omega) (by omega)
    refine lv_lconst (v := lZ 1) hx hb dX8_ruled_76 rfl ?_
    refine z_ladd hx hb dX8_ruled_77 ?_
    refine vp_callSi ((va_runS (As := [.long (lZ (r73 + 1))]) (rest := []) ⟨hx, hb, hml, hown, hts⟩ (c_X8_atLeastOne l D cI cJ tn (r73 + 1) (by first | assumption | omega) ) (va_cwS 1 hts gX8_ruled_X8_atLeastOne rfl rfl rfl (by decide +kernel) ⟨Nat.le_of_ble_eq_true rfl, Nat.le_of_ble_eq_true rfl⟩) ⟨RoP.blind, fun U hU hW => ⟨rfl, RoP.call hE hS (hP.sub (ws' := []) [] rfl) hU hW⟩⟩ rfl rfl hl.1 rfl (lv_room (Nat.le_of_ble_eq_true rfl)) dX8_ruled_78 ⟨Nat.le_of_ble_eq_true rfl, Nat.le_of_ble_eq_true rfl⟩).run) (fun r78 hr78 => ?_)
    subst hr78
    exact W.iret (v := nZ (al1 (r73 + 1))) hx hb hr (fun t9 ht9 _ => ⟨nZ (al1 (r73 + 1)), rfl, congrArg nZ (show (al1 (r73 + 1) : Int) = TG fo so sl tot rule taken lost kept from (by unfold TG; rw [if_pos (by omega), er73, if_pos (by omega)])), ht9⟩) (fun _ h => by cases h) dX8_ruled_81
  by_cases w4_1 : rule = 1
  · refine z_tabIn (off := 78) (tgt := 82) hx hb dX8_ruled_4 w4_1 (by decide) (by decide) (by decide) (by decide +kernel) (by decide) ?_
    refine lv_aload_n hx hb dX8_ruled_82 rfl (lv_at hl 0 rfl) ?_
    refine va_get (D := D) (ci := 8) (v := .ref f) (C := RX8) (T := TX8) (N := 8) hx hb hts iX8 hown hK hP 0 rfl rfl 2 (by decide) (hts (.fieldLink RX8 23 "RainTarget$Umpire" "first" "LRainTarget$FirstSide;") (List.mem_of_getElem? (i := 2) rfl)) (fun _ h9 => h9) rfl dX8_ruled_83 ?_
    refine lv_aload_n hx hb dX8_ruled_86 rfl (lv_at hl 0 rfl) ?_
    refine va_get (D := D) (ci := 8) (v := .int (nZ taken)) (C := RX8) (T := TX8) (N := 8) hx hb hts iX8 hown hK hP 0 rfl rfl 5 (by decide) (hts (.fieldLink RX8 70 "RainTarget$Umpire" "taken" "I") (List.mem_of_getElem? (i := 4) rfl)) (fun _ h9 => h9) rfl dX8_ruled_87 ?_
    refine lv_aload_n hx hb dX8_ruled_90 rfl (lv_at hl 0 rfl) ?_
    refine va_get (D := D) (ci := 8) (v := .ref g) (C := RX8) (T := TX8) (N := 8) hx hb hts iX8 hown hK hP 0 rfl rfl 0 (by decide) (hts (.fieldLink RX8 15 "RainTarget$Umpire" "settings" "LRainTarget$Settings;") (List.mem_of_getElem? (i := 3) rfl)) (fun _ h9 => h9) rfl dX8_ruled_91 ?_
    refine va_getN (D := D) (ci := 6) (v := .int (nZ so)) (C := RX6) (T := TX6) (N := 7) hx hb hts iX6 hown hK hP 1 rfl rfl 0 (by decide) (va_Nw.use rfl (nw_X8_51 hN)) (fun _ h9 => h9) rfl dX8_ruled_94 ?_
    refine vp_callSi ((va_runVN (As := [.int (nZ taken), .int (nZ so)]) (rest := []) ⟨hx, hb, hml, hown, hts⟩ (c_X1_withoutLeast l D cI cJ tn f fq fo told tot taken so (by omega) (by first | assumption | omega) ho (fun k => ⟨by have := hfo k; omega, by have := hfo k; omega⟩) ) ⟨va_cnB 2 hts gX8_ruled_X1_withoutLeast_n101 rfl rfl rfl (nw_X8_101 hN) (hts (.initialized RX1) (List.mem_of_getElem? (i := 20) rfl)) (by decide +kernel) ⟨Nat.le_of_ble_eq_true rfl, Nat.le_of_ble_eq_true rfl⟩, (hts (.instanceMethod yX1_withoutLeast) (List.mem_of_getElem? (i := 19) rfl)), (hts (.selects RX1 yX1_withoutLeast yX1_withoutLeast) (List.mem_of_getElem? (i := 21) rfl))⟩ ⟨RoP.blind, va_recv hK hP (ci := 1) (q0 := 2) rfl rfl, fun U hU hW => ⟨rfl, RoP.call hE hS (hP.sub (ws' := [(f, .inr (1, [.ref fq, .int (nZ told), .int (nZ tot)])), (fq, .inl (cI, 12, .inl (aZ fo)))]) [2, 3] rfl) hU hW⟩⟩ rfl rfl hl.1 rfl (lv_room (Nat.le_of_ble_eq_true rfl)) dX8_ruled_97 ⟨Nat.le_of_ble_eq_true rfl, Nat.le_of_ble_eq_true rfl⟩).run) (fun r97 hr97 => ?_)
    subst hr97
    refine z_nameI (fun r97 er97 => ?_)
    have hwo := woN_bd hfo taken so so.toNat
    refine lv_iconst (v := nZ 1) hx hb dX8_ruled_100 rfl ?_
    refine z_iadd hx hb dX8_ruled_101 ?_
    refine z_i2l hx hb dX8_ruled_102 (by omega) ?_
    refine vp_callSi ((va_runS (As := [.long (lZ (r97 + 1))]) (rest := []) ⟨hx, hb, hml, hown, hts⟩ (c_X8_atLeastOne l D cI cJ tn (r97 + 1) (by first | assumption | omega) ) (va_cwS 1 hts gX8_ruled_X8_atLeastOne rfl rfl rfl (by decide +kernel) ⟨Nat.le_of_ble_eq_true rfl, Nat.le_of_ble_eq_true rfl⟩) ⟨RoP.blind, fun U hU hW => ⟨rfl, RoP.call hE hS (hP.sub (ws' := []) [] rfl) hU hW⟩⟩ rfl rfl hl.1 rfl (lv_room (Nat.le_of_ble_eq_true rfl)) dX8_ruled_103 ⟨Nat.le_of_ble_eq_true rfl, Nat.le_of_ble_eq_true rfl⟩).run) (fun r103 hr103 => ?_)
    subst hr103
    exact W.iret (v := nZ (al1 (r97 + 1))) hx hb hr (fun t9 ht9 _ => ⟨nZ (al1 (r97 + 1)), rfl, congrArg nZ (show (al1 (r97 + 1) : Int) = TG fo so sl tot rule taken lost kept from (by unfold TG; rw [if_neg (by omega), if_pos (by omega), er97])), ht9⟩) (fun _ h => by cases h) dX8_ruled_106
  by_cases w4_2 : rule = 2
  · refine z_tabIn (off := 103) (tgt := 107) hx hb dX8_ruled_4 w4_2 (by decide) (by decide) (by decide) (by decide +kernel) (by decide) ?_
    refine lv_aload_n hx hb dX8_ruled_107 rfl (lv_at hl 0 rfl) ?_
    refine va_get (D := D) (ci := 8) (v := .ref f) (C := RX8) (T := TX8) (N := 8) hx hb hts iX8 hown hK hP 0 rfl rfl 2 (by decide) (hts (.fieldLink RX8 23 "RainTarget$Umpire" "first" "LRainTarget$FirstSide;") (List.mem_of_getElem? (i := 2) rfl)) (fun _ h9 => h9) rfl dX8_ruled_108 ?_
    refine va_getN (D := D) (ci := 1) (v := .int (nZ tot)) (C := RX1) (T := TX1) (N := 3) hx hb hts iX1 hown hK hP 2 rfl rfl 2 (by decide) (va_Nw.use rfl (nw_X8_76 hN)) (fun _ h9 => h9) rfl dX8_ruled_111 ?_
    refine lv_sipush (v := nZ 1000) hx hb dX8_ruled_114 (by decide) ?_
    refine lv_aload_n hx hb dX8_ruled_117 rfl (lv_at hl 0 rfl) ?_
    refine va_get (D := D) (ci := 8) (v := .int (nZ lost)) (C := RX8) (T := TX8) (N := 8) hx hb hts iX8 hown hK hP 0 rfl rfl 6 (by decide) (hts (.fieldLink RX8 73 "RainTarget$Umpire" "lost" "I") (List.mem_of_getElem? (i := 5) rfl)) (fun _ h9 => h9) rfl dX8_ruled_118 ?_
    refine z_isub hx hb dX8_ruled_121 ?_
    have hm2 := mul_bd2 (a := tot) (b := 1000 - lost) (A := 1000) (B := 40000) ht0 ht1 (by omega) (by omega)
    refine z_imul hx hb dX8_ruled_122 ?_
    refine z_i2l hx hb dX8_ruled_123 (by omega) ?_
    refine lv_ldc2 (own := RX8) (v := 1000) hx hb hown (hts (.constantLong RX8 104 (1000)) (List.mem_of_getElem? (i := 6) rfl)) dX8_ruled_124 ?_
    refine z_litl 1000 (by decide) ?_
    refine vp_callSl ((va_runSN (As := [.long (lZ (tot * (1000 - lost))), .long (lZ 1000)]) (rest := []) ⟨hx, hb, hml, hown, hts⟩ (c_X9_cut l D cI cJ tn (tot * (1000 - lost)) 1000 (by omega) (by decide) ) ⟨va_cnB 2 hts gX8_ruled_X9_cut_n93 rfl rfl rfl (nw_X8_93 hN) (hts (.initialized RX9) (List.mem_of_getElem? (i := 9) rfl)) (by decide +kernel) ⟨Nat.le_of_ble_eq_true rfl, Nat.le_of_ble_eq_true rfl⟩, (hts (.static yX9_cut) (List.mem_of_getElem? (i := 8) rfl)), trivial⟩ ⟨RoP.blind, fun U hU hW => ⟨rfl, RoP.call hE hS (hP.sub (ws' := []) [] rfl) hU hW⟩⟩ rfl rfl hl.1 rfl (lv_room (Nat.le_of_ble_eq_true rfl)) dX8_ruled_127 ⟨Nat.le_of_ble_eq_true rfl, Nat.le_of_ble_eq_true rfl⟩).run) (fun r127 hr127 => ?_)
    subst hr127
    refine z_nameL (fun r127 er127 => ?_)
    have h127 : -40000000 ≤ r127 ∧ r127 ≤ 40000000 := by rw [er127, if_pos (by decide)]; exact tdiv_bd (by omega) (by omega) (by decide)
    refine lv_lconst (v := lZ 1) hx hb dX8_ruled_130 rfl ?_
    refine z_ladd hx hb dX8_ruled_131 ?_
    refine vp_callSi ((va_runS (As := [.long (lZ (r127 + 1))]) (rest := []) ⟨hx, hb, hml, hown, hts⟩ (c_X8_atLeastOne l D cI cJ tn (r127 + 1) (by first | assumption | omega) ) (va_cwS 1 hts gX8_ruled_X8_atLeastOne rfl rfl rfl (by decide +kernel) ⟨Nat.le_of_ble_eq_true rfl, Nat.le_of_ble_eq_true rfl⟩) ⟨RoP.blind, fun U hU hW => ⟨rfl, RoP.call hE hS (hP.sub (ws' := []) [] rfl) hU hW⟩⟩ rfl rfl hl.1 rfl (lv_room (Nat.le_of_ble_eq_true rfl)) dX8_ruled_132 ⟨Nat.le_of_ble_eq_true rfl, Nat.le_of_ble_eq_true rfl⟩).run) (fun r132 hr132 => ?_)
    subst hr132
    exact W.iret (v := nZ (al1 (r127 + 1))) hx hb hr (fun t9 ht9 _ => ⟨nZ (al1 (r127 + 1)), rfl, congrArg nZ (show (al1 (r127 + 1) : Int) = TG fo so sl tot rule taken lost kept from (by unfold TG; rw [if_neg (by omega), if_neg (by omega), if_pos (by omega), er127, if_pos (by decide)])), ht9⟩) (fun _ h => by cases h) dX8_ruled_135
  by_cases w4_3 : rule = 3
  · refine z_tabIn (off := 103) (tgt := 107) hx hb dX8_ruled_4 w4_3 (by decide) (by decide) (by decide) (by decide +kernel) (by decide) ?_
    refine lv_aload_n hx hb dX8_ruled_107 rfl (lv_at hl 0 rfl) ?_
    refine va_get (D := D) (ci := 8) (v := .ref f) (C := RX8) (T := TX8) (N := 8) hx hb hts iX8 hown hK hP 0 rfl rfl 2 (by decide) (hts (.fieldLink RX8 23 "RainTarget$Umpire" "first" "LRainTarget$FirstSide;") (List.mem_of_getElem? (i := 2) rfl)) (fun _ h9 => h9) rfl dX8_ruled_108 ?_
    refine va_getN (D := D) (ci := 1) (v := .int (nZ tot)) (C := RX1) (T := TX1) (N := 3) hx hb hts iX1 hown hK hP 2 rfl rfl 2 (by decide) (va_Nw.use rfl (nw_X8_76 hN)) (fun _ h9 => h9) rfl dX8_ruled_111 ?_
    refine lv_sipush (v := nZ 1000) hx hb dX8_ruled_114 (by decide) ?_
    refine lv_aload_n hx hb dX8_ruled_117 rfl (lv_at hl 0 rfl) ?_
    refine va_get (D := D) (ci := 8) (v := .int (nZ lost)) (C := RX8) (T := TX8) (N := 8) hx hb hts iX8 hown hK hP 0 rfl rfl 6 (by decide) (hts (.fieldLink RX8 73 "RainTarget$Umpire" "lost" "I") (List.mem_of_getElem? (i := 5) rfl)) (fun _ h9 => h9) rfl dX8_ruled_118 ?_
    refine z_isub hx hb dX8_ruled_121 ?_
    have hm2 := mul_bd2 (a := tot) (b := 1000 - lost) (A := 1000) (B := 40000) ht0 ht1 (by omega) (by omega)
    refine z_imul hx hb dX8_ruled_122 ?_
    refine z_i2l hx hb dX8_ruled_123 (by omega) ?_
    refine lv_ldc2 (own := RX8) (v := 1000) hx hb hown (hts (.constantLong RX8 104 (1000)) (List.mem_of_getElem? (i := 6) rfl)) dX8_ruled_124 ?_
    refine z_litl 1000 (by decide) ?_
    refine vp_callSl ((va_runSN (As := [.long (lZ (tot * (1000 - lost))), .long (lZ 1000)]) (rest := []) ⟨hx, hb, hml, hown, hts⟩ (c_X9_cut l D cI cJ tn (tot * (1000 - lost)) 1000 (by omega) (by decide) ) ⟨va_cnB 2 hts gX8_ruled_X9_cut_n93 rfl rfl rfl (nw_X8_93 hN) (hts (.initialized RX9) (List.mem_of_getElem? (i := 9) rfl)) (by decide +kernel) ⟨Nat.le_of_ble_eq_true rfl, Nat.le_of_ble_eq_true rfl⟩, (hts (.static yX9_cut) (List.mem_of_getElem? (i := 8) rfl)), trivial⟩ ⟨RoP.blind, fun U hU hW => ⟨rfl, RoP.call hE hS (hP.sub (ws' := []) [] rfl) hU hW⟩⟩ rfl rfl hl.1 rfl (lv_room (Nat.le_of_ble_eq_true rfl)) dX8_ruled_127 ⟨Nat.le_of_ble_eq_true rfl, Nat.le_of_ble_eq_true rfl⟩).run) (fun r127 hr127 => ?_)
    subst hr127
    refine z_nameL (fun r127 er127 => ?_)
    have h127 : -40000000 ≤ r127 ∧ r127 ≤ 40000000 := by rw [er127, if_pos (by decide)]; exact tdiv_bd (by omega) (by omega) (by decide)
    refine lv_lconst (v := lZ 1) hx hb dX8_ruled_130 rfl ?_
    refine z_ladd hx hb dX8_ruled_131 ?_
    refine vp_callSi ((va_runS (As := [.long (lZ (r127 + 1))]) (rest := []) ⟨hx, hb, hml, hown, hts⟩ (c_X8_atLeastOne l D cI cJ tn (r127 + 1) (by first | assumption | omega) ) (va_cwS 1 hts gX8_ruled_X8_atLeastOne rfl rfl rfl (by decide +kernel) ⟨Nat.le_of_ble_eq_true rfl, Nat.le_of_ble_eq_true rfl⟩) ⟨RoP.blind, fun U hU hW => ⟨rfl, RoP.call hE hS (hP.sub (ws' := []) [] rfl) hU hW⟩⟩ rfl rfl hl.1 rfl (lv_room (Nat.le_of_ble_eq_true rfl)) dX8_ruled_132 ⟨Nat.le_of_ble_eq_true rfl, Nat.le_of_ble_eq_true rfl⟩).run) (fun r132 hr132 => ?_)
    subst hr132
    exact W.iret (v := nZ (al1 (r127 + 1))) hx hb hr (fun t9 ht9 _ => ⟨nZ (al1 (r127 + 1)), rfl, congrArg nZ (show (al1 (r127 + 1) : Int) = TG fo so sl tot rule taken lost kept from (by unfold TG; rw [if_neg (by omega), if_neg (by omega), if_pos (by omega), er127, if_pos (by decide)])), ht9⟩) (fun _ h => by cases h) dX8_ruled_135
  by_cases w4_4 : rule = 4
  · refine z_tabIn (off := 148) (tgt := 152) hx hb dX8_ruled_4 w4_4 (by decide) (by decide) (by decide) (by decide +kernel) (by decide) ?_
    refine lv_aload_n hx hb dX8_ruled_152 rfl (lv_at hl 0 rfl) ?_
    refine va_get (D := D) (ci := 8) (v := .int (nZ kept)) (C := RX8) (T := TX8) (N := 8) hx hb hts iX8 hown hK hP 0 rfl rfl 7 (by decide) (hts (.fieldLink RX8 81 "RainTarget$Umpire" "kept" "I") (List.mem_of_getElem? (i := 7) rfl)) (fun _ h9 => h9) rfl dX8_ruled_153 ?_
    exact W.iret (v := nZ kept) hx hb hr (fun t9 ht9 _ => ⟨nZ kept, rfl, congrArg nZ (show (kept : Int) = TG fo so sl tot rule taken lost kept from (by unfold TG; rw [if_neg (by omega), if_neg (by omega), if_neg (by omega), if_neg (by omega)])), ht9⟩) (fun _ h => by cases h) dX8_ruled_156
  by_cases w4_5 : rule = 5
  · refine z_tabIn (off := 132) (tgt := 136) hx hb dX8_ruled_4 w4_5 (by decide) (by decide) (by decide) (by decide +kernel) (by decide) ?_
    refine lv_aload_n hx hb dX8_ruled_136 rfl (lv_at hl 0 rfl) ?_
    refine lv_aload_n hx hb dX8_ruled_137 rfl (lv_at hl 0 rfl) ?_
    refine va_get (D := D) (ci := 8) (v := .ref g) (C := RX8) (T := TX8) (N := 8) hx hb hts iX8 hown hK hP 0 rfl rfl 0 (by decide) (hts (.fieldLink RX8 15 "RainTarget$Umpire" "settings" "LRainTarget$Settings;") (List.mem_of_getElem? (i := 3) rfl)) (fun _ h9 => h9) rfl dX8_ruled_138 ?_
    refine va_getN (D := D) (ci := 6) (v := .int (nZ sl)) (C := RX6) (T := TX6) (N := 7) hx hb hts iX6 hown hK hP 1 rfl rfl 6 (by decide) (va_Nw.use rfl (nw_X8_106 hN)) (fun _ h9 => h9) rfl dX8_ruled_141 ?_
    refine lv_aload_n hx hb dX8_ruled_144 rfl (lv_at hl 0 rfl) ?_
    refine va_get (D := D) (ci := 8) (v := .int (nZ taken)) (C := RX8) (T := TX8) (N := 8) hx hb hts iX8 hown hK hP 0 rfl rfl 5 (by decide) (hts (.fieldLink RX8 70 "RainTarget$Umpire" "taken" "I") (List.mem_of_getElem? (i := 4) rfl)) (fun _ h9 => h9) rfl dX8_ruled_145 ?_
    refine vp_callSi ((va_runV (As := [.int (nZ sl), .int (nZ taken)]) (rest := []) ⟨hx, hb, hml, hown, hts⟩ (c_X8_said l D cI cJ tn w g h f kq fq rule taken lost kept told tot sl taken ht0 ht1 hl0 hl1 hta0 hta1 ) (cwV 2 hts gX8_ruled_X8_said rfl rfl rfl (by decide +kernel) ⟨Nat.le_of_ble_eq_true rfl, Nat.le_of_ble_eq_true rfl⟩) ⟨RoP.blind, va_recv hK hP (ci := 8) (q0 := 0) rfl rfl, fun U hU hW => ⟨rfl, RoP.call hE hS (hP.sub (ws' := [(w, .inr (8, [.ref g, .ref h, .ref f, .ref kq, .int (nZ rule), .int (nZ taken), .int (nZ lost), .int (nZ kept)])), (f, .inr (1, [.ref fq, .int (nZ told), .int (nZ tot)]))]) [0, 2] rfl) hU hW⟩⟩ rfl rfl hl.1 rfl (lv_room (Nat.le_of_ble_eq_true rfl)) dX8_ruled_148 ⟨Nat.le_of_ble_eq_true rfl, Nat.le_of_ble_eq_true rfl⟩).run) (fun r148 hr148 => ?_)
    subst hr148
    exact W.iret (v := nZ (al1 (tot + 1 - sl * taken))) hx hb hr (fun t9 ht9 _ => ⟨nZ (al1 (tot + 1 - sl * taken)), rfl, congrArg nZ (show (al1 (tot + 1 - sl * taken) : Int) = TG fo so sl tot rule taken lost kept from (by unfold TG; rw [if_neg (by omega), if_neg (by omega), if_neg (by omega), if_pos (by omega)])), ht9⟩) (fun _ h => by cases h) dX8_ruled_151
  refine z_tabOut (tgt := 152) hx hb dX8_ruled_4 (by omega) (by omega) (by decide) ?_
  refine lv_aload_n hx hb dX8_ruled_152 rfl (lv_at hl 0 rfl) ?_
  refine va_get (D := D) (ci := 8) (v := .int (nZ kept)) (C := RX8) (T := TX8) (N := 8) hx hb hts iX8 hown hK hP 0 rfl rfl 7 (by decide) (hts (.fieldLink RX8 81 "RainTarget$Umpire" "kept" "I") (List.mem_of_getElem? (i := 7) rfl)) (fun _ h9 => h9) rfl dX8_ruled_153 ?_
  exact W.iret (v := nZ kept) hx hb hr (fun t9 ht9 _ => ⟨nZ kept, rfl, congrArg nZ (show (kept : Int) = TG fo so sl tot rule taken lost kept from (by unfold TG; rw [if_neg (by omega), if_neg (by omega), if_neg (by omega), if_neg (by omega)])), ht9⟩) (fun _ h => by cases h) dX8_ruled_156

