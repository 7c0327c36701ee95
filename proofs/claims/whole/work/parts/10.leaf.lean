set_option maxHeartbeats 4000000 in
set_option maxRecDepth 100000 in
theorem c_X9_within (l : Launch) (D : va_G) (cI cJ : ClassId) (tn : Nat) (a : Int) (b : Int) (d : Int) (ra : I32 a) (rb : I32 b) (rd : I32 d)  : Met l yX9_within wsX9_within ({ frames := 0, cells := 0, slots := 0, locals := 0 } : Room) (va_Pc [.int (nZ a), .int (nZ b), .int (nZ d)] (RoP D cI cJ tn [])) (vp_Si (fun r9 : Int32 => r9 = nZ (if b ≤ a ∧ a ≤ d then 1 else 0))) 0 0 (fun _ => False) := by
  refine Met.ofW (cc := cX9_within) (maxL := 3) (ret := (some .boolean)) (by decide) rfl ?_
  intro p e s m args below meth c s₁ B hml hv
  obtain ⟨rfl, hE, hP⟩ := hv
  have hx := B.exec
  have hb := B.bytes
  have hr := B.returns
  have hts := atoms_spec (ws := wsX9_within) B.pre
  have hown : s.vm.findClass RX9 = some m.cls := findClass_of_methodNamed B.named
  have hlocks := B.notSynchronized
  have hS : va_S (fun _ => False) s.heap s.heap [] := va_S.rf
  have hK := hE.1
  have hN := hE.2.1
  have hl := lv_entry ([.int (nZ a), .int (nZ b), .int (nZ d)]) (n := 3) (Nat.le_of_ble_eq_true rfl)
  rw [lg_entry_eq]
  generalize (lg_sl ([.int (nZ a), .int (nZ b), .int (nZ d)]) ++ List.replicate (3 - (lg_sl ([.int (nZ a), .int (nZ b), .int (nZ d)])).length) Slot.unset).toArray = ls at hl ⊢
  have hl : lv_has ls 3 [(0, .int (nZ a)), (1, .int (nZ b)), (2, .int (nZ d))] := hl
  refine lv_iload_n hx hb dX9_within_0 rfl (lv_at hl 0 rfl) ?_
  refine lv_iload_n hx hb dX9_within_1 rfl (lv_at hl 1 rfl) ?_
  refine z_icmp_lt (tgt := 14) hx hb dX9_within_2 (by decide) (by omega) (by omega) (fun c_2 => ?_) (fun c_2 => ?_)
  · refine lv_iconst (v := nZ 0) hx hb dX9_within_14 rfl ?_
    exact W.zret (v := nZ 0) hx hb hr (z_bool (show (0 : Int) = 0 ∨ (0 : Int) = 1 from by omega)) (fun t9 ht9 _ => ⟨nZ 0, rfl, congrArg nZ (show (0 : Int) = if b ≤ a ∧ a ≤ d then 1 else 0 from (by first | rfl | omega | (split <;> omega) | (simp_all; done))), ht9⟩) (fun _ h => by cases h) dX9_within_15
  · refine lv_iload_n hx hb dX9_within_5 rfl (lv_at hl 0 rfl) ?_
    refine lv_iload_n hx hb dX9_within_6 rfl (lv_at hl 2 rfl) ?_
    refine z_icmp_gt (tgt := 14) hx hb dX9_within_7 (by decide) (by omega) (by omega) (fun c_7 => ?_) (fun c_7 => ?_)
    · refine lv_iconst (v := nZ 0) hx hb dX9_within_14 rfl ?_
      exact W.zret (v := nZ 0) hx hb hr (z_bool (show (0 : Int) = 0 ∨ (0 : Int) = 1 from by omega)) (fun t9 ht9 _ => ⟨nZ 0, rfl, congrArg nZ (show (0 : Int) = if b ≤ a ∧ a ≤ d then 1 else 0 from (by first | rfl | omega | (split <;> omega) | (simp_all; done))), ht9⟩) (fun _ h => by cases h) dX9_within_15
    · refine lv_iconst (v := nZ 1) hx hb dX9_within_10 rfl ?_
      refine lv_goto (tgt := 15) hx hb dX9_within_11 (by decide) ?_
      exact W.zret (v := nZ 1) hx hb hr (z_bool (show (1 : Int) = 0 ∨ (1 : Int) = 1 from by omega)) (fun t9 ht9 _ => ⟨nZ 1, rfl, congrArg nZ (show (1 : Int) = if b ≤ a ∧ a ≤ d then 1 else 0 from (by first | rfl | omega | (split <;> omega) | (simp_all; done))), ht9⟩) (fun _ h => by cases h) dX9_within_15

set_option maxHeartbeats 4000000 in
set_option maxRecDepth 100000 in
theorem c_X9_isRule (l : Launch) (D : va_G) (cI cJ : ClassId) (tn : Nat) (a : Int) (ra : I32 a)  : Met l yX9_isRule wsX9_isRule ({ frames := 1, cells := 0, slots := 0, locals := 22 } : Room) (va_Pc [.int (nZ a)] (RoP D cI cJ tn [])) (vp_Si (fun r9 : Int32 => r9 = nZ (if 0 ≤ a ∧ a ≤ 5 then 1 else 0))) 0 0 (fun _ => False) := by
  refine Met.ofW (cc := cX9_isRule) (maxL := 1) (ret := (some .boolean)) (by decide) rfl ?_
  intro p e s m args below meth c s₁ B hml hv
  obtain ⟨rfl, hE, hP⟩ := hv
  have hx := B.exec
  have hb := B.bytes
  have hr := B.returns
  have hts := atoms_spec (ws := wsX9_isRule) B.pre
  have hown : s.vm.findClass RX9 = some m.cls := findClass_of_methodNamed B.named
  have hlocks := B.notSynchronized
  have hS : va_S (fun _ => False) s.heap s.heap [] := va_S.rf
  have hK := hE.1
  have hN := hE.2.1
  have hl := lv_entry ([.int (nZ a)]) (n := 1) (Nat.le_of_ble_eq_true rfl)
  rw [lg_entry_eq]
  generalize (lg_sl ([.int (nZ a)]) ++ List.replicate (1 - (lg_sl ([.int (nZ a)])).length) Slot.unset).toArray = ls at hl ⊢
  have hl : lv_has ls 1 [(0, .int (nZ a))] := hl
  refine lv_iload_n hx hb dX9_isRule_0 rfl (lv_at hl 0 rfl) ?_
  refine lv_iconst (v := nZ 0) hx hb dX9_isRule_1 rfl ?_
  refine lv_iconst (v := nZ 5) hx hb dX9_isRule_2 rfl ?_
  refine vp_callSi ((va_runS (As := [.int (nZ a), .int (nZ 0), .int (nZ 5)]) (rest := []) ⟨hx, hb, hml, hown, hts⟩ (c_X9_within l D cI cJ tn a 0 5 ra (by decide) (by decide) ) (va_cwS 3 hts gX9_isRule_X9_within rfl rfl rfl (by decide +kernel) ⟨Nat.le_of_ble_eq_true rfl, Nat.le_of_ble_eq_true rfl⟩) ⟨RoP.blind, fun U hU hW => ⟨rfl, RoP.call hE hS (hP.sub (ws' := []) [] rfl) hU hW⟩⟩ rfl rfl hl.1 rfl (lv_room (Nat.le_of_ble_eq_true rfl)) dX9_isRule_3 ⟨Nat.le_of_ble_eq_true rfl, Nat.le_of_ble_eq_true rfl⟩).run) (fun r3 hr3 => ?_)
  subst hr3
  refine z_nameI (fun r3 er3 => ?_)
  exact W.zret (v := nZ r3) hx hb hr (z_bool (show (r3 : Int) = 0 ∨ (r3 : Int) = 1 from by omega)) (fun t9 ht9 _ => ⟨nZ r3, rfl, congrArg nZ (show (r3 : Int) = if 0 ≤ a ∧ a ≤ 5 then 1 else 0 from (by first | rfl | omega | (split <;> omega) | (simp_all; done))), ht9⟩) (fun _ h => by cases h) dX9_isRule_6

set_option maxHeartbeats 4000000 in
set_option maxRecDepth 100000 in
theorem c_X9_power (l : Launch) (D : va_G) (cI cJ : ClassId) (tn : Nat) (a : Int) (ra : I32 a)  : Met l yX9_power wsX9_power ({ frames := 0, cells := 0, slots := 0, locals := 0 } : Room) (va_Pc [.int (nZ a)] (RoP D cI cJ tn [])) (vp_Sl (fun r9 : Int64 => r9 = lZ (if 0 ≤ a ∧ a ≤ 12 then (10 : Int) ^ a.toNat else 1))) 0 0 (fun _ => False) := by
  refine Met.ofW (cc := cX9_power) (maxL := 1) (ret := (some .long)) (by decide) rfl ?_
  intro p e s m args below meth c s₁ B hml hv
  obtain ⟨rfl, hE, hP⟩ := hv
  have hx := B.exec
  have hb := B.bytes
  have hr := B.returns
  have hts := atoms_spec (ws := wsX9_power) B.pre
  have hown : s.vm.findClass RX9 = some m.cls := findClass_of_methodNamed B.named
  have hlocks := B.notSynchronized
  have hS : va_S (fun _ => False) s.heap s.heap [] := va_S.rf
  have hK := hE.1
  have hN := hE.2.1
  have hl := lv_entry ([.int (nZ a)]) (n := 1) (Nat.le_of_ble_eq_true rfl)
  rw [lg_entry_eq]
  generalize (lg_sl ([.int (nZ a)]) ++ List.replicate (1 - (lg_sl ([.int (nZ a)])).length) Slot.unset).toArray = ls at hl ⊢
  have hl : lv_has ls 1 [(0, .int (nZ a))] := hl
  refine lv_iload_n hx hb dX9_power_0 rfl (lv_at hl 0 rfl) ?_
  refine z_if_lt (tgt := 20) hx hb dX9_power_1 (by decide) (by omega) (fun c_1 => ?_) (fun c_1 => ?_)
  · refine lv_lconst (v := lZ 1) hx hb dX9_power_20 rfl ?_
    exact W.lret (v := lZ 1) hx hb hr (fun t9 ht9 _ => ⟨lZ 1, rfl, congrArg lZ (show (1 : Int) = if 0 ≤ a ∧ a ≤ 12 then (10 : Int) ^ a.toNat else 1 from (by first | (rw [if_pos (by omega)]; done) | (rw [if_neg (by omega)]; done))), ht9⟩) (fun _ h => by cases h) dX9_power_21
  · refine lv_iload_n hx hb dX9_power_4 rfl (lv_at hl 0 rfl) ?_
    refine va_gets hx hb hE.2.2.1 hS hown (hts (.fieldLink RX9 259 "RainTarget" "TEN" "[J") (List.mem_of_getElem? (i := 1) rfl)) (fun _ h9 => h9) dX9_power_5 ?_
    refine va_tlen (v := nZ 13) hx hb hE.2.2.2 hS rfl dX9_power_8 ?_
    refine z_icmp_ge (tgt := 20) hx hb dX9_power_9 (by decide) (by omega) (by decide) (fun c_9 => ?_) (fun c_9 => ?_)
    · refine lv_lconst (v := lZ 1) hx hb dX9_power_20 rfl ?_
      exact W.lret (v := lZ 1) hx hb hr (fun t9 ht9 _ => ⟨lZ 1, rfl, congrArg lZ (show (1 : Int) = if 0 ≤ a ∧ a ≤ 12 then (10 : Int) ^ a.toNat else 1 from (by first | (rw [if_pos (by omega)]; done) | (rw [if_neg (by omega)]; done))), ht9⟩) (fun _ h => by cases h) dX9_power_21
    · refine va_gets hx hb hE.2.2.1 hS hown (hts (.fieldLink RX9 259 "RainTarget" "TEN" "[J") (List.mem_of_getElem? (i := 1) rfl)) (fun _ h9 => h9) dX9_power_12 ?_
      refine lv_iload_n hx hb dX9_power_15 rfl (lv_at hl 0 rfl) ?_
      refine va_tl hx hb hE.2.2.2 hS (nZ_in (by omega) (by omega) (by decide)) (tn_get (by omega) (by omega)) dX9_power_16 ?_
      refine lv_goto (tgt := 21) hx hb dX9_power_17 (by decide) ?_
      exact W.lret (v := lZ ((10 : Int) ^ a.toNat)) hx hb hr (fun t9 ht9 _ => ⟨lZ ((10 : Int) ^ a.toNat), rfl, congrArg lZ (show ((10 : Int) ^ a.toNat : Int) = if 0 ≤ a ∧ a ≤ 12 then (10 : Int) ^ a.toNat else 1 from (by first | (rw [if_pos (by omega)]; done) | (rw [if_neg (by omega)]; done))), ht9⟩) (fun _ h => by cases h) dX9_power_21

set_option maxHeartbeats 4000000 in
set_option maxRecDepth 100000 in
theorem c_X9_cut (l : Launch) (D : va_G) (cI cJ : ClassId) (tn : Nat) (a : Int) (b : Int) (ra : I64 a) (rb : I64 b)  : Met l yX9_cut wsX9_cut ({ frames := 0, cells := 0, slots := 0, locals := 0 } : Room) (va_Pc [.long (lZ a), .long (lZ b)] (RoP D cI cJ tn [])) (vp_Sl (fun r9 : Int64 => r9 = lZ (if 0 < b then Int.tdiv a b else 0))) 0 0 (fun _ => False) := by
  refine Met.ofW (cc := cX9_cut) (maxL := 4) (ret := (some .long)) (by decide) rfl ?_
  intro p e s m args below meth c s₁ B hml hv
  obtain ⟨rfl, hE, hP⟩ := hv
  have hx := B.exec
  have hb := B.bytes
  have hr := B.returns
  have hts := atoms_spec (ws := wsX9_cut) B.pre
  have hown : s.vm.findClass RX9 = some m.cls := findClass_of_methodNamed B.named
  have hlocks := B.notSynchronized
  have hS : va_S (fun _ => False) s.heap s.heap [] := va_S.rf
  have hK := hE.1
  have hN := hE.2.1
  have hl := lv_entry ([.long (lZ a), .long (lZ b)]) (n := 4) (Nat.le_of_ble_eq_true rfl)
  rw [lg_entry_eq]
  generalize (lg_sl ([.long (lZ a), .long (lZ b)]) ++ List.replicate (4 - (lg_sl ([.long (lZ a), .long (lZ b)])).length) Slot.unset).toArray = ls at hl ⊢
  have hl : lv_has ls 4 [(0, .long (lZ a)), (2, .long (lZ b))] := hl
  refine lv_lload_n hx hb dX9_cut_0 rfl (lv_at hl 1 rfl) ?_
  refine lv_lconst (v := lZ 0) hx hb dX9_cut_1 rfl ?_
  refine z_lcmp_le (tgt := 12) hx hb dX9_cut_2 dX9_cut_3 (by decide) (by omega) (by decide) (fun c_2 => ?_) (fun c_2 => ?_)
  · refine lv_lconst (v := lZ 0) hx hb dX9_cut_12 rfl ?_
    exact W.lret (v := lZ 0) hx hb hr (fun t9 ht9 _ => ⟨lZ 0, rfl, congrArg lZ (show (0 : Int) = if 0 < b then Int.tdiv a b else 0 from (by first | (rw [if_pos (by omega)]; done) | (rw [if_neg (by omega)]; done))), ht9⟩) (fun _ h => by cases h) dX9_cut_13
  · refine lv_lload_n hx hb dX9_cut_6 rfl (lv_at hl 0 rfl) ?_
    refine lv_lload_n hx hb dX9_cut_7 rfl (lv_at hl 1 rfl) ?_
    refine z_ldiv hx hb dX9_cut_8 (by omega) (by omega) (by omega) ?_
    refine lv_goto (tgt := 13) hx hb dX9_cut_9 (by decide) ?_
    exact W.lret (v := lZ (Int.tdiv a b)) hx hb hr (fun t9 ht9 _ => ⟨lZ (Int.tdiv a b), rfl, congrArg lZ (show (Int.tdiv a b : Int) = if 0 < b then Int.tdiv a b else 0 from (by first | (rw [if_pos (by omega)]; done) | (rw [if_neg (by omega)]; done))), ht9⟩) (fun _ h => by cases h) dX9_cut_13

set_option maxHeartbeats 4000000 in
set_option maxRecDepth 100000 in
theorem c_X3_size (l : Launch) (D : va_G) (cI cJ : ClassId) (tn : Nat) (h : Nat) (q1 : Nat) (q2 : Nat) (cs : Int → Int) (a : Int) (ra : I32 a)  : Met l yX3_size wsX3_size ({ frames := 0, cells := 0, slots := 0, locals := 0 } : Room) (va_Pc [.ref h, .int (nZ a)] (RoP D cI cJ tn [(h, .inr (3, [.ref q1, .ref q2])), (q1, .inl (cI, 4, .inl (aZ cs)))])) (vp_Si (fun r9 : Int32 => r9 = nZ (if 0 ≤ a ∧ a < 4 then cs a else 0))) 0 0 (fun _ => False) := by
  refine Met.ofW (cc := cX3_size) (maxL := 2) (ret := (some .int)) (by decide) rfl ?_
  intro p e s m args below meth c s₁ B hml hv
  obtain ⟨rfl, hE, hP⟩ := hv
  have hx := B.exec
  have hb := B.bytes
  have hr := B.returns
  have hts := atoms_spec (ws := wsX3_size) B.pre
  have hown : s.vm.findClass RX3 = some m.cls := findClass_of_methodNamed B.named
  have hlocks := B.notSynchronized
  have hS : va_S (fun _ => False) s.heap s.heap [] := va_S.rf
  have hK := hE.1
  have hN := hE.2.1
  have hl := lv_entry ([.ref h, .int (nZ a)]) (n := 2) (Nat.le_of_ble_eq_true rfl)
  rw [lg_entry_eq]
  generalize (lg_sl ([.ref h, .int (nZ a)]) ++ List.replicate (2 - (lg_sl ([.ref h, .int (nZ a)])).length) Slot.unset).toArray = ls at hl ⊢
  have hl : lv_has ls 2 [(0, .ref h), (1, .int (nZ a))] := hl
  have iX3 : ∀ w ∈ u_ws RX3 TX3 2, w ∈ wsX3_size := fun _ h => List.mem_cons_of_mem _ (List.mem_append_right _ h)
  refine lv_iload_n hx hb dX3_size_0 rfl (lv_at hl 1 rfl) ?_
  refine z_if_lt (tgt := 22) hx hb dX3_size_1 (by decide) (by omega) (fun c_1 => ?_) (fun c_1 => ?_)
  · refine lv_iconst (v := nZ 0) hx hb dX3_size_22 rfl ?_
    exact W.iret (v := nZ 0) hx hb hr (fun t9 ht9 _ => ⟨nZ 0, rfl, congrArg nZ (show (0 : Int) = if 0 ≤ a ∧ a < 4 then cs a else 0 from (by first | (rw [if_pos (by omega)]; done) | (rw [if_neg (by omega)]; done))), ht9⟩) (fun _ h => by cases h) dX3_size_23
  · refine lv_iload_n hx hb dX3_size_4 rfl (lv_at hl 1 rfl) ?_
    refine lv_aload_n hx hb dX3_size_5 rfl (lv_at hl 0 rfl) ?_
    refine va_get (D := D) (ci := 3) (v := .ref q1) (C := RX3) (T := TX3) (N := 2) hx hb hts iX3 hown hK hP 0 rfl rfl 0 (by decide) (hts (.fieldLink RX3 9 "RainTarget$Moods" "sizes" "[I") (List.mem_of_getElem? (i := 1) rfl)) (fun _ h9 => h9) rfl dX3_size_6 ?_
    refine va_alen (v := nZ 4) hx hb hK hP 1 0 rfl rfl rfl dX3_size_9 ?_
    refine z_icmp_ge (tgt := 22) hx hb dX3_size_10 (by decide) (by omega) (by decide) (fun c_10 => ?_) (fun c_10 => ?_)
    · refine lv_iconst (v := nZ 0) hx hb dX3_size_22 rfl ?_
      exact W.iret (v := nZ 0) hx hb hr (fun t9 ht9 _ => ⟨nZ 0, rfl, congrArg nZ (show (0 : Int) = if 0 ≤ a ∧ a < 4 then cs a else 0 from (by first | (rw [if_pos (by omega)]; done) | (rw [if_neg (by omega)]; done))), ht9⟩) (fun _ h => by cases h) dX3_size_23
    · refine lv_aload_n hx hb dX3_size_13 rfl (lv_at hl 0 rfl) ?_
      refine va_get (D := D) (ci := 3) (v := .ref q1) (C := RX3) (T := TX3) (N := 2) hx hb hts iX3 hown hK hP 0 rfl rfl 0 (by decide) (hts (.fieldLink RX3 9 "RainTarget$Moods" "sizes" "[I") (List.mem_of_getElem? (i := 1) rfl)) (fun _ h9 => h9) rfl dX3_size_14 ?_
      refine lv_iload_n hx hb dX3_size_17 rfl (lv_at hl 1 rfl) ?_
      refine z_iald hx hb hK hP 1 0 rfl rfl (by omega) (by omega) (by omega) dX3_size_18 ?_
      refine lv_goto (tgt := 23) hx hb dX3_size_19 (by decide) ?_
      exact W.iret (v := nZ (cs a)) hx hb hr (fun t9 ht9 _ => ⟨nZ (cs a), rfl, congrArg nZ (show (cs a : Int) = if 0 ≤ a ∧ a < 4 then cs a else 0 from (by first | (rw [if_pos (by omega)]; done) | (rw [if_neg (by omega)]; done))), ht9⟩) (fun _ h => by cases h) dX3_size_23

set_option maxHeartbeats 4000000 in
set_option maxRecDepth 100000 in
theorem c_X3_part (l : Launch) (D : va_G) (cI cJ : ClassId) (tn : Nat) (h : Nat) (q1 : Nat) (q2 : Nat) (mp : Int → Int) (a : Int) (b : Int) (d : Int) (ra : -1000 ≤ a ∧ a ≤ 1000) (rb : -1000 ≤ b ∧ b ≤ 1000) (rd : -1000 ≤ d ∧ d ≤ 1000)  : Met l yX3_part wsX3_part ({ frames := 0, cells := 0, slots := 0, locals := 0 } : Room) (va_Pc [.ref h, .int (nZ a), .int (nZ b), .int (nZ d)] (RoP D cI cJ tn [(h, .inr (3, [.ref q1, .ref q2])), (q2, .inl (cI, 48, .inl (aZ mp)))])) (vp_Si (fun r9 : Int32 => r9 = nZ (if 0 ≤ 12 * a + 3 * b + d ∧ 12 * a + 3 * b + d < 48 then mp (12 * a + 3 * b + d) else 0))) 0 0 (fun _ => False) := by
  refine Met.ofW (cc := cX3_part) (maxL := 5) (ret := (some .int)) (by decide) rfl ?_
  intro p e s m args below meth c s₁ B hml hv
  obtain ⟨rfl, hE, hP⟩ := hv
  have hx := B.exec
  have hb := B.bytes
  have hr := B.returns
  have hts := atoms_spec (ws := wsX3_part) B.pre
  have hown : s.vm.findClass RX3 = some m.cls := findClass_of_methodNamed B.named
  have hlocks := B.notSynchronized
  have hS : va_S (fun _ => False) s.heap s.heap [] := va_S.rf
  have hK := hE.1
  have hN := hE.2.1
  have hl := lv_entry ([.ref h, .int (nZ a), .int (nZ b), .int (nZ d)]) (n := 5) (Nat.le_of_ble_eq_true rfl)
  rw [lg_entry_eq]
  generalize (lg_sl ([.ref h, .int (nZ a), .int (nZ b), .int (nZ d)]) ++ List.replicate (5 - (lg_sl ([.ref h, .int (nZ a), .int (nZ b), .int (nZ d)])).length) Slot.unset).toArray = ls at hl ⊢
  have hl : lv_has ls 5 [(0, .ref h), (1, .int (nZ a)), (2, .int (nZ b)), (3, .int (nZ d))] := hl
  have iX3 : ∀ w ∈ u_ws RX3 TX3 2, w ∈ wsX3_part := fun _ h => List.mem_cons_of_mem _ (List.mem_append_right _ h)
  refine lv_iload_n hx hb dX3_part_0 rfl (lv_at hl 1 rfl) ?_
  refine lv_iconst (v := nZ 4) hx hb dX3_part_1 rfl ?_
  refine z_imul hx hb dX3_part_2 ?_
  refine lv_iload_n hx hb dX3_part_3 rfl (lv_at hl 2 rfl) ?_
  refine z_iadd hx hb dX3_part_4 ?_
  refine lv_iconst (v := nZ 3) hx hb dX3_part_5 rfl ?_
  refine z_imul hx hb dX3_part_6 ?_
  refine lv_iload_n hx hb dX3_part_7 rfl (lv_at hl 3 rfl) ?_
  refine z_iadd hx hb dX3_part_8 ?_
  refine z_topi (y := 12 * a + 3 * b + d) (by omega) ?_
  refine lv_istore (lv' := [(4, .int (nZ (12 * a + 3 * b + d))), (0, .ref h), (1, .int (nZ a)), (2, .int (nZ b)), (3, .int (nZ d))]) hx hb dX3_part_9 hl (by decide) rfl (fun ls hl => ?_)
  refine lv_iload hx hb dX3_part_11 (lv_at hl 0 rfl) ?_
  refine z_if_lt (tgt := 36) hx hb dX3_part_13 (by decide) (by omega) (fun c_13 => ?_) (fun c_13 => ?_)
  · refine lv_iconst (v := nZ 0) hx hb dX3_part_36 rfl ?_
    exact W.iret (v := nZ 0) hx hb hr (fun t9 ht9 _ => ⟨nZ 0, rfl, congrArg nZ (show (0 : Int) = if 0 ≤ 12 * a + 3 * b + d ∧ 12 * a + 3 * b + d < 48 then mp (12 * a + 3 * b + d) else 0 from (by first | (rw [if_pos (by omega)]; done) | (rw [if_neg (by omega)]; done))), ht9⟩) (fun _ h => by cases h) dX3_part_37
  · refine lv_iload hx hb dX3_part_16 (lv_at hl 0 rfl) ?_
    refine lv_aload_n hx hb dX3_part_18 rfl (lv_at hl 1 rfl) ?_
    refine va_get (D := D) (ci := 3) (v := .ref q2) (C := RX3) (T := TX3) (N := 2) hx hb hts iX3 hown hK hP 0 rfl rfl 1 (by decide) (hts (.fieldLink RX3 15 "RainTarget$Moods" "parts" "[I") (List.mem_of_getElem? (i := 1) rfl)) (fun _ h9 => h9) rfl dX3_part_19 ?_
    refine va_alen (v := nZ 48) hx hb hK hP 1 0 rfl rfl rfl dX3_part_22 ?_
    refine z_icmp_ge (tgt := 36) hx hb dX3_part_23 (by decide) (by omega) (by decide) (fun c_23 => ?_) (fun c_23 => ?_)
    · refine lv_iconst (v := nZ 0) hx hb dX3_part_36 rfl ?_
      exact W.iret (v := nZ 0) hx hb hr (fun t9 ht9 _ => ⟨nZ 0, rfl, congrArg nZ (show (0 : Int) = if 0 ≤ 12 * a + 3 * b + d ∧ 12 * a + 3 * b + d < 48 then mp (12 * a + 3 * b + d) else 0 from (by first | (rw [if_pos (by omega)]; done) | (rw [if_neg (by omega)]; done))), ht9⟩) (fun _ h => by cases h) dX3_part_37
    · refine lv_aload_n hx hb dX3_part_26 rfl (lv_at hl 1 rfl) ?_
      refine va_get (D := D) (ci := 3) (v := .ref q2) (C := RX3) (T := TX3) (N := 2) hx hb hts iX3 hown hK hP 0 rfl rfl 1 (by decide) (hts (.fieldLink RX3 15 "RainTarget$Moods" "parts" "[I") (List.mem_of_getElem? (i := 1) rfl)) (fun _ h9 => h9) rfl dX3_part_27 ?_
      refine lv_iload hx hb dX3_part_30 (lv_at hl 0 rfl) ?_
      refine z_iald hx hb hK hP 1 0 rfl rfl (by omega) (by omega) (by omega) dX3_part_32 ?_
      refine lv_goto (tgt := 37) hx hb dX3_part_33 (by decide) ?_
      exact W.iret (v := nZ (mp (12 * a + 3 * b + d))) hx hb hr (fun t9 ht9 _ => ⟨nZ (mp (12 * a + 3 * b + d)), rfl, congrArg nZ (show (mp (12 * a + 3 * b + d) : Int) = if 0 ≤ 12 * a + 3 * b + d ∧ 12 * a + 3 * b + d < 48 then mp (12 * a + 3 * b + d) else 0 from (by first | (rw [if_pos (by omega)]; done) | (rw [if_neg (by omega)]; done))), ht9⟩) (fun _ h => by cases h) dX3_part_37

set_option maxHeartbeats 4000000 in
set_option maxRecDepth 100000 in
theorem c_X0_mean (l : Launch) (D : va_G) (cI cJ : ClassId) (tn : Nat) (h : Nat) (q1 : Nat) (q2 : Nat) (q3 : Nat) (me : Int → Int) (a : Int) (b : Int) (ra : I32 a) (rb : I32 b)  : Met l yX0_mean wsX0_mean ({ frames := 1, cells := 0, slots := 0, locals := 22 } : Room) (va_Pc [.ref h, .int (nZ a), .int (nZ b)] (RoP D cI cJ tn [(h, .inr (0, [.ref q1, .ref q2, .ref q3])), (q2, .inl (cJ, 143, .inr (.inl (bZ me))))])) (vp_Sl (fun r9 : Int64 => r9 = lZ (if (0 ≤ a ∧ a ≤ 12) ∧ (0 ≤ b ∧ b ≤ 10) then me (a * 11 + b) else 0))) 0 0 (fun _ => False) := by
  refine Met.ofW (cc := cX0_mean) (maxL := 3) (ret := (some .long)) (by decide) rfl ?_
  intro p e s m args below meth c s₁ B hml hv
  obtain ⟨rfl, hE, hP⟩ := hv
  have hx := B.exec
  have hb := B.bytes
  have hr := B.returns
  have hts := atoms_spec (ws := wsX0_mean) B.pre
  have hown : s.vm.findClass RX0 = some m.cls := findClass_of_methodNamed B.named
  have hlocks := B.notSynchronized
  have hS : va_S (fun _ => False) s.heap s.heap [] := va_S.rf
  have hK := hE.1
  have hN := hE.2.1
  have hl := lv_entry ([.ref h, .int (nZ a), .int (nZ b)]) (n := 3) (Nat.le_of_ble_eq_true rfl)
  rw [lg_entry_eq]
  generalize (lg_sl ([.ref h, .int (nZ a), .int (nZ b)]) ++ List.replicate (3 - (lg_sl ([.ref h, .int (nZ a), .int (nZ b)])).length) Slot.unset).toArray = ls at hl ⊢
  have hl : lv_has ls 3 [(0, .ref h), (1, .int (nZ a)), (2, .int (nZ b))] := hl
  have iX0 : ∀ w ∈ u_ws RX0 TX0 3, w ∈ wsX0_mean := fun _ h => List.mem_cons_of_mem _ (List.mem_append_right _ h)
  refine lv_iload_n hx hb dX0_mean_0 rfl (lv_at hl 1 rfl) ?_
  refine lv_iconst (v := nZ 0) hx hb dX0_mean_1 rfl ?_
  refine lv_bipush (v := nZ 12) hx hb dX0_mean_2 (by decide) ?_
  refine vp_callSi ((va_runSN (As := [.int (nZ a), .int (nZ 0), .int (nZ 12)]) (rest := []) ⟨hx, hb, hml, hown, hts⟩ (c_X9_within l D cI cJ tn a 0 12 ra (by decide) (by decide) ) ⟨va_cnB 3 hts gX0_mean_X9_within_n38 rfl rfl rfl (nw_X0_38 hN) (hts (.initialized RX9) (List.mem_of_getElem? (i := 3) rfl)) (by decide +kernel) ⟨Nat.le_of_ble_eq_true rfl, Nat.le_of_ble_eq_true rfl⟩, (hts (.static yX9_within) (List.mem_of_getElem? (i := 2) rfl)), trivial⟩ ⟨RoP.blind, fun U hU hW => ⟨rfl, RoP.call hE hS (hP.sub (ws' := []) [] rfl) hU hW⟩⟩ rfl rfl hl.1 rfl (lv_room (Nat.le_of_ble_eq_true rfl)) dX0_mean_4 ⟨Nat.le_of_ble_eq_true rfl, Nat.le_of_ble_eq_true rfl⟩).run) (fun r4 hr4 => ?_)
  subst hr4
  refine z_nameI (fun r4 er4 => ?_)
  refine z_if_eq (tgt := 20) hx hb dX0_mean_7 (by decide) (by omega) (fun c_7 => ?_) (fun c_7 => ?_)
  · refine lv_lconst (v := lZ 0) hx hb dX0_mean_20 rfl ?_
    exact W.lret (v := lZ 0) hx hb hr (fun t9 ht9 _ => ⟨lZ 0, rfl, congrArg lZ (show (0 : Int) = if (0 ≤ a ∧ a ≤ 12) ∧ (0 ≤ b ∧ b ≤ 10) then me (a * 11 + b) else 0 from (by first | (rw [if_pos (by omega)]; done) | (rw [if_neg (by omega)]; done))), ht9⟩) (fun _ h => by cases h) dX0_mean_21
  · refine lv_iload_n hx hb dX0_mean_10 rfl (lv_at hl 2 rfl) ?_
    refine lv_iconst (v := nZ 0) hx hb dX0_mean_11 rfl ?_
    refine lv_bipush (v := nZ 10) hx hb dX0_mean_12 (by decide) ?_
    refine vp_callSi ((va_runSN (As := [.int (nZ b), .int (nZ 0), .int (nZ 10)]) (rest := []) ⟨hx, hb, hml, hown, hts⟩ (c_X9_within l D cI cJ tn b 0 10 rb (by decide) (by decide) ) ⟨va_cnB 3 hts gX0_mean_X9_within_n38 rfl rfl rfl (nw_X0_38 hN) (hts (.initialized RX9) (List.mem_of_getElem? (i := 3) rfl)) (by decide +kernel) ⟨Nat.le_of_ble_eq_true rfl, Nat.le_of_ble_eq_true rfl⟩, (hts (.static yX9_within) (List.mem_of_getElem? (i := 2) rfl)), trivial⟩ ⟨RoP.blind, fun U hU hW => ⟨rfl, RoP.call hE hS (hP.sub (ws' := []) [] rfl) hU hW⟩⟩ rfl rfl hl.1 rfl (lv_room (Nat.le_of_ble_eq_true rfl)) dX0_mean_14 ⟨Nat.le_of_ble_eq_true rfl, Nat.le_of_ble_eq_true rfl⟩).run) (fun r14 hr14 => ?_)
    subst hr14
    refine z_nameI (fun r14 er14 => ?_)
    refine z_if_ne (tgt := 22) hx hb dX0_mean_17 (by decide) (by omega) (fun c_17 => ?_) (fun c_17 => ?_)
    · refine lv_aload_n hx hb dX0_mean_22 rfl (lv_at hl 0 rfl) ?_
      refine va_get (D := D) (ci := 0) (v := .ref q2) (C := RX0) (T := TX0) (N := 3) hx hb hts iX0 hown hK hP 0 rfl rfl 1 (by decide) (hts (.fieldLink RX0 9 "RainTarget$Batting" "means" "[J") (List.mem_of_getElem? (i := 1) rfl)) (fun _ h9 => h9) rfl dX0_mean_23 ?_
      refine lv_iload_n hx hb dX0_mean_26 rfl (lv_at hl 1 rfl) ?_
      refine lv_bipush (v := nZ 11) hx hb dX0_mean_27 (by decide) ?_
      refine z_imul hx hb dX0_mean_29 ?_
      refine lv_iload_n hx hb dX0_mean_30 rfl (lv_at hl 2 rfl) ?_
      refine z_iadd hx hb dX0_mean_31 ?_
      refine z_lald hx hb hK hP 1 1 rfl rfl (by omega) (by omega) (by omega) dX0_mean_32 ?_
      exact W.lret (v := lZ (me ((a * 11) + b))) hx hb hr (fun t9 ht9 _ => ⟨lZ (me ((a * 11) + b)), rfl, congrArg lZ (show (me ((a * 11) + b) : Int) = if (0 ≤ a ∧ a ≤ 12) ∧ (0 ≤ b ∧ b ≤ 10) then me (a * 11 + b) else 0 from (by first | (rw [if_pos (by omega)]; done) | (rw [if_neg (by omega)]; done))), ht9⟩) (fun _ h => by cases h) dX0_mean_33
    · refine lv_lconst (v := lZ 0) hx hb dX0_mean_20 rfl ?_
      exact W.lret (v := lZ 0) hx hb hr (fun t9 ht9 _ => ⟨lZ 0, rfl, congrArg lZ (show (0 : Int) = if (0 ≤ a ∧ a ≤ 12) ∧ (0 ≤ b ∧ b ≤ 10) then me (a * 11 + b) else 0 from (by first | (rw [if_pos (by omega)]; done) | (rw [if_neg (by omega)]; done))), ht9⟩) (fun _ h => by cases h) dX0_mean_21

set_option maxHeartbeats 4000000 in
set_option maxRecDepth 100000 in
theorem c_X7_at (l : Launch) (D : va_G) (cI cJ : ClassId) (tn : Nat) (h : Nat) (q : Nat) (g : Int → Int) (len : Int) (a : Int) (rlen : I32 len) (ra : I32 a)  : Met l yX7_at wsX7_at ({ frames := 1, cells := 0, slots := 0, locals := 22 } : Room) (va_Pc [.ref h, .int (nZ a)] (RoP D cI cJ tn [(h, .inr (7, [.ref q, .int (nZ len)])), (q, .inl (cI, 200, .inl (aZ g)))])) (vp_Si (fun r9 : Int32 => r9 = nZ (if a < len ∧ 0 ≤ a ∧ a ≤ 199 then g a else -1))) 0 0 (fun _ => False) := by
  refine Met.ofW (cc := cX7_at) (maxL := 2) (ret := (some .int)) (by decide) rfl ?_
  intro p e s m args below meth c s₁ B hml hv
  obtain ⟨rfl, hE, hP⟩ := hv
  have hx := B.exec
  have hb := B.bytes
  have hr := B.returns
  have hts := atoms_spec (ws := wsX7_at) B.pre
  have hown : s.vm.findClass RX7 = some m.cls := findClass_of_methodNamed B.named
  have hlocks := B.notSynchronized
  have hS : va_S (fun _ => False) s.heap s.heap [] := va_S.rf
  have hK := hE.1
  have hN := hE.2.1
  have hl := lv_entry ([.ref h, .int (nZ a)]) (n := 2) (Nat.le_of_ble_eq_true rfl)
  rw [lg_entry_eq]
  generalize (lg_sl ([.ref h, .int (nZ a)]) ++ List.replicate (2 - (lg_sl ([.ref h, .int (nZ a)])).length) Slot.unset).toArray = ls at hl ⊢
  have hl : lv_has ls 2 [(0, .ref h), (1, .int (nZ a))] := hl
  have iX7 : ∀ w ∈ u_ws RX7 TX7 2, w ∈ wsX7_at := fun _ h => List.mem_cons_of_mem _ (List.mem_append_right _ h)
  refine lv_iload_n hx hb dX7_at_0 rfl (lv_at hl 1 rfl) ?_
  refine lv_aload_n hx hb dX7_at_1 rfl (lv_at hl 0 rfl) ?_
  refine va_get (D := D) (ci := 7) (v := .int (nZ len)) (C := RX7) (T := TX7) (N := 2) hx hb hts iX7 hown hK hP 0 rfl rfl 1 (by decide) (hts (.fieldLink RX7 15 "RainTarget$Text" "length" "I") (List.mem_of_getElem? (i := 1) rfl)) (fun _ h9 => h9) rfl dX7_at_2 ?_
  refine z_icmp_ge (tgt := 28) hx hb dX7_at_5 (by decide) (by omega) (by omega) (fun c_5 => ?_) (fun c_5 => ?_)
  · refine lv_iconst (v := nZ (-1)) hx hb dX7_at_28 rfl ?_
    exact W.iret (v := nZ (-1)) hx hb hr (fun t9 ht9 _ => ⟨nZ (-1), rfl, congrArg nZ (show (-1 : Int) = if a < len ∧ 0 ≤ a ∧ a ≤ 199 then g a else -1 from (by first | (rw [if_pos (by omega)]; done) | (rw [if_neg (by omega)]; done))), ht9⟩) (fun _ h => by cases h) dX7_at_29
  · refine lv_iload_n hx hb dX7_at_8 rfl (lv_at hl 1 rfl) ?_
    refine lv_iconst (v := nZ 0) hx hb dX7_at_9 rfl ?_
    refine lv_sipush (v := nZ 199) hx hb dX7_at_10 (by decide) ?_
    refine vp_callSi ((va_runSN (As := [.int (nZ a), .int (nZ 0), .int (nZ 199)]) (rest := []) ⟨hx, hb, hml, hown, hts⟩ (c_X9_within l D cI cJ tn a 0 199 ra (by decide) (by decide) ) ⟨va_cnB 3 hts gX7_at_X9_within_n19 rfl rfl rfl (nw_X7_19 hN) (hts (.initialized RX9) (List.mem_of_getElem? (i := 4) rfl)) (by decide +kernel) ⟨Nat.le_of_ble_eq_true rfl, Nat.le_of_ble_eq_true rfl⟩, (hts (.static yX9_within) (List.mem_of_getElem? (i := 3) rfl)), trivial⟩ ⟨RoP.blind, fun U hU hW => ⟨rfl, RoP.call hE hS (hP.sub (ws' := []) [] rfl) hU hW⟩⟩ rfl rfl hl.1 rfl (lv_room (Nat.le_of_ble_eq_true rfl)) dX7_at_13 ⟨Nat.le_of_ble_eq_true rfl, Nat.le_of_ble_eq_true rfl⟩).run) (fun r13 hr13 => ?_)
    subst hr13
    refine z_nameI (fun r13 er13 => ?_)
    refine z_if_eq (tgt := 28) hx hb dX7_at_16 (by decide) (by omega) (fun c_16 => ?_) (fun c_16 => ?_)
    · refine lv_iconst (v := nZ (-1)) hx hb dX7_at_28 rfl ?_
      exact W.iret (v := nZ (-1)) hx hb hr (fun t9 ht9 _ => ⟨nZ (-1), rfl, congrArg nZ (show (-1 : Int) = if a < len ∧ 0 ≤ a ∧ a ≤ 199 then g a else -1 from (by first | (rw [if_pos (by omega)]; done) | (rw [if_neg (by omega)]; done))), ht9⟩) (fun _ h => by cases h) dX7_at_29
    · refine lv_aload_n hx hb dX7_at_19 rfl (lv_at hl 0 rfl) ?_
      refine va_get (D := D) (ci := 7) (v := .ref q) (C := RX7) (T := TX7) (N := 2) hx hb hts iX7 hown hK hP 0 rfl rfl 0 (by decide) (hts (.fieldLink RX7 9 "RainTarget$Text" "bytes" "[I") (List.mem_of_getElem? (i := 2) rfl)) (fun _ h9 => h9) rfl dX7_at_20 ?_
      refine lv_iload_n hx hb dX7_at_23 rfl (lv_at hl 1 rfl) ?_
      refine z_iald hx hb hK hP 1 0 rfl rfl (by omega) (by omega) (by omega) dX7_at_24 ?_
      refine lv_goto (tgt := 29) hx hb dX7_at_25 (by decide) ?_
      exact W.iret (v := nZ (g a)) hx hb hr (fun t9 ht9 _ => ⟨nZ (g a), rfl, congrArg nZ (show (g a : Int) = if a < len ∧ 0 ≤ a ∧ a ≤ 199 then g a else -1 from (by first | (rw [if_pos (by omega)]; done) | (rw [if_neg (by omega)]; done))), ht9⟩) (fun _ h => by cases h) dX7_at_29

