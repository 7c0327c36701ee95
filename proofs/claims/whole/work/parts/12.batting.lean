set_option maxHeartbeats 4000000 in
set_option maxRecDepth 100000 in
theorem c_X3_part0 (l : Launch) (D : va_G) (cI cJ : ClassId) (tn : Nat) (h : Nat) (q1 : Nat) (q2 : Nat) (mp : Int → Int) (a : Int) (b : Int) (ha0 : 0 ≤ a) (ha3 : a < 4) (hb0 : 0 ≤ b) (hb3 : b < 4)  : Met l yX3_part wsX3_part ({ frames := 0, cells := 0, slots := 0, locals := 0 } : Room) (va_Pc [.ref h, .int (nZ a), .int (nZ b), .int (nZ 0)] (RoP D cI cJ tn [(h, .inr (3, [.ref q1, .ref q2])), (q2, .inl (cI, 48, .inl (aZ mp)))])) (vp_Si (fun r9 : Int32 => r9 = nZ (mp (12 * a + 3 * b)))) 0 0 (fun _ => False) := by
  refine Met.ofW (cc := cX3_part) (maxL := 5) (ret := (some .int)) (by decide) rfl ?_
  intro p e s m args below meth c s₁ B hml hv
  obtain ⟨rfl, hE, hP⟩ := hv
  have hx := B.exec
  have hb := B.bytes
  have hr := B.returns
  have hts := atoms_spec (ws := wsX3_part) B.pre
  have hown : s.vm.findClass RX3 = some m.cls := findClass_of_methodNamed B.named
  have hlocks := B.notSynchronized
  have hS : va_S (fun _ => False) s.heap s.heap [] := va_S.rf
  have hK := hE.1
  have hN := hE.2.1
  have hl := lv_entry ([.ref h, .int (nZ a), .int (nZ b), .int (nZ 0)]) (n := 5) (Nat.le_of_ble_eq_true rfl)
  rw [lg_entry_eq]
  generalize (lg_sl ([.ref h, .int (nZ a), .int (nZ b), .int (nZ 0)]) ++ List.replicate (5 - (lg_sl ([.ref h, .int (nZ a), .int (nZ b), .int (nZ 0)])).length) Slot.unset).toArray = ls at hl ⊢
  have hl : lv_has ls 5 [(0, .ref h), (1, .int (nZ a)), (2, .int (nZ b)), (3, .int (nZ 0))] := hl
  have iX3 : ∀ w ∈ u_ws RX3 TX3 2, w ∈ wsX3_part := fun _ h => List.mem_cons_of_mem _ (List.mem_append_right _ h)
  refine lv_iload_n hx hb dX3_part_0 rfl (lv_at hl 1 rfl) ?_
  refine lv_iconst (v := nZ 4) hx hb dX3_part_1 rfl ?_
  refine z_imul hx hb dX3_part_2 ?_
  refine lv_iload_n hx hb dX3_part_3 rfl (lv_at hl 2 rfl) ?_
  refine z_iadd hx hb dX3_part_4 ?_
  refine lv_iconst (v := nZ 3) hx hb dX3_part_5 rfl ?_
  refine z_imul hx hb dX3_part_6 ?_
  refine lv_iload_n hx hb dX3_part_7 rfl (lv_at hl 3 rfl) ?_
  refine z_iadd hx hb dX3_part_8 ?_
  refine z_topi (y := 12 * a + 3 * b) (by omega) ?_
  refine lv_istore (lv' := [(4, .int (nZ (12 * a + 3 * b))), (0, .ref h), (1, .int (nZ a)), (2, .int (nZ b)), (3, .int (nZ 0))]) hx hb dX3_part_9 hl (by decide) rfl (fun ls hl => ?_)
  refine lv_iload hx hb dX3_part_11 (lv_at hl 0 rfl) ?_
  refine z_if_lt (tgt := 36) hx hb dX3_part_13 (by decide) (by omega) (fun c_13 => ?_) (fun c_13 => ?_)
  · exfalso; omega
  · refine lv_iload hx hb dX3_part_16 (lv_at hl 0 rfl) ?_
    refine lv_aload_n hx hb dX3_part_18 rfl (lv_at hl 1 rfl) ?_
    refine va_get (D := D) (ci := 3) (v := .ref q2) (C := RX3) (T := TX3) (N := 2) hx hb hts iX3 hown hK hP 0 rfl rfl 1 (by decide) (hts (.fieldLink RX3 15 "RainTarget$Moods" "parts" "[I") (List.mem_of_getElem? (i := 1) rfl)) (fun _ h9 => h9) rfl dX3_part_19 ?_
    refine va_alen (v := nZ 48) hx hb hK hP 1 0 rfl rfl rfl dX3_part_22 ?_
    refine z_icmp_ge (tgt := 36) hx hb dX3_part_23 (by decide) (by omega) (by decide) (fun c_23 => ?_) (fun c_23 => ?_)
    · exfalso; omega
    · refine lv_aload_n hx hb dX3_part_26 rfl (lv_at hl 1 rfl) ?_
      refine va_get (D := D) (ci := 3) (v := .ref q2) (C := RX3) (T := TX3) (N := 2) hx hb hts iX3 hown hK hP 0 rfl rfl 1 (by decide) (hts (.fieldLink RX3 15 "RainTarget$Moods" "parts" "[I") (List.mem_of_getElem? (i := 1) rfl)) (fun _ h9 => h9) rfl dX3_part_27 ?_
      refine lv_iload hx hb dX3_part_30 (lv_at hl 0 rfl) ?_
      refine z_iald hx hb hK hP 1 0 rfl rfl (by omega) (by omega) (by omega) dX3_part_32 ?_
      refine lv_goto (tgt := 37) hx hb dX3_part_33 (by decide) ?_
      exact W.iret (v := nZ (mp (12 * a + 3 * b))) hx hb hr (fun t9 ht9 _ => ⟨nZ (mp (12 * a + 3 * b)), rfl, congrArg nZ (show (mp (12 * a + 3 * b) : Int) = mp (12 * a + 3 * b) from (by first | rfl | omega | (split <;> omega) | (simp_all; done))), ht9⟩) (fun _ h => by cases h) dX3_part_37

set_option maxHeartbeats 4000000 in
set_option maxRecDepth 100000 in
theorem c_X3_part1 (l : Launch) (D : va_G) (cI cJ : ClassId) (tn : Nat) (h : Nat) (q1 : Nat) (q2 : Nat) (mp : Int → Int) (a : Int) (b : Int) (ha0 : 0 ≤ a) (ha3 : a < 4) (hb0 : 0 ≤ b) (hb3 : b < 4)  : Met l yX3_part wsX3_part ({ frames := 0, cells := 0, slots := 0, locals := 0 } : Room) (va_Pc [.ref h, .int (nZ a), .int (nZ b), .int (nZ 1)] (RoP D cI cJ tn [(h, .inr (3, [.ref q1, .ref q2])), (q2, .inl (cI, 48, .inl (aZ mp)))])) (vp_Si (fun r9 : Int32 => r9 = nZ (mp (12 * a + 3 * b + 1)))) 0 0 (fun _ => False) := by
  refine Met.ofW (cc := cX3_part) (maxL := 5) (ret := (some .int)) (by decide) rfl ?_
  intro p e s m args below meth c s₁ B hml hv
  obtain ⟨rfl, hE, hP⟩ := hv
  have hx := B.exec
  have hb := B.bytes
  have hr := B.returns
  have hts := atoms_spec (ws := wsX3_part) B.pre
  have hown : s.vm.findClass RX3 = some m.cls := findClass_of_methodNamed B.named
  have hlocks := B.notSynchronized
  have hS : va_S (fun _ => False) s.heap s.heap [] := va_S.rf
  have hK := hE.1
  have hN := hE.2.1
  have hl := lv_entry ([.ref h, .int (nZ a), .int (nZ b), .int (nZ 1)]) (n := 5) (Nat.le_of_ble_eq_true rfl)
  rw [lg_entry_eq]
  generalize (lg_sl ([.ref h, .int (nZ a), .int (nZ b), .int (nZ 1)]) ++ List.replicate (5 - (lg_sl ([.ref h, .int (nZ a), .int (nZ b), .int (nZ 1)])).length) Slot.unset).toArray = ls at hl ⊢
  have hl : lv_has ls 5 [(0, .ref h), (1, .int (nZ a)), (2, .int (nZ b)), (3, .int (nZ 1))] := hl
  have iX3 : ∀ w ∈ u_ws RX3 TX3 2, w ∈ wsX3_part := fun _ h => List.mem_cons_of_mem _ (List.mem_append_right _ h)
  refine lv_iload_n hx hb dX3_part_0 rfl (lv_at hl 1 rfl) ?_
  refine lv_iconst (v := nZ 4) hx hb dX3_part_1 rfl ?_
  refine z_imul hx hb dX3_part_2 ?_
  refine lv_iload_n hx hb dX3_part_3 rfl (lv_at hl 2 rfl) ?_
  refine z_iadd hx hb dX3_part_4 ?_
  refine lv_iconst (v := nZ 3) hx hb dX3_part_5 rfl ?_
  refine z_imul hx hb dX3_part_6 ?_
  refine lv_iload_n hx hb dX3_part_7 rfl (lv_at hl 3 rfl) ?_
  refine z_iadd hx hb dX3_part_8 ?_
  refine z_topi (y := 12 * a + 3 * b + 1) (by omega) ?_
  refine lv_istore (lv' := [(4, .int (nZ (12 * a + 3 * b + 1))), (0, .ref h), (1, .int (nZ a)), (2, .int (nZ b)), (3, .int (nZ 1))]) hx hb dX3_part_9 hl (by decide) rfl (fun ls hl => ?_)
  refine lv_iload hx hb dX3_part_11 (lv_at hl 0 rfl) ?_
  refine z_if_lt (tgt := 36) hx hb dX3_part_13 (by decide) (by omega) (fun c_13 => ?_) (fun c_13 => ?_)
  · exfalso; omega
  · refine lv_iload hx hb dX3_part_16 (lv_at hl 0 rfl) ?_
    refine lv_aload_n hx hb dX3_part_18 rfl (lv_at hl 1 rfl) ?_
    refine va_get (D := D) (ci := 3) (v := .ref q2) (C := RX3) (T := TX3) (N := 2) hx hb hts iX3 hown hK hP 0 rfl rfl 1 (by decide) (hts (.fieldLink RX3 15 "RainTarget$Moods" "parts" "[I") (List.mem_of_getElem? (i := 1) rfl)) (fun _ h9 => h9) rfl dX3_part_19 ?_
    refine va_alen (v := nZ 48) hx hb hK hP 1 0 rfl rfl rfl dX3_part_22 ?_
    refine z_icmp_ge (tgt := 36) hx hb dX3_part_23 (by decide) (by omega) (by decide) (fun c_23 => ?_) (fun c_23 => ?_)
    · exfalso; omega
    · refine lv_aload_n hx hb dX3_part_26 rfl (lv_at hl 1 rfl) ?_
      refine va_get (D := D) (ci := 3) (v := .ref q2) (C := RX3) (T := TX3) (N := 2) hx hb hts iX3 hown hK hP 0 rfl rfl 1 (by decide) (hts (.fieldLink RX3 15 "RainTarget$Moods" "parts" "[I") (List.mem_of_getElem? (i := 1) rfl)) (fun _ h9 => h9) rfl dX3_part_27 ?_
      refine lv_iload hx hb dX3_part_30 (lv_at hl 0 rfl) ?_
      refine z_iald hx hb hK hP 1 0 rfl rfl (by omega) (by omega) (by omega) dX3_part_32 ?_
      refine lv_goto (tgt := 37) hx hb dX3_part_33 (by decide) ?_
      exact W.iret (v := nZ (mp (12 * a + 3 * b + 1))) hx hb hr (fun t9 ht9 _ => ⟨nZ (mp (12 * a + 3 * b + 1)), rfl, congrArg nZ (show (mp (12 * a + 3 * b + 1) : Int) = mp (12 * a + 3 * b + 1) from (by first | rfl | omega | (split <;> omega) | (simp_all; done))), ht9⟩) (fun _ h => by cases h) dX3_part_37

set_option maxHeartbeats 4000000 in
set_option maxRecDepth 100000 in
theorem c_X3_part2 (l : Launch) (D : va_G) (cI cJ : ClassId) (tn : Nat) (h : Nat) (q1 : Nat) (q2 : Nat) (mp : Int → Int) (a : Int) (b : Int) (ha0 : 0 ≤ a) (ha3 : a < 4) (hb0 : 0 ≤ b) (hb3 : b < 4)  : Met l yX3_part wsX3_part ({ frames := 0, cells := 0, slots := 0, locals := 0 } : Room) (va_Pc [.ref h, .int (nZ a), .int (nZ b), .int (nZ 2)] (RoP D cI cJ tn [(h, .inr (3, [.ref q1, .ref q2])), (q2, .inl (cI, 48, .inl (aZ mp)))])) (vp_Si (fun r9 : Int32 => r9 = nZ (mp (12 * a + 3 * b + 2)))) 0 0 (fun _ => False) := by
  refine Met.ofW (cc := cX3_part) (maxL := 5) (ret := (some .int)) (by decide) rfl ?_
  intro p e s m args below meth c s₁ B hml hv
  obtain ⟨rfl, hE, hP⟩ := hv
  have hx := B.exec
  have hb := B.bytes
  have hr := B.returns
  have hts := atoms_spec (ws := wsX3_part) B.pre
  have hown : s.vm.findClass RX3 = some m.cls := findClass_of_methodNamed B.named
  have hlocks := B.notSynchronized
  have hS : va_S (fun _ => False) s.heap s.heap [] := va_S.rf
  have hK := hE.1
  have hN := hE.2.1
  have hl := lv_entry ([.ref h, .int (nZ a), .int (nZ b), .int (nZ 2)]) (n := 5) (Nat.le_of_ble_eq_true rfl)
  rw [lg_entry_eq]
  generalize (lg_sl ([.ref h, .int (nZ a), .int (nZ b), .int (nZ 2)]) ++ List.replicate (5 - (lg_sl ([.ref h, .int (nZ a), .int (nZ b), .int (nZ 2)])).length) Slot.unset).toArray = ls at hl ⊢
  have hl : lv_has ls 5 [(0, .ref h), (1, .int (nZ a)), (2, .int (nZ b)), (3, .int (nZ 2))] := hl
  have iX3 : ∀ w ∈ u_ws RX3 TX3 2, w ∈ wsX3_part := fun _ h => List.mem_cons_of_mem _ (List.mem_append_right _ h)
  refine lv_iload_n hx hb dX3_part_0 rfl (lv_at hl 1 rfl) ?_
  refine lv_iconst (v := nZ 4) hx hb dX3_part_1 rfl ?_
  refine z_imul hx hb dX3_part_2 ?_
  refine lv_iload_n hx hb dX3_part_3 rfl (lv_at hl 2 rfl) ?_
  refine z_iadd hx hb dX3_part_4 ?_
  refine lv_iconst (v := nZ 3) hx hb dX3_part_5 rfl ?_
  refine z_imul hx hb dX3_part_6 ?_
  refine lv_iload_n hx hb dX3_part_7 rfl (lv_at hl 3 rfl) ?_
  refine z_iadd hx hb dX3_part_8 ?_
  refine z_topi (y := 12 * a + 3 * b + 2) (by omega) ?_
  refine lv_istore (lv' := [(4, .int (nZ (12 * a + 3 * b + 2))), (0, .ref h), (1, .int (nZ a)), (2, .int (nZ b)), (3, .int (nZ 2))]) hx hb dX3_part_9 hl (by decide) rfl (fun ls hl => ?_)
  refine lv_iload hx hb dX3_part_11 (lv_at hl 0 rfl) ?_
  refine z_if_lt (tgt := 36) hx hb dX3_part_13 (by decide) (by omega) (fun c_13 => ?_) (fun c_13 => ?_)
  · exfalso; omega
  · refine lv_iload hx hb dX3_part_16 (lv_at hl 0 rfl) ?_
    refine lv_aload_n hx hb dX3_part_18 rfl (lv_at hl 1 rfl) ?_
    refine va_get (D := D) (ci := 3) (v := .ref q2) (C := RX3) (T := TX3) (N := 2) hx hb hts iX3 hown hK hP 0 rfl rfl 1 (by decide) (hts (.fieldLink RX3 15 "RainTarget$Moods" "parts" "[I") (List.mem_of_getElem? (i := 1) rfl)) (fun _ h9 => h9) rfl dX3_part_19 ?_
    refine va_alen (v := nZ 48) hx hb hK hP 1 0 rfl rfl rfl dX3_part_22 ?_
    refine z_icmp_ge (tgt := 36) hx hb dX3_part_23 (by decide) (by omega) (by decide) (fun c_23 => ?_) (fun c_23 => ?_)
    · exfalso; omega
    · refine lv_aload_n hx hb dX3_part_26 rfl (lv_at hl 1 rfl) ?_
      refine va_get (D := D) (ci := 3) (v := .ref q2) (C := RX3) (T := TX3) (N := 2) hx hb hts iX3 hown hK hP 0 rfl rfl 1 (by decide) (hts (.fieldLink RX3 15 "RainTarget$Moods" "parts" "[I") (List.mem_of_getElem? (i := 1) rfl)) (fun _ h9 => h9) rfl dX3_part_27 ?_
      refine lv_iload hx hb dX3_part_30 (lv_at hl 0 rfl) ?_
      refine z_iald hx hb hK hP 1 0 rfl rfl (by omega) (by omega) (by omega) dX3_part_32 ?_
      refine lv_goto (tgt := 37) hx hb dX3_part_33 (by decide) ?_
      exact W.iret (v := nZ (mp (12 * a + 3 * b + 2))) hx hb hr (fun t9 ht9 _ => ⟨nZ (mp (12 * a + 3 * b + 2)), rfl, congrArg nZ (show (mp (12 * a + 3 * b + 2) : Int) = mp (12 * a + 3 * b + 2) from (by first | rfl | omega | (split <;> omega) | (simp_all; done))), ht9⟩) (fun _ h => by cases h) dX3_part_37

theorem MKin_s {cs mp : Int → Int} : True := trivial
def mkT (cs mp : Int → Int) (m : Int) (u : Nat) (v : Int) : Int → Int := fun i => mp (12 * m + 3 * i + 2) * (mp (12 * m + 3 * i) * (10 : Int) ^ u + MK cs mp u (v - mp (12 * m + 3 * i + 1)))
def wnT (cs mp : Int → Int) (m : Int) (u : Nat) (v n : Int) : Int → Int := fun i => mp (12 * m + 3 * i + 2) * WN cs mp u (v - mp (12 * m + 3 * i + 1)) (n - mp (12 * m + 3 * i))
theorem sumN_s0 (f : Int → Int) {j : Int} (h : 0 ≤ j) : sumN f (j + 1).toNat = sumN f j.toNat + f j := by
  rw [toN_s h]; show sumN f j.toNat + f (j.toNat : Int) = _; rw [Int.toNat_of_nonneg h]
set_option maxHeartbeats 4000000 in
set_option maxRecDepth 100000 in
theorem c_X0_meanIn (l : Launch) (D : va_G) (cI cJ : ClassId) (tn : Nat) (h : Nat) (q1 : Nat) (q2 : Nat) (q3 : Nat) (p1 : Nat) (p2 : Nat) (me : Int → Int) (cs : Int → Int) (mp : Int → Int) (a : Int) (u : Int) (v : Int) (hM : MoodOK cs mp) (ha0 : 0 ≤ a) (ha4 : a < 4) (hu1 : 1 ≤ u) (hu2 : u ≤ 12) (hv1 : 1 ≤ v) (hv2 : v ≤ 10) (hme : ∀ w, 0 ≤ w → w ≤ 10 → me ((u - 1) * 11 + w) = MK cs mp (u - 1).toNat w)  : Met l yX0_meanIn wsX0_meanIn ({ frames := 2, cells := 0, slots := 0, locals := 44 } : Room) (va_Pc [.ref h, .int (nZ a), .int (nZ u), .int (nZ v)] (RoP D cI cJ tn [(h, .inr (0, [.ref q1, .ref q2, .ref q3])), (q2, .inl (cJ, 143, .inr (.inl (bZ me)))), (q1, .inr (3, [.ref p1, .ref p2])), (p1, .inl (cI, 4, .inl (aZ cs))), (p2, .inl (cI, 48, .inl (aZ mp)))])) (vp_Sl (fun r9 : Int64 => r9 = lZ (MKin cs mp a (u - 1).toNat v))) 0 0 (fun _ => False) := by
  refine Met.ofW (cc := cX0_meanIn) (maxL := 11) (ret := (some .long)) (by decide) rfl ?_
  intro p e s m args below meth c s₁ B hml hv
  obtain ⟨rfl, hE, hP⟩ := hv
  have hx := B.exec
  have hb := B.bytes
  have hr := B.returns
  have hts := atoms_spec (ws := wsX0_meanIn) B.pre
  have hown : s.vm.findClass RX0 = some m.cls := findClass_of_methodNamed B.named
  have hlocks := B.notSynchronized
  have hS : va_S (fun _ => False) s.heap s.heap [] := va_S.rf
  have hK := hE.1
  have hN := hE.2.1
  have hl := lv_entry ([.ref h, .int (nZ a), .int (nZ u), .int (nZ v)]) (n := 11) (Nat.le_of_ble_eq_true rfl)
  rw [lg_entry_eq]
  generalize (lg_sl ([.ref h, .int (nZ a), .int (nZ u), .int (nZ v)]) ++ List.replicate (11 - (lg_sl ([.ref h, .int (nZ a), .int (nZ u), .int (nZ v)])).length) Slot.unset).toArray = ls at hl ⊢
  have hl : lv_has ls 11 [(0, .ref h), (1, .int (nZ a)), (2, .int (nZ u)), (3, .int (nZ v))] := hl
  have iX0 : ∀ w ∈ u_ws RX0 TX0 3, w ∈ wsX0_meanIn := fun _ h => List.mem_cons_of_mem _ (List.mem_append_left _ (List.mem_append_right _ h))
  refine lv_lconst (v := lZ 0) hx hb dX0_meanIn_0 rfl ?_
  refine lv_lstore (lv' := [(4, .long (lZ 0)), (0, .ref h), (1, .int (nZ a)), (2, .int (nZ u)), (3, .int (nZ v))]) hx hb dX0_meanIn_1 hl (by decide) rfl (fun ls hl => ?_)
  refine lv_iconst (v := nZ 0) hx hb dX0_meanIn_3 rfl ?_
  refine lv_istore (lv' := [(6, .int (nZ 0)), (4, .long (lZ 0)), (0, .ref h), (1, .int (nZ a)), (2, .int (nZ u)), (3, .int (nZ v))]) hx hb dX0_meanIn_4 hl (by decide) rfl (fun ls hl => ?_)
  refine z_rloop2 (fun (k : Int) (i : Int) => (0 ≤ i) ∧ (i ≤ cs a) ∧ (k = sumN (mkT cs mp a (u - 1).toNat v) i.toNat)) (fun (k : Int) (i : Int) => (cs a - i).toNat) (fun (k : Int) (i : Int) => [(0, .ref h), (1, .int (nZ a)), (2, .int (nZ u)), (3, .int (nZ v)), (4, .long (lZ k)), (6, .int (nZ i))]) ?_ 0 0 ⟨(by first | assumption | omega), (hM a ha0 ha4).1.1, rfl⟩ (lv_sub hl [2, 3, 4, 5, 1, 0] rfl)
  intro k i hI6 ih6 ls hl
  have hl : lv_has ls 11 [(0, .ref h), (1, .int (nZ a)), (2, .int (nZ u)), (3, .int (nZ v)), (4, .long (lZ k)), (6, .int (nZ i))] := hl
  obtain ⟨hi0, hi1, hk⟩ : (0 ≤ i) ∧ (i ≤ cs a) ∧ (k = sumN (mkT cs mp a (u - 1).toNat v) i.toNat) := hI6
  have hca := (hM a ha0 ha4).1
  refine lv_iload hx hb dX0_meanIn_6 (lv_at hl 5 rfl) ?_
  refine lv_aload_n hx hb dX0_meanIn_8 rfl (lv_at hl 0 rfl) ?_
  refine va_get (D := D) (ci := 0) (v := .ref q1) (C := RX0) (T := TX0) (N := 3) hx hb hts iX0 hown hK hP 0 rfl rfl 0 (by decide) (hts (.fieldLink RX0 18 "RainTarget$Batting" "moods" "LRainTarget$Moods;") (List.mem_of_getElem? (i := 1) rfl)) (fun _ h9 => h9) rfl dX0_meanIn_9 ?_
  refine lv_iload_n hx hb dX0_meanIn_12 rfl (lv_at hl 1 rfl) ?_
  refine vp_callSi ((va_runVN (As := [.int (nZ a)]) (rest := [.int (nZ i)]) ⟨hx, hb, hml, hown, hts⟩ (c_X3_size l D cI cJ tn q1 p1 p2 cs a (by omega) ) ⟨va_cnB 1 hts gX0_meanIn_X3_size_n42 rfl rfl rfl (nw_X0_42 hN) (hts (.initialized RX3) (List.mem_of_getElem? (i := 3) rfl)) (by decide +kernel) ⟨Nat.le_of_ble_eq_true rfl, Nat.le_of_ble_eq_true rfl⟩, (hts (.instanceMethod yX3_size) (List.mem_of_getElem? (i := 2) rfl)), (hts (.selects RX3 yX3_size yX3_size) (List.mem_of_getElem? (i := 4) rfl))⟩ ⟨RoP.blind, va_recv hK hP (ci := 3) (q0 := 2) rfl rfl, fun U hU hW => ⟨rfl, RoP.call hE hS (hP.sub (ws' := [(q1, .inr (3, [.ref p1, .ref p2])), (p1, .inl (cI, 4, .inl (aZ cs)))]) [2, 3] rfl) hU hW⟩⟩ rfl rfl hl.1 rfl (lv_room (Nat.le_of_ble_eq_true rfl)) dX0_meanIn_13 ⟨Nat.le_of_ble_eq_true rfl, Nat.le_of_ble_eq_true rfl⟩).run) (fun r13 hr13 => ?_)
  subst hr13
  refine z_nameI (fun r13 er13 => ?_)
  refine z_icmp_ge (tgt := 91) hx hb dX0_meanIn_16 (by decide) (by omega) (by omega) (fun c_16 => ?_) (fun c_16 => ?_)
  · refine lv_lload hx hb dX0_meanIn_91 (lv_at hl 4 rfl) ?_
    exact W.lret (v := lZ k) hx hb hr (fun t9 ht9 _ => ⟨lZ k, rfl, congrArg lZ (show (k : Int) = MKin cs mp a (u - 1).toNat v from (by rw [hk, show i = cs a from by omega]; rfl)), ht9⟩) (fun _ h => by cases h) dX0_meanIn_93
  · have hi2 : i < cs a := by omega
    have hcase := (hM a ha0 ha4).2.1 i hi0 hi2
    refine lv_aload_n hx hb dX0_meanIn_19 rfl (lv_at hl 0 rfl) ?_
    refine va_get (D := D) (ci := 0) (v := .ref q1) (C := RX0) (T := TX0) (N := 3) hx hb hts iX0 hown hK hP 0 rfl rfl 0 (by decide) (hts (.fieldLink RX0 18 "RainTarget$Batting" "moods" "LRainTarget$Moods;") (List.mem_of_getElem? (i := 1) rfl)) (fun _ h9 => h9) rfl dX0_meanIn_20 ?_
    refine lv_iload_n hx hb dX0_meanIn_23 rfl (lv_at hl 1 rfl) ?_
    refine lv_iload hx hb dX0_meanIn_24 (lv_at hl 5 rfl) ?_
    refine lv_iconst (v := nZ 0) hx hb dX0_meanIn_26 rfl ?_
    refine vp_callSi ((va_runVN (As := [.int (nZ a), .int (nZ i), .int (nZ 0)]) (rest := []) ⟨hx, hb, hml, hown, hts⟩ (c_X3_part0 l D cI cJ tn q1 p1 p2 mp a i ha0 ha4 (by first | assumption | omega) (by first | assumption | omega) ) ⟨va_cnB 3 hts gX0_meanIn_X3_part_n48 rfl rfl rfl (nw_X0_48 hN) (hts (.initialized RX3) (List.mem_of_getElem? (i := 3) rfl)) (by decide +kernel) ⟨Nat.le_of_ble_eq_true rfl, Nat.le_of_ble_eq_true rfl⟩, (hts (.instanceMethod yX3_part) (List.mem_of_getElem? (i := 7) rfl)), (hts (.selects RX3 yX3_part yX3_part) (List.mem_of_getElem? (i := 8) rfl))⟩ ⟨RoP.blind, va_recv hK hP (ci := 3) (q0 := 2) rfl rfl, fun U hU hW => ⟨rfl, RoP.call hE hS (hP.sub (ws' := [(q1, .inr (3, [.ref p1, .ref p2])), (p2, .inl (cI, 48, .inl (aZ mp)))]) [2, 4] rfl) hU hW⟩⟩ rfl rfl hl.1 rfl (lv_room (Nat.le_of_ble_eq_true rfl)) dX0_meanIn_27 ⟨Nat.le_of_ble_eq_true rfl, Nat.le_of_ble_eq_true rfl⟩).run) (fun r27 hr27 => ?_)
    subst hr27
    refine z_nameI (fun r27 er27 => ?_)
    refine z_i2l hx hb dX0_meanIn_30 (by omega) ?_
    refine lv_iload_n hx hb dX0_meanIn_31 rfl (lv_at hl 2 rfl) ?_
    refine lv_iconst (v := nZ 1) hx hb dX0_meanIn_32 rfl ?_
    refine z_isub hx hb dX0_meanIn_33 ?_
    refine vp_callSl ((va_runSN (As := [.int (nZ (u - 1))]) (rest := [.long (lZ r27)]) ⟨hx, hb, hml, hown, hts⟩ (c_X9_power l D cI cJ tn (u - 1) (by omega) ) ⟨va_cnB 1 hts gX0_meanIn_X9_power_n52 rfl rfl rfl (nw_X0_52 hN) (hts (.initialized RX9) (List.mem_of_getElem? (i := 12) rfl)) (by decide +kernel) ⟨Nat.le_of_ble_eq_true rfl, Nat.le_of_ble_eq_true rfl⟩, (hts (.static yX9_power) (List.mem_of_getElem? (i := 11) rfl)), trivial⟩ ⟨RoP.blind, fun U hU hW => ⟨rfl, RoP.call hE hS (hP.sub (ws' := []) [] rfl) hU hW⟩⟩ rfl rfl hl.1 rfl (lv_room (Nat.le_of_ble_eq_true rfl)) dX0_meanIn_34 ⟨Nat.le_of_ble_eq_true rfl, Nat.le_of_ble_eq_true rfl⟩).run) (fun r34 hr34 => ?_)
    subst hr34
    refine z_nameL (fun r34 er34 => ?_)
    refine z_lmul hx hb dX0_meanIn_37 ?_
    refine lv_lstore (lv' := [(7, .long (lZ (r27 * r34))), (0, .ref h), (1, .int (nZ a)), (2, .int (nZ u)), (3, .int (nZ v)), (4, .long (lZ k)), (6, .int (nZ i))]) hx hb dX0_meanIn_38 hl (by decide) rfl (fun ls hl => ?_)
    refine lv_aload_n hx hb dX0_meanIn_40 rfl (lv_at hl 1 rfl) ?_
    refine lv_iload_n hx hb dX0_meanIn_41 rfl (lv_at hl 3 rfl) ?_
    refine lv_iconst (v := nZ 1) hx hb dX0_meanIn_42 rfl ?_
    refine z_isub hx hb dX0_meanIn_43 ?_
    refine lv_iload_n hx hb dX0_meanIn_44 rfl (lv_at hl 4 rfl) ?_
    refine lv_aload_n hx hb dX0_meanIn_45 rfl (lv_at hl 1 rfl) ?_
    refine va_get (D := D) (ci := 0) (v := .ref q1) (C := RX0) (T := TX0) (N := 3) hx hb hts iX0 hown hK hP 0 rfl rfl 0 (by decide) (hts (.fieldLink RX0 18 "RainTarget$Batting" "moods" "LRainTarget$Moods;") (List.mem_of_getElem? (i := 1) rfl)) (fun _ h9 => h9) rfl dX0_meanIn_46 ?_
    refine lv_iload_n hx hb dX0_meanIn_49 rfl (lv_at hl 2 rfl) ?_
    refine lv_iload hx hb dX0_meanIn_50 (lv_at hl 6 rfl) ?_
    refine lv_iconst (v := nZ 1) hx hb dX0_meanIn_52 rfl ?_
    refine vp_callSi ((va_runVN (As := [.int (nZ a), .int (nZ i), .int (nZ 1)]) (rest := [.int (nZ v), .int (nZ (u - 1)), .ref h]) ⟨hx, hb, hml, hown, hts⟩ (c_X3_part1 l D cI cJ tn q1 p1 p2 mp a i ha0 ha4 (by first | assumption | omega) (by first | assumption | omega) ) ⟨va_cnB 3 hts gX0_meanIn_X3_part_n48 rfl rfl rfl (nw_X0_48 hN) (hts (.initialized RX3) (List.mem_of_getElem? (i := 3) rfl)) (by decide +kernel) ⟨Nat.le_of_ble_eq_true rfl, Nat.le_of_ble_eq_true rfl⟩, (hts (.instanceMethod yX3_part) (List.mem_of_getElem? (i := 7) rfl)), (hts (.selects RX3 yX3_part yX3_part) (List.mem_of_getElem? (i := 8) rfl))⟩ ⟨RoP.blind, va_recv hK hP (ci := 3) (q0 := 2) rfl rfl, fun U hU hW => ⟨rfl, RoP.call hE hS (hP.sub (ws' := [(q1, .inr (3, [.ref p1, .ref p2])), (p2, .inl (cI, 48, .inl (aZ mp)))]) [2, 4] rfl) hU hW⟩⟩ rfl rfl hl.1 rfl (lv_room (Nat.le_of_ble_eq_true rfl)) dX0_meanIn_53 ⟨Nat.le_of_ble_eq_true rfl, Nat.le_of_ble_eq_true rfl⟩).run) (fun r53 hr53 => ?_)
    subst hr53
    refine z_nameI (fun r53 er53 => ?_)
    refine z_isub hx hb dX0_meanIn_56 ?_
    refine vp_callSl ((va_runV (As := [.int (nZ (u - 1)), .int (nZ (v - r53))]) (rest := []) ⟨hx, hb, hml, hown, hts⟩ (c_X0_mean l D cI cJ tn h q1 q2 q3 me (u - 1) (v - r53) (by omega) (by omega) ) (cwV 2 hts gX0_meanIn_X0_mean rfl rfl rfl (by decide +kernel) ⟨Nat.le_of_ble_eq_true rfl, Nat.le_of_ble_eq_true rfl⟩) ⟨RoP.blind, va_recv hK hP (ci := 0) (q0 := 0) rfl rfl, fun U hU hW => ⟨rfl, RoP.call hE hS (hP.sub (ws' := [(h, .inr (0, [.ref q1, .ref q2, .ref q3])), (q2, .inl (cJ, 143, .inr (.inl (bZ me))))]) [0, 1] rfl) hU hW⟩⟩ rfl rfl hl.1 rfl (lv_room (Nat.le_of_ble_eq_true rfl)) dX0_meanIn_57 ⟨Nat.le_of_ble_eq_true rfl, Nat.le_of_ble_eq_true rfl⟩).run) (fun r57 hr57 => ?_)
    subst hr57
    refine z_nameL (fun r57 er57 => ?_)
    refine lv_lstore (lv' := [(9, .long (lZ r57)), (7, .long (lZ (r27 * r34))), (0, .ref h), (1, .int (nZ a)), (2, .int (nZ u)), (3, .int (nZ v)), (4, .long (lZ k)), (6, .int (nZ i))]) hx hb dX0_meanIn_60 hl (by decide) rfl (fun ls hl => ?_)
    have hlater : r57 = MK cs mp (u - 1).toNat (v - mp (12 * a + 3 * i + 1)) := by
      rw [er57, er53]
      by_cases q : 0 ≤ v - mp (12 * a + 3 * i + 1)
      · rw [if_pos (by omega), hme _ q (by omega)]
      · rw [if_neg (by omega)]; exact (MK_men cs mp _ (by omega)).symm
    refine lv_lload hx hb dX0_meanIn_62 (lv_at hl 6 rfl) ?_
    refine lv_aload_n hx hb dX0_meanIn_64 rfl (lv_at hl 2 rfl) ?_
    refine va_get (D := D) (ci := 0) (v := .ref q1) (C := RX0) (T := TX0) (N := 3) hx hb hts iX0 hown hK hP 0 rfl rfl 0 (by decide) (hts (.fieldLink RX0 18 "RainTarget$Batting" "moods" "LRainTarget$Moods;") (List.mem_of_getElem? (i := 1) rfl)) (fun _ h9 => h9) rfl dX0_meanIn_65 ?_
    refine lv_iload_n hx hb dX0_meanIn_68 rfl (lv_at hl 3 rfl) ?_
    refine lv_iload hx hb dX0_meanIn_69 (lv_at hl 7 rfl) ?_
    refine lv_iconst (v := nZ 2) hx hb dX0_meanIn_71 rfl ?_
    refine vp_callSi ((va_runVN (As := [.int (nZ a), .int (nZ i), .int (nZ 2)]) (rest := [.long (lZ k)]) ⟨hx, hb, hml, hown, hts⟩ (c_X3_part2 l D cI cJ tn q1 p1 p2 mp a i ha0 ha4 (by first | assumption | omega) (by first | assumption | omega) ) ⟨va_cnB 3 hts gX0_meanIn_X3_part_n48 rfl rfl rfl (nw_X0_48 hN) (hts (.initialized RX3) (List.mem_of_getElem? (i := 3) rfl)) (by decide +kernel) ⟨Nat.le_of_ble_eq_true rfl, Nat.le_of_ble_eq_true rfl⟩, (hts (.instanceMethod yX3_part) (List.mem_of_getElem? (i := 7) rfl)), (hts (.selects RX3 yX3_part yX3_part) (List.mem_of_getElem? (i := 8) rfl))⟩ ⟨RoP.blind, va_recv hK hP (ci := 3) (q0 := 2) rfl rfl, fun U hU hW => ⟨rfl, RoP.call hE hS (hP.sub (ws' := [(q1, .inr (3, [.ref p1, .ref p2])), (p2, .inl (cI, 48, .inl (aZ mp)))]) [2, 4] rfl) hU hW⟩⟩ rfl rfl hl.1 rfl (lv_room (Nat.le_of_ble_eq_true rfl)) dX0_meanIn_72 ⟨Nat.le_of_ble_eq_true rfl, Nat.le_of_ble_eq_true rfl⟩).run) (fun r72 hr72 => ?_)
    subst hr72
    refine z_nameI (fun r72 er72 => ?_)
    refine z_i2l hx hb dX0_meanIn_75 (by omega) ?_
    refine lv_lload hx hb dX0_meanIn_76 (lv_at hl 1 rfl) ?_
    refine lv_lload hx hb dX0_meanIn_78 (lv_at hl 0 rfl) ?_
    refine z_ladd hx hb dX0_meanIn_80 ?_
    refine z_lmul hx hb dX0_meanIn_81 ?_
    refine z_ladd hx hb dX0_meanIn_82 ?_
    refine lv_lstore (lv' := [(4, .long (lZ (k + (r72 * ((r27 * r34) + r57))))), (9, .long (lZ r57)), (7, .long (lZ (r27 * r34))), (0, .ref h), (1, .int (nZ a)), (2, .int (nZ u)), (3, .int (nZ v)), (6, .int (nZ i))]) hx hb dX0_meanIn_83 hl (by decide) rfl (fun ls hl => ?_)
    have hterm : r72 * (r27 * r34 + r57) = mkT cs mp a (u - 1).toNat v i := by
      unfold mkT
      rw [er72, er27, er34, if_pos (by omega), hlater]
    refine lv_iinc (v := nZ (i + 1)) (lv' := [(6, .int (nZ (i + 1))), (4, .long (lZ (k + (r72 * ((r27 * r34) + r57))))), (9, .long (lZ r57)), (7, .long (lZ (r27 * r34))), (0, .ref h), (1, .int (nZ a)), (2, .int (nZ u)), (3, .int (nZ v))]) hx hb dX0_meanIn_85 hl (k := 7) rfl (nZ_add _ _) (by decide) rfl (fun ls hl => ?_)
    refine lv_goto (tgt := 6) hx hb dX0_meanIn_88 (by decide) ?_
    exact ih6 (k + (r72 * ((r27 * r34) + r57))) (i + 1) ⟨(by first | assumption | omega), (by first | assumption | omega), (by rw [sumN_s0 _ hi0, hk, ← hterm])⟩ (show (cs a - (i + 1)).toNat < (cs a - i).toNat from by omega) ls (lv_sub hl [4, 5, 6, 7, 1, 0] rfl)

theorem mxF_s (f : Int → Int) {j : Int} (h : 0 ≤ j) : mxF f (j + 1).toNat = if mxF f j.toNat < f j then f j else mxF f j.toNat := by
  rw [toN_s h]; show (if mxF f j.toNat < f (j.toNat : Int) then f (j.toNat : Int) else mxF f j.toNat) = _; rw [Int.toNat_of_nonneg h]
def RC (k : Nat) : Room := { frames := 2 * k + 3, cells := 0, slots := 0, locals := 60 * k + 100 }
def RCI (k : Nat) : Room := { frames := 2 * k + 2, cells := 0, slots := 0, locals := 60 * k + 70 }
theorem p10_12 {k : Nat} (h : k ≤ 12) : (10 : Int) ^ k ≤ 1000000000000 := p10_le h
theorem WN_top {cs mp : Int → Int} (hM : MoodOK cs mp) {k : Nat} (h : k ≤ 12) (v n : Int) : WN cs mp k v n ≤ 1000000000000 := Int.le_trans (WN_le hM k v n) (p10_12 h)
theorem WNin_top {cs mp : Int → Int} (hM : MoodOK cs mp) {k : Nat} (h1 : 1 ≤ k) (h : k ≤ 12) {m : Int} (h0 : 0 ≤ m) (h4 : m < 4) (v n : Int) : WNin cs mp m (k - 1) v n ≤ 1000000000000 := by
  have := WNin_le hM h0 h4 (k - 1) v n
  rw [show k - 1 + 1 = k by omega] at this
  exact Int.le_trans this (p10_12 h)
def ChC (l : Launch) (D : va_G) (cI cJ : ClassId) (tn : Nat) (h : Nat) (q1 : Nat) (q2 : Nat) (q3 : Nat) (p1 : Nat) (p2 : Nat) (cs : Int → Int) (mp : Int → Int) (k : Nat) : Prop := ∀ (sz : Nat) (ch : Int → Int) (v : Int) (n : Int), (MoodOK cs mp) → (k ≤ 12) → (MemoOK cs mp ch) → (-100 ≤ v) → (v ≤ 10) → (-1000 ≤ n) → (n ≤ 100000) → Met l yX0_chance wsX0_chance (RC k) (va_Pc [.ref h, .int (nZ (k : Int)), .int (nZ v), .int (nZ n)] (WrP D cI cJ tn [(h, .inr (0, [.ref q1, .ref q2, .ref q3])), (q3, .inl (cJ, 28080, .inr (.inl (bZ ch)))), (q1, .inr (3, [.ref p1, .ref p2])), (p1, .inl (cI, 4, .inl (aZ cs))), (p2, .inl (cI, 48, .inl (aZ mp)))] sz)) (va_Ql (fun (r9 : Int64) (u9 : (Int → Int)) => r9 = lZ (WN cs mp k v n) ∧ MemoOK cs mp u9) (fun u9 t9 => WrQ D (va_A [(h, .inr (0, [.ref q1, .ref q2, .ref q3])), (q3, .inl (cJ, 28080, .inr (.inl (bZ ch)))), (q1, .inr (3, [.ref p1, .ref p2])), (p1, .inl (cI, 4, .inl (aZ cs))), (p2, .inl (cI, 48, .inl (aZ mp)))] sz) [(h, .inr (0, [.ref q1, .ref q2, .ref q3])), (q3, .inl (cJ, 28080, .inr (.inl (bZ u9)))), (q1, .inr (3, [.ref p1, .ref p2])), (p1, .inl (cI, 4, .inl (aZ cs))), (p2, .inl (cI, 48, .inl (aZ mp)))] t9) (va_A [(h, .inr (0, [.ref q1, .ref q2, .ref q3])), (q3, .inl (cJ, 28080, .inr (.inl (bZ ch)))), (q1, .inr (3, [.ref p1, .ref p2])), (p1, .inl (cI, 4, .inl (aZ cs))), (p2, .inl (cI, 48, .inl (aZ mp)))] sz)) 0 0 (va_A [(h, .inr (0, [.ref q1, .ref q2, .ref q3])), (q3, .inl (cJ, 28080, .inr (.inl (bZ ch)))), (q1, .inr (3, [.ref p1, .ref p2])), (p1, .inl (cI, 4, .inl (aZ cs))), (p2, .inl (cI, 48, .inl (aZ mp)))] sz)
def ChIC (l : Launch) (D : va_G) (cI cJ : ClassId) (tn : Nat) (h : Nat) (q1 : Nat) (q2 : Nat) (q3 : Nat) (p1 : Nat) (p2 : Nat) (cs : Int → Int) (mp : Int → Int) (k : Nat) : Prop := ∀ (sz : Nat) (ch : Int → Int) (a : Int) (v : Int) (n : Int), (MoodOK cs mp) → (1 ≤ k) → (k ≤ 12) → (MemoOK cs mp ch) → (0 ≤ a) → (a < 4) → (1 ≤ v) → (v ≤ 10) → (1 ≤ n) → (n ≤ 100000) → Met l yX0_chanceIn wsX0_chanceIn (RCI k) (va_Pc [.ref h, .int (nZ a), .int (nZ (k : Int)), .int (nZ v), .int (nZ n)] (WrP D cI cJ tn [(h, .inr (0, [.ref q1, .ref q2, .ref q3])), (q3, .inl (cJ, 28080, .inr (.inl (bZ ch)))), (q1, .inr (3, [.ref p1, .ref p2])), (p1, .inl (cI, 4, .inl (aZ cs))), (p2, .inl (cI, 48, .inl (aZ mp)))] sz)) (va_Ql (fun (r9 : Int64) (u9 : (Int → Int)) => r9 = lZ (WNin cs mp a (k - 1) v n) ∧ MemoOK cs mp u9) (fun u9 t9 => WrQ D (va_A [(h, .inr (0, [.ref q1, .ref q2, .ref q3])), (q3, .inl (cJ, 28080, .inr (.inl (bZ ch)))), (q1, .inr (3, [.ref p1, .ref p2])), (p1, .inl (cI, 4, .inl (aZ cs))), (p2, .inl (cI, 48, .inl (aZ mp)))] sz) [(h, .inr (0, [.ref q1, .ref q2, .ref q3])), (q3, .inl (cJ, 28080, .inr (.inl (bZ u9)))), (q1, .inr (3, [.ref p1, .ref p2])), (p1, .inl (cI, 4, .inl (aZ cs))), (p2, .inl (cI, 48, .inl (aZ mp)))] t9) (va_A [(h, .inr (0, [.ref q1, .ref q2, .ref q3])), (q3, .inl (cJ, 28080, .inr (.inl (bZ ch)))), (q1, .inr (3, [.ref p1, .ref p2])), (p1, .inl (cI, 4, .inl (aZ cs))), (p2, .inl (cI, 48, .inl (aZ mp)))] sz)) 0 0 (va_A [(h, .inr (0, [.ref q1, .ref q2, .ref q3])), (q3, .inl (cJ, 28080, .inr (.inl (bZ ch)))), (q1, .inr (3, [.ref p1, .ref p2])), (p1, .inl (cI, 4, .inl (aZ cs))), (p2, .inl (cI, 48, .inl (aZ mp)))] sz)
set_option maxHeartbeats 4000000 in
set_option maxRecDepth 100000 in
theorem o_X0_chanceIn (l : Launch) (D : va_G) (cI cJ : ClassId) (tn : Nat) (sz : Nat) (h : Nat) (q1 : Nat) (q2 : Nat) (q3 : Nat) (p1 : Nat) (p2 : Nat) (cs : Int → Int) (mp : Int → Int) (k : Nat) (ch : Int → Int) (a : Int) (v : Int) (n : Int) (hM : MoodOK cs mp) (hk1 : 1 ≤ k) (hk2 : k ≤ 12) (hmemo : MemoOK cs mp ch) (ha0 : 0 ≤ a) (ha4 : a < 4) (hv1 : 1 ≤ v) (hv2 : v ≤ 10) (hn1 : 1 ≤ n) (hn2 : n ≤ 100000) (hC : ChC l D cI cJ tn h q1 q2 q3 p1 p2 cs mp (k - 1)) : Met l yX0_chanceIn wsX0_chanceIn (RCI k) (va_Pc [.ref h, .int (nZ a), .int (nZ (k : Int)), .int (nZ v), .int (nZ n)] (WrP D cI cJ tn [(h, .inr (0, [.ref q1, .ref q2, .ref q3])), (q3, .inl (cJ, 28080, .inr (.inl (bZ ch)))), (q1, .inr (3, [.ref p1, .ref p2])), (p1, .inl (cI, 4, .inl (aZ cs))), (p2, .inl (cI, 48, .inl (aZ mp)))] sz)) (va_Ql (fun (r9 : Int64) (u9 : (Int → Int)) => r9 = lZ (WNin cs mp a (k - 1) v n) ∧ MemoOK cs mp u9) (fun u9 t9 => WrQ D (va_A [(h, .inr (0, [.ref q1, .ref q2, .ref q3])), (q3, .inl (cJ, 28080, .inr (.inl (bZ ch)))), (q1, .inr (3, [.ref p1, .ref p2])), (p1, .inl (cI, 4, .inl (aZ cs))), (p2, .inl (cI, 48, .inl (aZ mp)))] sz) [(h, .inr (0, [.ref q1, .ref q2, .ref q3])), (q3, .inl (cJ, 28080, .inr (.inl (bZ u9)))), (q1, .inr (3, [.ref p1, .ref p2])), (p1, .inl (cI, 4, .inl (aZ cs))), (p2, .inl (cI, 48, .inl (aZ mp)))] t9) (va_A [(h, .inr (0, [.ref q1, .ref q2, .ref q3])), (q3, .inl (cJ, 28080, .inr (.inl (bZ ch)))), (q1, .inr (3, [.ref p1, .ref p2])), (p1, .inl (cI, 4, .inl (aZ cs))), (p2, .inl (cI, 48, .inl (aZ mp)))] sz)) 0 0 (va_A [(h, .inr (0, [.ref q1, .ref q2, .ref q3])), (q3, .inl (cJ, 28080, .inr (.inl (bZ ch)))), (q1, .inr (3, [.ref p1, .ref p2])), (p1, .inl (cI, 4, .inl (aZ cs))), (p2, .inl (cI, 48, .inl (aZ mp)))] sz) := by
  refine Met.ofW (cc := cX0_chanceIn) (maxL := 9) (ret := (some .long)) (by decide) rfl ?_
  intro p e s m args below meth c s₁ B hml hv
  obtain ⟨rfl, hsz, hE, hP, hD0⟩ := hv
  have hx := B.exec
  have hb := B.bytes
  have hr := B.returns
  have hts := atoms_spec (ws := wsX0_chanceIn) B.pre
  have hown : s.vm.findClass RX0 = some m.cls := findClass_of_methodNamed B.named
  have hlocks := B.notSynchronized
  subst hsz
  have hD := hD0.self (sz := s.heap.size)
  generalize hAe : va_A [(h, .inr (0, [.ref q1, .ref q2, .ref q3])), (q3, .inl (cJ, 28080, .inr (.inl (bZ ch)))), (q1, .inr (3, [.ref p1, .ref p2])), (p1, .inl (cI, 4, .inl (aZ cs))), (p2, .inl (cI, 48, .inl (aZ mp)))] s.heap.size = A at hD hE ⊢
  have hA : ∀ q : Nat, s.heap.size ≤ q → A q := fun q h => by rw [← hAe]; exact Or.inr h
  have hS : va_S A s.heap s.heap [] := va_S.rf
  have hK := hE.1
  have hN := hE.2.1
  have hl := lv_entry ([.ref h, .int (nZ a), .int (nZ (k : Int)), .int (nZ v), .int (nZ n)]) (n := 9) (Nat.le_of_ble_eq_true rfl)
  rw [lg_entry_eq]
  generalize (lg_sl ([.ref h, .int (nZ a), .int (nZ (k : Int)), .int (nZ v), .int (nZ n)]) ++ List.replicate (9 - (lg_sl ([.ref h, .int (nZ a), .int (nZ (k : Int)), .int (nZ v), .int (nZ n)])).length) Slot.unset).toArray = ls at hl ⊢
  have hl : lv_has ls 9 [(0, .ref h), (1, .int (nZ a)), (2, .int (nZ (k : Int))), (3, .int (nZ v)), (4, .int (nZ n))] := hl
  have iX0 : ∀ w ∈ u_ws RX0 TX0 3, w ∈ wsX0_chanceIn := fun _ h => List.mem_cons_of_mem _ (List.mem_append_left _ (List.mem_append_right _ h))
  refine lv_lconst (v := lZ 0) hx hb dX0_chanceIn_0 rfl ?_
  refine lv_lstore (lv' := [(5, .long (lZ 0)), (0, .ref h), (1, .int (nZ a)), (2, .int (nZ (k : Int))), (3, .int (nZ v)), (4, .int (nZ n))]) hx hb dX0_chanceIn_1 hl (by decide) rfl (fun ls hl => ?_)
  refine lv_iconst (v := nZ 0) hx hb dX0_chanceIn_3 rfl ?_
  refine lv_istore (lv' := [(7, .int (nZ 0)), (5, .long (lZ 0)), (0, .ref h), (1, .int (nZ a)), (2, .int (nZ (k : Int))), (3, .int (nZ v)), (4, .int (nZ n))]) hx hb dX0_chanceIn_4 hl (by decide) rfl (fun ls hl => ?_)
  refine z_loop3 (fun (cha : Int → Int) (sm : Int) (i : Int) => (0 ≤ i) ∧ (i ≤ cs a) ∧ (sm = sumN (wnT cs mp a (k - 1) v n) i.toNat) ∧ (MemoOK cs mp cha)) (fun (cha : Int → Int) (sm : Int) (i : Int) => (cs a - i).toNat) (fun (cha : Int → Int) (sm : Int) (i : Int) => [(h, .inr (0, [.ref q1, .ref q2, .ref q3])), (q3, .inl (cJ, 28080, .inr (.inl (bZ cha)))), (q1, .inr (3, [.ref p1, .ref p2])), (p1, .inl (cI, 4, .inl (aZ cs))), (p2, .inl (cI, 48, .inl (aZ mp)))]) (fun (cha : Int → Int) (sm : Int) (i : Int) => [(0, .ref h), (1, .int (nZ a)), (2, .int (nZ (k : Int))), (3, .int (nZ v)), (4, .int (nZ n)), (5, .long (lZ sm)), (7, .int (nZ i))]) ?_ ch 0 0 ⟨(by first | assumption | omega), (hM a ha0 ha4).1.1, rfl, hmemo⟩ (hP.sub [0, 1, 2, 3, 4] rfl) (hD.sub [0, 1, 2, 3, 4] (by decide) rfl) hS (lv_sub hl [2, 3, 4, 5, 6, 1, 0] rfl)
  intro cha sm i hI6 ih6 H locs ls hP hD hS hl
  have hP : va_P D vwCl [(h, .inr (0, [.ref q1, .ref q2, .ref q3])), (q3, .inl (cJ, 28080, .inr (.inl (bZ cha)))), (q1, .inr (3, [.ref p1, .ref p2])), (p1, .inl (cI, 4, .inl (aZ cs))), (p2, .inl (cI, 48, .inl (aZ mp)))] H := hP
  have hD : va_D A [(h, .inr (0, [.ref q1, .ref q2, .ref q3])), (q3, .inl (cJ, 28080, .inr (.inl (bZ cha)))), (q1, .inr (3, [.ref p1, .ref p2])), (p1, .inl (cI, 4, .inl (aZ cs))), (p2, .inl (cI, 48, .inl (aZ mp)))] := hD
  have hl : lv_has ls 9 [(0, .ref h), (1, .int (nZ a)), (2, .int (nZ (k : Int))), (3, .int (nZ v)), (4, .int (nZ n)), (5, .long (lZ sm)), (7, .int (nZ i))] := hl
  obtain ⟨hi0, hi1, hsm, hme⟩ : (0 ≤ i) ∧ (i ≤ cs a) ∧ (sm = sumN (wnT cs mp a (k - 1) v n) i.toNat) ∧ (MemoOK cs mp cha) := hI6
  have hca := (hM a ha0 ha4).1
  refine lv_iload hx hb dX0_chanceIn_6 (lv_at hl 6 rfl) ?_
  refine lv_aload_n hx hb dX0_chanceIn_8 rfl (lv_at hl 0 rfl) ?_
  refine va_get (D := D) (ci := 0) (v := .ref q1) (C := RX0) (T := TX0) (N := 3) hx hb hts iX0 hown hK hP 0 rfl rfl 0 (by decide) (hts (.fieldLink RX0 18 "RainTarget$Batting" "moods" "LRainTarget$Moods;") (List.mem_of_getElem? (i := 1) rfl)) (fun _ h9 => h9) rfl dX0_chanceIn_9 ?_
  refine lv_iload_n hx hb dX0_chanceIn_12 rfl (lv_at hl 1 rfl) ?_
  refine vp_callSi ((va_runVN (As := [.int (nZ a)]) (rest := [.int (nZ i)]) ⟨hx, hb, hml, hown, hts⟩ (c_X3_size l D cI cJ tn q1 p1 p2 cs a (by omega) ) ⟨va_cnB 1 hts gX0_chanceIn_X3_size_n42 rfl rfl rfl (nw_X0_42 hN) (hts (.initialized RX3) (List.mem_of_getElem? (i := 3) rfl)) (by decide +kernel) ⟨by show 0 + 1 ≤ 2 * k + 2; omega, by show 8 + (2 + 11) + (0) ≤ 60 * k + 70; omega⟩, (hts (.instanceMethod yX3_size) (List.mem_of_getElem? (i := 2) rfl)), (hts (.selects RX3 yX3_size yX3_size) (List.mem_of_getElem? (i := 4) rfl))⟩ ⟨RoP.blind, va_recv hK hP (ci := 3) (q0 := 2) rfl rfl, fun U hU hW => ⟨rfl, RoP.call hE hS (hP.sub (ws' := [(q1, .inr (3, [.ref p1, .ref p2])), (p1, .inl (cI, 4, .inl (aZ cs)))]) [2, 3] rfl) hU hW⟩⟩ rfl rfl hl.1 rfl (lv_room (Nat.le_of_ble_eq_true rfl)) dX0_chanceIn_13 ⟨Nat.le_of_ble_eq_true rfl, Nat.le_of_ble_eq_true rfl⟩).run) (fun r13 hr13 => ?_)
  subst hr13
  refine z_nameI (fun r13 er13 => ?_)
  refine z_icmp_ge (tgt := 81) hx hb dX0_chanceIn_16 (by decide) (by omega) (by omega) (fun c_16 => ?_) (fun c_16 => ?_)
  · refine lv_lload hx hb dX0_chanceIn_81 (lv_at hl 5 rfl) ?_
    have hP9 := hP.sub (ws' := [(h, .inr (0, [.ref q1, .ref q2, .ref q3])), (q3, .inl (cJ, 28080, .inr (.inl (bZ cha)))), (q1, .inr (3, [.ref p1, .ref p2])), (p1, .inl (cI, 4, .inl (aZ cs))), (p2, .inl (cI, 48, .inl (aZ mp)))]) [0, 1, 2, 3, 4] rfl
    have hD9 := hD.sub (ws' := [(h, .inr (0, [.ref q1, .ref q2, .ref q3])), (q3, .inl (cJ, 28080, .inr (.inl (bZ cha)))), (q1, .inr (3, [.ref p1, .ref p2])), (p1, .inl (cI, 4, .inl (aZ cs))), (p2, .inl (cI, 48, .inl (aZ mp)))]) [0, 1, 2, 3, 4] (by decide) rfl
    exact W.lret (v := lZ sm) hx hb hr (fun t9 ht9 _ => ⟨⟨lZ sm, (cha), rfl, ⟨congrArg lZ (show (sm : Int) = WNin cs mp a (k - 1) v n from (by rw [hsm, show i = cs a from by omega]; rfl)), hme⟩, ⟨by rw [ht9]; exact hP9, hD9⟩⟩, hS.F ht9⟩) hS.2.2 dX0_chanceIn_83
  · have hi2 : i < cs a := by omega
    have hcase := (hM a ha0 ha4).2.1 i hi0 hi2
    refine lv_iload_n hx hb dX0_chanceIn_19 rfl (lv_at hl 3 rfl) ?_
    refine lv_aload_n hx hb dX0_chanceIn_20 rfl (lv_at hl 0 rfl) ?_
    refine va_get (D := D) (ci := 0) (v := .ref q1) (C := RX0) (T := TX0) (N := 3) hx hb hts iX0 hown hK hP 0 rfl rfl 0 (by decide) (hts (.fieldLink RX0 18 "RainTarget$Batting" "moods" "LRainTarget$Moods;") (List.mem_of_getElem? (i := 1) rfl)) (fun _ h9 => h9) rfl dX0_chanceIn_21 ?_
    refine lv_iload_n hx hb dX0_chanceIn_24 rfl (lv_at hl 1 rfl) ?_
    refine lv_iload hx hb dX0_chanceIn_25 (lv_at hl 6 rfl) ?_
    refine lv_iconst (v := nZ 1) hx hb dX0_chanceIn_27 rfl ?_
    refine vp_callSi ((va_runVN (As := [.int (nZ a), .int (nZ i), .int (nZ 1)]) (rest := [.int (nZ v)]) ⟨hx, hb, hml, hown, hts⟩ (c_X3_part1 l D cI cJ tn q1 p1 p2 mp a i ha0 ha4 (by first | assumption | omega) (by first | assumption | omega) ) ⟨va_cnB 3 hts gX0_chanceIn_X3_part_n48 rfl rfl rfl (nw_X0_48 hN) (hts (.initialized RX3) (List.mem_of_getElem? (i := 3) rfl)) (by decide +kernel) ⟨by show 0 + 1 ≤ 2 * k + 2; omega, by show 8 + (5 + 11) + (0) ≤ 60 * k + 70; omega⟩, (hts (.instanceMethod yX3_part) (List.mem_of_getElem? (i := 7) rfl)), (hts (.selects RX3 yX3_part yX3_part) (List.mem_of_getElem? (i := 8) rfl))⟩ ⟨RoP.blind, va_recv hK hP (ci := 3) (q0 := 2) rfl rfl, fun U hU hW => ⟨rfl, RoP.call hE hS (hP.sub (ws' := [(q1, .inr (3, [.ref p1, .ref p2])), (p2, .inl (cI, 48, .inl (aZ mp)))]) [2, 4] rfl) hU hW⟩⟩ rfl rfl hl.1 rfl (lv_room (Nat.le_of_ble_eq_true rfl)) dX0_chanceIn_28 ⟨Nat.le_of_ble_eq_true rfl, Nat.le_of_ble_eq_true rfl⟩).run) (fun r28 hr28 => ?_)
    subst hr28
    refine z_nameI (fun r28 er28 => ?_)
    refine z_isub hx hb dX0_chanceIn_31 ?_
    refine lv_istore (lv' := [(8, .int (nZ (v - r28))), (0, .ref h), (1, .int (nZ a)), (2, .int (nZ (k : Int))), (3, .int (nZ v)), (4, .int (nZ n)), (5, .long (lZ sm)), (7, .int (nZ i))]) hx hb dX0_chanceIn_32 hl (by decide) rfl (fun ls hl => ?_)
    refine lv_lload hx hb dX0_chanceIn_34 (lv_at hl 6 rfl) ?_
    refine lv_aload_n hx hb dX0_chanceIn_36 rfl (lv_at hl 1 rfl) ?_
    refine va_get (D := D) (ci := 0) (v := .ref q1) (C := RX0) (T := TX0) (N := 3) hx hb hts iX0 hown hK hP 0 rfl rfl 0 (by decide) (hts (.fieldLink RX0 18 "RainTarget$Batting" "moods" "LRainTarget$Moods;") (List.mem_of_getElem? (i := 1) rfl)) (fun _ h9 => h9) rfl dX0_chanceIn_37 ?_
    refine lv_iload_n hx hb dX0_chanceIn_40 rfl (lv_at hl 2 rfl) ?_
    refine lv_iload hx hb dX0_chanceIn_41 (lv_at hl 7 rfl) ?_
    refine lv_iconst (v := nZ 2) hx hb dX0_chanceIn_43 rfl ?_
    refine vp_callSi ((va_runVN (As := [.int (nZ a), .int (nZ i), .int (nZ 2)]) (rest := [.long (lZ sm)]) ⟨hx, hb, hml, hown, hts⟩ (c_X3_part2 l D cI cJ tn q1 p1 p2 mp a i ha0 ha4 (by first | assumption | omega) (by first | assumption | omega) ) ⟨va_cnB 3 hts gX0_chanceIn_X3_part_n48 rfl rfl rfl (nw_X0_48 hN) (hts (.initialized RX3) (List.mem_of_getElem? (i := 3) rfl)) (by decide +kernel) ⟨by show 0 + 1 ≤ 2 * k + 2; omega, by show 8 + (5 + 11) + (0) ≤ 60 * k + 70; omega⟩, (hts (.instanceMethod yX3_part) (List.mem_of_getElem? (i := 7) rfl)), (hts (.selects RX3 yX3_part yX3_part) (List.mem_of_getElem? (i := 8) rfl))⟩ ⟨RoP.blind, va_recv hK hP (ci := 3) (q0 := 2) rfl rfl, fun U hU hW => ⟨rfl, RoP.call hE hS (hP.sub (ws' := [(q1, .inr (3, [.ref p1, .ref p2])), (p2, .inl (cI, 48, .inl (aZ mp)))]) [2, 4] rfl) hU hW⟩⟩ rfl rfl hl.1 rfl (lv_room (Nat.le_of_ble_eq_true rfl)) dX0_chanceIn_44 ⟨Nat.le_of_ble_eq_true rfl, Nat.le_of_ble_eq_true rfl⟩).run) (fun r44 hr44 => ?_)
    subst hr44
    refine z_nameI (fun r44 er44 => ?_)
    refine z_i2l hx hb dX0_chanceIn_47 (by omega) ?_
    refine lv_aload_n hx hb dX0_chanceIn_48 rfl (lv_at hl 1 rfl) ?_
    refine lv_iload_n hx hb dX0_chanceIn_49 rfl (lv_at hl 3 rfl) ?_
    refine lv_iconst (v := nZ 1) hx hb dX0_chanceIn_50 rfl ?_
    refine z_isub hx hb dX0_chanceIn_51 ?_
    refine z_topi (y := ((k - 1 : Nat) : Int)) (by omega) ?_
    refine lv_iload hx hb dX0_chanceIn_52 (lv_at hl 0 rfl) ?_
    refine lv_iload hx hb dX0_chanceIn_54 (lv_at hl 5 rfl) ?_
    refine lv_aload_n hx hb dX0_chanceIn_56 rfl (lv_at hl 1 rfl) ?_
    refine va_get (D := D) (ci := 0) (v := .ref q1) (C := RX0) (T := TX0) (N := 3) hx hb hts iX0 hown hK hP 0 rfl rfl 0 (by decide) (hts (.fieldLink RX0 18 "RainTarget$Batting" "moods" "LRainTarget$Moods;") (List.mem_of_getElem? (i := 1) rfl)) (fun _ h9 => h9) rfl dX0_chanceIn_57 ?_
    refine lv_iload_n hx hb dX0_chanceIn_60 rfl (lv_at hl 2 rfl) ?_
    refine lv_iload hx hb dX0_chanceIn_61 (lv_at hl 7 rfl) ?_
    refine lv_iconst (v := nZ 0) hx hb dX0_chanceIn_63 rfl ?_
    refine vp_callSi ((va_runVN (As := [.int (nZ a), .int (nZ i), .int (nZ 0)]) (rest := [.int (nZ n), .int (nZ (v - r28)), .int (nZ ((k - 1 : Nat) : Int)), .ref h, .long (lZ r44), .long (lZ sm)]) ⟨hx, hb, hml, hown, hts⟩ (c_X3_part0 l D cI cJ tn q1 p1 p2 mp a i ha0 ha4 (by first | assumption | omega) (by first | assumption | omega) ) ⟨va_cnB 3 hts gX0_chanceIn_X3_part_n48 rfl rfl rfl (nw_X0_48 hN) (hts (.initialized RX3) (List.mem_of_getElem? (i := 3) rfl)) (by decide +kernel) ⟨by show 0 + 1 ≤ 2 * k + 2; omega, by show 8 + (5 + 11) + (0) ≤ 60 * k + 70; omega⟩, (hts (.instanceMethod yX3_part) (List.mem_of_getElem? (i := 7) rfl)), (hts (.selects RX3 yX3_part yX3_part) (List.mem_of_getElem? (i := 8) rfl))⟩ ⟨RoP.blind, va_recv hK hP (ci := 3) (q0 := 2) rfl rfl, fun U hU hW => ⟨rfl, RoP.call hE hS (hP.sub (ws' := [(q1, .inr (3, [.ref p1, .ref p2])), (p2, .inl (cI, 48, .inl (aZ mp)))]) [2, 4] rfl) hU hW⟩⟩ rfl rfl hl.1 rfl (lv_room (Nat.le_of_ble_eq_true rfl)) dX0_chanceIn_64 ⟨Nat.le_of_ble_eq_true rfl, Nat.le_of_ble_eq_true rfl⟩).run) (fun r64 hr64 => ?_)
    subst hr64
    refine z_nameI (fun r64 er64 => ?_)
    refine z_isub hx hb dX0_chanceIn_67 ?_
    have hFc := va_free (wc := [(h, .inr (0, [.ref q1, .ref q2, .ref q3])), (q3, .inl (cJ, 28080, .inr (.inl (bZ cha)))), (q1, .inr (3, [.ref p1, .ref p2])), (p1, .inl (cI, 4, .inl (aZ cs))), (p2, .inl (cI, 48, .inl (aZ mp)))]) hD hS hA [0, 1, 2, 3, 4] rfl
    have hPc := hP.sub (ws' := [(h, .inr (0, [.ref q1, .ref q2, .ref q3])), (q3, .inl (cJ, 28080, .inr (.inl (bZ cha)))), (q1, .inr (3, [.ref p1, .ref p2])), (p1, .inl (cI, 4, .inl (aZ cs))), (p2, .inl (cI, 48, .inl (aZ mp)))]) [0, 1, 2, 3, 4] rfl
    have hDc := hD.sub (ws' := [(h, .inr (0, [.ref q1, .ref q2, .ref q3])), (q3, .inl (cJ, 28080, .inr (.inl (bZ cha)))), (q1, .inr (3, [.ref p1, .ref p2])), (p1, .inl (cI, 4, .inl (aZ cs))), (p2, .inl (cI, 48, .inl (aZ mp)))]) [0, 1, 2, 3, 4] (by decide) rfl
    refine va_calll (va_runV (As := [.int (nZ ((k - 1 : Nat) : Int)), .int (nZ (v - r28)), .int (nZ (n - r64))]) (rest := [.long (lZ r44), .long (lZ sm)]) ⟨hx, hb, hml, hown, hts⟩ (hC H.size cha (v - r28) (n - r64) hM (by first | assumption | omega) hme (by first | assumption | omega) (by first | assumption | omega) (by first | assumption | omega) (by first | assumption | omega)) (cwV 3 hts gX0_chanceIn_X0_chance rfl rfl rfl (by decide +kernel) ⟨by show 2 * (k - 1 : Nat) + 3 + 1 ≤ 2 * k + 2; omega, by show 8 + (8 + 11) + (60 * (k - 1 : Nat) + 100) ≤ 60 * k + 70; omega⟩) ⟨WrP.blind, va_recv hK hP (ci := 0) (q0 := 0) rfl rfl, fun U hU hW => ⟨rfl, WrP.call hE hS hPc hDc hFc hU hW⟩⟩ rfl rfl hl.1 rfl (lv_room (Nat.le_of_ble_eq_true rfl)) dX0_chanceIn_68 ⟨Nat.le_of_ble_eq_true rfl, Nat.le_of_ble_eq_true rfl⟩) hS (fun q _ h => hFc q h) hFc (fun r68 u9 t9 H1 locs ht9 hvm hv68 hB9 hz9 hk9 hS => ?_)
    obtain ⟨ch2_68, rfl⟩ : ∃ z, z = u9 := ⟨_, rfl⟩
    obtain ⟨hP8, hD8⟩ := hB9
    rw [ht9] at hP8
    obtain ⟨hq68, hw68⟩ : r68 = lZ (WN cs mp (k - 1 : Nat) (v - r28) (n - r64)) ∧ MemoOK cs mp ch2_68 := hv68
    subst hq68
    obtain ⟨hP, hD⟩ := va_join (wr := []) (w1 := [(h, .inr (0, [.ref q1, .ref q2, .ref q3])), (q3, .inl (cJ, 28080, .inr (.inl (bZ ch2_68)))), (q1, .inr (3, [.ref p1, .ref p2])), (p1, .inl (cI, 4, .inl (aZ cs))), (p2, .inl (cI, 48, .inl (aZ mp)))]) hP hD [0, 1, 2, 3, 4] [] rfl rfl (by decide) (by decide) hk9 hFc hP8 hD8
    generalize H1 = H at hP hS ⊢
    have hP : va_P D vwCl [(h, .inr (0, [.ref q1, .ref q2, .ref q3])), (q3, .inl (cJ, 28080, .inr (.inl (bZ ch2_68)))), (q1, .inr (3, [.ref p1, .ref p2])), (p1, .inl (cI, 4, .inl (aZ cs))), (p2, .inl (cI, 48, .inl (aZ mp)))] H := hP
    have hD : va_D A [(h, .inr (0, [.ref q1, .ref q2, .ref q3])), (q3, .inl (cJ, 28080, .inr (.inl (bZ ch2_68)))), (q1, .inr (3, [.ref p1, .ref p2])), (p1, .inl (cI, 4, .inl (aZ cs))), (p2, .inl (cI, 48, .inl (aZ mp)))] := hD
    refine z_nameL (fun r68 er68 => ?_)
    refine z_lmul hx hb dX0_chanceIn_71 ?_
    refine z_ladd hx hb dX0_chanceIn_72 ?_
    refine lv_lstore (lv' := [(5, .long (lZ (sm + (r44 * r68)))), (8, .int (nZ (v - r28))), (0, .ref h), (1, .int (nZ a)), (2, .int (nZ (k : Int))), (3, .int (nZ v)), (4, .int (nZ n)), (7, .int (nZ i))]) hx hb dX0_chanceIn_73 hl (by decide) rfl (fun ls hl => ?_)
    have hterm : r44 * r68 = wnT cs mp a (k - 1) v n i := by
      unfold wnT
      rw [er68, er44, er28, er64]
    refine lv_iinc (v := nZ (i + 1)) (lv' := [(7, .int (nZ (i + 1))), (5, .long (lZ (sm + (r44 * r68)))), (8, .int (nZ (v - r28))), (0, .ref h), (1, .int (nZ a)), (2, .int (nZ (k : Int))), (3, .int (nZ v)), (4, .int (nZ n))]) hx hb dX0_chanceIn_75 hl (k := 7) rfl (nZ_add _ _) (by decide) rfl (fun ls hl => ?_)
    refine lv_goto (tgt := 6) hx hb dX0_chanceIn_78 (by decide) ?_
    exact ih6 ch2_68 (sm + (r44 * r68)) (i + 1) ⟨(by first | assumption | omega), (by first | assumption | omega), (by rw [sumN_s0 _ hi0, hsm, ← hterm]), hw68⟩ (show (cs a - (i + 1)).toNat < (cs a - i).toNat from by omega) _ _ ls (hP.sub [0, 1, 2, 3, 4] rfl) (hD.sub [0, 1, 2, 3, 4] (by decide) rfl) hS (lv_sub hl [3, 4, 5, 6, 7, 1, 0] rfl)

set_option maxHeartbeats 4000000 in
set_option maxRecDepth 100000 in
theorem o_X0_chance (l : Launch) (D : va_G) (cI cJ : ClassId) (tn : Nat) (sz : Nat) (h : Nat) (q1 : Nat) (q2 : Nat) (q3 : Nat) (p1 : Nat) (p2 : Nat) (cs : Int → Int) (mp : Int → Int) (k : Nat) (ch : Int → Int) (v : Int) (n : Int) (hM : MoodOK cs mp) (hk2 : k ≤ 12) (hmemo : MemoOK cs mp ch) (hv1 : -100 ≤ v) (hv2 : v ≤ 10) (hn1 : -1000 ≤ n) (hn2 : n ≤ 100000) (hCI : 1 ≤ k → ChIC l D cI cJ tn h q1 q2 q3 p1 p2 cs mp k) : Met l yX0_chance wsX0_chance (RC k) (va_Pc [.ref h, .int (nZ (k : Int)), .int (nZ v), .int (nZ n)] (WrP D cI cJ tn [(h, .inr (0, [.ref q1, .ref q2, .ref q3])), (q3, .inl (cJ, 28080, .inr (.inl (bZ ch)))), (q1, .inr (3, [.ref p1, .ref p2])), (p1, .inl (cI, 4, .inl (aZ cs))), (p2, .inl (cI, 48, .inl (aZ mp)))] sz)) (va_Ql (fun (r9 : Int64) (u9 : (Int → Int)) => r9 = lZ (WN cs mp k v n) ∧ MemoOK cs mp u9) (fun u9 t9 => WrQ D (va_A [(h, .inr (0, [.ref q1, .ref q2, .ref q3])), (q3, .inl (cJ, 28080, .inr (.inl (bZ ch)))), (q1, .inr (3, [.ref p1, .ref p2])), (p1, .inl (cI, 4, .inl (aZ cs))), (p2, .inl (cI, 48, .inl (aZ mp)))] sz) [(h, .inr (0, [.ref q1, .ref q2, .ref q3])), (q3, .inl (cJ, 28080, .inr (.inl (bZ u9)))), (q1, .inr (3, [.ref p1, .ref p2])), (p1, .inl (cI, 4, .inl (aZ cs))), (p2, .inl (cI, 48, .inl (aZ mp)))] t9) (va_A [(h, .inr (0, [.ref q1, .ref q2, .ref q3])), (q3, .inl (cJ, 28080, .inr (.inl (bZ ch)))), (q1, .inr (3, [.ref p1, .ref p2])), (p1, .inl (cI, 4, .inl (aZ cs))), (p2, .inl (cI, 48, .inl (aZ mp)))] sz)) 0 0 (va_A [(h, .inr (0, [.ref q1, .ref q2, .ref q3])), (q3, .inl (cJ, 28080, .inr (.inl (bZ ch)))), (q1, .inr (3, [.ref p1, .ref p2])), (p1, .inl (cI, 4, .inl (aZ cs))), (p2, .inl (cI, 48, .inl (aZ mp)))] sz) := by
  refine Met.ofW (cc := cX0_chance) (maxL := 8) (ret := (some .long)) (by decide) rfl ?_
  intro p e s m args below meth c s₁ B hml hv
  obtain ⟨rfl, hsz, hE, hP, hD0⟩ := hv
  have hx := B.exec
  have hb := B.bytes
  have hr := B.returns
  have hts := atoms_spec (ws := wsX0_chance) B.pre
  have hown : s.vm.findClass RX0 = some m.cls := findClass_of_methodNamed B.named
  have hlocks := B.notSynchronized
  subst hsz
  have hD := hD0.self (sz := s.heap.size)
  generalize hAe : va_A [(h, .inr (0, [.ref q1, .ref q2, .ref q3])), (q3, .inl (cJ, 28080, .inr (.inl (bZ ch)))), (q1, .inr (3, [.ref p1, .ref p2])), (p1, .inl (cI, 4, .inl (aZ cs))), (p2, .inl (cI, 48, .inl (aZ mp)))] s.heap.size = A at hD hE ⊢
  have hA : ∀ q : Nat, s.heap.size ≤ q → A q := fun q h => by rw [← hAe]; exact Or.inr h
  have hS : va_S A s.heap s.heap [] := va_S.rf
  have hK := hE.1
  have hN := hE.2.1
  have hl := lv_entry ([.ref h, .int (nZ (k : Int)), .int (nZ v), .int (nZ n)]) (n := 8) (Nat.le_of_ble_eq_true rfl)
  rw [lg_entry_eq]
  generalize (lg_sl ([.ref h, .int (nZ (k : Int)), .int (nZ v), .int (nZ n)]) ++ List.replicate (8 - (lg_sl ([.ref h, .int (nZ (k : Int)), .int (nZ v), .int (nZ n)])).length) Slot.unset).toArray = ls at hl ⊢
  have hl : lv_has ls 8 [(0, .ref h), (1, .int (nZ (k : Int))), (2, .int (nZ v)), (3, .int (nZ n))] := hl
  have iX0 : ∀ w ∈ u_ws RX0 TX0 3, w ∈ wsX0_chance := fun _ h => List.mem_cons_of_mem _ (List.mem_append_left _ (List.mem_append_right _ h))
  refine lv_iload_n hx hb dX0_chance_0 rfl (lv_at hl 3 rfl) ?_
  refine z_if_gt (tgt := 9) hx hb dX0_chance_1 (by decide) (by omega) (fun c_1 => ?_) (fun c_1 => ?_)
  · refine lv_iload_n hx hb dX0_chance_9 rfl (lv_at hl 1 rfl) ?_
    refine lv_iconst (v := nZ 1) hx hb dX0_chance_10 rfl ?_
    refine lv_bipush (v := nZ 12) hx hb dX0_chance_11 (by decide) ?_
    refine vp_callSi ((va_runSN (As := [.int (nZ (k : Int)), .int (nZ 1), .int (nZ 12)]) (rest := []) ⟨hx, hb, hml, hown, hts⟩ (c_X9_within l D cI cJ tn (k : Int) 1 12 (by omega) (by decide) (by decide) ) ⟨va_cnB 3 hts gX0_chance_X9_within_n38 rfl rfl rfl (nw_X0_38 hN) (hts (.initialized RX9) (List.mem_of_getElem? (i := 7) rfl)) (by decide +kernel) ⟨by show 0 + 1 ≤ 2 * k + 3; omega, by show 8 + (3 + 11) + (0) ≤ 60 * k + 100; omega⟩, (hts (.static yX9_within) (List.mem_of_getElem? (i := 10) rfl)), trivial⟩ ⟨RoP.blind, fun U hU hW => ⟨rfl, RoP.call hE hS (hP.sub (ws' := []) [] rfl) hU hW⟩⟩ rfl rfl hl.1 rfl (lv_room (Nat.le_of_ble_eq_true rfl)) dX0_chance_13 ⟨Nat.le_of_ble_eq_true rfl, Nat.le_of_ble_eq_true rfl⟩).run) (fun r13 hr13 => ?_)
    subst hr13
    refine z_nameI (fun r13 er13 => ?_)
    refine z_if_eq (tgt := 37) hx hb dX0_chance_16 (by decide) (by omega) (fun c_16 => ?_) (fun c_16 => ?_)
    · refine lv_lconst (v := lZ 0) hx hb dX0_chance_37 rfl ?_
      have hP9 := hP.sub (ws' := [(h, .inr (0, [.ref q1, .ref q2, .ref q3])), (q3, .inl (cJ, 28080, .inr (.inl (bZ ch)))), (q1, .inr (3, [.ref p1, .ref p2])), (p1, .inl (cI, 4, .inl (aZ cs))), (p2, .inl (cI, 48, .inl (aZ mp)))]) [0, 1, 2, 3, 4] rfl
      have hD9 := hD.sub (ws' := [(h, .inr (0, [.ref q1, .ref q2, .ref q3])), (q3, .inl (cJ, 28080, .inr (.inl (bZ ch)))), (q1, .inr (3, [.ref p1, .ref p2])), (p1, .inl (cI, 4, .inl (aZ cs))), (p2, .inl (cI, 48, .inl (aZ mp)))]) [0, 1, 2, 3, 4] (by decide) rfl
      exact W.lret (v := lZ 0) hx hb hr (fun t9 ht9 _ => ⟨⟨lZ 0, (ch), rfl, ⟨congrArg lZ (show (0 : Int) = WN cs mp k v n from (by first | exact (WN_far hM k v (by omega)).symm | exact (WN_men cs mp k (by omega) (by omega)).symm)), hmemo⟩, ⟨by rw [ht9]; exact hP9, hD9⟩⟩, hS.F ht9⟩) hS.2.2 dX0_chance_38
    · refine lv_iload_n hx hb dX0_chance_19 rfl (lv_at hl 2 rfl) ?_
      refine lv_iconst (v := nZ 1) hx hb dX0_chance_20 rfl ?_
      refine lv_bipush (v := nZ 10) hx hb dX0_chance_21 (by decide) ?_
      refine vp_callSi ((va_runSN (As := [.int (nZ v), .int (nZ 1), .int (nZ 10)]) (rest := []) ⟨hx, hb, hml, hown, hts⟩ (c_X9_within l D cI cJ tn v 1 10 (by omega) (by decide) (by decide) ) ⟨va_cnB 3 hts gX0_chance_X9_within_n38 rfl rfl rfl (nw_X0_38 hN) (hts (.initialized RX9) (List.mem_of_getElem? (i := 7) rfl)) (by decide +kernel) ⟨by show 0 + 1 ≤ 2 * k + 3; omega, by show 8 + (3 + 11) + (0) ≤ 60 * k + 100; omega⟩, (hts (.static yX9_within) (List.mem_of_getElem? (i := 10) rfl)), trivial⟩ ⟨RoP.blind, fun U hU hW => ⟨rfl, RoP.call hE hS (hP.sub (ws' := []) [] rfl) hU hW⟩⟩ rfl rfl hl.1 rfl (lv_room (Nat.le_of_ble_eq_true rfl)) dX0_chance_23 ⟨Nat.le_of_ble_eq_true rfl, Nat.le_of_ble_eq_true rfl⟩).run) (fun r23 hr23 => ?_)
      subst hr23
      refine z_nameI (fun r23 er23 => ?_)
      refine z_if_eq (tgt := 37) hx hb dX0_chance_26 (by decide) (by omega) (fun c_26 => ?_) (fun c_26 => ?_)
      · refine lv_lconst (v := lZ 0) hx hb dX0_chance_37 rfl ?_
        have hP9 := hP.sub (ws' := [(h, .inr (0, [.ref q1, .ref q2, .ref q3])), (q3, .inl (cJ, 28080, .inr (.inl (bZ ch)))), (q1, .inr (3, [.ref p1, .ref p2])), (p1, .inl (cI, 4, .inl (aZ cs))), (p2, .inl (cI, 48, .inl (aZ mp)))]) [0, 1, 2, 3, 4] rfl
        have hD9 := hD.sub (ws' := [(h, .inr (0, [.ref q1, .ref q2, .ref q3])), (q3, .inl (cJ, 28080, .inr (.inl (bZ ch)))), (q1, .inr (3, [.ref p1, .ref p2])), (p1, .inl (cI, 4, .inl (aZ cs))), (p2, .inl (cI, 48, .inl (aZ mp)))]) [0, 1, 2, 3, 4] (by decide) rfl
        exact W.lret (v := lZ 0) hx hb hr (fun t9 ht9 _ => ⟨⟨lZ 0, (ch), rfl, ⟨congrArg lZ (show (0 : Int) = WN cs mp k v n from (by first | exact (WN_far hM k v (by omega)).symm | exact (WN_men cs mp k (by omega) (by omega)).symm)), hmemo⟩, ⟨by rw [ht9]; exact hP9, hD9⟩⟩, hS.F ht9⟩) hS.2.2 dX0_chance_38
      · refine lv_iload_n hx hb dX0_chance_29 rfl (lv_at hl 3 rfl) ?_
        refine lv_bipush (v := nZ 36) hx hb dX0_chance_30 (by decide) ?_
        refine lv_iload_n hx hb dX0_chance_32 rfl (lv_at hl 1 rfl) ?_
        refine z_imul hx hb dX0_chance_33 ?_
        refine z_icmp_le (tgt := 39) hx hb dX0_chance_34 (by decide) (by omega) (by omega) (fun c_34 => ?_) (fun c_34 => ?_)
        · refine lv_iload_n hx hb dX0_chance_39 rfl (lv_at hl 2 rfl) ?_
          refine lv_iconst (v := nZ 1) hx hb dX0_chance_40 rfl ?_
          refine z_isub hx hb dX0_chance_41 ?_
          refine lv_sipush (v := nZ 2808) hx hb dX0_chance_42 (by decide) ?_
          refine z_imul hx hb dX0_chance_45 ?_
          refine lv_bipush (v := nZ 36) hx hb dX0_chance_46 (by decide) ?_
          refine lv_iload_n hx hb dX0_chance_48 rfl (lv_at hl 1 rfl) ?_
          refine z_imul hx hb dX0_chance_49 ?_
          have htri := tri_bd (k := (k : Int)) (by omega) (by omega)
          refine lv_iload_n hx hb dX0_chance_50 rfl (lv_at hl 1 rfl) ?_
          refine lv_iconst (v := nZ 1) hx hb dX0_chance_51 rfl ?_
          refine z_isub hx hb dX0_chance_52 ?_
          refine z_imul hx hb dX0_chance_53 ?_
          refine lv_iconst (v := nZ 2) hx hb dX0_chance_54 rfl ?_
          refine z_idiv hx hb dX0_chance_55 (by omega) (by omega) (by decide) ?_
          refine z_topi (tdivN (by omega)) ?_
          refine z_iadd hx hb dX0_chance_56 ?_
          refine lv_iload_n hx hb dX0_chance_57 rfl (lv_at hl 3 rfl) ?_
          refine z_iadd hx hb dX0_chance_58 ?_
          refine lv_iconst (v := nZ 1) hx hb dX0_chance_59 rfl ?_
          refine z_isub hx hb dX0_chance_60 ?_
          refine z_topi (y := chI (k : Int) v n) rfl ?_
          refine lv_istore (lv' := [(4, .int (nZ (chI (k : Int) v n))), (0, .ref h), (1, .int (nZ (k : Int))), (2, .int (nZ v)), (3, .int (nZ n))]) hx hb dX0_chance_61 hl (by decide) rfl (fun ls hl => ?_)
          have hbd := chI_bd (k := (k : Int)) (v := v) (n := n) (by omega) (by omega) (by omega) (by omega) (by omega) (by omega)
          have hm0 := hmemo k v n (by omega) hk2 (by omega) hv2 (by omega) (by omega)
          have hW0 := WN_nn hM k v n
          have hW1 := WN_top hM hk2 v n
          refine lv_aload_n hx hb dX0_chance_63 rfl (lv_at hl 1 rfl) ?_
          refine va_get (D := D) (ci := 0) (v := .ref q3) (C := RX0) (T := TX0) (N := 3) hx hb hts iX0 hown hK hP 0 rfl rfl 2 (by decide) (hts (.fieldLink RX0 15 "RainTarget$Batting" "chances" "[J") (List.mem_of_getElem? (i := 1) rfl)) (fun _ h9 => h9) rfl dX0_chance_64 ?_
          refine lv_iload hx hb dX0_chance_67 (lv_at hl 0 rfl) ?_
          refine z_lald hx hb hK hP 1 1 rfl rfl (by omega) (by omega) (by omega) dX0_chance_69 ?_
          refine lv_lconst (v := lZ 0) hx hb dX0_chance_70 rfl ?_
          refine z_lcmp_ne (tgt := 120) hx hb dX0_chance_71 dX0_chance_72 (by decide) (by omega) (by decide) (fun c_71 => ?_) (fun c_71 => ?_)
          · refine lv_aload_n hx hb dX0_chance_120 rfl (lv_at hl 1 rfl) ?_
            refine va_get (D := D) (ci := 0) (v := .ref q3) (C := RX0) (T := TX0) (N := 3) hx hb hts iX0 hown hK hP 0 rfl rfl 2 (by decide) (hts (.fieldLink RX0 15 "RainTarget$Batting" "chances" "[J") (List.mem_of_getElem? (i := 1) rfl)) (fun _ h9 => h9) rfl dX0_chance_121 ?_
            refine lv_iload hx hb dX0_chance_124 (lv_at hl 0 rfl) ?_
            refine z_lald hx hb hK hP 1 1 rfl rfl (by omega) (by omega) (by omega) dX0_chance_126 ?_
            refine lv_lconst (v := lZ 1) hx hb dX0_chance_127 rfl ?_
            refine z_lsub hx hb dX0_chance_128 ?_
            have hP9 := hP.sub (ws' := [(h, .inr (0, [.ref q1, .ref q2, .ref q3])), (q3, .inl (cJ, 28080, .inr (.inl (bZ ch)))), (q1, .inr (3, [.ref p1, .ref p2])), (p1, .inl (cI, 4, .inl (aZ cs))), (p2, .inl (cI, 48, .inl (aZ mp)))]) [0, 1, 2, 3, 4] rfl
            have hD9 := hD.sub (ws' := [(h, .inr (0, [.ref q1, .ref q2, .ref q3])), (q3, .inl (cJ, 28080, .inr (.inl (bZ ch)))), (q1, .inr (3, [.ref p1, .ref p2])), (p1, .inl (cI, 4, .inl (aZ cs))), (p2, .inl (cI, 48, .inl (aZ mp)))]) [0, 1, 2, 3, 4] (by decide) rfl
            exact W.lret (v := lZ ((ch (chI (k : Int) v n)) - 1)) hx hb hr (fun t9 ht9 _ => ⟨⟨lZ ((ch (chI (k : Int) v n)) - 1), (ch), rfl, ⟨congrArg lZ (show ((ch (chI (k : Int) v n)) - 1 : Int) = WN cs mp k v n from (by omega)), hmemo⟩, ⟨by rw [ht9]; exact hP9, hD9⟩⟩, hS.F ht9⟩) hS.2.2 dX0_chance_129
          · refine lv_lconst (v := lZ 0) hx hb dX0_chance_75 rfl ?_
            refine lv_lstore (lv' := [(5, .long (lZ 0)), (4, .int (nZ (chI (k : Int) v n))), (0, .ref h), (1, .int (nZ (k : Int))), (2, .int (nZ v)), (3, .int (nZ n))]) hx hb dX0_chance_76 hl (by decide) rfl (fun ls hl => ?_)
            refine lv_iconst (v := nZ 0) hx hb dX0_chance_78 rfl ?_
            refine lv_istore (lv' := [(7, .int (nZ 0)), (5, .long (lZ 0)), (4, .int (nZ (chI (k : Int) v n))), (0, .ref h), (1, .int (nZ (k : Int))), (2, .int (nZ v)), (3, .int (nZ n))]) hx hb dX0_chance_79 hl (by decide) rfl (fun ls hl => ?_)
            refine z_loop3 (fun (cha : Int → Int) (most : Int) (j : Int) => (0 ≤ j) ∧ (j ≤ 4) ∧ (most = mxF (fun m => WNin cs mp m (k - 1) v n) j.toNat) ∧ (MemoOK cs mp cha)) (fun (cha : Int → Int) (most : Int) (j : Int) => (4 - j).toNat) (fun (cha : Int → Int) (most : Int) (j : Int) => [(h, .inr (0, [.ref q1, .ref q2, .ref q3])), (q3, .inl (cJ, 28080, .inr (.inl (bZ cha)))), (q1, .inr (3, [.ref p1, .ref p2])), (p1, .inl (cI, 4, .inl (aZ cs))), (p2, .inl (cI, 48, .inl (aZ mp)))]) (fun (cha : Int → Int) (most : Int) (j : Int) => [(0, .ref h), (1, .int (nZ (k : Int))), (2, .int (nZ v)), (3, .int (nZ n)), (4, .int (nZ (chI (k : Int) v n))), (5, .long (lZ most)), (7, .int (nZ j))]) ?_ ch 0 0 ⟨(by first | assumption | omega), (by first | assumption | omega), rfl, hmemo⟩ (hP.sub [0, 1, 2, 3, 4] rfl) (hD.sub [0, 1, 2, 3, 4] (by decide) rfl) hS (lv_sub hl [3, 4, 5, 6, 2, 1, 0] rfl)
            intro cha most j hI81 ih81 H locs ls hP hD hS hl
            have hP : va_P D vwCl [(h, .inr (0, [.ref q1, .ref q2, .ref q3])), (q3, .inl (cJ, 28080, .inr (.inl (bZ cha)))), (q1, .inr (3, [.ref p1, .ref p2])), (p1, .inl (cI, 4, .inl (aZ cs))), (p2, .inl (cI, 48, .inl (aZ mp)))] H := hP
            have hD : va_D A [(h, .inr (0, [.ref q1, .ref q2, .ref q3])), (q3, .inl (cJ, 28080, .inr (.inl (bZ cha)))), (q1, .inr (3, [.ref p1, .ref p2])), (p1, .inl (cI, 4, .inl (aZ cs))), (p2, .inl (cI, 48, .inl (aZ mp)))] := hD
            have hl : lv_has ls 8 [(0, .ref h), (1, .int (nZ (k : Int))), (2, .int (nZ v)), (3, .int (nZ n)), (4, .int (nZ (chI (k : Int) v n))), (5, .long (lZ most)), (7, .int (nZ j))] := hl
            obtain ⟨hj0, hj4, hmo, hme⟩ : (0 ≤ j) ∧ (j ≤ 4) ∧ (most = mxF (fun m => WNin cs mp m (k - 1) v n) j.toNat) ∧ (MemoOK cs mp cha) := hI81
            refine lv_iload hx hb dX0_chance_81 (lv_at hl 6 rfl) ?_
            refine lv_iconst (v := nZ 4) hx hb dX0_chance_83 rfl ?_
            refine z_icmp_ge (tgt := 109) hx hb dX0_chance_84 (by decide) (by omega) (by decide) (fun c_84 => ?_) (fun c_84 => ?_)
            · have hmo4 : most = WN cs mp k v n := by
                rw [hmo, show j = 4 from by omega, show k = k - 1 + 1 from by omega, WN_succ cs mp (k - 1) (by omega) (by omega)]
                rfl
              refine lv_aload_n hx hb dX0_chance_109 rfl (lv_at hl 0 rfl) ?_
              refine va_get (D := D) (ci := 0) (v := .ref q3) (C := RX0) (T := TX0) (N := 3) hx hb hts iX0 hown hK hP 0 rfl rfl 2 (by decide) (hts (.fieldLink RX0 15 "RainTarget$Batting" "chances" "[J") (List.mem_of_getElem? (i := 1) rfl)) (fun _ h9 => h9) rfl dX0_chance_110 ?_
              refine lv_iload hx hb dX0_chance_113 (lv_at hl 4 rfl) ?_
              refine lv_lload hx hb dX0_chance_115 (lv_at hl 5 rfl) ?_
              refine lv_lconst (v := lZ 1) hx hb dX0_chance_117 rfl ?_
              refine z_ladd hx hb dX0_chance_118 ?_
              refine z_last hx hb hK hP hD hS 1 1 rfl rfl (by omega) (by omega) (by omega) dX0_chance_119 (fun H locs hP hD hS => ?_)
              have hP : va_P D vwCl [(h, .inr (0, [.ref q1, .ref q2, .ref q3])), (q3, .inl (cJ, 28080, .inr (.inl (bZ (uZ cha (chI (k : Int) v n) (most + 1)))))), (q1, .inr (3, [.ref p1, .ref p2])), (p1, .inl (cI, 4, .inl (aZ cs))), (p2, .inl (cI, 48, .inl (aZ mp)))] H := hP
              have hD : va_D A [(h, .inr (0, [.ref q1, .ref q2, .ref q3])), (q3, .inl (cJ, 28080, .inr (.inl (bZ (uZ cha (chI (k : Int) v n) (most + 1)))))), (q1, .inr (3, [.ref p1, .ref p2])), (p1, .inl (cI, 4, .inl (aZ cs))), (p2, .inl (cI, 48, .inl (aZ mp)))] := hD
              refine lv_aload_n hx hb dX0_chance_120 rfl (lv_at hl 0 rfl) ?_
              refine va_get (D := D) (ci := 0) (v := .ref q3) (C := RX0) (T := TX0) (N := 3) hx hb hts iX0 hown hK hP 0 rfl rfl 2 (by decide) (hts (.fieldLink RX0 15 "RainTarget$Batting" "chances" "[J") (List.mem_of_getElem? (i := 1) rfl)) (fun _ h9 => h9) rfl dX0_chance_121 ?_
              refine lv_iload hx hb dX0_chance_124 (lv_at hl 4 rfl) ?_
              refine z_lald hx hb hK hP 1 1 rfl rfl (by omega) (by omega) (by omega) dX0_chance_126 ?_
              refine lv_lconst (v := lZ 1) hx hb dX0_chance_127 rfl ?_
              refine z_lsub hx hb dX0_chance_128 ?_
              have hP9 := hP.sub (ws' := [(h, .inr (0, [.ref q1, .ref q2, .ref q3])), (q3, .inl (cJ, 28080, .inr (.inl (bZ (uZ cha (chI (k : Int) v n) (most + 1)))))), (q1, .inr (3, [.ref p1, .ref p2])), (p1, .inl (cI, 4, .inl (aZ cs))), (p2, .inl (cI, 48, .inl (aZ mp)))]) [0, 1, 2, 3, 4] rfl
              have hD9 := hD.sub (ws' := [(h, .inr (0, [.ref q1, .ref q2, .ref q3])), (q3, .inl (cJ, 28080, .inr (.inl (bZ (uZ cha (chI (k : Int) v n) (most + 1)))))), (q1, .inr (3, [.ref p1, .ref p2])), (p1, .inl (cI, 4, .inl (aZ cs))), (p2, .inl (cI, 48, .inl (aZ mp)))]) [0, 1, 2, 3, 4] (by decide) rfl
              exact W.lret (v := lZ (((uZ cha (chI (k : Int) v n) (most + 1)) (chI (k : Int) v n)) - 1)) hx hb hr (fun t9 ht9 _ => ⟨⟨lZ (((uZ cha (chI (k : Int) v n) (most + 1)) (chI (k : Int) v n)) - 1), (uZ cha (chI (k : Int) v n) (most + 1)), rfl, ⟨congrArg lZ (show (((uZ cha (chI (k : Int) v n) (most + 1)) (chI (k : Int) v n)) - 1 : Int) = WN cs mp k v n from (by rw [uZ_s]; omega)), (by rw [hmo4]; exact hme.put (by omega) hk2 (by omega) hv2 (by omega) (by omega))⟩, ⟨by rw [ht9]; exact hP9, hD9⟩⟩, hS.F ht9⟩) hS.2.2 dX0_chance_129
            · refine lv_lload hx hb dX0_chance_87 (lv_at hl 5 rfl) ?_
              refine lv_aload_n hx hb dX0_chance_89 rfl (lv_at hl 0 rfl) ?_
              refine lv_iload hx hb dX0_chance_90 (lv_at hl 6 rfl) ?_
              refine lv_iload_n hx hb dX0_chance_92 rfl (lv_at hl 1 rfl) ?_
              refine lv_iload_n hx hb dX0_chance_93 rfl (lv_at hl 2 rfl) ?_
              refine lv_iload_n hx hb dX0_chance_94 rfl (lv_at hl 3 rfl) ?_
              have hFc := va_free (wc := [(h, .inr (0, [.ref q1, .ref q2, .ref q3])), (q3, .inl (cJ, 28080, .inr (.inl (bZ cha)))), (q1, .inr (3, [.ref p1, .ref p2])), (p1, .inl (cI, 4, .inl (aZ cs))), (p2, .inl (cI, 48, .inl (aZ mp)))]) hD hS hA [0, 1, 2, 3, 4] rfl
              have hPc := hP.sub (ws' := [(h, .inr (0, [.ref q1, .ref q2, .ref q3])), (q3, .inl (cJ, 28080, .inr (.inl (bZ cha)))), (q1, .inr (3, [.ref p1, .ref p2])), (p1, .inl (cI, 4, .inl (aZ cs))), (p2, .inl (cI, 48, .inl (aZ mp)))]) [0, 1, 2, 3, 4] rfl
              have hDc := hD.sub (ws' := [(h, .inr (0, [.ref q1, .ref q2, .ref q3])), (q3, .inl (cJ, 28080, .inr (.inl (bZ cha)))), (q1, .inr (3, [.ref p1, .ref p2])), (p1, .inl (cI, 4, .inl (aZ cs))), (p2, .inl (cI, 48, .inl (aZ mp)))]) [0, 1, 2, 3, 4] (by decide) rfl
              refine va_calll (va_runV (As := [.int (nZ j), .int (nZ (k : Int)), .int (nZ v), .int (nZ n)]) (rest := [.long (lZ most)]) ⟨hx, hb, hml, hown, hts⟩ (hCI (by omega) H.size cha j v n hM (by first | assumption | omega) hk2 hme (by first | assumption | omega) (by first | assumption | omega) (by first | assumption | omega) hv2 (by first | assumption | omega) hn2) (cwV 4 hts gX0_chance_X0_chanceIn rfl rfl rfl (by decide +kernel) ⟨by show 2 * k + 2 + 1 ≤ 2 * k + 3; omega, by show 8 + (9 + 11) + (60 * k + 70) ≤ 60 * k + 100; omega⟩) ⟨WrP.blind, va_recv hK hP (ci := 0) (q0 := 0) rfl rfl, fun U hU hW => ⟨rfl, WrP.call hE hS hPc hDc hFc hU hW⟩⟩ rfl rfl hl.1 rfl (lv_room (Nat.le_of_ble_eq_true rfl)) dX0_chance_95 ⟨Nat.le_of_ble_eq_true rfl, Nat.le_of_ble_eq_true rfl⟩) hS (fun q _ h => hFc q h) hFc (fun r95 u9 t9 H1 locs ht9 hvm hv95 hB9 hz9 hk9 hS => ?_)
              obtain ⟨ch2_95, rfl⟩ : ∃ z, z = u9 := ⟨_, rfl⟩
              obtain ⟨hP8, hD8⟩ := hB9
              rw [ht9] at hP8
              obtain ⟨hq95, hw95⟩ : r95 = lZ (WNin cs mp j (k - 1) v n) ∧ MemoOK cs mp ch2_95 := hv95
              subst hq95
              obtain ⟨hP, hD⟩ := va_join (wr := []) (w1 := [(h, .inr (0, [.ref q1, .ref q2, .ref q3])), (q3, .inl (cJ, 28080, .inr (.inl (bZ ch2_95)))), (q1, .inr (3, [.ref p1, .ref p2])), (p1, .inl (cI, 4, .inl (aZ cs))), (p2, .inl (cI, 48, .inl (aZ mp)))]) hP hD [0, 1, 2, 3, 4] [] rfl rfl (by decide) (by decide) hk9 hFc hP8 hD8
              generalize H1 = H at hP hS ⊢
              have hP : va_P D vwCl [(h, .inr (0, [.ref q1, .ref q2, .ref q3])), (q3, .inl (cJ, 28080, .inr (.inl (bZ ch2_95)))), (q1, .inr (3, [.ref p1, .ref p2])), (p1, .inl (cI, 4, .inl (aZ cs))), (p2, .inl (cI, 48, .inl (aZ mp)))] H := hP
              have hD : va_D A [(h, .inr (0, [.ref q1, .ref q2, .ref q3])), (q3, .inl (cJ, 28080, .inr (.inl (bZ ch2_95)))), (q1, .inr (3, [.ref p1, .ref p2])), (p1, .inl (cI, 4, .inl (aZ cs))), (p2, .inl (cI, 48, .inl (aZ mp)))] := hD
              refine z_nameL (fun r95 er95 => ?_)
              have hin0 := WNin_nn hM hj0 (show j < 4 by omega) (k - 1) v n
              have hin1 := WNin_top hM (show 1 ≤ k by omega) hk2 hj0 (show j < 4 by omega) v n
              have hmx0 := mxF_nn (fun m => WNin cs mp m (k - 1) v n) j.toNat
              have hmx1 : mxF (fun m => WNin cs mp m (k - 1) v n) j.toNat ≤ 1000000000000 := mxF_bd (by decide) (fun m a b => WNin_top hM (show 1 ≤ k by omega) hk2 a (by omega) v n)
              refine z_mmaxl hx hb (hml.trans hl.1.symm) hown (hts (.methodLink RX0 32 Lib.MathLoose.max_long.x) (List.mem_of_getElem? (i := 2) rfl)) (hts (.static Lib.MathLoose.max_long.x) (List.mem_of_getElem? (i := 3) rfl)) (hts (.initialized "java/lang/Math") (List.mem_of_getElem? (i := 4) rfl)) (hts (.code Lib.MathLoose.max_long.x Lib.MathLoose.max_long.code 4 (some .long)) (List.mem_of_getElem? (i := 5) rfl)) (by show 1 ≤ 2 * k + 3; omega) (by show 0 + 15 ≤ 60 * k + 100; omega) (Nat.zero_le _) (Nat.zero_le _) (by omega) (by omega) dX0_chance_98 ?_
              refine z_nameL (fun r98 er98 => ?_)
              refine lv_lstore (lv' := [(5, .long (lZ r98)), (0, .ref h), (1, .int (nZ (k : Int))), (2, .int (nZ v)), (3, .int (nZ n)), (4, .int (nZ (chI (k : Int) v n))), (7, .int (nZ j))]) hx hb dX0_chance_101 hl (by decide) rfl (fun ls hl => ?_)
              refine lv_iinc (v := nZ (j + 1)) (lv' := [(7, .int (nZ (j + 1))), (5, .long (lZ r98)), (0, .ref h), (1, .int (nZ (k : Int))), (2, .int (nZ v)), (3, .int (nZ n)), (4, .int (nZ (chI (k : Int) v n)))]) hx hb dX0_chance_103 hl (k := 6) rfl (nZ_add _ _) (by decide) rfl (fun ls hl => ?_)
              refine lv_goto (tgt := 81) hx hb dX0_chance_106 (by decide) ?_
              exact ih81 ch2_95 r98 (j + 1) ⟨(by first | assumption | omega), (by first | assumption | omega), (by rw [mxF_s _ hj0, er98, ← hmo]; split <;> split <;> omega), hw95⟩ (show (4 - (j + 1)).toNat < (4 - j).toNat from by omega) _ _ ls (hP.sub [0, 1, 2, 3, 4] rfl) (hD.sub [0, 1, 2, 3, 4] (by decide) rfl) hS (lv_sub hl [2, 3, 4, 5, 6, 1, 0] rfl)
        · refine lv_lconst (v := lZ 0) hx hb dX0_chance_37 rfl ?_
          have hP9 := hP.sub (ws' := [(h, .inr (0, [.ref q1, .ref q2, .ref q3])), (q3, .inl (cJ, 28080, .inr (.inl (bZ ch)))), (q1, .inr (3, [.ref p1, .ref p2])), (p1, .inl (cI, 4, .inl (aZ cs))), (p2, .inl (cI, 48, .inl (aZ mp)))]) [0, 1, 2, 3, 4] rfl
          have hD9 := hD.sub (ws' := [(h, .inr (0, [.ref q1, .ref q2, .ref q3])), (q3, .inl (cJ, 28080, .inr (.inl (bZ ch)))), (q1, .inr (3, [.ref p1, .ref p2])), (p1, .inl (cI, 4, .inl (aZ cs))), (p2, .inl (cI, 48, .inl (aZ mp)))]) [0, 1, 2, 3, 4] (by decide) rfl
          exact W.lret (v := lZ 0) hx hb hr (fun t9 ht9 _ => ⟨⟨lZ 0, (ch), rfl, ⟨congrArg lZ (show (0 : Int) = WN cs mp k v n from (by first | exact (WN_far hM k v (by omega)).symm | exact (WN_men cs mp k (by omega) (by omega)).symm)), hmemo⟩, ⟨by rw [ht9]; exact hP9, hD9⟩⟩, hS.F ht9⟩) hS.2.2 dX0_chance_38
  · refine lv_iload_n hx hb dX0_chance_4 rfl (lv_at hl 1 rfl) ?_
    refine vp_callSl ((va_runSN (As := [.int (nZ (k : Int))]) (rest := []) ⟨hx, hb, hml, hown, hts⟩ (c_X9_power l D cI cJ tn (k : Int) (by omega) ) ⟨va_cnB 1 hts gX0_chance_X9_power_n52 rfl rfl rfl (nw_X0_52 hN) (hts (.initialized RX9) (List.mem_of_getElem? (i := 7) rfl)) (by decide +kernel) ⟨by show 0 + 1 ≤ 2 * k + 3; omega, by show 8 + (1 + 11) + (0) ≤ 60 * k + 100; omega⟩, (hts (.static yX9_power) (List.mem_of_getElem? (i := 6) rfl)), trivial⟩ ⟨RoP.blind, fun U hU hW => ⟨rfl, RoP.call hE hS (hP.sub (ws' := []) [] rfl) hU hW⟩⟩ rfl rfl hl.1 rfl (lv_room (Nat.le_of_ble_eq_true rfl)) dX0_chance_5 ⟨Nat.le_of_ble_eq_true rfl, Nat.le_of_ble_eq_true rfl⟩).run) (fun r5 hr5 => ?_)
    subst hr5
    refine z_nameL (fun r5 er5 => ?_)
    have hP9 := hP.sub (ws' := [(h, .inr (0, [.ref q1, .ref q2, .ref q3])), (q3, .inl (cJ, 28080, .inr (.inl (bZ ch)))), (q1, .inr (3, [.ref p1, .ref p2])), (p1, .inl (cI, 4, .inl (aZ cs))), (p2, .inl (cI, 48, .inl (aZ mp)))]) [0, 1, 2, 3, 4] rfl
    have hD9 := hD.sub (ws' := [(h, .inr (0, [.ref q1, .ref q2, .ref q3])), (q3, .inl (cJ, 28080, .inr (.inl (bZ ch)))), (q1, .inr (3, [.ref p1, .ref p2])), (p1, .inl (cI, 4, .inl (aZ cs))), (p2, .inl (cI, 48, .inl (aZ mp)))]) [0, 1, 2, 3, 4] (by decide) rfl
    exact W.lret (v := lZ r5) hx hb hr (fun t9 ht9 _ => ⟨⟨lZ r5, (ch), rfl, ⟨congrArg lZ (show (r5 : Int) = WN cs mp k v n from (by rw [er5, if_pos (by omega), WN_got cs mp k v (by omega)]; rfl)), hmemo⟩, ⟨by rw [ht9]; exact hP9, hD9⟩⟩, hS.F ht9⟩) hS.2.2 dX0_chance_8

theorem c_ch_all (l : Launch) (D : va_G) (cI cJ : ClassId) (tn : Nat) (h : Nat) (q1 : Nat) (q2 : Nat) (q3 : Nat) (p1 : Nat) (p2 : Nat) (cs : Int → Int) (mp : Int → Int) : ∀ k : Nat, ChC l D cI cJ tn h q1 q2 q3 p1 p2 cs mp k
  | 0 => fun sz ch v n a b d f g i j => o_X0_chance l D cI cJ tn sz h q1 q2 q3 p1 p2 cs mp 0 ch v n a b d f g i j (fun q => absurd q (by decide))
  | k + 1 => fun sz ch v n a b d f g i j => o_X0_chance l D cI cJ tn sz h q1 q2 q3 p1 p2 cs mp (k + 1) ch v n a b d f g i j (fun _ sz2 ch2 x v2 n2 a1 a2 a3 a4 a5 a6 a7 a8 a9 a10 => o_X0_chanceIn l D cI cJ tn sz2 h q1 q2 q3 p1 p2 cs mp (k + 1) ch2 x v2 n2 a1 a2 a3 a4 a5 a6 a7 a8 a9 a10 (c_ch_all l D cI cJ tn h q1 q2 q3 p1 p2 cs mp k))
theorem c_X0_chance (l : Launch) (D : va_G) (cI cJ : ClassId) (tn : Nat) (sz : Nat) (h : Nat) (q1 : Nat) (q2 : Nat) (q3 : Nat) (p1 : Nat) (p2 : Nat) (cs : Int → Int) (mp : Int → Int) (k : Nat) (ch : Int → Int) (v : Int) (n : Int) (hM : MoodOK cs mp) (hk2 : k ≤ 12) (hmemo : MemoOK cs mp ch) (hv1 : -100 ≤ v) (hv2 : v ≤ 10) (hn1 : -1000 ≤ n) (hn2 : n ≤ 100000)  : Met l yX0_chance wsX0_chance (RC k) (va_Pc [.ref h, .int (nZ (k : Int)), .int (nZ v), .int (nZ n)] (WrP D cI cJ tn [(h, .inr (0, [.ref q1, .ref q2, .ref q3])), (q3, .inl (cJ, 28080, .inr (.inl (bZ ch)))), (q1, .inr (3, [.ref p1, .ref p2])), (p1, .inl (cI, 4, .inl (aZ cs))), (p2, .inl (cI, 48, .inl (aZ mp)))] sz)) (va_Ql (fun (r9 : Int64) (u9 : (Int → Int)) => r9 = lZ (WN cs mp k v n) ∧ MemoOK cs mp u9) (fun u9 t9 => WrQ D (va_A [(h, .inr (0, [.ref q1, .ref q2, .ref q3])), (q3, .inl (cJ, 28080, .inr (.inl (bZ ch)))), (q1, .inr (3, [.ref p1, .ref p2])), (p1, .inl (cI, 4, .inl (aZ cs))), (p2, .inl (cI, 48, .inl (aZ mp)))] sz) [(h, .inr (0, [.ref q1, .ref q2, .ref q3])), (q3, .inl (cJ, 28080, .inr (.inl (bZ u9)))), (q1, .inr (3, [.ref p1, .ref p2])), (p1, .inl (cI, 4, .inl (aZ cs))), (p2, .inl (cI, 48, .inl (aZ mp)))] t9) (va_A [(h, .inr (0, [.ref q1, .ref q2, .ref q3])), (q3, .inl (cJ, 28080, .inr (.inl (bZ ch)))), (q1, .inr (3, [.ref p1, .ref p2])), (p1, .inl (cI, 4, .inl (aZ cs))), (p2, .inl (cI, 48, .inl (aZ mp)))] sz)) 0 0 (va_A [(h, .inr (0, [.ref q1, .ref q2, .ref q3])), (q3, .inl (cJ, 28080, .inr (.inl (bZ ch)))), (q1, .inr (3, [.ref p1, .ref p2])), (p1, .inl (cI, 4, .inl (aZ cs))), (p2, .inl (cI, 48, .inl (aZ mp)))] sz) := c_ch_all l D cI cJ tn h q1 q2 q3 p1 p2 cs mp k sz ch v n hM hk2 hmemo hv1 hv2 hn1 hn2
theorem c_X0_chanceIn (l : Launch) (D : va_G) (cI cJ : ClassId) (tn : Nat) (sz : Nat) (h : Nat) (q1 : Nat) (q2 : Nat) (q3 : Nat) (p1 : Nat) (p2 : Nat) (cs : Int → Int) (mp : Int → Int) (k : Nat) (ch : Int → Int) (a : Int) (v : Int) (n : Int) (hM : MoodOK cs mp) (hk1 : 1 ≤ k) (hk2 : k ≤ 12) (hmemo : MemoOK cs mp ch) (ha0 : 0 ≤ a) (ha4 : a < 4) (hv1 : 1 ≤ v) (hv2 : v ≤ 10) (hn1 : 1 ≤ n) (hn2 : n ≤ 100000)  : Met l yX0_chanceIn wsX0_chanceIn (RCI k) (va_Pc [.ref h, .int (nZ a), .int (nZ (k : Int)), .int (nZ v), .int (nZ n)] (WrP D cI cJ tn [(h, .inr (0, [.ref q1, .ref q2, .ref q3])), (q3, .inl (cJ, 28080, .inr (.inl (bZ ch)))), (q1, .inr (3, [.ref p1, .ref p2])), (p1, .inl (cI, 4, .inl (aZ cs))), (p2, .inl (cI, 48, .inl (aZ mp)))] sz)) (va_Ql (fun (r9 : Int64) (u9 : (Int → Int)) => r9 = lZ (WNin cs mp a (k - 1) v n) ∧ MemoOK cs mp u9) (fun u9 t9 => WrQ D (va_A [(h, .inr (0, [.ref q1, .ref q2, .ref q3])), (q3, .inl (cJ, 28080, .inr (.inl (bZ ch)))), (q1, .inr (3, [.ref p1, .ref p2])), (p1, .inl (cI, 4, .inl (aZ cs))), (p2, .inl (cI, 48, .inl (aZ mp)))] sz) [(h, .inr (0, [.ref q1, .ref q2, .ref q3])), (q3, .inl (cJ, 28080, .inr (.inl (bZ u9)))), (q1, .inr (3, [.ref p1, .ref p2])), (p1, .inl (cI, 4, .inl (aZ cs))), (p2, .inl (cI, 48, .inl (aZ mp)))] t9) (va_A [(h, .inr (0, [.ref q1, .ref q2, .ref q3])), (q3, .inl (cJ, 28080, .inr (.inl (bZ ch)))), (q1, .inr (3, [.ref p1, .ref p2])), (p1, .inl (cI, 4, .inl (aZ cs))), (p2, .inl (cI, 48, .inl (aZ mp)))] sz)) 0 0 (va_A [(h, .inr (0, [.ref q1, .ref q2, .ref q3])), (q3, .inl (cJ, 28080, .inr (.inl (bZ ch)))), (q1, .inr (3, [.ref p1, .ref p2])), (p1, .inl (cI, 4, .inl (aZ cs))), (p2, .inl (cI, 48, .inl (aZ mp)))] sz) := o_X0_chanceIn l D cI cJ tn sz h q1 q2 q3 p1 p2 cs mp k ch a v n hM hk1 hk2 hmemo ha0 ha4 hv1 hv2 hn1 hn2 (c_ch_all l D cI cJ tn h q1 q2 q3 p1 p2 cs mp (k - 1))
