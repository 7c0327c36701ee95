set_option maxHeartbeats 4000000 in
set_option maxRecDepth 100000 in
theorem c_X10_in (l : Launch) (D : va_G) (cI cJ : ClassId) (tn : Nat) (a : Int) (b : Int) (d : Int) (ra : I32 a) (rb : I32 b) (rd : I32 d)  : Met l yX10_in wsX10_in ({ frames := 0, cells := 0, slots := 0, locals := 0 } : Room) (va_Pc [.int (nZ a), .int (nZ b), .int (nZ d)] (RoP D cI cJ tn [])) (vp_Si (fun r9 : Int32 => r9 = nZ (if b ≤ a ∧ a ≤ d then 1 else 0))) 0 0 (fun _ => False) := by
  refine Met.ofW (cc := cX10_in) (maxL := 3) (ret := (some .boolean)) (by decide) rfl ?_
  intro p e s m args below meth c s₁ B hml hv
  obtain ⟨rfl, hE, hP⟩ := hv
  have hx := B.exec
  have hb := B.bytes
  have hr := B.returns
  have hts := atoms_spec (ws := wsX10_in) B.pre
  have hown : s.vm.findClass RX10 = some m.cls := findClass_of_methodNamed B.named
  have hlocks := B.notSynchronized
  have hS : va_S (fun _ => False) s.heap s.heap [] := va_S.rf
  have hK := hE.1
  have hN := hE.2.1
  have hl := lv_entry ([.int (nZ a), .int (nZ b), .int (nZ d)]) (n := 3) (Nat.le_of_ble_eq_true rfl)
  rw [lg_entry_eq]
  generalize (lg_sl ([.int (nZ a), .int (nZ b), .int (nZ d)]) ++ List.replicate (3 - (lg_sl ([.int (nZ a), .int (nZ b), .int (nZ d)])).length) Slot.unset).toArray = ls at hl ⊢
  have hl : lv_has ls 3 [(0, .int (nZ a)), (1, .int (nZ b)), (2, .int (nZ d))] := hl
  refine lv_iload_n hx hb dX10_in_0 rfl (lv_at hl 0 rfl) ?_
  refine lv_iload_n hx hb dX10_in_1 rfl (lv_at hl 1 rfl) ?_
  refine z_icmp_lt (tgt := 14) hx hb dX10_in_2 (by decide) (by omega) (by omega) (fun c_2 => ?_) (fun c_2 => ?_)
  · refine lv_iconst (v := nZ 0) hx hb dX10_in_14 rfl ?_
    exact W.zret (v := nZ 0) hx hb hr (z_bool (show (0 : Int) = 0 ∨ (0 : Int) = 1 from by omega)) (fun t9 ht9 _ => ⟨nZ 0, rfl, congrArg nZ (show (0 : Int) = if b ≤ a ∧ a ≤ d then 1 else 0 from (by first | rfl | omega | (split <;> omega) | (simp_all; done))), ht9⟩) (fun _ h => by cases h) dX10_in_15
  · refine lv_iload_n hx hb dX10_in_5 rfl (lv_at hl 0 rfl) ?_
    refine lv_iload_n hx hb dX10_in_6 rfl (lv_at hl 2 rfl) ?_
    refine z_icmp_gt (tgt := 14) hx hb dX10_in_7 (by decide) (by omega) (by omega) (fun c_7 => ?_) (fun c_7 => ?_)
    · refine lv_iconst (v := nZ 0) hx hb dX10_in_14 rfl ?_
      exact W.zret (v := nZ 0) hx hb hr (z_bool (show (0 : Int) = 0 ∨ (0 : Int) = 1 from by omega)) (fun t9 ht9 _ => ⟨nZ 0, rfl, congrArg nZ (show (0 : Int) = if b ≤ a ∧ a ≤ d then 1 else 0 from (by first | rfl | omega | (split <;> omega) | (simp_all; done))), ht9⟩) (fun _ h => by cases h) dX10_in_15
    · refine lv_iconst (v := nZ 1) hx hb dX10_in_10 rfl ?_
      refine lv_goto (tgt := 15) hx hb dX10_in_11 (by decide) ?_
      exact W.zret (v := nZ 1) hx hb hr (z_bool (show (1 : Int) = 0 ∨ (1 : Int) = 1 from by omega)) (fun t9 ht9 _ => ⟨nZ 1, rfl, congrArg nZ (show (1 : Int) = if b ≤ a ∧ a ≤ d then 1 else 0 from (by first | rfl | omega | (split <;> omega) | (simp_all; done))), ht9⟩) (fun _ h => by cases h) dX10_in_15

set_option maxHeartbeats 4000000 in
set_option maxRecDepth 100000 in
theorem c_X10_isRule (l : Launch) (D : va_G) (cI cJ : ClassId) (tn : Nat) (a : Int) (ra : I32 a)  : Met l yX10_isRule wsX10_isRule ({ frames := 1, cells := 0, slots := 0, locals := 22 } : Room) (va_Pc [.int (nZ a)] (RoP D cI cJ tn [])) (vp_Si (fun r9 : Int32 => r9 = nZ (if 0 ≤ a ∧ a ≤ 5 then 1 else 0))) 0 0 (fun _ => False) := by
  refine Met.ofW (cc := cX10_isRule) (maxL := 1) (ret := (some .boolean)) (by decide) rfl ?_
  intro p e s m args below meth c s₁ B hml hv
  obtain ⟨rfl, hE, hP⟩ := hv
  have hx := B.exec
  have hb := B.bytes
  have hr := B.returns
  have hts := atoms_spec (ws := wsX10_isRule) B.pre
  have hown : s.vm.findClass RX10 = some m.cls := findClass_of_methodNamed B.named
  have hlocks := B.notSynchronized
  have hS : va_S (fun _ => False) s.heap s.heap [] := va_S.rf
  have hK := hE.1
  have hN := hE.2.1
  have hl := lv_entry ([.int (nZ a)]) (n := 1) (Nat.le_of_ble_eq_true rfl)
  rw [lg_entry_eq]
  generalize (lg_sl ([.int (nZ a)]) ++ List.replicate (1 - (lg_sl ([.int (nZ a)])).length) Slot.unset).toArray = ls at hl ⊢
  have hl : lv_has ls 1 [(0, .int (nZ a))] := hl
  refine lv_iload_n hx hb dX10_isRule_0 rfl (lv_at hl 0 rfl) ?_
  refine lv_iconst (v := nZ 0) hx hb dX10_isRule_1 rfl ?_
  refine lv_iconst (v := nZ 5) hx hb dX10_isRule_2 rfl ?_
  refine vp_callSi ((va_runS (As := [.int (nZ a), .int (nZ 0), .int (nZ 5)]) (rest := []) ⟨hx, hb, hml, hown, hts⟩ (c_X10_in l D cI cJ tn a 0 5 ra (by decide) (by decide) ) (va_cwS 3 hts gX10_isRule_X10_in rfl rfl rfl (by decide +kernel) ⟨Nat.le_of_ble_eq_true rfl, Nat.le_of_ble_eq_true rfl⟩) ⟨RoP.blind, fun U hU hW => ⟨rfl, RoP.call hE hS (hP.sub (ws' := []) [] rfl) hU hW⟩⟩ rfl rfl hl.1 rfl (lv_room (Nat.le_of_ble_eq_true rfl)) dX10_isRule_3 ⟨Nat.le_of_ble_eq_true rfl, Nat.le_of_ble_eq_true rfl⟩).run) (fun r3 hr3 => ?_)
  subst hr3
  refine z_nameI (fun r3 er3 => ?_)
  exact W.zret (v := nZ r3) hx hb hr (z_bool (show (r3 : Int) = 0 ∨ (r3 : Int) = 1 from by omega)) (fun t9 ht9 _ => ⟨nZ r3, rfl, congrArg nZ (show (r3 : Int) = if 0 ≤ a ∧ a ≤ 5 then 1 else 0 from (by first | rfl | omega | (split <;> omega) | (simp_all; done))), ht9⟩) (fun _ h => by cases h) dX10_isRule_6

set_option maxHeartbeats 4000000 in
set_option maxRecDepth 100000 in
theorem c_X10_ten (l : Launch) (D : va_G) (cI cJ : ClassId) (tn : Nat) (a : Int) (ra : I32 a)  : Met l yX10_ten wsX10_ten ({ frames := 0, cells := 0, slots := 0, locals := 0 } : Room) (va_Pc [.int (nZ a)] (RoP D cI cJ tn [])) (vp_Sl (fun r9 : Int64 => r9 = lZ ((10 : Int) ^ a.toNat))) 0 0 (fun _ => False) := by
  refine Met.ofW (cc := cX10_ten) (maxL := 4) (ret := (some .long)) (by decide) rfl ?_
  intro p e s m args below meth c s₁ B hml hv
  obtain ⟨rfl, hE, hP⟩ := hv
  have hx := B.exec
  have hb := B.bytes
  have hr := B.returns
  have hts := atoms_spec (ws := wsX10_ten) B.pre
  have hown : s.vm.findClass RX10 = some m.cls := findClass_of_methodNamed B.named
  have hlocks := B.notSynchronized
  have hS : va_S (fun _ => False) s.heap s.heap [] := va_S.rf
  have hK := hE.1
  have hN := hE.2.1
  have hl := lv_entry ([.int (nZ a)]) (n := 4) (Nat.le_of_ble_eq_true rfl)
  rw [lg_entry_eq]
  generalize (lg_sl ([.int (nZ a)]) ++ List.replicate (4 - (lg_sl ([.int (nZ a)])).length) Slot.unset).toArray = ls at hl ⊢
  have hl : lv_has ls 4 [(0, .int (nZ a))] := hl
  refine lv_lconst (v := lZ 1) hx hb dX10_ten_0 rfl ?_
  refine lv_lstore_n (lv' := [(1, .long (lZ 1)), (0, .int (nZ a))]) hx hb dX10_ten_1 rfl hl (by decide) rfl (fun ls hl => ?_)
  refine lv_iconst (v := nZ 0) hx hb dX10_ten_2 rfl ?_
  refine lv_istore_n (lv' := [(3, .int (nZ 0)), (1, .long (lZ 1)), (0, .int (nZ a))]) hx hb dX10_ten_3 rfl hl (by decide) rfl (fun ls hl => ?_)
  refine z_rloop2 (fun (v : Int) (i : Int) => (0 ≤ i) ∧ (i ≤ a ∨ i = 0) ∧ (v = (10 : Int) ^ i.toNat)) (fun (v : Int) (i : Int) => (a - i).toNat) (fun (v : Int) (i : Int) => [(3, .int (nZ i)), (1, .long (lZ v)), (0, .int (nZ a))]) ?_ 1 0 ⟨(by first | assumption | omega), (by first | assumption | omega), rfl⟩ (lv_sub hl [0, 1, 2] rfl)
  intro v i hI4 ih4 ls hl
  have hl : lv_has ls 4 [(3, .int (nZ i)), (1, .long (lZ v)), (0, .int (nZ a))] := hl
  obtain ⟨hi0, hi1, hv⟩ : (0 ≤ i) ∧ (i ≤ a ∨ i = 0) ∧ (v = (10 : Int) ^ i.toNat) := hI4
  refine lv_iload_n hx hb dX10_ten_4 rfl (lv_at hl 0 rfl) ?_
  refine lv_iload_n hx hb dX10_ten_5 rfl (lv_at hl 2 rfl) ?_
  refine z_icmp_ge (tgt := 21) hx hb dX10_ten_6 (by decide) (by omega) (by omega) (fun c_6 => ?_) (fun c_6 => ?_)
  · refine lv_lload_n hx hb dX10_ten_21 rfl (lv_at hl 1 rfl) ?_
    exact W.lret (v := lZ v) hx hb hr (fun t9 ht9 _ => ⟨lZ v, rfl, congrArg lZ (show (v : Int) = (10 : Int) ^ a.toNat from (by rw [hv, show i.toNat = a.toNat from by omega])), ht9⟩) (fun _ h => by cases h) dX10_ten_22
  · refine lv_ldc2 (own := RX10) (v := 10) hx hb hown (hts (.constantLong RX10 70 (10)) (List.mem_of_getElem? (i := 1) rfl)) dX10_ten_9 ?_
    refine z_litl 10 (by decide) ?_
    refine lv_lload_n hx hb dX10_ten_12 rfl (lv_at hl 1 rfl) ?_
    refine z_lmul hx hb dX10_ten_13 ?_
    refine lv_lstore_n (lv' := [(1, .long (lZ (10 * v))), (3, .int (nZ i)), (0, .int (nZ a))]) hx hb dX10_ten_14 rfl hl (by decide) rfl (fun ls hl => ?_)
    refine lv_iinc (v := nZ (i + 1)) (lv' := [(3, .int (nZ (i + 1))), (1, .long (lZ (10 * v))), (0, .int (nZ a))]) hx hb dX10_ten_15 hl (k := 1) rfl (nZ_add _ _) (by decide) rfl (fun ls hl => ?_)
    refine lv_goto (tgt := 4) hx hb dX10_ten_18 (by decide) ?_
    exact ih4 (10 * v) (i + 1) ⟨(by first | assumption | omega), (by first | assumption | omega), (by rw [toN_s hi0, Int.pow_succ, Int.mul_comm, hv])⟩ (show (a - (i + 1)).toNat < (a - i).toNat from by omega) ls (lv_sub hl [0, 1, 2] rfl)

set_option maxHeartbeats 4000000 in
set_option maxRecDepth 100000 in
theorem c_X10_rest (l : Launch) (D : va_G) (cI cJ : ClassId) (tn : Nat) (a : Int) (b : Int) (ra : I32 a) (rb : I32 b)  : Met l yX10_rest wsX10_rest ({ frames := 0, cells := 0, slots := 0, locals := 0 } : Room) (va_Pc [.int (nZ a), .int (nZ b)] (RoP D cI cJ tn [])) (vp_Si (fun r9 : Int32 => r9 = nZ (if a < b then 0 else a - b))) 0 0 (fun _ => False) := by
  refine Met.ofW (cc := cX10_rest) (maxL := 2) (ret := (some .int)) (by decide) rfl ?_
  intro p e s m args below meth c s₁ B hml hv
  obtain ⟨rfl, hE, hP⟩ := hv
  have hx := B.exec
  have hb := B.bytes
  have hr := B.returns
  have hts := atoms_spec (ws := wsX10_rest) B.pre
  have hown : s.vm.findClass RX10 = some m.cls := findClass_of_methodNamed B.named
  have hlocks := B.notSynchronized
  have hS : va_S (fun _ => False) s.heap s.heap [] := va_S.rf
  have hK := hE.1
  have hN := hE.2.1
  have hl := lv_entry ([.int (nZ a), .int (nZ b)]) (n := 2) (Nat.le_of_ble_eq_true rfl)
  rw [lg_entry_eq]
  generalize (lg_sl ([.int (nZ a), .int (nZ b)]) ++ List.replicate (2 - (lg_sl ([.int (nZ a), .int (nZ b)])).length) Slot.unset).toArray = ls at hl ⊢
  have hl : lv_has ls 2 [(0, .int (nZ a)), (1, .int (nZ b))] := hl
  refine lv_iload_n hx hb dX10_rest_0 rfl (lv_at hl 1 rfl) ?_
  refine lv_iload_n hx hb dX10_rest_1 rfl (lv_at hl 0 rfl) ?_
  refine z_icmp_le (tgt := 9) hx hb dX10_rest_2 (by decide) (by omega) (by omega) (fun c_2 => ?_) (fun c_2 => ?_)
  · refine lv_iload_n hx hb dX10_rest_9 rfl (lv_at hl 0 rfl) ?_
    refine lv_iload_n hx hb dX10_rest_10 rfl (lv_at hl 1 rfl) ?_
    refine z_isub hx hb dX10_rest_11 ?_
    exact W.iret (v := nZ (a - b)) hx hb hr (fun t9 ht9 _ => ⟨nZ (a - b), rfl, congrArg nZ (show (a - b : Int) = if a < b then 0 else a - b from (by first | rfl | (rw [if_pos (by omega)]; done) | (rw [if_neg (by omega)]; done))), ht9⟩) (fun _ h => by cases h) dX10_rest_12
  · refine lv_iconst (v := nZ 0) hx hb dX10_rest_5 rfl ?_
    refine lv_goto (tgt := 12) hx hb dX10_rest_6 (by decide) ?_
    exact W.iret (v := nZ 0) hx hb hr (fun t9 ht9 _ => ⟨nZ 0, rfl, congrArg nZ (show (0 : Int) = if a < b then 0 else a - b from (by first | rfl | (rw [if_pos (by omega)]; done) | (rw [if_neg (by omega)]; done))), ht9⟩) (fun _ h => by cases h) dX10_rest_12

set_option maxHeartbeats 4000000 in
set_option maxRecDepth 100000 in
theorem c_X10_greater (l : Launch) (D : va_G) (cI cJ : ClassId) (tn : Nat) (a : Int) (b : Int) (ra : I64 a) (rb : I64 b)  : Met l yX10_greater wsX10_greater ({ frames := 0, cells := 0, slots := 0, locals := 0 } : Room) (va_Pc [.long (lZ a), .long (lZ b)] (RoP D cI cJ tn [])) (vp_Sl (fun r9 : Int64 => r9 = lZ (if b < a then a else b))) 0 0 (fun _ => False) := by
  refine Met.ofW (cc := cX10_greater) (maxL := 4) (ret := (some .long)) (by decide) rfl ?_
  intro p e s m args below meth c s₁ B hml hv
  obtain ⟨rfl, hE, hP⟩ := hv
  have hx := B.exec
  have hb := B.bytes
  have hr := B.returns
  have hts := atoms_spec (ws := wsX10_greater) B.pre
  have hown : s.vm.findClass RX10 = some m.cls := findClass_of_methodNamed B.named
  have hlocks := B.notSynchronized
  have hS : va_S (fun _ => False) s.heap s.heap [] := va_S.rf
  have hK := hE.1
  have hN := hE.2.1
  have hl := lv_entry ([.long (lZ a), .long (lZ b)]) (n := 4) (Nat.le_of_ble_eq_true rfl)
  rw [lg_entry_eq]
  generalize (lg_sl ([.long (lZ a), .long (lZ b)]) ++ List.replicate (4 - (lg_sl ([.long (lZ a), .long (lZ b)])).length) Slot.unset).toArray = ls at hl ⊢
  have hl : lv_has ls 4 [(0, .long (lZ a)), (2, .long (lZ b))] := hl
  refine lv_lload_n hx hb dX10_greater_0 rfl (lv_at hl 0 rfl) ?_
  refine lv_lload_n hx hb dX10_greater_1 rfl (lv_at hl 1 rfl) ?_
  refine z_lcmp_le (tgt := 10) hx hb dX10_greater_2 dX10_greater_3 (by decide) (by omega) (by omega) (fun c_2 => ?_) (fun c_2 => ?_)
  · refine lv_lload_n hx hb dX10_greater_10 rfl (lv_at hl 1 rfl) ?_
    exact W.lret (v := lZ b) hx hb hr (fun t9 ht9 _ => ⟨lZ b, rfl, congrArg lZ (show (b : Int) = if b < a then a else b from (by first | rfl | (rw [if_pos (by omega)]; done) | (rw [if_neg (by omega)]; done))), ht9⟩) (fun _ h => by cases h) dX10_greater_11
  · refine lv_lload_n hx hb dX10_greater_6 rfl (lv_at hl 0 rfl) ?_
    refine lv_goto (tgt := 11) hx hb dX10_greater_7 (by decide) ?_
    exact W.lret (v := lZ a) hx hb hr (fun t9 ht9 _ => ⟨lZ a, rfl, congrArg lZ (show (a : Int) = if b < a then a else b from (by first | rfl | (rw [if_pos (by omega)]; done) | (rw [if_neg (by omega)]; done))), ht9⟩) (fun _ h => by cases h) dX10_greater_11

set_option maxHeartbeats 4000000 in
set_option maxRecDepth 100000 in
theorem c_X10_makesOf (l : Launch) (D : va_G) (cI cJ : ClassId) (tn : Nat) (h : Nat) (a2 : Nat) (a3 : Nat) (a10 : Nat) (a18 : Nat) (a20 : Nat) (a21 : Nat) (a23 : Nat) (a24 : Nat) (a25 : Nat) (a27 : Nat) (a28 : Nat) (a29 : Nat) (a31 : Nat) (a32 : Nat) (mo : Int) (mm : Int) (mpr : Int) (mbe : Int) (mct : Int) (mco : Int) (mli : Int) (mby : Int) (mps : Int) (mta : Int) (mtk : Int) (mdg : Int) (mnu : Int) (mfa : Int) (mrm : Int) (mfm : Int) (mev : Int) (mmt : Int) (mla : Int) (mle : Int) (mst : Int) (mru : Int) (mtn : Int) (mlo : Int) (mbl : Int) (mch : Int) (me : Int → Int) (a : Int) (b : Int) (ha0 : 0 ≤ a) (ha1 : a ≤ 12) (hb0 : 0 ≤ b) (hb1 : b ≤ 10)  : Met l yX10_makesOf wsX10_makesOf ({ frames := 0, cells := 0, slots := 0, locals := 0 } : Room) (va_Pc [.ref h, .int (nZ a), .int (nZ b)] (RoP D cI cJ tn [(h, .inr (10, [.int (nZ mo), .int (nZ mm), .ref a2, .ref a3, .int (nZ mpr), .int (nZ mbe), .int (nZ mct), .int (nZ mco), .int (nZ mli), .int (nZ mby), .ref a10, .int (nZ mps), .int (nZ mta), .long (lZ mtk), .int (nZ mdg), .int (nZ mnu), .int (nZ mfa), .int (nZ mrm), .ref a18, .int (nZ mfm), .ref a20, .ref a21, .int (nZ mev), .ref a23, .ref a24, .ref a25, .int (nZ mmt), .ref a27, .ref a28, .ref a29, .int (nZ mla), .ref a31, .ref a32, .int (nZ mle), .int (nZ mst), .int (nZ mru), .int (nZ mtn), .int (nZ mlo), .int (nZ mbl), .int (nZ mch)])), (a31, .inl (cJ, 143, .inr (.inl (bZ me))))])) (vp_Sl (fun r9 : Int64 => r9 = lZ (me (11 * a + b)))) 0 0 (fun _ => False) := by
  refine Met.ofW (cc := cX10_makesOf) (maxL := 3) (ret := (some .long)) (by decide) rfl ?_
  intro p e s m args below meth c s₁ B hml hv
  obtain ⟨rfl, hE, hP⟩ := hv
  have hx := B.exec
  have hb := B.bytes
  have hr := B.returns
  have hts := atoms_spec (ws := wsX10_makesOf) B.pre
  have hown : s.vm.findClass RX10 = some m.cls := findClass_of_methodNamed B.named
  have hlocks := B.notSynchronized
  have hS : va_S (fun _ => False) s.heap s.heap [] := va_S.rf
  have hK := hE.1
  have hN := hE.2.1
  have hl := lv_entry ([.ref h, .int (nZ a), .int (nZ b)]) (n := 3) (Nat.le_of_ble_eq_true rfl)
  rw [lg_entry_eq]
  generalize (lg_sl ([.ref h, .int (nZ a), .int (nZ b)]) ++ List.replicate (3 - (lg_sl ([.ref h, .int (nZ a), .int (nZ b)])).length) Slot.unset).toArray = ls at hl ⊢
  have hl : lv_has ls 3 [(0, .ref h), (1, .int (nZ a)), (2, .int (nZ b))] := hl
  have iX10 : ∀ w ∈ u_ws RX10 TX10 40, w ∈ wsX10_makesOf := fun _ h => List.mem_cons_of_mem _ (List.mem_append_right _ h)
  refine lv_aload_n hx hb dX10_makesOf_0 rfl (lv_at hl 0 rfl) ?_
  refine va_get (D := D) (ci := 10) (v := .ref a31) (C := RX10) (T := TX10) (N := 40) hx hb hts iX10 hown hK hP 0 rfl rfl 31 (by decide) (hts (.fieldLink RX10 62 "RainTargetModel" "makes" "[J") (List.mem_of_getElem? (i := 1) rfl)) (fun _ h9 => h9) rfl dX10_makesOf_1 ?_
  refine lv_bipush (v := nZ 11) hx hb dX10_makesOf_4 (by decide) ?_
  refine lv_iload_n hx hb dX10_makesOf_6 rfl (lv_at hl 1 rfl) ?_
  refine z_imul hx hb dX10_makesOf_7 ?_
  refine lv_iload_n hx hb dX10_makesOf_8 rfl (lv_at hl 2 rfl) ?_
  refine z_iadd hx hb dX10_makesOf_9 ?_
  refine z_lald hx hb hK hP 1 1 rfl rfl (by omega) (by omega) (by omega) dX10_makesOf_10 ?_
  exact W.lret (v := lZ (me ((11 * a) + b))) hx hb hr (fun t9 ht9 _ => ⟨lZ (me ((11 * a) + b)), rfl, congrArg lZ (show (me ((11 * a) + b) : Int) = me (11 * a + b) from (by first | rfl | omega | (split <;> omega) | (simp_all; done))), ht9⟩) (fun _ h => by cases h) dX10_makesOf_11

set_option maxHeartbeats 4000000 in
set_option maxRecDepth 100000 in
theorem c_X10_areIn (l : Launch) (D : va_G) (cI cJ : ClassId) (tn : Nat) (h : Nat) (a2 : Nat) (a3 : Nat) (a10 : Nat) (a18 : Nat) (a20 : Nat) (a21 : Nat) (a23 : Nat) (a24 : Nat) (a25 : Nat) (a27 : Nat) (a28 : Nat) (a29 : Nat) (a31 : Nat) (a32 : Nat) (mo : Int) (mm : Int) (mpr : Int) (mbe : Int) (mct : Int) (mco : Int) (mli : Int) (mby : Int) (mps : Int) (mta : Int) (mtk : Int) (mdg : Int) (mnu : Int) (mfa : Int) (mrm : Int) (mfm : Int) (mev : Int) (mmt : Int) (mla : Int) (mle : Int) (mst : Int) (mru : Int) (mtn : Int) (mlo : Int) (mbl : Int) (mch : Int) (a : Int) (b : Int) (ra : I32 a) (rb : I32 b) (rmo : I32 mo) (rmm : I32 mm)  : Met l yX10_areIn wsX10_areIn ({ frames := 1, cells := 0, slots := 0, locals := 22 } : Room) (va_Pc [.ref h, .int (nZ a), .int (nZ b)] (RoP D cI cJ tn [(h, .inr (10, [.int (nZ mo), .int (nZ mm), .ref a2, .ref a3, .int (nZ mpr), .int (nZ mbe), .int (nZ mct), .int (nZ mco), .int (nZ mli), .int (nZ mby), .ref a10, .int (nZ mps), .int (nZ mta), .long (lZ mtk), .int (nZ mdg), .int (nZ mnu), .int (nZ mfa), .int (nZ mrm), .ref a18, .int (nZ mfm), .ref a20, .ref a21, .int (nZ mev), .ref a23, .ref a24, .ref a25, .int (nZ mmt), .ref a27, .ref a28, .ref a29, .int (nZ mla), .ref a31, .ref a32, .int (nZ mle), .int (nZ mst), .int (nZ mru), .int (nZ mtn), .int (nZ mlo), .int (nZ mbl), .int (nZ mch)]))])) (vp_Si (fun r9 : Int32 => r9 = nZ (if (0 ≤ a ∧ a ≤ mo) ∧ (0 ≤ b ∧ b ≤ mm) then 1 else 0))) 0 0 (fun _ => False) := by
  refine Met.ofW (cc := cX10_areIn) (maxL := 3) (ret := (some .boolean)) (by decide) rfl ?_
  intro p e s m args below meth c s₁ B hml hv
  obtain ⟨rfl, hE, hP⟩ := hv
  have hx := B.exec
  have hb := B.bytes
  have hr := B.returns
  have hts := atoms_spec (ws := wsX10_areIn) B.pre
  have hown : s.vm.findClass RX10 = some m.cls := findClass_of_methodNamed B.named
  have hlocks := B.notSynchronized
  have hS : va_S (fun _ => False) s.heap s.heap [] := va_S.rf
  have hK := hE.1
  have hN := hE.2.1
  have hl := lv_entry ([.ref h, .int (nZ a), .int (nZ b)]) (n := 3) (Nat.le_of_ble_eq_true rfl)
  rw [lg_entry_eq]
  generalize (lg_sl ([.ref h, .int (nZ a), .int (nZ b)]) ++ List.replicate (3 - (lg_sl ([.ref h, .int (nZ a), .int (nZ b)])).length) Slot.unset).toArray = ls at hl ⊢
  have hl : lv_has ls 3 [(0, .ref h), (1, .int (nZ a)), (2, .int (nZ b))] := hl
  have iX10 : ∀ w ∈ u_ws RX10 TX10 40, w ∈ wsX10_areIn := fun _ h => List.mem_cons_of_mem _ (List.mem_append_right _ h)
  refine lv_iload_n hx hb dX10_areIn_0 rfl (lv_at hl 1 rfl) ?_
  refine lv_iconst (v := nZ 0) hx hb dX10_areIn_1 rfl ?_
  refine lv_aload_n hx hb dX10_areIn_2 rfl (lv_at hl 0 rfl) ?_
  refine va_get (D := D) (ci := 10) (v := .int (nZ mo)) (C := RX10) (T := TX10) (N := 40) hx hb hts iX10 hown hK hP 0 rfl rfl 0 (by decide) (hts (.fieldLink RX10 7 "RainTargetModel" "overs" "I") (List.mem_of_getElem? (i := 1) rfl)) (fun _ h9 => h9) rfl dX10_areIn_3 ?_
  refine vp_callSi ((va_runS (As := [.int (nZ a), .int (nZ 0), .int (nZ mo)]) (rest := []) ⟨hx, hb, hml, hown, hts⟩ (c_X10_in l D cI cJ tn a 0 mo ra (by decide) rmo ) (va_cwS 3 hts gX10_areIn_X10_in rfl rfl rfl (by decide +kernel) ⟨Nat.le_of_ble_eq_true rfl, Nat.le_of_ble_eq_true rfl⟩) ⟨RoP.blind, fun U hU hW => ⟨rfl, RoP.call hE hS (hP.sub (ws' := []) [] rfl) hU hW⟩⟩ rfl rfl hl.1 rfl (lv_room (Nat.le_of_ble_eq_true rfl)) dX10_areIn_6 ⟨Nat.le_of_ble_eq_true rfl, Nat.le_of_ble_eq_true rfl⟩).run) (fun r6 hr6 => ?_)
  subst hr6
  refine z_nameI (fun r6 er6 => ?_)
  refine z_if_eq (tgt := 28) hx hb dX10_areIn_9 (by decide) (by omega) (fun c_9 => ?_) (fun c_9 => ?_)
  · refine lv_iconst (v := nZ 0) hx hb dX10_areIn_28 rfl ?_
    exact W.zret (v := nZ 0) hx hb hr (z_bool (show (0 : Int) = 0 ∨ (0 : Int) = 1 from by omega)) (fun t9 ht9 _ => ⟨nZ 0, rfl, congrArg nZ (show (0 : Int) = if (0 ≤ a ∧ a ≤ mo) ∧ (0 ≤ b ∧ b ≤ mm) then 1 else 0 from (by first | rfl | omega | (split <;> omega) | (simp_all; done))), ht9⟩) (fun _ h => by cases h) dX10_areIn_29
  · refine lv_iload_n hx hb dX10_areIn_12 rfl (lv_at hl 2 rfl) ?_
    refine lv_iconst (v := nZ 0) hx hb dX10_areIn_13 rfl ?_
    refine lv_aload_n hx hb dX10_areIn_14 rfl (lv_at hl 0 rfl) ?_
    refine va_get (D := D) (ci := 10) (v := .int (nZ mm)) (C := RX10) (T := TX10) (N := 40) hx hb hts iX10 hown hK hP 0 rfl rfl 1 (by decide) (hts (.fieldLink RX10 13 "RainTargetModel" "men" "I") (List.mem_of_getElem? (i := 2) rfl)) (fun _ h9 => h9) rfl dX10_areIn_15 ?_
    refine vp_callSi ((va_runS (As := [.int (nZ b), .int (nZ 0), .int (nZ mm)]) (rest := []) ⟨hx, hb, hml, hown, hts⟩ (c_X10_in l D cI cJ tn b 0 mm rb (by decide) rmm ) (va_cwS 3 hts gX10_areIn_X10_in rfl rfl rfl (by decide +kernel) ⟨Nat.le_of_ble_eq_true rfl, Nat.le_of_ble_eq_true rfl⟩) ⟨RoP.blind, fun U hU hW => ⟨rfl, RoP.call hE hS (hP.sub (ws' := []) [] rfl) hU hW⟩⟩ rfl rfl hl.1 rfl (lv_room (Nat.le_of_ble_eq_true rfl)) dX10_areIn_18 ⟨Nat.le_of_ble_eq_true rfl, Nat.le_of_ble_eq_true rfl⟩).run) (fun r18 hr18 => ?_)
    subst hr18
    refine z_nameI (fun r18 er18 => ?_)
    refine z_if_eq (tgt := 28) hx hb dX10_areIn_21 (by decide) (by omega) (fun c_21 => ?_) (fun c_21 => ?_)
    · refine lv_iconst (v := nZ 0) hx hb dX10_areIn_28 rfl ?_
      exact W.zret (v := nZ 0) hx hb hr (z_bool (show (0 : Int) = 0 ∨ (0 : Int) = 1 from by omega)) (fun t9 ht9 _ => ⟨nZ 0, rfl, congrArg nZ (show (0 : Int) = if (0 ≤ a ∧ a ≤ mo) ∧ (0 ≤ b ∧ b ≤ mm) then 1 else 0 from (by first | rfl | omega | (split <;> omega) | (simp_all; done))), ht9⟩) (fun _ h => by cases h) dX10_areIn_29
    · refine lv_iconst (v := nZ 1) hx hb dX10_areIn_24 rfl ?_
      refine lv_goto (tgt := 29) hx hb dX10_areIn_25 (by decide) ?_
      exact W.zret (v := nZ 1) hx hb hr (z_bool (show (1 : Int) = 0 ∨ (1 : Int) = 1 from by omega)) (fun t9 ht9 _ => ⟨nZ 1, rfl, congrArg nZ (show (1 : Int) = if (0 ≤ a ∧ a ≤ mo) ∧ (0 ≤ b ∧ b ≤ mm) then 1 else 0 from (by first | rfl | omega | (split <;> omega) | (simp_all; done))), ht9⟩) (fun _ h => by cases h) dX10_areIn_29

theorem sumN_s (f : Int → Int) {j : Int} (h : 0 ≤ j) : sumN f (j + 1).toNat = sumN f j.toNat + f j := by
  rw [toN_s h]; show sumN f j.toNat + f (j.toNat : Int) = _; rw [Int.toNat_of_nonneg h]
set_option maxHeartbeats 4000000 in
set_option maxRecDepth 100000 in
theorem c_X10_firstAll (l : Launch) (D : va_G) (cI cJ : ClassId) (tn : Nat) (h : Nat) (a2 : Nat) (a3 : Nat) (a10 : Nat) (a18 : Nat) (a20 : Nat) (a21 : Nat) (a23 : Nat) (a24 : Nat) (a25 : Nat) (a27 : Nat) (a28 : Nat) (a29 : Nat) (a31 : Nat) (a32 : Nat) (mo : Int) (mm : Int) (mpr : Int) (mbe : Int) (mct : Int) (mco : Int) (mli : Int) (mby : Int) (mps : Int) (mta : Int) (mtk : Int) (mdg : Int) (mnu : Int) (mfa : Int) (mrm : Int) (mfm : Int) (mev : Int) (mmt : Int) (mla : Int) (mle : Int) (mst : Int) (mru : Int) (mtn : Int) (mlo : Int) (mbl : Int) (mch : Int) (fi : Int → Int) (h0 : 0 ≤ mfm) (h1 : mfm ≤ 12)  : Met l yX10_firstAll wsX10_firstAll ({ frames := 0, cells := 0, slots := 0, locals := 0 } : Room) (va_Pc [.ref h] (RoP D cI cJ tn [(h, .inr (10, [.int (nZ mo), .int (nZ mm), .ref a2, .ref a3, .int (nZ mpr), .int (nZ mbe), .int (nZ mct), .int (nZ mco), .int (nZ mli), .int (nZ mby), .ref a10, .int (nZ mps), .int (nZ mta), .long (lZ mtk), .int (nZ mdg), .int (nZ mnu), .int (nZ mfa), .int (nZ mrm), .ref a18, .int (nZ mfm), .ref a20, .ref a21, .int (nZ mev), .ref a23, .ref a24, .ref a25, .int (nZ mmt), .ref a27, .ref a28, .ref a29, .int (nZ mla), .ref a31, .ref a32, .int (nZ mle), .int (nZ mst), .int (nZ mru), .int (nZ mtn), .int (nZ mlo), .int (nZ mbl), .int (nZ mch)])), (a20, .inl (cI, 12, .inl (aZ fi)))])) (vp_Si (fun r9 : Int32 => r9 = nZ (sumN fi mfm.toNat))) 0 0 (fun _ => False) := by
  refine Met.ofW (cc := cX10_firstAll) (maxL := 3) (ret := (some .int)) (by decide) rfl ?_
  intro p e s m args below meth c s₁ B hml hv
  obtain ⟨rfl, hE, hP⟩ := hv
  have hx := B.exec
  have hb := B.bytes
  have hr := B.returns
  have hts := atoms_spec (ws := wsX10_firstAll) B.pre
  have hown : s.vm.findClass RX10 = some m.cls := findClass_of_methodNamed B.named
  have hlocks := B.notSynchronized
  have hS : va_S (fun _ => False) s.heap s.heap [] := va_S.rf
  have hK := hE.1
  have hN := hE.2.1
  have hl := lv_entry ([.ref h]) (n := 3) (Nat.le_of_ble_eq_true rfl)
  rw [lg_entry_eq]
  generalize (lg_sl ([.ref h]) ++ List.replicate (3 - (lg_sl ([.ref h])).length) Slot.unset).toArray = ls at hl ⊢
  have hl : lv_has ls 3 [(0, .ref h)] := hl
  have iX10 : ∀ w ∈ u_ws RX10 TX10 40, w ∈ wsX10_firstAll := fun _ h => List.mem_cons_of_mem _ (List.mem_append_right _ h)
  refine lv_iconst (v := nZ 0) hx hb dX10_firstAll_0 rfl ?_
  refine lv_istore_n (lv' := [(1, .int (nZ 0)), (0, .ref h)]) hx hb dX10_firstAll_1 rfl hl (by decide) rfl (fun ls hl => ?_)
  refine lv_iconst (v := nZ 0) hx hb dX10_firstAll_2 rfl ?_
  refine lv_istore_n (lv' := [(2, .int (nZ 0)), (1, .int (nZ 0)), (0, .ref h)]) hx hb dX10_firstAll_3 rfl hl (by decide) rfl (fun ls hl => ?_)
  refine z_rloop2 (fun (k : Int) (j : Int) => (0 ≤ j) ∧ (j ≤ mfm) ∧ (k = sumN fi j.toNat)) (fun (k : Int) (j : Int) => (mfm - j).toNat) (fun (k : Int) (j : Int) => [(2, .int (nZ j)), (1, .int (nZ k)), (0, .ref h)]) ?_ 0 0 ⟨(by first | assumption | omega), (by first | assumption | omega), rfl⟩ (lv_sub hl [0, 1, 2] rfl)
  intro k j hI4 ih4 ls hl
  have hl : lv_has ls 3 [(2, .int (nZ j)), (1, .int (nZ k)), (0, .ref h)] := hl
  obtain ⟨hj0, hj1, hk⟩ : (0 ≤ j) ∧ (j ≤ mfm) ∧ (k = sumN fi j.toNat) := hI4
  refine lv_iload_n hx hb dX10_firstAll_4 rfl (lv_at hl 0 rfl) ?_
  refine lv_aload_n hx hb dX10_firstAll_5 rfl (lv_at hl 2 rfl) ?_
  refine va_get (D := D) (ci := 10) (v := .int (nZ mfm)) (C := RX10) (T := TX10) (N := 40) hx hb hts iX10 hown hK hP 0 rfl rfl 19 (by decide) (hts (.fieldLink RX10 147 "RainTargetModel" "firstMany" "I") (List.mem_of_getElem? (i := 1) rfl)) (fun _ h9 => h9) rfl dX10_firstAll_6 ?_
  refine z_icmp_ge (tgt := 27) hx hb dX10_firstAll_9 (by decide) (by omega) (by omega) (fun c_9 => ?_) (fun c_9 => ?_)
  · refine lv_iload_n hx hb dX10_firstAll_27 rfl (lv_at hl 1 rfl) ?_
    exact W.iret (v := nZ k) hx hb hr (fun t9 ht9 _ => ⟨nZ k, rfl, congrArg nZ (show (k : Int) = sumN fi mfm.toNat from (by rw [hk, show j = mfm from by omega])), ht9⟩) (fun _ h => by cases h) dX10_firstAll_28
  · refine lv_iload_n hx hb dX10_firstAll_12 rfl (lv_at hl 1 rfl) ?_
    refine lv_aload_n hx hb dX10_firstAll_13 rfl (lv_at hl 2 rfl) ?_
    refine va_get (D := D) (ci := 10) (v := .ref a20) (C := RX10) (T := TX10) (N := 40) hx hb hts iX10 hown hK hP 0 rfl rfl 20 (by decide) (hts (.fieldLink RX10 38 "RainTargetModel" "first" "[I") (List.mem_of_getElem? (i := 2) rfl)) (fun _ h9 => h9) rfl dX10_firstAll_14 ?_
    refine lv_iload_n hx hb dX10_firstAll_17 rfl (lv_at hl 0 rfl) ?_
    refine z_iald hx hb hK hP 1 0 rfl rfl (by omega) (by omega) (by omega) dX10_firstAll_18 ?_
    refine z_iadd hx hb dX10_firstAll_19 ?_
    refine lv_istore_n (lv' := [(1, .int (nZ (k + (fi j)))), (2, .int (nZ j)), (0, .ref h)]) hx hb dX10_firstAll_20 rfl hl (by decide) rfl (fun ls hl => ?_)
    refine lv_iinc (v := nZ (j + 1)) (lv' := [(2, .int (nZ (j + 1))), (1, .int (nZ (k + (fi j)))), (0, .ref h)]) hx hb dX10_firstAll_21 hl (k := 1) rfl (nZ_add _ _) (by decide) rfl (fun ls hl => ?_)
    refine lv_goto (tgt := 4) hx hb dX10_firstAll_24 (by decide) ?_
    exact ih4 (k + (fi j)) (j + 1) ⟨(by first | assumption | omega), (by first | assumption | omega), (by rw [sumN_s fi hj0, hk])⟩ (show (mfm - (j + 1)).toNat < (mfm - j).toNat from by omega) ls (lv_sub hl [0, 1, 2] rfl)

set_option maxHeartbeats 4000000 in
set_option maxRecDepth 100000 in
theorem c_X10_winsOf (l : Launch) (D : va_G) (cI cJ : ClassId) (tn : Nat) (h : Nat) (a2 : Nat) (a3 : Nat) (a10 : Nat) (a18 : Nat) (a20 : Nat) (a21 : Nat) (a23 : Nat) (a24 : Nat) (a25 : Nat) (a27 : Nat) (a28 : Nat) (a29 : Nat) (a31 : Nat) (a32 : Nat) (mo : Int) (mm : Int) (mpr : Int) (mbe : Int) (mct : Int) (mco : Int) (mli : Int) (mby : Int) (mps : Int) (mta : Int) (mtk : Int) (mdg : Int) (mnu : Int) (mfa : Int) (mrm : Int) (mfm : Int) (mev : Int) (mmt : Int) (mla : Int) (mle : Int) (mst : Int) (mru : Int) (mtn : Int) (mlo : Int) (mbl : Int) (mch : Int) (wi : Int → Int) (a : Int) (b : Int) (n : Int) (ha0 : 0 ≤ a) (ha1 : a ≤ 12) (hb0 : 0 ≤ b) (hb1 : b ≤ 10) (hn0 : -100000 ≤ n) (hn1 : n ≤ 999)  : Met l yX10_winsOf wsX10_winsOf ({ frames := 1, cells := 0, slots := 0, locals := 23 } : Room) (va_Pc [.ref h, .int (nZ a), .int (nZ b), .int (nZ n)] (RoP D cI cJ tn [(h, .inr (10, [.int (nZ mo), .int (nZ mm), .ref a2, .ref a3, .int (nZ mpr), .int (nZ mbe), .int (nZ mct), .int (nZ mco), .int (nZ mli), .int (nZ mby), .ref a10, .int (nZ mps), .int (nZ mta), .long (lZ mtk), .int (nZ mdg), .int (nZ mnu), .int (nZ mfa), .int (nZ mrm), .ref a18, .int (nZ mfm), .ref a20, .ref a21, .int (nZ mev), .ref a23, .ref a24, .ref a25, .int (nZ mmt), .ref a27, .ref a28, .ref a29, .int (nZ mla), .ref a31, .ref a32, .int (nZ mle), .int (nZ mst), .int (nZ mru), .int (nZ mtn), .int (nZ mlo), .int (nZ mbl), .int (nZ mch)])), (a32, .inl (cJ, 143000, .inr (.inl (bZ wi))))])) (vp_Sl (fun r9 : Int64 => r9 = lZ (if n ≤ 0 then (10 : Int) ^ a.toNat else wi (1000 * (11 * a + b) + n)))) 0 0 (fun _ => False) := by
  refine Met.ofW (cc := cX10_winsOf) (maxL := 4) (ret := (some .long)) (by decide) rfl ?_
  intro p e s m args below meth c s₁ B hml hv
  obtain ⟨rfl, hE, hP⟩ := hv
  have hx := B.exec
  have hb := B.bytes
  have hr := B.returns
  have hts := atoms_spec (ws := wsX10_winsOf) B.pre
  have hown : s.vm.findClass RX10 = some m.cls := findClass_of_methodNamed B.named
  have hlocks := B.notSynchronized
  have hS : va_S (fun _ => False) s.heap s.heap [] := va_S.rf
  have hK := hE.1
  have hN := hE.2.1
  have hl := lv_entry ([.ref h, .int (nZ a), .int (nZ b), .int (nZ n)]) (n := 4) (Nat.le_of_ble_eq_true rfl)
  rw [lg_entry_eq]
  generalize (lg_sl ([.ref h, .int (nZ a), .int (nZ b), .int (nZ n)]) ++ List.replicate (4 - (lg_sl ([.ref h, .int (nZ a), .int (nZ b), .int (nZ n)])).length) Slot.unset).toArray = ls at hl ⊢
  have hl : lv_has ls 4 [(0, .ref h), (1, .int (nZ a)), (2, .int (nZ b)), (3, .int (nZ n))] := hl
  have iX10 : ∀ w ∈ u_ws RX10 TX10 40, w ∈ wsX10_winsOf := fun _ h => List.mem_cons_of_mem _ (List.mem_append_right _ h)
  refine lv_iload_n hx hb dX10_winsOf_0 rfl (lv_at hl 3 rfl) ?_
  refine z_if_gt (tgt := 11) hx hb dX10_winsOf_1 (by decide) (by omega) (fun c_1 => ?_) (fun c_1 => ?_)
  · refine lv_aload_n hx hb dX10_winsOf_11 rfl (lv_at hl 0 rfl) ?_
    refine va_get (D := D) (ci := 10) (v := .ref a32) (C := RX10) (T := TX10) (N := 40) hx hb hts iX10 hown hK hP 0 rfl rfl 32 (by decide) (hts (.fieldLink RX10 67 "RainTargetModel" "wins" "[J") (List.mem_of_getElem? (i := 1) rfl)) (fun _ h9 => h9) rfl dX10_winsOf_12 ?_
    refine lv_sipush (v := nZ 1000) hx hb dX10_winsOf_15 (by decide) ?_
    refine lv_bipush (v := nZ 11) hx hb dX10_winsOf_18 (by decide) ?_
    refine lv_iload_n hx hb dX10_winsOf_20 rfl (lv_at hl 1 rfl) ?_
    refine z_imul hx hb dX10_winsOf_21 ?_
    refine lv_iload_n hx hb dX10_winsOf_22 rfl (lv_at hl 2 rfl) ?_
    refine z_iadd hx hb dX10_winsOf_23 ?_
    refine z_imul hx hb dX10_winsOf_24 ?_
    refine lv_iload_n hx hb dX10_winsOf_25 rfl (lv_at hl 3 rfl) ?_
    refine z_iadd hx hb dX10_winsOf_26 ?_
    refine z_lald hx hb hK hP 1 1 rfl rfl (by omega) (by omega) (by omega) dX10_winsOf_27 ?_
    exact W.lret (v := lZ (wi ((1000 * ((11 * a) + b)) + n))) hx hb hr (fun t9 ht9 _ => ⟨lZ (wi ((1000 * ((11 * a) + b)) + n)), rfl, congrArg lZ (show (wi ((1000 * ((11 * a) + b)) + n) : Int) = if n ≤ 0 then (10 : Int) ^ a.toNat else wi (1000 * (11 * a + b) + n) from (by first | rfl | (rw [if_pos (by omega)]; done) | (rw [if_neg (by omega)]; done))), ht9⟩) (fun _ h => by cases h) dX10_winsOf_28
  · refine lv_iload_n hx hb dX10_winsOf_4 rfl (lv_at hl 1 rfl) ?_
    refine vp_callSl ((va_runS (As := [.int (nZ a)]) (rest := []) ⟨hx, hb, hml, hown, hts⟩ (c_X10_ten l D cI cJ tn a (by omega) ) (va_cwS 1 hts gX10_winsOf_X10_ten rfl rfl rfl (by decide +kernel) ⟨Nat.le_of_ble_eq_true rfl, Nat.le_of_ble_eq_true rfl⟩) ⟨RoP.blind, fun U hU hW => ⟨rfl, RoP.call hE hS (hP.sub (ws' := []) [] rfl) hU hW⟩⟩ rfl rfl hl.1 rfl (lv_room (Nat.le_of_ble_eq_true rfl)) dX10_winsOf_5 ⟨Nat.le_of_ble_eq_true rfl, Nat.le_of_ble_eq_true rfl⟩).run) (fun r5 hr5 => ?_)
    subst hr5
    refine lv_goto (tgt := 28) hx hb dX10_winsOf_8 (by decide) ?_
    exact W.lret (v := lZ ((10 : Int) ^ a.toNat)) hx hb hr (fun t9 ht9 _ => ⟨lZ ((10 : Int) ^ a.toNat), rfl, congrArg lZ (show ((10 : Int) ^ a.toNat : Int) = if n ≤ 0 then (10 : Int) ^ a.toNat else wi (1000 * (11 * a + b) + n) from (by first | rfl | (rw [if_pos (by omega)]; done) | (rw [if_neg (by omega)]; done))), ht9⟩) (fun _ h => by cases h) dX10_winsOf_28

set_option maxHeartbeats 4000000 in
set_option maxRecDepth 100000 in
theorem c_X10_erase (l : Launch) (D : va_G) (cI cJ : ClassId) (tn : Nat) (sz : Nat) (h : Nat) (a2 : Nat) (a3 : Nat) (a10 : Nat) (a18 : Nat) (a20 : Nat) (a21 : Nat) (a23 : Nat) (a24 : Nat) (a25 : Nat) (a27 : Nat) (a28 : Nat) (a29 : Nat) (a31 : Nat) (a32 : Nat) (mo : Int) (mm : Int) (mpr : Int) (mbe : Int) (mct : Int) (mco : Int) (mli : Int) (mby : Int) (mps : Int) (mta : Int) (mtk : Int) (mdg : Int) (mnu : Int) (mfa : Int) (mrm : Int) (mfm : Int) (mev : Int) (mmt : Int) (mla : Int) (mle : Int) (mst : Int) (mru : Int) (mtn : Int) (mlo : Int) (mbl : Int) (mch : Int)   : Met l yX10_erase wsX10_erase ({ frames := 0, cells := 0, slots := 0, locals := 0 } : Room) (va_Pc [.ref h] (WrP D cI cJ tn [(h, .inr (10, [.int (nZ mo), .int (nZ mm), .ref a2, .ref a3, .int (nZ mpr), .int (nZ mbe), .int (nZ mct), .int (nZ mco), .int (nZ mli), .int (nZ mby), .ref a10, .int (nZ mps), .int (nZ mta), .long (lZ mtk), .int (nZ mdg), .int (nZ mnu), .int (nZ mfa), .int (nZ mrm), .ref a18, .int (nZ mfm), .ref a20, .ref a21, .int (nZ mev), .ref a23, .ref a24, .ref a25, .int (nZ mmt), .ref a27, .ref a28, .ref a29, .int (nZ mla), .ref a31, .ref a32, .int (nZ mle), .int (nZ mst), .int (nZ mru), .int (nZ mtn), .int (nZ mlo), .int (nZ mbl), .int (nZ mch)]))] sz)) (va_Qi (fun (r9 : Int32) (u9 : Unit) => r9 = nZ mby ∧ True) (fun u9 t9 => WrQ D (va_A [(h, .inr (10, [.int (nZ mo), .int (nZ mm), .ref a2, .ref a3, .int (nZ mpr), .int (nZ mbe), .int (nZ mct), .int (nZ mco), .int (nZ mli), .int (nZ mby), .ref a10, .int (nZ mps), .int (nZ mta), .long (lZ mtk), .int (nZ mdg), .int (nZ mnu), .int (nZ mfa), .int (nZ mrm), .ref a18, .int (nZ mfm), .ref a20, .ref a21, .int (nZ mev), .ref a23, .ref a24, .ref a25, .int (nZ mmt), .ref a27, .ref a28, .ref a29, .int (nZ mla), .ref a31, .ref a32, .int (nZ mle), .int (nZ mst), .int (nZ mru), .int (nZ mtn), .int (nZ mlo), .int (nZ mbl), .int (nZ mch)]))] sz) [(h, .inr (10, [.int (nZ mo), .int (nZ mm), .ref a2, .ref a3, .int (nZ mpr), .int (nZ mbe), .int (nZ mct), .int (nZ mco), .int (nZ mli), .int (nZ 0), .ref a10, .int (nZ mps), .int (nZ mta), .long (lZ mtk), .int (nZ mdg), .int (nZ mnu), .int (nZ mfa), .int (nZ mrm), .ref a18, .int (nZ mfm), .ref a20, .ref a21, .int (nZ mev), .ref a23, .ref a24, .ref a25, .int (nZ mmt), .ref a27, .ref a28, .ref a29, .int (nZ mla), .ref a31, .ref a32, .int (nZ mle), .int (nZ mst), .int (nZ mru), .int (nZ mtn), .int (nZ mlo), .int (nZ mbl), .int (nZ mch)]))] t9) (va_A [(h, .inr (10, [.int (nZ mo), .int (nZ mm), .ref a2, .ref a3, .int (nZ mpr), .int (nZ mbe), .int (nZ mct), .int (nZ mco), .int (nZ mli), .int (nZ mby), .ref a10, .int (nZ mps), .int (nZ mta), .long (lZ mtk), .int (nZ mdg), .int (nZ mnu), .int (nZ mfa), .int (nZ mrm), .ref a18, .int (nZ mfm), .ref a20, .ref a21, .int (nZ mev), .ref a23, .ref a24, .ref a25, .int (nZ mmt), .ref a27, .ref a28, .ref a29, .int (nZ mla), .ref a31, .ref a32, .int (nZ mle), .int (nZ mst), .int (nZ mru), .int (nZ mtn), .int (nZ mlo), .int (nZ mbl), .int (nZ mch)]))] sz)) 0 0 (va_A [(h, .inr (10, [.int (nZ mo), .int (nZ mm), .ref a2, .ref a3, .int (nZ mpr), .int (nZ mbe), .int (nZ mct), .int (nZ mco), .int (nZ mli), .int (nZ mby), .ref a10, .int (nZ mps), .int (nZ mta), .long (lZ mtk), .int (nZ mdg), .int (nZ mnu), .int (nZ mfa), .int (nZ mrm), .ref a18, .int (nZ mfm), .ref a20, .ref a21, .int (nZ mev), .ref a23, .ref a24, .ref a25, .int (nZ mmt), .ref a27, .ref a28, .ref a29, .int (nZ mla), .ref a31, .ref a32, .int (nZ mle), .int (nZ mst), .int (nZ mru), .int (nZ mtn), .int (nZ mlo), .int (nZ mbl), .int (nZ mch)]))] sz) := by
  refine Met.ofW (cc := cX10_erase) (maxL := 2) (ret := (some .int)) (by decide) rfl ?_
  intro p e s m args below meth c s₁ B hml hv
  obtain ⟨rfl, hsz, hE, hP, hD0⟩ := hv
  have hx := B.exec
  have hb := B.bytes
  have hr := B.returns
  have hts := atoms_spec (ws := wsX10_erase) B.pre
  have hown : s.vm.findClass RX10 = some m.cls := findClass_of_methodNamed B.named
  have hlocks := B.notSynchronized
  subst hsz
  have hD := hD0.self (sz := s.heap.size)
  generalize hAe : va_A [(h, .inr (10, [.int (nZ mo), .int (nZ mm), .ref a2, .ref a3, .int (nZ mpr), .int (nZ mbe), .int (nZ mct), .int (nZ mco), .int (nZ mli), .int (nZ mby), .ref a10, .int (nZ mps), .int (nZ mta), .long (lZ mtk), .int (nZ mdg), .int (nZ mnu), .int (nZ mfa), .int (nZ mrm), .ref a18, .int (nZ mfm), .ref a20, .ref a21, .int (nZ mev), .ref a23, .ref a24, .ref a25, .int (nZ mmt), .ref a27, .ref a28, .ref a29, .int (nZ mla), .ref a31, .ref a32, .int (nZ mle), .int (nZ mst), .int (nZ mru), .int (nZ mtn), .int (nZ mlo), .int (nZ mbl), .int (nZ mch)]))] s.heap.size = A at hD hE ⊢
  have hA : ∀ q : Nat, s.heap.size ≤ q → A q := fun q h => by rw [← hAe]; exact Or.inr h
  have hS : va_S A s.heap s.heap [] := va_S.rf
  have hK := hE.1
  have hN := hE.2.1
  have hl := lv_entry ([.ref h]) (n := 2) (Nat.le_of_ble_eq_true rfl)
  rw [lg_entry_eq]
  generalize (lg_sl ([.ref h]) ++ List.replicate (2 - (lg_sl ([.ref h])).length) Slot.unset).toArray = ls at hl ⊢
  have hl : lv_has ls 2 [(0, .ref h)] := hl
  have iX10 : ∀ w ∈ u_ws RX10 TX10 40, w ∈ wsX10_erase := fun _ h => List.mem_cons_of_mem _ (List.mem_append_right _ h)
  refine lv_aload_n hx hb dX10_erase_0 rfl (lv_at hl 0 rfl) ?_
  refine va_get (D := D) (ci := 10) (v := .int (nZ mby)) (C := RX10) (T := TX10) (N := 40) hx hb hts iX10 hown hK hP 0 rfl rfl 9 (by decide) (hts (.fieldLink RX10 76 "RainTargetModel" "bytes" "I") (List.mem_of_getElem? (i := 1) rfl)) (fun _ h9 => h9) rfl dX10_erase_1 ?_
  refine lv_istore_n (lv' := [(1, .int (nZ mby)), (0, .ref h)]) hx hb dX10_erase_4 rfl hl (by decide) rfl (fun ls hl => ?_)
  refine lv_aload_n hx hb dX10_erase_5 rfl (lv_at hl 1 rfl) ?_
  refine lv_iconst (v := nZ 0) hx hb dX10_erase_6 rfl ?_
  refine va_put (D := D) (ci := 10) (v := .int (nZ 0)) (ty := .int) (C := RX10) (T := TX10) (N := 40) hx hb hts iX10 tyX10 tyX10_ok nmX10 hown hK hP hD hS 0 rfl rfl 9 (by decide) (hts (.fieldLink RX10 76 "RainTargetModel" "bytes" "I") (List.mem_of_getElem? (i := 1) rfl)) (fun _ h9 => h9) rfl (by decide +kernel) rfl rfl (Nat.le_of_ble_eq_true rfl) dX10_erase_7 (fun H locs hP hD hS => ?_)
  have hP : va_P D vwCl [(h, .inr (10, [.int (nZ mo), .int (nZ mm), .ref a2, .ref a3, .int (nZ mpr), .int (nZ mbe), .int (nZ mct), .int (nZ mco), .int (nZ mli), .int (nZ 0), .ref a10, .int (nZ mps), .int (nZ mta), .long (lZ mtk), .int (nZ mdg), .int (nZ mnu), .int (nZ mfa), .int (nZ mrm), .ref a18, .int (nZ mfm), .ref a20, .ref a21, .int (nZ mev), .ref a23, .ref a24, .ref a25, .int (nZ mmt), .ref a27, .ref a28, .ref a29, .int (nZ mla), .ref a31, .ref a32, .int (nZ mle), .int (nZ mst), .int (nZ mru), .int (nZ mtn), .int (nZ mlo), .int (nZ mbl), .int (nZ mch)]))] H := hP
  have hD : va_D A [(h, .inr (10, [.int (nZ mo), .int (nZ mm), .ref a2, .ref a3, .int (nZ mpr), .int (nZ mbe), .int (nZ mct), .int (nZ mco), .int (nZ mli), .int (nZ 0), .ref a10, .int (nZ mps), .int (nZ mta), .long (lZ mtk), .int (nZ mdg), .int (nZ mnu), .int (nZ mfa), .int (nZ mrm), .ref a18, .int (nZ mfm), .ref a20, .ref a21, .int (nZ mev), .ref a23, .ref a24, .ref a25, .int (nZ mmt), .ref a27, .ref a28, .ref a29, .int (nZ mla), .ref a31, .ref a32, .int (nZ mle), .int (nZ mst), .int (nZ mru), .int (nZ mtn), .int (nZ mlo), .int (nZ mbl), .int (nZ mch)]))] := hD
  refine lv_iload_n hx hb dX10_erase_10 rfl (lv_at hl 0 rfl) ?_
  have hP9 := hP.sub (ws' := [(h, .inr (10, [.int (nZ mo), .int (nZ mm), .ref a2, .ref a3, .int (nZ mpr), .int (nZ mbe), .int (nZ mct), .int (nZ mco), .int (nZ mli), .int (nZ 0), .ref a10, .int (nZ mps), .int (nZ mta), .long (lZ mtk), .int (nZ mdg), .int (nZ mnu), .int (nZ mfa), .int (nZ mrm), .ref a18, .int (nZ mfm), .ref a20, .ref a21, .int (nZ mev), .ref a23, .ref a24, .ref a25, .int (nZ mmt), .ref a27, .ref a28, .ref a29, .int (nZ mla), .ref a31, .ref a32, .int (nZ mle), .int (nZ mst), .int (nZ mru), .int (nZ mtn), .int (nZ mlo), .int (nZ mbl), .int (nZ mch)]))]) [0] rfl
  have hD9 := hD.sub (ws' := [(h, .inr (10, [.int (nZ mo), .int (nZ mm), .ref a2, .ref a3, .int (nZ mpr), .int (nZ mbe), .int (nZ mct), .int (nZ mco), .int (nZ mli), .int (nZ 0), .ref a10, .int (nZ mps), .int (nZ mta), .long (lZ mtk), .int (nZ mdg), .int (nZ mnu), .int (nZ mfa), .int (nZ mrm), .ref a18, .int (nZ mfm), .ref a20, .ref a21, .int (nZ mev), .ref a23, .ref a24, .ref a25, .int (nZ mmt), .ref a27, .ref a28, .ref a29, .int (nZ mla), .ref a31, .ref a32, .int (nZ mle), .int (nZ mst), .int (nZ mru), .int (nZ mtn), .int (nZ mlo), .int (nZ mbl), .int (nZ mch)]))]) [0] (by decide) rfl
  exact W.iret (v := nZ mby) hx hb hr (fun t9 ht9 _ => ⟨⟨nZ mby, (), rfl, ⟨congrArg nZ (show (mby : Int) = mby from (by first | rfl | omega | (split <;> omega) | (simp_all; done))), trivial⟩, ⟨by rw [ht9]; exact hP9, hD9⟩⟩, hS.F ht9⟩) hS.2.2 dX10_erase_11

set_option maxHeartbeats 4000000 in
set_option maxRecDepth 100000 in
theorem c_X10_fails (l : Launch) (D : va_G) (cI cJ : ClassId) (tn : Nat) (sz : Nat) (h : Nat) (a2 : Nat) (a3 : Nat) (a10 : Nat) (a18 : Nat) (a20 : Nat) (a21 : Nat) (a23 : Nat) (a24 : Nat) (a25 : Nat) (a27 : Nat) (a28 : Nat) (a29 : Nat) (a31 : Nat) (a32 : Nat) (mo : Int) (mm : Int) (mpr : Int) (mbe : Int) (mct : Int) (mco : Int) (mli : Int) (mby : Int) (mps : Int) (mta : Int) (mtk : Int) (mdg : Int) (mnu : Int) (mfa : Int) (mrm : Int) (mfm : Int) (mev : Int) (mmt : Int) (mla : Int) (mle : Int) (mst : Int) (mru : Int) (mtn : Int) (mlo : Int) (mbl : Int) (mch : Int)   : Met l yX10_fails wsX10_fails ({ frames := 0, cells := 0, slots := 0, locals := 0 } : Room) (va_Pc [.ref h] (WrP D cI cJ tn [(h, .inr (10, [.int (nZ mo), .int (nZ mm), .ref a2, .ref a3, .int (nZ mpr), .int (nZ mbe), .int (nZ mct), .int (nZ mco), .int (nZ mli), .int (nZ mby), .ref a10, .int (nZ mps), .int (nZ mta), .long (lZ mtk), .int (nZ mdg), .int (nZ mnu), .int (nZ mfa), .int (nZ mrm), .ref a18, .int (nZ mfm), .ref a20, .ref a21, .int (nZ mev), .ref a23, .ref a24, .ref a25, .int (nZ mmt), .ref a27, .ref a28, .ref a29, .int (nZ mla), .ref a31, .ref a32, .int (nZ mle), .int (nZ mst), .int (nZ mru), .int (nZ mtn), .int (nZ mlo), .int (nZ mbl), .int (nZ mch)]))] sz)) (va_Qi (fun (r9 : Int32) (u9 : Unit) => r9 = nZ 0 ∧ True) (fun u9 t9 => WrQ D (va_A [(h, .inr (10, [.int (nZ mo), .int (nZ mm), .ref a2, .ref a3, .int (nZ mpr), .int (nZ mbe), .int (nZ mct), .int (nZ mco), .int (nZ mli), .int (nZ mby), .ref a10, .int (nZ mps), .int (nZ mta), .long (lZ mtk), .int (nZ mdg), .int (nZ mnu), .int (nZ mfa), .int (nZ mrm), .ref a18, .int (nZ mfm), .ref a20, .ref a21, .int (nZ mev), .ref a23, .ref a24, .ref a25, .int (nZ mmt), .ref a27, .ref a28, .ref a29, .int (nZ mla), .ref a31, .ref a32, .int (nZ mle), .int (nZ mst), .int (nZ mru), .int (nZ mtn), .int (nZ mlo), .int (nZ mbl), .int (nZ mch)]))] sz) [(h, .inr (10, [.int (nZ mo), .int (nZ mm), .ref a2, .ref a3, .int (nZ mpr), .int (nZ mbe), .int (nZ mct), .int (nZ mco), .int (nZ mli), .int (nZ mby), .ref a10, .int (nZ mps), .int (nZ mta), .long (lZ mtk), .int (nZ mdg), .int (nZ mnu), .int (nZ mta), .int (nZ mrm), .ref a18, .int (nZ mfm), .ref a20, .ref a21, .int (nZ mev), .ref a23, .ref a24, .ref a25, .int (nZ mmt), .ref a27, .ref a28, .ref a29, .int (nZ mla), .ref a31, .ref a32, .int (nZ mle), .int (nZ mst), .int (nZ mru), .int (nZ mtn), .int (nZ mlo), .int (nZ mbl), .int (nZ mch)]))] t9) (va_A [(h, .inr (10, [.int (nZ mo), .int (nZ mm), .ref a2, .ref a3, .int (nZ mpr), .int (nZ mbe), .int (nZ mct), .int (nZ mco), .int (nZ mli), .int (nZ mby), .ref a10, .int (nZ mps), .int (nZ mta), .long (lZ mtk), .int (nZ mdg), .int (nZ mnu), .int (nZ mfa), .int (nZ mrm), .ref a18, .int (nZ mfm), .ref a20, .ref a21, .int (nZ mev), .ref a23, .ref a24, .ref a25, .int (nZ mmt), .ref a27, .ref a28, .ref a29, .int (nZ mla), .ref a31, .ref a32, .int (nZ mle), .int (nZ mst), .int (nZ mru), .int (nZ mtn), .int (nZ mlo), .int (nZ mbl), .int (nZ mch)]))] sz)) 0 0 (va_A [(h, .inr (10, [.int (nZ mo), .int (nZ mm), .ref a2, .ref a3, .int (nZ mpr), .int (nZ mbe), .int (nZ mct), .int (nZ mco), .int (nZ mli), .int (nZ mby), .ref a10, .int (nZ mps), .int (nZ mta), .long (lZ mtk), .int (nZ mdg), .int (nZ mnu), .int (nZ mfa), .int (nZ mrm), .ref a18, .int (nZ mfm), .ref a20, .ref a21, .int (nZ mev), .ref a23, .ref a24, .ref a25, .int (nZ mmt), .ref a27, .ref a28, .ref a29, .int (nZ mla), .ref a31, .ref a32, .int (nZ mle), .int (nZ mst), .int (nZ mru), .int (nZ mtn), .int (nZ mlo), .int (nZ mbl), .int (nZ mch)]))] sz) := by
  refine Met.ofW (cc := cX10_fails) (maxL := 1) (ret := (some .boolean)) (by decide) rfl ?_
  intro p e s m args below meth c s₁ B hml hv
  obtain ⟨rfl, hsz, hE, hP, hD0⟩ := hv
  have hx := B.exec
  have hb := B.bytes
  have hr := B.returns
  have hts := atoms_spec (ws := wsX10_fails) B.pre
  have hown : s.vm.findClass RX10 = some m.cls := findClass_of_methodNamed B.named
  have hlocks := B.notSynchronized
  subst hsz
  have hD := hD0.self (sz := s.heap.size)
  generalize hAe : va_A [(h, .inr (10, [.int (nZ mo), .int (nZ mm), .ref a2, .ref a3, .int (nZ mpr), .int (nZ mbe), .int (nZ mct), .int (nZ mco), .int (nZ mli), .int (nZ mby), .ref a10, .int (nZ mps), .int (nZ mta), .long (lZ mtk), .int (nZ mdg), .int (nZ mnu), .int (nZ mfa), .int (nZ mrm), .ref a18, .int (nZ mfm), .ref a20, .ref a21, .int (nZ mev), .ref a23, .ref a24, .ref a25, .int (nZ mmt), .ref a27, .ref a28, .ref a29, .int (nZ mla), .ref a31, .ref a32, .int (nZ mle), .int (nZ mst), .int (nZ mru), .int (nZ mtn), .int (nZ mlo), .int (nZ mbl), .int (nZ mch)]))] s.heap.size = A at hD hE ⊢
  have hA : ∀ q : Nat, s.heap.size ≤ q → A q := fun q h => by rw [← hAe]; exact Or.inr h
  have hS : va_S A s.heap s.heap [] := va_S.rf
  have hK := hE.1
  have hN := hE.2.1
  have hl := lv_entry ([.ref h]) (n := 1) (Nat.le_of_ble_eq_true rfl)
  rw [lg_entry_eq]
  generalize (lg_sl ([.ref h]) ++ List.replicate (1 - (lg_sl ([.ref h])).length) Slot.unset).toArray = ls at hl ⊢
  have hl : lv_has ls 1 [(0, .ref h)] := hl
  have iX10 : ∀ w ∈ u_ws RX10 TX10 40, w ∈ wsX10_fails := fun _ h => List.mem_cons_of_mem _ (List.mem_append_right _ h)
  refine lv_aload_n hx hb dX10_fails_0 rfl (lv_at hl 0 rfl) ?_
  refine lv_aload_n hx hb dX10_fails_1 rfl (lv_at hl 0 rfl) ?_
  refine va_get (D := D) (ci := 10) (v := .int (nZ mta)) (C := RX10) (T := TX10) (N := 40) hx hb hts iX10 hown hK hP 0 rfl rfl 12 (by decide) (hts (.fieldLink RX10 84 "RainTargetModel" "tokenAt" "I") (List.mem_of_getElem? (i := 1) rfl)) (fun _ h9 => h9) rfl dX10_fails_2 ?_
  refine va_put (D := D) (ci := 10) (v := .int (nZ mta)) (ty := .int) (C := RX10) (T := TX10) (N := 40) hx hb hts iX10 tyX10 tyX10_ok nmX10 hown hK hP hD hS 0 rfl rfl 16 (by decide) (hts (.fieldLink RX10 109 "RainTargetModel" "faultAt" "I") (List.mem_of_getElem? (i := 2) rfl)) (fun _ h9 => h9) rfl (by decide +kernel) rfl rfl (Nat.le_of_ble_eq_true rfl) dX10_fails_5 (fun H locs hP hD hS => ?_)
  have hP : va_P D vwCl [(h, .inr (10, [.int (nZ mo), .int (nZ mm), .ref a2, .ref a3, .int (nZ mpr), .int (nZ mbe), .int (nZ mct), .int (nZ mco), .int (nZ mli), .int (nZ mby), .ref a10, .int (nZ mps), .int (nZ mta), .long (lZ mtk), .int (nZ mdg), .int (nZ mnu), .int (nZ mta), .int (nZ mrm), .ref a18, .int (nZ mfm), .ref a20, .ref a21, .int (nZ mev), .ref a23, .ref a24, .ref a25, .int (nZ mmt), .ref a27, .ref a28, .ref a29, .int (nZ mla), .ref a31, .ref a32, .int (nZ mle), .int (nZ mst), .int (nZ mru), .int (nZ mtn), .int (nZ mlo), .int (nZ mbl), .int (nZ mch)]))] H := hP
  have hD : va_D A [(h, .inr (10, [.int (nZ mo), .int (nZ mm), .ref a2, .ref a3, .int (nZ mpr), .int (nZ mbe), .int (nZ mct), .int (nZ mco), .int (nZ mli), .int (nZ mby), .ref a10, .int (nZ mps), .int (nZ mta), .long (lZ mtk), .int (nZ mdg), .int (nZ mnu), .int (nZ mta), .int (nZ mrm), .ref a18, .int (nZ mfm), .ref a20, .ref a21, .int (nZ mev), .ref a23, .ref a24, .ref a25, .int (nZ mmt), .ref a27, .ref a28, .ref a29, .int (nZ mla), .ref a31, .ref a32, .int (nZ mle), .int (nZ mst), .int (nZ mru), .int (nZ mtn), .int (nZ mlo), .int (nZ mbl), .int (nZ mch)]))] := hD
  refine lv_iconst (v := nZ 0) hx hb dX10_fails_8 rfl ?_
  have hP9 := hP.sub (ws' := [(h, .inr (10, [.int (nZ mo), .int (nZ mm), .ref a2, .ref a3, .int (nZ mpr), .int (nZ mbe), .int (nZ mct), .int (nZ mco), .int (nZ mli), .int (nZ mby), .ref a10, .int (nZ mps), .int (nZ mta), .long (lZ mtk), .int (nZ mdg), .int (nZ mnu), .int (nZ mta), .int (nZ mrm), .ref a18, .int (nZ mfm), .ref a20, .ref a21, .int (nZ mev), .ref a23, .ref a24, .ref a25, .int (nZ mmt), .ref a27, .ref a28, .ref a29, .int (nZ mla), .ref a31, .ref a32, .int (nZ mle), .int (nZ mst), .int (nZ mru), .int (nZ mtn), .int (nZ mlo), .int (nZ mbl), .int (nZ mch)]))]) [0] rfl
  have hD9 := hD.sub (ws' := [(h, .inr (10, [.int (nZ mo), .int (nZ mm), .ref a2, .ref a3, .int (nZ mpr), .int (nZ mbe), .int (nZ mct), .int (nZ mco), .int (nZ mli), .int (nZ mby), .ref a10, .int (nZ mps), .int (nZ mta), .long (lZ mtk), .int (nZ mdg), .int (nZ mnu), .int (nZ mta), .int (nZ mrm), .ref a18, .int (nZ mfm), .ref a20, .ref a21, .int (nZ mev), .ref a23, .ref a24, .ref a25, .int (nZ mmt), .ref a27, .ref a28, .ref a29, .int (nZ mla), .ref a31, .ref a32, .int (nZ mle), .int (nZ mst), .int (nZ mru), .int (nZ mtn), .int (nZ mlo), .int (nZ mbl), .int (nZ mch)]))]) [0] (by decide) rfl
  exact W.zret (v := nZ 0) hx hb hr (z_bool (show (0 : Int) = 0 ∨ (0 : Int) = 1 from by omega)) (fun t9 ht9 _ => ⟨⟨nZ 0, (), rfl, ⟨congrArg nZ (show (0 : Int) = 0 from (by first | rfl | omega | (split <;> omega) | (simp_all; done))), trivial⟩, ⟨by rw [ht9]; exact hP9, hD9⟩⟩, hS.F ht9⟩) hS.2.2 dX10_fails_9

