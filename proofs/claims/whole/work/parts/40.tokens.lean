/-! ===== tokens ===== -/
def kdF (x : Int) : Int := if x = -1 then 0 else if 97 ≤ x ∧ x ≤ 122 then 1 else if 48 ≤ x ∧ x ≤ 57 then 2 else if x = 59 then 3 else 4
def atF (g : Int → Int) (len p : Int) : Int := if p < len then g p else -1
def skN (g : Int → Int) (len : Int) : Nat → Int → Int
  | 0, p => p
  | n + 1, p => if p < len ∧ g p = 32 then skN g len n (p + 1) else p
def tkS (g : Int → Int) (len p : Int) : Int := skN g len (len - p).toNat p
def rnN (g : Int → Int) (len k : Int) : Nat → Int → Int
  | 0, p => p
  | n + 1, p => if p < len ∧ kdF (g p) = k then rnN g len k n (p + 1) else p
def tkR (g : Int → Int) (len k p : Int) : Int := rnN g len k (len - p).toNat p
theorem tkS_s (g : Int → Int) {len p : Int} (h : p < len) (h2 : g p = 32) : tkS g len p = tkS g len (p + 1) := by
  unfold tkS; rw [show (len - p).toNat = (len - (p + 1)).toNat + 1 by omega, skN, if_pos ⟨h, h2⟩]
theorem tkS_e (g : Int → Int) {len p : Int} (h : ¬ (p < len ∧ g p = 32)) : tkS g len p = p := by
  unfold tkS
  by_cases q : p < len
  · rw [show (len - p).toNat = (len - (p + 1)).toNat + 1 by omega, skN, if_neg h]
  · rw [show (len - p).toNat = 0 by omega, skN]
theorem tkR_s (g : Int → Int) {len k p : Int} (h : p < len) (h2 : kdF (g p) = k) : tkR g len k p = tkR g len k (p + 1) := by
  unfold tkR; rw [show (len - p).toNat = (len - (p + 1)).toNat + 1 by omega, rnN, if_pos ⟨h, h2⟩]
theorem tkR_e (g : Int → Int) {len k p : Int} (h : ¬ (p < len ∧ kdF (g p) = k)) : tkR g len k p = p := by
  unfold tkR
  by_cases q : p < len
  · rw [show (len - p).toNat = (len - (p + 1)).toNat + 1 by omega, rnN, if_neg h]
  · rw [show (len - p).toNat = 0 by omega, rnN]
theorem skN_bd (g : Int → Int) (len : Int) : ∀ (n : Nat) (p : Int), p ≤ skN g len n p ∧ (p ≤ len → skN g len n p ≤ len)
  | 0, p => ⟨Int.le_refl _, fun h => h⟩
  | n + 1, p => by
    have h := skN_bd g len n (p + 1)
    rw [skN]; split
    · exact ⟨by omega, fun _ => h.2 (by omega)⟩
    · exact ⟨Int.le_refl _, fun h => h⟩
theorem rnN_bd (g : Int → Int) (len k : Int) : ∀ (n : Nat) (p : Int), p ≤ rnN g len k n p ∧ (p ≤ len → rnN g len k n p ≤ len)
  | 0, p => ⟨Int.le_refl _, fun h => h⟩
  | n + 1, p => by
    have h := rnN_bd g len k n (p + 1)
    rw [rnN]; split
    · exact ⟨by omega, fun _ => h.2 (by omega)⟩
    · exact ⟨Int.le_refl _, fun h => h⟩
theorem tkS_bd (g : Int → Int) {len p : Int} (h : p ≤ len) : p ≤ tkS g len p ∧ tkS g len p ≤ len := ⟨(skN_bd g len _ p).1, (skN_bd g len _ p).2 h⟩
theorem tkR_bd (g : Int → Int) {len k p : Int} (h : p ≤ len) : p ≤ tkR g len k p ∧ tkR g len k p ≤ len := ⟨(rnN_bd g len k _ p).1, (rnN_bd g len k _ p).2 h⟩
def tkK (g : Int → Int) (len p : Int) : Int := kdF (atF g len (tkS g len p))
def tkE (g : Int → Int) (len p : Int) : Int := if tkK g len p = 0 then tkS g len p else if tkK g len p = 1 ∨ tkK g len p = 2 then tkR g len (tkK g len p) (tkS g len p + 1) else tkS g len p + 1
theorem kdF_bd (x : Int) : 0 ≤ kdF x ∧ kdF x ≤ 4 := by unfold kdF; split <;> (try split) <;> (try split) <;> (try split) <;> omega
theorem kdF_0 {x : Int} (h : 0 ≤ x) : kdF x ≠ 0 := by unfold kdF; rw [if_neg (by omega)]; split <;> (try split) <;> (try split) <;> omega
set_option maxHeartbeats 4000000 in
set_option maxRecDepth 100000 in
theorem c_X4_kindOf (l : Launch) (D : va_G) (cI cJ : ClassId) (tn : Nat) (a : Int) (ra : I32 a)  : Met l yX4_kindOf wsX4_kindOf ({ frames := 1, cells := 0, slots := 0, locals := 22 } : Room) (va_Pc [.int (nZ a)] (RoP D cI cJ tn [])) (vp_Si (fun r9 : Int32 => r9 = nZ (kdF a))) 0 0 (fun _ => False) := by
  refine Met.ofW (cc := cX4_kindOf) (maxL := 1) (ret := (some .int)) (by decide) rfl ?_
  intro p e s m args below meth c s₁ B hml hv
  obtain ⟨rfl, hE, hP⟩ := hv
  have hx := B.exec
  have hb := B.bytes
  have hr := B.returns
  have hts := atoms_spec (ws := wsX4_kindOf) B.pre
  have hown : s.vm.findClass RX4 = some m.cls := findClass_of_methodNamed B.named
  have hlocks := B.notSynchronized
  have hS : va_S (fun _ => False) s.heap s.heap [] := va_S.rf
  have hK := hE.1
  have hN := hE.2.1
  have hl := lv_entry ([.int (nZ a)]) (n := 1) (Nat.le_of_ble_eq_true rfl)
  rw [lg_entry_eq]
  generalize (lg_sl ([.int (nZ a)]) ++ List.replicate (1 - (lg_sl ([.int (nZ a)])).length) Slot.unset).toArray = ls at hl ⊢
  have hl : lv_has ls 1 [(0, .int (nZ a))] := hl
  refine lv_iload_n hx hb dX4_kindOf_0 rfl (lv_at hl 0 rfl) ?_
  refine lv_iconst (v := nZ (-1)) hx hb dX4_kindOf_1 rfl ?_
  refine z_icmp_ne (tgt := 7) hx hb dX4_kindOf_2 (by decide) (by omega) (by decide) (fun c_2 => ?_) (fun c_2 => ?_)
  · refine lv_iload_n hx hb dX4_kindOf_7 rfl (lv_at hl 0 rfl) ?_
    refine lv_bipush (v := nZ 97) hx hb dX4_kindOf_8 (by decide) ?_
    refine lv_bipush (v := nZ 122) hx hb dX4_kindOf_10 (by decide) ?_
    refine vp_callSi ((va_runSN (As := [.int (nZ a), .int (nZ 97), .int (nZ 122)]) (rest := []) ⟨hx, hb, hml, hown, hts⟩ (c_X9_within l D cI cJ tn a 97 122 ra (by decide) (by decide) ) ⟨va_cnB 3 hts gX4_kindOf_X9_within_n46 rfl rfl rfl (nw_X4_46 hN) (hts (.initialized RX9) (List.mem_of_getElem? (i := 2) rfl)) (by decide +kernel) ⟨Nat.le_of_ble_eq_true rfl, Nat.le_of_ble_eq_true rfl⟩, (hts (.static yX9_within) (List.mem_of_getElem? (i := 1) rfl)), trivial⟩ ⟨RoP.blind, fun U hU hW => ⟨rfl, RoP.call hE hS (hP.sub (ws' := []) [] rfl) hU hW⟩⟩ rfl rfl hl.1 rfl (lv_room (Nat.le_of_ble_eq_true rfl)) dX4_kindOf_12 ⟨Nat.le_of_ble_eq_true rfl, Nat.le_of_ble_eq_true rfl⟩).run) (fun r12 hr12 => ?_)
    subst hr12
    refine z_nameI (fun r12 er12 => ?_)
    refine z_if_eq (tgt := 20) hx hb dX4_kindOf_15 (by decide) (by omega) (fun c_15 => ?_) (fun c_15 => ?_)
    · refine lv_iload_n hx hb dX4_kindOf_20 rfl (lv_at hl 0 rfl) ?_
      refine lv_bipush (v := nZ 48) hx hb dX4_kindOf_21 (by decide) ?_
      refine lv_bipush (v := nZ 57) hx hb dX4_kindOf_23 (by decide) ?_
      refine vp_callSi ((va_runSN (As := [.int (nZ a), .int (nZ 48), .int (nZ 57)]) (rest := []) ⟨hx, hb, hml, hown, hts⟩ (c_X9_within l D cI cJ tn a 48 57 ra (by decide) (by decide) ) ⟨va_cnB 3 hts gX4_kindOf_X9_within_n46 rfl rfl rfl (nw_X4_46 hN) (hts (.initialized RX9) (List.mem_of_getElem? (i := 2) rfl)) (by decide +kernel) ⟨Nat.le_of_ble_eq_true rfl, Nat.le_of_ble_eq_true rfl⟩, (hts (.static yX9_within) (List.mem_of_getElem? (i := 1) rfl)), trivial⟩ ⟨RoP.blind, fun U hU hW => ⟨rfl, RoP.call hE hS (hP.sub (ws' := []) [] rfl) hU hW⟩⟩ rfl rfl hl.1 rfl (lv_room (Nat.le_of_ble_eq_true rfl)) dX4_kindOf_25 ⟨Nat.le_of_ble_eq_true rfl, Nat.le_of_ble_eq_true rfl⟩).run) (fun r25 hr25 => ?_)
      subst hr25
      refine z_nameI (fun r25 er25 => ?_)
      refine z_if_eq (tgt := 33) hx hb dX4_kindOf_28 (by decide) (by omega) (fun c_28 => ?_) (fun c_28 => ?_)
      · refine lv_iload_n hx hb dX4_kindOf_33 rfl (lv_at hl 0 rfl) ?_
        refine lv_bipush (v := nZ 59) hx hb dX4_kindOf_34 (by decide) ?_
        refine z_icmp_ne (tgt := 43) hx hb dX4_kindOf_36 (by decide) (by omega) (by decide) (fun c_36 => ?_) (fun c_36 => ?_)
        · refine lv_iconst (v := nZ 4) hx hb dX4_kindOf_43 rfl ?_
          exact W.iret (v := nZ 4) hx hb hr (fun t9 ht9 _ => ⟨nZ 4, rfl, congrArg nZ (show (4 : Int) = kdF a from (by unfold kdF; first | (rw [if_pos (by omega)]; done) | (rw [if_neg (by omega), if_pos (by omega)]; done) | (rw [if_neg (by omega), if_neg (by omega), if_pos (by omega)]; done) | (rw [if_neg (by omega), if_neg (by omega), if_neg (by omega), if_pos (by omega)]; done) | (rw [if_neg (by omega), if_neg (by omega), if_neg (by omega), if_neg (by omega)]; done))), ht9⟩) (fun _ h => by cases h) dX4_kindOf_44
        · refine lv_iconst (v := nZ 3) hx hb dX4_kindOf_39 rfl ?_
          refine lv_goto (tgt := 44) hx hb dX4_kindOf_40 (by decide) ?_
          exact W.iret (v := nZ 3) hx hb hr (fun t9 ht9 _ => ⟨nZ 3, rfl, congrArg nZ (show (3 : Int) = kdF a from (by unfold kdF; first | (rw [if_pos (by omega)]; done) | (rw [if_neg (by omega), if_pos (by omega)]; done) | (rw [if_neg (by omega), if_neg (by omega), if_pos (by omega)]; done) | (rw [if_neg (by omega), if_neg (by omega), if_neg (by omega), if_pos (by omega)]; done) | (rw [if_neg (by omega), if_neg (by omega), if_neg (by omega), if_neg (by omega)]; done))), ht9⟩) (fun _ h => by cases h) dX4_kindOf_44
      · refine lv_iconst (v := nZ 2) hx hb dX4_kindOf_31 rfl ?_
        exact W.iret (v := nZ 2) hx hb hr (fun t9 ht9 _ => ⟨nZ 2, rfl, congrArg nZ (show (2 : Int) = kdF a from (by unfold kdF; first | (rw [if_pos (by omega)]; done) | (rw [if_neg (by omega), if_pos (by omega)]; done) | (rw [if_neg (by omega), if_neg (by omega), if_pos (by omega)]; done) | (rw [if_neg (by omega), if_neg (by omega), if_neg (by omega), if_pos (by omega)]; done) | (rw [if_neg (by omega), if_neg (by omega), if_neg (by omega), if_neg (by omega)]; done))), ht9⟩) (fun _ h => by cases h) dX4_kindOf_32
    · refine lv_iconst (v := nZ 1) hx hb dX4_kindOf_18 rfl ?_
      exact W.iret (v := nZ 1) hx hb hr (fun t9 ht9 _ => ⟨nZ 1, rfl, congrArg nZ (show (1 : Int) = kdF a from (by unfold kdF; first | (rw [if_pos (by omega)]; done) | (rw [if_neg (by omega), if_pos (by omega)]; done) | (rw [if_neg (by omega), if_neg (by omega), if_pos (by omega)]; done) | (rw [if_neg (by omega), if_neg (by omega), if_neg (by omega), if_pos (by omega)]; done) | (rw [if_neg (by omega), if_neg (by omega), if_neg (by omega), if_neg (by omega)]; done))), ht9⟩) (fun _ h => by cases h) dX4_kindOf_19
  · refine lv_iconst (v := nZ 0) hx hb dX4_kindOf_5 rfl ?_
    exact W.iret (v := nZ 0) hx hb hr (fun t9 ht9 _ => ⟨nZ 0, rfl, congrArg nZ (show (0 : Int) = kdF a from (by unfold kdF; first | (rw [if_pos (by omega)]; done) | (rw [if_neg (by omega), if_pos (by omega)]; done) | (rw [if_neg (by omega), if_neg (by omega), if_pos (by omega)]; done) | (rw [if_neg (by omega), if_neg (by omega), if_neg (by omega), if_pos (by omega)]; done) | (rw [if_neg (by omega), if_neg (by omega), if_neg (by omega), if_neg (by omega)]; done))), ht9⟩) (fun _ h => by cases h) dX4_kindOf_6

set_option maxHeartbeats 4000000 in
set_option maxRecDepth 100000 in
theorem c_X4_step (l : Launch) (D : va_G) (cI cJ : ClassId) (tn : Nat) (sz : Nat) (rdr : Nat) (t : Nat) (wq : Nat) (nq : Nat) (tq : Nat) (tx : Int → Int) (len : Int) (li : Int) (kd : Int) (st : Int) (en : Int) (hl0 : 0 ≤ len) (hl1 : len ≤ 200) (hgb : ∀ k, 0 ≤ tx k ∧ tx k ≤ 255) (he0 : 0 ≤ en) (he1 : en ≤ len)  : Met l yX4_step wsX4_step ({ frames := 2, cells := 0, slots := 0, locals := 43 } : Room) (va_Pc [.ref rdr] (WrP D cI cJ tn [(rdr, .inr (4, [.ref t, .ref wq, .ref nq, .int (nZ li), .int (nZ kd), .int (nZ st), .int (nZ en)])), (t, .inr (7, [.ref tq, .int (nZ len)])), (tq, .inl (cI, 200, .inl (aZ tx)))] sz)) (va_Qv (fun u9 : Unit => True) (fun u9 t9 => WrQ D (va_A [(rdr, .inr (4, [.ref t, .ref wq, .ref nq, .int (nZ li), .int (nZ kd), .int (nZ st), .int (nZ en)])), (t, .inr (7, [.ref tq, .int (nZ len)])), (tq, .inl (cI, 200, .inl (aZ tx)))] sz) [(rdr, .inr (4, [.ref t, .ref wq, .ref nq, .int (nZ li), .int (nZ (tkK tx len en)), .int (nZ (tkS tx len en)), .int (nZ (tkE tx len en))])), (t, .inr (7, [.ref tq, .int (nZ len)])), (tq, .inl (cI, 200, .inl (aZ tx)))] t9) (va_A [(rdr, .inr (4, [.ref t, .ref wq, .ref nq, .int (nZ li), .int (nZ kd), .int (nZ st), .int (nZ en)])), (t, .inr (7, [.ref tq, .int (nZ len)])), (tq, .inl (cI, 200, .inl (aZ tx)))] sz)) 0 0 (va_A [(rdr, .inr (4, [.ref t, .ref wq, .ref nq, .int (nZ li), .int (nZ kd), .int (nZ st), .int (nZ en)])), (t, .inr (7, [.ref tq, .int (nZ len)])), (tq, .inl (cI, 200, .inl (aZ tx)))] sz) := by
  refine Met.ofW (cc := cX4_step) (maxL := 2) (ret := none) (by decide) rfl ?_
  intro p e s m args below meth c s₁ B hml hv
  obtain ⟨rfl, hsz, hE, hP, hD0⟩ := hv
  have hx := B.exec
  have hb := B.bytes
  have hr := B.returns
  have hts := atoms_spec (ws := wsX4_step) B.pre
  have hown : s.vm.findClass RX4 = some m.cls := findClass_of_methodNamed B.named
  have hlocks := B.notSynchronized
  subst hsz
  have hD := hD0.self (sz := s.heap.size)
  generalize hAe : va_A [(rdr, .inr (4, [.ref t, .ref wq, .ref nq, .int (nZ li), .int (nZ kd), .int (nZ st), .int (nZ en)])), (t, .inr (7, [.ref tq, .int (nZ len)])), (tq, .inl (cI, 200, .inl (aZ tx)))] s.heap.size = A at hD hE ⊢
  have hA : ∀ q : Nat, s.heap.size ≤ q → A q := fun q h => by rw [← hAe]; exact Or.inr h
  have hS : va_S A s.heap s.heap [] := va_S.rf
  have hK := hE.1
  have hN := hE.2.1
  have hl := lv_entry ([.ref rdr]) (n := 2) (Nat.le_of_ble_eq_true rfl)
  rw [lg_entry_eq]
  generalize (lg_sl ([.ref rdr]) ++ List.replicate (2 - (lg_sl ([.ref rdr])).length) Slot.unset).toArray = ls at hl ⊢
  have hl : lv_has ls 2 [(0, .ref rdr)] := hl
  have iX4 : ∀ w ∈ u_ws RX4 TX4 7, w ∈ wsX4_step := fun _ h => List.mem_cons_of_mem _ (List.mem_append_left _ (List.mem_append_right _ h))
  have iX7 : ∀ w ∈ u_ws RX7 TX7 2, w ∈ wsX4_step := fun _ h => List.mem_cons_of_mem _ (List.mem_append_right _ h)
  refine lv_aload_n hx hb dX4_step_0 rfl (lv_at hl 0 rfl) ?_
  refine va_get (D := D) (ci := 4) (v := .int (nZ en)) (C := RX4) (T := TX4) (N := 7) hx hb hts iX4 hown hK hP 0 rfl rfl 6 (by decide) (hts (.fieldLink RX4 26 "RainTarget$Reader" "end" "I") (List.mem_of_getElem? (i := 1) rfl)) (fun _ h9 => h9) rfl dX4_step_1 ?_
  refine lv_istore_n (lv' := [(1, .int (nZ en)), (0, .ref rdr)]) hx hb dX4_step_4 rfl hl (by decide) rfl (fun ls hl => ?_)
  refine z_loop1 (fun (p : Int) => (0 ≤ p) ∧ (p ≤ len) ∧ (tkS tx len en = tkS tx len p)) (fun (p : Int) => (len - p).toNat) (fun (p : Int) => [(rdr, .inr (4, [.ref t, .ref wq, .ref nq, .int (nZ li), .int (nZ kd), .int (nZ st), .int (nZ en)])), (t, .inr (7, [.ref tq, .int (nZ len)])), (tq, .inl (cI, 200, .inl (aZ tx)))]) (fun (p : Int) => [(0, .ref rdr), (1, .int (nZ p))]) ?_ en ⟨(by first | assumption | omega), (by first | assumption | omega), rfl⟩ (hP.sub [0, 1, 2] rfl) (hD.sub [0, 1, 2] (by decide) rfl) hS (lv_sub hl [1, 0] rfl)
  intro p hI5 ih5 H locs ls hP hD hS hl
  have hP : va_P D vwCl [(rdr, .inr (4, [.ref t, .ref wq, .ref nq, .int (nZ li), .int (nZ kd), .int (nZ st), .int (nZ en)])), (t, .inr (7, [.ref tq, .int (nZ len)])), (tq, .inl (cI, 200, .inl (aZ tx)))] H := hP
  have hD : va_D A [(rdr, .inr (4, [.ref t, .ref wq, .ref nq, .int (nZ li), .int (nZ kd), .int (nZ st), .int (nZ en)])), (t, .inr (7, [.ref tq, .int (nZ len)])), (tq, .inl (cI, 200, .inl (aZ tx)))] := hD
  have hl : lv_has ls 2 [(0, .ref rdr), (1, .int (nZ p))] := hl
  obtain ⟨hp0, hp1, hpe⟩ : (0 ≤ p) ∧ (p ≤ len) ∧ (tkS tx len en = tkS tx len p) := hI5
  refine lv_iload_n hx hb dX4_step_5 rfl (lv_at hl 1 rfl) ?_
  refine lv_aload_n hx hb dX4_step_6 rfl (lv_at hl 0 rfl) ?_
  refine va_get (D := D) (ci := 4) (v := .ref t) (C := RX4) (T := TX4) (N := 7) hx hb hts iX4 hown hK hP 0 rfl rfl 0 (by decide) (hts (.fieldLink RX4 18 "RainTarget$Reader" "text" "LRainTarget$Text;") (List.mem_of_getElem? (i := 2) rfl)) (fun _ h9 => h9) rfl dX4_step_7 ?_
  refine va_getN (D := D) (ci := 7) (v := .int (nZ len)) (C := RX7) (T := TX7) (N := 2) hx hb hts iX7 hown hK hP 1 rfl rfl 1 (by decide) (va_Nw.use rfl (nw_X4_70 hN)) (fun _ h9 => h9) rfl dX4_step_10 ?_
  refine z_icmp_ge (tgt := 35) hx hb dX4_step_13 (by decide) (by omega) (by omega) (fun c_13 => ?_) (fun c_13 => ?_)
  · have hSS : tkS tx len en = p := by rw [hpe]; exact tkS_e tx (by omega)
    refine lv_aload_n hx hb dX4_step_35 rfl (lv_at hl 0 rfl) ?_
    refine lv_iload_n hx hb dX4_step_36 rfl (lv_at hl 1 rfl) ?_
    refine va_put (D := D) (ci := 4) (v := .int (nZ p)) (ty := .int) (C := RX4) (T := TX4) (N := 7) hx hb hts iX4 tyX4 tyX4_ok nmX4 hown hK hP hD hS 0 rfl rfl 5 (by decide) (hts (.fieldLink RX4 33 "RainTarget$Reader" "start" "I") (List.mem_of_getElem? (i := 3) rfl)) (fun _ h9 => h9) rfl (by decide +kernel) rfl rfl (Nat.le_of_ble_eq_true rfl) dX4_step_37 (fun H locs hP hD hS => ?_)
    have hP : va_P D vwCl [(rdr, .inr (4, [.ref t, .ref wq, .ref nq, .int (nZ li), .int (nZ kd), .int (nZ p), .int (nZ en)])), (t, .inr (7, [.ref tq, .int (nZ len)])), (tq, .inl (cI, 200, .inl (aZ tx)))] H := hP
    have hD : va_D A [(rdr, .inr (4, [.ref t, .ref wq, .ref nq, .int (nZ li), .int (nZ kd), .int (nZ p), .int (nZ en)])), (t, .inr (7, [.ref tq, .int (nZ len)])), (tq, .inl (cI, 200, .inl (aZ tx)))] := hD
    refine lv_aload_n hx hb dX4_step_40 rfl (lv_at hl 0 rfl) ?_
    refine lv_aload_n hx hb dX4_step_41 rfl (lv_at hl 0 rfl) ?_
    refine va_get (D := D) (ci := 4) (v := .ref t) (C := RX4) (T := TX4) (N := 7) hx hb hts iX4 hown hK hP 0 rfl rfl 0 (by decide) (hts (.fieldLink RX4 18 "RainTarget$Reader" "text" "LRainTarget$Text;") (List.mem_of_getElem? (i := 2) rfl)) (fun _ h9 => h9) rfl dX4_step_42 ?_
    refine lv_iload_n hx hb dX4_step_45 rfl (lv_at hl 1 rfl) ?_
    have hgp := hgb p
    refine vp_callSi ((va_runVN (As := [.int (nZ p)]) (rest := [.ref rdr]) ⟨hx, hb, hml, hown, hts⟩ (c_X7_at l D cI cJ tn t tq tx len p (by omega) (by omega) ) ⟨va_cnB 1 hts gX4_step_X7_at_n65 rfl rfl rfl (nw_X4_65 hN) (hts (.initialized RX7) (List.mem_of_getElem? (i := 6) rfl)) (by decide +kernel) ⟨Nat.le_of_ble_eq_true rfl, Nat.le_of_ble_eq_true rfl⟩, (hts (.instanceMethod yX7_at) (List.mem_of_getElem? (i := 5) rfl)), (hts (.selects RX7 yX7_at yX7_at) (List.mem_of_getElem? (i := 7) rfl))⟩ ⟨RoP.blind, va_recv hK hP (ci := 7) (q0 := 1) rfl rfl, fun U hU hW => ⟨rfl, RoP.call hE hS (hP.sub (ws' := [(t, .inr (7, [.ref tq, .int (nZ len)])), (tq, .inl (cI, 200, .inl (aZ tx)))]) [1, 2] rfl) hU hW⟩⟩ rfl rfl hl.1 rfl (lv_room (Nat.le_of_ble_eq_true rfl)) dX4_step_46 ⟨Nat.le_of_ble_eq_true rfl, Nat.le_of_ble_eq_true rfl⟩).run) (fun r46 hr46 => ?_)
    subst hr46
    refine z_nameI (fun r46 er46 => ?_)
    have e46 : r46 = atF tx len p := by unfold atF; rw [er46]; by_cases q : p < len <;> first | (rw [if_pos q, if_pos (by omega)]; done) | (rw [if_neg q, if_neg (by omega)]; done)
    have hr46 : -1 ≤ r46 ∧ r46 ≤ 255 := by rw [e46]; unfold atF; split <;> omega
    refine vp_callSi ((va_runS (As := [.int (nZ r46)]) (rest := [.ref rdr]) ⟨hx, hb, hml, hown, hts⟩ (c_X4_kindOf l D cI cJ tn r46 (by omega) ) (va_cwS 1 hts gX4_step_X4_kindOf rfl rfl rfl (by decide +kernel) ⟨Nat.le_of_ble_eq_true rfl, Nat.le_of_ble_eq_true rfl⟩) ⟨RoP.blind, fun U hU hW => ⟨rfl, RoP.call hE hS (hP.sub (ws' := []) [] rfl) hU hW⟩⟩ rfl rfl hl.1 rfl (lv_room (Nat.le_of_ble_eq_true rfl)) dX4_step_49 ⟨Nat.le_of_ble_eq_true rfl, Nat.le_of_ble_eq_true rfl⟩).run) (fun r49 hr49 => ?_)
    subst hr49
    refine z_nameI (fun r49 er49 => ?_)
    have hkb := kdF_bd r46
    have hKK : tkK tx len en = r49 := by unfold tkK; rw [hSS, er49, e46]
    refine va_put (D := D) (ci := 4) (v := .int (nZ r49)) (ty := .int) (C := RX4) (T := TX4) (N := 7) hx hb hts iX4 tyX4 tyX4_ok nmX4 hown hK hP hD hS 0 rfl rfl 4 (by decide) (hts (.fieldLink RX4 39 "RainTarget$Reader" "kind" "I") (List.mem_of_getElem? (i := 4) rfl)) (fun _ h9 => h9) rfl (by decide +kernel) rfl rfl (Nat.le_of_ble_eq_true rfl) dX4_step_52 (fun H locs hP hD hS => ?_)
    have hP : va_P D vwCl [(rdr, .inr (4, [.ref t, .ref wq, .ref nq, .int (nZ li), .int (nZ r49), .int (nZ p), .int (nZ en)])), (t, .inr (7, [.ref tq, .int (nZ len)])), (tq, .inl (cI, 200, .inl (aZ tx)))] H := hP
    have hD : va_D A [(rdr, .inr (4, [.ref t, .ref wq, .ref nq, .int (nZ li), .int (nZ r49), .int (nZ p), .int (nZ en)])), (t, .inr (7, [.ref tq, .int (nZ len)])), (tq, .inl (cI, 200, .inl (aZ tx)))] := hD
    refine lv_aload_n hx hb dX4_step_55 rfl (lv_at hl 0 rfl) ?_
    refine va_get (D := D) (ci := 4) (v := .int (nZ r49)) (C := RX4) (T := TX4) (N := 7) hx hb hts iX4 hown hK hP 0 rfl rfl 4 (by decide) (hts (.fieldLink RX4 39 "RainTarget$Reader" "kind" "I") (List.mem_of_getElem? (i := 4) rfl)) (fun _ h9 => h9) rfl dX4_step_56 ?_
    refine z_if_eq (tgt := 65) hx hb dX4_step_59 (by decide) (by omega) (fun c_59 => ?_) (fun c_59 => ?_)
    · have hinit : tkE tx len en = (if r49 = 1 ∨ r49 = 2 then tkR tx len r49 p else p) := by unfold tkE; rw [hKK, if_pos (by omega), if_neg (by omega), hSS]
      refine z_loop1 (fun (y : Int) => (0 ≤ y) ∧ (y ≤ len) ∧ (tkE tx len en = (if r49 = 1 ∨ r49 = 2 then tkR tx len r49 y else y)) ∧ (r49 = 0 → y = tkS tx len en)) (fun (y : Int) => (len - y).toNat) (fun (y : Int) => [(rdr, .inr (4, [.ref t, .ref wq, .ref nq, .int (nZ li), .int (nZ r49), .int (nZ p), .int (nZ en)])), (t, .inr (7, [.ref tq, .int (nZ len)])), (tq, .inl (cI, 200, .inl (aZ tx)))]) (fun (y : Int) => [(0, .ref rdr), (1, .int (nZ y))]) ?_ p ⟨(by first | assumption | omega), (by first | assumption | omega), hinit, (fun q => by omega)⟩ (hP.sub [0, 1, 2] rfl) (hD.sub [0, 1, 2] (by decide) rfl) hS (lv_sub hl [0, 1] rfl)
      intro y hI65 ih65 H locs ls hP hD hS hl
      have hP : va_P D vwCl [(rdr, .inr (4, [.ref t, .ref wq, .ref nq, .int (nZ li), .int (nZ r49), .int (nZ p), .int (nZ en)])), (t, .inr (7, [.ref tq, .int (nZ len)])), (tq, .inl (cI, 200, .inl (aZ tx)))] H := hP
      have hD : va_D A [(rdr, .inr (4, [.ref t, .ref wq, .ref nq, .int (nZ li), .int (nZ r49), .int (nZ p), .int (nZ en)])), (t, .inr (7, [.ref tq, .int (nZ len)])), (tq, .inl (cI, 200, .inl (aZ tx)))] := hD
      have hl : lv_has ls 2 [(0, .ref rdr), (1, .int (nZ y))] := hl
      obtain ⟨hy0, hy1, hye, hyk⟩ : (0 ≤ y) ∧ (y ≤ len) ∧ (tkE tx len en = (if r49 = 1 ∨ r49 = 2 then tkR tx len r49 y else y)) ∧ (r49 = 0 → y = tkS tx len en) := hI65
      refine lv_iload_n hx hb dX4_step_65 rfl (lv_at hl 1 rfl) ?_
      refine lv_aload_n hx hb dX4_step_66 rfl (lv_at hl 0 rfl) ?_
      refine va_get (D := D) (ci := 4) (v := .ref t) (C := RX4) (T := TX4) (N := 7) hx hb hts iX4 hown hK hP 0 rfl rfl 0 (by decide) (hts (.fieldLink RX4 18 "RainTarget$Reader" "text" "LRainTarget$Text;") (List.mem_of_getElem? (i := 2) rfl)) (fun _ h9 => h9) rfl dX4_step_67 ?_
      refine va_getN (D := D) (ci := 7) (v := .int (nZ len)) (C := RX7) (T := TX7) (N := 2) hx hb hts iX7 hown hK hP 1 rfl rfl 1 (by decide) (va_Nw.use rfl (nw_X4_70 hN)) (fun _ h9 => h9) rfl dX4_step_70 ?_
      refine z_icmp_ge (tgt := 116) hx hb dX4_step_73 (by decide) (by omega) (by omega) (fun c_73 => ?_) (fun c_73 => ?_)
      · refine lv_aload_n hx hb dX4_step_116 rfl (lv_at hl 0 rfl) ?_
        refine lv_iload_n hx hb dX4_step_117 rfl (lv_at hl 1 rfl) ?_
        refine va_put (D := D) (ci := 4) (v := .int (nZ y)) (ty := .int) (C := RX4) (T := TX4) (N := 7) hx hb hts iX4 tyX4 tyX4_ok nmX4 hown hK hP hD hS 0 rfl rfl 6 (by decide) (hts (.fieldLink RX4 26 "RainTarget$Reader" "end" "I") (List.mem_of_getElem? (i := 1) rfl)) (fun _ h9 => h9) rfl (by decide +kernel) rfl rfl (Nat.le_of_ble_eq_true rfl) dX4_step_118 (fun H locs hP hD hS => ?_)
        have hP : va_P D vwCl [(rdr, .inr (4, [.ref t, .ref wq, .ref nq, .int (nZ li), .int (nZ r49), .int (nZ p), .int (nZ y)])), (t, .inr (7, [.ref tq, .int (nZ len)])), (tq, .inl (cI, 200, .inl (aZ tx)))] H := hP
        have hD : va_D A [(rdr, .inr (4, [.ref t, .ref wq, .ref nq, .int (nZ li), .int (nZ r49), .int (nZ p), .int (nZ y)])), (t, .inr (7, [.ref tq, .int (nZ len)])), (tq, .inl (cI, 200, .inl (aZ tx)))] := hD
        have hfin : (if r49 = 1 ∨ r49 = 2 then tkR tx len r49 y else y) = y := by split <;> first | rfl | exact tkR_e tx (by omega) | (exfalso; omega)
        have hP9 := hP.sub (ws' := [(rdr, .inr (4, [.ref t, .ref wq, .ref nq, .int (nZ li), .int (nZ r49), .int (nZ p), .int (nZ y)])), (t, .inr (7, [.ref tq, .int (nZ len)])), (tq, .inl (cI, 200, .inl (aZ tx)))]) [0, 1, 2] rfl
        have hD9 := hD.sub (ws' := [(rdr, .inr (4, [.ref t, .ref wq, .ref nq, .int (nZ li), .int (nZ r49), .int (nZ p), .int (nZ y)])), (t, .inr (7, [.ref tq, .int (nZ len)])), (tq, .inl (cI, 200, .inl (aZ tx)))]) [0, 1, 2] (by decide) rfl
        have hq9 : ([(rdr, .inr (4, [.ref t, .ref wq, .ref nq, .int (nZ li), .int (nZ r49), .int (nZ p), .int (nZ y)])), (t, .inr (7, [.ref tq, .int (nZ len)])), (tq, .inl (cI, 200, .inl (aZ tx)))] : va_W) = [(rdr, .inr (4, [.ref t, .ref wq, .ref nq, .int (nZ li), .int (nZ (tkK tx len en)), .int (nZ (tkS tx len en)), .int (nZ (tkE tx len en))])), (t, .inr (7, [.ref tq, .int (nZ len)])), (tq, .inl (cI, 200, .inl (aZ tx)))] := by rw [hKK, hSS, hye, hfin]
        rw [hq9] at hP9 hD9
        exact W.vret hx hb hr (fun t9 ht9 _ => ⟨⟨(), rfl, trivial, ⟨by rw [ht9]; exact hP9, hD9⟩⟩, hS.F ht9⟩) hS.2.2 dX4_step_121
      · refine lv_aload_n hx hb dX4_step_76 rfl (lv_at hl 0 rfl) ?_
        refine va_get (D := D) (ci := 4) (v := .int (nZ r49)) (C := RX4) (T := TX4) (N := 7) hx hb hts iX4 hown hK hP 0 rfl rfl 4 (by decide) (hts (.fieldLink RX4 39 "RainTarget$Reader" "kind" "I") (List.mem_of_getElem? (i := 4) rfl)) (fun _ h9 => h9) rfl dX4_step_77 ?_
        refine lv_iconst (v := nZ 1) hx hb dX4_step_80 rfl ?_
        refine z_icmp_eq (tgt := 92) hx hb dX4_step_81 (by decide) (by omega) (by decide) (fun c_81 => ?_) (fun c_81 => ?_)
        · refine lv_aload_n hx hb dX4_step_92 rfl (lv_at hl 0 rfl) ?_
          refine va_get (D := D) (ci := 4) (v := .ref t) (C := RX4) (T := TX4) (N := 7) hx hb hts iX4 hown hK hP 0 rfl rfl 0 (by decide) (hts (.fieldLink RX4 18 "RainTarget$Reader" "text" "LRainTarget$Text;") (List.mem_of_getElem? (i := 2) rfl)) (fun _ h9 => h9) rfl dX4_step_93 ?_
          refine lv_iload_n hx hb dX4_step_96 rfl (lv_at hl 1 rfl) ?_
          have hgy := hgb y
          refine vp_callSi ((va_runVN (As := [.int (nZ y)]) (rest := []) ⟨hx, hb, hml, hown, hts⟩ (c_X7_at l D cI cJ tn t tq tx len y (by omega) (by omega) ) ⟨va_cnB 1 hts gX4_step_X7_at_n65 rfl rfl rfl (nw_X4_65 hN) (hts (.initialized RX7) (List.mem_of_getElem? (i := 6) rfl)) (by decide +kernel) ⟨Nat.le_of_ble_eq_true rfl, Nat.le_of_ble_eq_true rfl⟩, (hts (.instanceMethod yX7_at) (List.mem_of_getElem? (i := 5) rfl)), (hts (.selects RX7 yX7_at yX7_at) (List.mem_of_getElem? (i := 7) rfl))⟩ ⟨RoP.blind, va_recv hK hP (ci := 7) (q0 := 1) rfl rfl, fun U hU hW => ⟨rfl, RoP.call hE hS (hP.sub (ws' := [(t, .inr (7, [.ref tq, .int (nZ len)])), (tq, .inl (cI, 200, .inl (aZ tx)))]) [1, 2] rfl) hU hW⟩⟩ rfl rfl hl.1 rfl (lv_room (Nat.le_of_ble_eq_true rfl)) dX4_step_97 ⟨Nat.le_of_ble_eq_true rfl, Nat.le_of_ble_eq_true rfl⟩).run) (fun r97 hr97 => ?_)
          subst hr97
          refine z_nameI (fun r97 er97 => ?_)
          have e97 : r97 = tx y := by rw [er97, if_pos (by omega)]
          refine vp_callSi ((va_runS (As := [.int (nZ r97)]) (rest := []) ⟨hx, hb, hml, hown, hts⟩ (c_X4_kindOf l D cI cJ tn r97 (by omega) ) (va_cwS 1 hts gX4_step_X4_kindOf rfl rfl rfl (by decide +kernel) ⟨Nat.le_of_ble_eq_true rfl, Nat.le_of_ble_eq_true rfl⟩) ⟨RoP.blind, fun U hU hW => ⟨rfl, RoP.call hE hS (hP.sub (ws' := []) [] rfl) hU hW⟩⟩ rfl rfl hl.1 rfl (lv_room (Nat.le_of_ble_eq_true rfl)) dX4_step_100 ⟨Nat.le_of_ble_eq_true rfl, Nat.le_of_ble_eq_true rfl⟩).run) (fun r100 hr100 => ?_)
          subst hr100
          refine z_nameI (fun r100 er100 => ?_)
          have hkb2 := kdF_bd r97
          have e100 : r100 = kdF (tx y) := by rw [er100, e97]
          refine lv_aload_n hx hb dX4_step_103 rfl (lv_at hl 0 rfl) ?_
          refine va_get (D := D) (ci := 4) (v := .int (nZ r49)) (C := RX4) (T := TX4) (N := 7) hx hb hts iX4 hown hK hP 0 rfl rfl 4 (by decide) (hts (.fieldLink RX4 39 "RainTarget$Reader" "kind" "I") (List.mem_of_getElem? (i := 4) rfl)) (fun _ h9 => h9) rfl dX4_step_104 ?_
          refine z_icmp_ne (tgt := 116) hx hb dX4_step_107 (by decide) (by omega) (by omega) (fun c_107 => ?_) (fun c_107 => ?_)
          · refine lv_aload_n hx hb dX4_step_116 rfl (lv_at hl 0 rfl) ?_
            refine lv_iload_n hx hb dX4_step_117 rfl (lv_at hl 1 rfl) ?_
            refine va_put (D := D) (ci := 4) (v := .int (nZ y)) (ty := .int) (C := RX4) (T := TX4) (N := 7) hx hb hts iX4 tyX4 tyX4_ok nmX4 hown hK hP hD hS 0 rfl rfl 6 (by decide) (hts (.fieldLink RX4 26 "RainTarget$Reader" "end" "I") (List.mem_of_getElem? (i := 1) rfl)) (fun _ h9 => h9) rfl (by decide +kernel) rfl rfl (Nat.le_of_ble_eq_true rfl) dX4_step_118 (fun H locs hP hD hS => ?_)
            have hP : va_P D vwCl [(rdr, .inr (4, [.ref t, .ref wq, .ref nq, .int (nZ li), .int (nZ r49), .int (nZ p), .int (nZ y)])), (t, .inr (7, [.ref tq, .int (nZ len)])), (tq, .inl (cI, 200, .inl (aZ tx)))] H := hP
            have hD : va_D A [(rdr, .inr (4, [.ref t, .ref wq, .ref nq, .int (nZ li), .int (nZ r49), .int (nZ p), .int (nZ y)])), (t, .inr (7, [.ref tq, .int (nZ len)])), (tq, .inl (cI, 200, .inl (aZ tx)))] := hD
            have hfin : (if r49 = 1 ∨ r49 = 2 then tkR tx len r49 y else y) = y := by split <;> first | rfl | exact tkR_e tx (by omega) | (exfalso; omega)
            have hP9 := hP.sub (ws' := [(rdr, .inr (4, [.ref t, .ref wq, .ref nq, .int (nZ li), .int (nZ r49), .int (nZ p), .int (nZ y)])), (t, .inr (7, [.ref tq, .int (nZ len)])), (tq, .inl (cI, 200, .inl (aZ tx)))]) [0, 1, 2] rfl
            have hD9 := hD.sub (ws' := [(rdr, .inr (4, [.ref t, .ref wq, .ref nq, .int (nZ li), .int (nZ r49), .int (nZ p), .int (nZ y)])), (t, .inr (7, [.ref tq, .int (nZ len)])), (tq, .inl (cI, 200, .inl (aZ tx)))]) [0, 1, 2] (by decide) rfl
            have hq9 : ([(rdr, .inr (4, [.ref t, .ref wq, .ref nq, .int (nZ li), .int (nZ r49), .int (nZ p), .int (nZ y)])), (t, .inr (7, [.ref tq, .int (nZ len)])), (tq, .inl (cI, 200, .inl (aZ tx)))] : va_W) = [(rdr, .inr (4, [.ref t, .ref wq, .ref nq, .int (nZ li), .int (nZ (tkK tx len en)), .int (nZ (tkS tx len en)), .int (nZ (tkE tx len en))])), (t, .inr (7, [.ref tq, .int (nZ len)])), (tq, .inl (cI, 200, .inl (aZ tx)))] := by rw [hKK, hSS, hye, hfin]
            rw [hq9] at hP9 hD9
            exact W.vret hx hb hr (fun t9 ht9 _ => ⟨⟨(), rfl, trivial, ⟨by rw [ht9]; exact hP9, hD9⟩⟩, hS.F ht9⟩) hS.2.2 dX4_step_121
          · refine lv_iinc (v := nZ (y + 1)) (lv' := [(1, .int (nZ (y + 1))), (0, .ref rdr)]) hx hb dX4_step_110 hl (k := 1) rfl (nZ_add _ _) (by decide) rfl (fun ls hl => ?_)
            refine lv_goto (tgt := 65) hx hb dX4_step_113 (by decide) ?_
            exact ih65 (y + 1) ⟨(by first | assumption | omega), (by first | assumption | omega), (by rw [hye, if_pos (by omega), if_pos (by omega), tkR_s tx (by omega) (by omega)]), (fun q => by omega)⟩ (show (len - (y + 1)).toNat < (len - y).toNat from by omega) _ _ ls (hP.sub [0, 1, 2] rfl) (hD.sub [0, 1, 2] (by decide) rfl) hS (lv_sub hl [1, 0] rfl)
        · refine lv_aload_n hx hb dX4_step_84 rfl (lv_at hl 0 rfl) ?_
          refine va_get (D := D) (ci := 4) (v := .int (nZ r49)) (C := RX4) (T := TX4) (N := 7) hx hb hts iX4 hown hK hP 0 rfl rfl 4 (by decide) (hts (.fieldLink RX4 39 "RainTarget$Reader" "kind" "I") (List.mem_of_getElem? (i := 4) rfl)) (fun _ h9 => h9) rfl dX4_step_85 ?_
          refine lv_iconst (v := nZ 2) hx hb dX4_step_88 rfl ?_
          refine z_icmp_ne (tgt := 116) hx hb dX4_step_89 (by decide) (by omega) (by decide) (fun c_89 => ?_) (fun c_89 => ?_)
          · refine lv_aload_n hx hb dX4_step_116 rfl (lv_at hl 0 rfl) ?_
            refine lv_iload_n hx hb dX4_step_117 rfl (lv_at hl 1 rfl) ?_
            refine va_put (D := D) (ci := 4) (v := .int (nZ y)) (ty := .int) (C := RX4) (T := TX4) (N := 7) hx hb hts iX4 tyX4 tyX4_ok nmX4 hown hK hP hD hS 0 rfl rfl 6 (by decide) (hts (.fieldLink RX4 26 "RainTarget$Reader" "end" "I") (List.mem_of_getElem? (i := 1) rfl)) (fun _ h9 => h9) rfl (by decide +kernel) rfl rfl (Nat.le_of_ble_eq_true rfl) dX4_step_118 (fun H locs hP hD hS => ?_)
            have hP : va_P D vwCl [(rdr, .inr (4, [.ref t, .ref wq, .ref nq, .int (nZ li), .int (nZ r49), .int (nZ p), .int (nZ y)])), (t, .inr (7, [.ref tq, .int (nZ len)])), (tq, .inl (cI, 200, .inl (aZ tx)))] H := hP
            have hD : va_D A [(rdr, .inr (4, [.ref t, .ref wq, .ref nq, .int (nZ li), .int (nZ r49), .int (nZ p), .int (nZ y)])), (t, .inr (7, [.ref tq, .int (nZ len)])), (tq, .inl (cI, 200, .inl (aZ tx)))] := hD
            have hfin : (if r49 = 1 ∨ r49 = 2 then tkR tx len r49 y else y) = y := by split <;> first | rfl | exact tkR_e tx (by omega) | (exfalso; omega)
            have hP9 := hP.sub (ws' := [(rdr, .inr (4, [.ref t, .ref wq, .ref nq, .int (nZ li), .int (nZ r49), .int (nZ p), .int (nZ y)])), (t, .inr (7, [.ref tq, .int (nZ len)])), (tq, .inl (cI, 200, .inl (aZ tx)))]) [0, 1, 2] rfl
            have hD9 := hD.sub (ws' := [(rdr, .inr (4, [.ref t, .ref wq, .ref nq, .int (nZ li), .int (nZ r49), .int (nZ p), .int (nZ y)])), (t, .inr (7, [.ref tq, .int (nZ len)])), (tq, .inl (cI, 200, .inl (aZ tx)))]) [0, 1, 2] (by decide) rfl
            have hq9 : ([(rdr, .inr (4, [.ref t, .ref wq, .ref nq, .int (nZ li), .int (nZ r49), .int (nZ p), .int (nZ y)])), (t, .inr (7, [.ref tq, .int (nZ len)])), (tq, .inl (cI, 200, .inl (aZ tx)))] : va_W) = [(rdr, .inr (4, [.ref t, .ref wq, .ref nq, .int (nZ li), .int (nZ (tkK tx len en)), .int (nZ (tkS tx len en)), .int (nZ (tkE tx len en))])), (t, .inr (7, [.ref tq, .int (nZ len)])), (tq, .inl (cI, 200, .inl (aZ tx)))] := by rw [hKK, hSS, hye, hfin]
            rw [hq9] at hP9 hD9
            exact W.vret hx hb hr (fun t9 ht9 _ => ⟨⟨(), rfl, trivial, ⟨by rw [ht9]; exact hP9, hD9⟩⟩, hS.F ht9⟩) hS.2.2 dX4_step_121
          · refine lv_aload_n hx hb dX4_step_92 rfl (lv_at hl 0 rfl) ?_
            refine va_get (D := D) (ci := 4) (v := .ref t) (C := RX4) (T := TX4) (N := 7) hx hb hts iX4 hown hK hP 0 rfl rfl 0 (by decide) (hts (.fieldLink RX4 18 "RainTarget$Reader" "text" "LRainTarget$Text;") (List.mem_of_getElem? (i := 2) rfl)) (fun _ h9 => h9) rfl dX4_step_93 ?_
            refine lv_iload_n hx hb dX4_step_96 rfl (lv_at hl 1 rfl) ?_
            have hgy := hgb y
            refine vp_callSi ((va_runVN (As := [.int (nZ y)]) (rest := []) ⟨hx, hb, hml, hown, hts⟩ (c_X7_at l D cI cJ tn t tq tx len y (by omega) (by omega) ) ⟨va_cnB 1 hts gX4_step_X7_at_n65 rfl rfl rfl (nw_X4_65 hN) (hts (.initialized RX7) (List.mem_of_getElem? (i := 6) rfl)) (by decide +kernel) ⟨Nat.le_of_ble_eq_true rfl, Nat.le_of_ble_eq_true rfl⟩, (hts (.instanceMethod yX7_at) (List.mem_of_getElem? (i := 5) rfl)), (hts (.selects RX7 yX7_at yX7_at) (List.mem_of_getElem? (i := 7) rfl))⟩ ⟨RoP.blind, va_recv hK hP (ci := 7) (q0 := 1) rfl rfl, fun U hU hW => ⟨rfl, RoP.call hE hS (hP.sub (ws' := [(t, .inr (7, [.ref tq, .int (nZ len)])), (tq, .inl (cI, 200, .inl (aZ tx)))]) [1, 2] rfl) hU hW⟩⟩ rfl rfl hl.1 rfl (lv_room (Nat.le_of_ble_eq_true rfl)) dX4_step_97 ⟨Nat.le_of_ble_eq_true rfl, Nat.le_of_ble_eq_true rfl⟩).run) (fun r97 hr97 => ?_)
            subst hr97
            refine z_nameI (fun r97 er97 => ?_)
            have e97 : r97 = tx y := by rw [er97, if_pos (by omega)]
            refine vp_callSi ((va_runS (As := [.int (nZ r97)]) (rest := []) ⟨hx, hb, hml, hown, hts⟩ (c_X4_kindOf l D cI cJ tn r97 (by omega) ) (va_cwS 1 hts gX4_step_X4_kindOf rfl rfl rfl (by decide +kernel) ⟨Nat.le_of_ble_eq_true rfl, Nat.le_of_ble_eq_true rfl⟩) ⟨RoP.blind, fun U hU hW => ⟨rfl, RoP.call hE hS (hP.sub (ws' := []) [] rfl) hU hW⟩⟩ rfl rfl hl.1 rfl (lv_room (Nat.le_of_ble_eq_true rfl)) dX4_step_100 ⟨Nat.le_of_ble_eq_true rfl, Nat.le_of_ble_eq_true rfl⟩).run) (fun r100 hr100 => ?_)
            subst hr100
            refine z_nameI (fun r100 er100 => ?_)
            have hkb2 := kdF_bd r97
            have e100 : r100 = kdF (tx y) := by rw [er100, e97]
            refine lv_aload_n hx hb dX4_step_103 rfl (lv_at hl 0 rfl) ?_
            refine va_get (D := D) (ci := 4) (v := .int (nZ r49)) (C := RX4) (T := TX4) (N := 7) hx hb hts iX4 hown hK hP 0 rfl rfl 4 (by decide) (hts (.fieldLink RX4 39 "RainTarget$Reader" "kind" "I") (List.mem_of_getElem? (i := 4) rfl)) (fun _ h9 => h9) rfl dX4_step_104 ?_
            refine z_icmp_ne (tgt := 116) hx hb dX4_step_107 (by decide) (by omega) (by omega) (fun c_107 => ?_) (fun c_107 => ?_)
            · refine lv_aload_n hx hb dX4_step_116 rfl (lv_at hl 0 rfl) ?_
              refine lv_iload_n hx hb dX4_step_117 rfl (lv_at hl 1 rfl) ?_
              refine va_put (D := D) (ci := 4) (v := .int (nZ y)) (ty := .int) (C := RX4) (T := TX4) (N := 7) hx hb hts iX4 tyX4 tyX4_ok nmX4 hown hK hP hD hS 0 rfl rfl 6 (by decide) (hts (.fieldLink RX4 26 "RainTarget$Reader" "end" "I") (List.mem_of_getElem? (i := 1) rfl)) (fun _ h9 => h9) rfl (by decide +kernel) rfl rfl (Nat.le_of_ble_eq_true rfl) dX4_step_118 (fun H locs hP hD hS => ?_)
              have hP : va_P D vwCl [(rdr, .inr (4, [.ref t, .ref wq, .ref nq, .int (nZ li), .int (nZ r49), .int (nZ p), .int (nZ y)])), (t, .inr (7, [.ref tq, .int (nZ len)])), (tq, .inl (cI, 200, .inl (aZ tx)))] H := hP
              have hD : va_D A [(rdr, .inr (4, [.ref t, .ref wq, .ref nq, .int (nZ li), .int (nZ r49), .int (nZ p), .int (nZ y)])), (t, .inr (7, [.ref tq, .int (nZ len)])), (tq, .inl (cI, 200, .inl (aZ tx)))] := hD
              have hfin : (if r49 = 1 ∨ r49 = 2 then tkR tx len r49 y else y) = y := by split <;> first | rfl | exact tkR_e tx (by omega) | (exfalso; omega)
              have hP9 := hP.sub (ws' := [(rdr, .inr (4, [.ref t, .ref wq, .ref nq, .int (nZ li), .int (nZ r49), .int (nZ p), .int (nZ y)])), (t, .inr (7, [.ref tq, .int (nZ len)])), (tq, .inl (cI, 200, .inl (aZ tx)))]) [0, 1, 2] rfl
              have hD9 := hD.sub (ws' := [(rdr, .inr (4, [.ref t, .ref wq, .ref nq, .int (nZ li), .int (nZ r49), .int (nZ p), .int (nZ y)])), (t, .inr (7, [.ref tq, .int (nZ len)])), (tq, .inl (cI, 200, .inl (aZ tx)))]) [0, 1, 2] (by decide) rfl
              have hq9 : ([(rdr, .inr (4, [.ref t, .ref wq, .ref nq, .int (nZ li), .int (nZ r49), .int (nZ p), .int (nZ y)])), (t, .inr (7, [.ref tq, .int (nZ len)])), (tq, .inl (cI, 200, .inl (aZ tx)))] : va_W) = [(rdr, .inr (4, [.ref t, .ref wq, .ref nq, .int (nZ li), .int (nZ (tkK tx len en)), .int (nZ (tkS tx len en)), .int (nZ (tkE tx len en))])), (t, .inr (7, [.ref tq, .int (nZ len)])), (tq, .inl (cI, 200, .inl (aZ tx)))] := by rw [hKK, hSS, hye, hfin]
              rw [hq9] at hP9 hD9
              exact W.vret hx hb hr (fun t9 ht9 _ => ⟨⟨(), rfl, trivial, ⟨by rw [ht9]; exact hP9, hD9⟩⟩, hS.F ht9⟩) hS.2.2 dX4_step_121
            · refine lv_iinc (v := nZ (y + 1)) (lv' := [(1, .int (nZ (y + 1))), (0, .ref rdr)]) hx hb dX4_step_110 hl (k := 1) rfl (nZ_add _ _) (by decide) rfl (fun ls hl => ?_)
              refine lv_goto (tgt := 65) hx hb dX4_step_113 (by decide) ?_
              exact ih65 (y + 1) ⟨(by first | assumption | omega), (by first | assumption | omega), (by rw [hye, if_pos (by omega), if_pos (by omega), tkR_s tx (by omega) (by omega)]), (fun q => by omega)⟩ (show (len - (y + 1)).toNat < (len - y).toNat from by omega) _ _ ls (hP.sub [0, 1, 2] rfl) (hD.sub [0, 1, 2] (by decide) rfl) hS (lv_sub hl [1, 0] rfl)
    · have hlt : p < len := by
        rcases Int.lt_or_le p len with q | q
        · exact q
        · exfalso; apply c_59; rw [er49, e46]; unfold atF; rw [if_neg (by omega)]; rfl
      have hinit : tkE tx len en = (if r49 = 1 ∨ r49 = 2 then tkR tx len r49 (p + 1) else p + 1) := by unfold tkE; rw [hKK, if_neg (by omega), hSS]
      refine lv_iinc (v := nZ (p + 1)) (lv' := [(1, .int (nZ (p + 1))), (0, .ref rdr)]) hx hb dX4_step_62 hl (k := 1) rfl (nZ_add _ _) (by decide) rfl (fun ls hl => ?_)
      refine z_loop1 (fun (y : Int) => (0 ≤ y) ∧ (y ≤ len) ∧ (tkE tx len en = (if r49 = 1 ∨ r49 = 2 then tkR tx len r49 y else y)) ∧ (r49 = 0 → y = tkS tx len en)) (fun (y : Int) => (len - y).toNat) (fun (y : Int) => [(rdr, .inr (4, [.ref t, .ref wq, .ref nq, .int (nZ li), .int (nZ r49), .int (nZ p), .int (nZ en)])), (t, .inr (7, [.ref tq, .int (nZ len)])), (tq, .inl (cI, 200, .inl (aZ tx)))]) (fun (y : Int) => [(0, .ref rdr), (1, .int (nZ y))]) ?_ (p + 1) ⟨(by first | assumption | omega), (by first | assumption | omega), hinit, (fun q => by omega)⟩ (hP.sub [0, 1, 2] rfl) (hD.sub [0, 1, 2] (by decide) rfl) hS (lv_sub hl [1, 0] rfl)
      intro y hI65 ih65 H locs ls hP hD hS hl
      have hP : va_P D vwCl [(rdr, .inr (4, [.ref t, .ref wq, .ref nq, .int (nZ li), .int (nZ r49), .int (nZ p), .int (nZ en)])), (t, .inr (7, [.ref tq, .int (nZ len)])), (tq, .inl (cI, 200, .inl (aZ tx)))] H := hP
      have hD : va_D A [(rdr, .inr (4, [.ref t, .ref wq, .ref nq, .int (nZ li), .int (nZ r49), .int (nZ p), .int (nZ en)])), (t, .inr (7, [.ref tq, .int (nZ len)])), (tq, .inl (cI, 200, .inl (aZ tx)))] := hD
      have hl : lv_has ls 2 [(0, .ref rdr), (1, .int (nZ y))] := hl
      obtain ⟨hy0, hy1, hye, hyk⟩ : (0 ≤ y) ∧ (y ≤ len) ∧ (tkE tx len en = (if r49 = 1 ∨ r49 = 2 then tkR tx len r49 y else y)) ∧ (r49 = 0 → y = tkS tx len en) := hI65
      refine lv_iload_n hx hb dX4_step_65 rfl (lv_at hl 1 rfl) ?_
      refine lv_aload_n hx hb dX4_step_66 rfl (lv_at hl 0 rfl) ?_
      refine va_get (D := D) (ci := 4) (v := .ref t) (C := RX4) (T := TX4) (N := 7) hx hb hts iX4 hown hK hP 0 rfl rfl 0 (by decide) (hts (.fieldLink RX4 18 "RainTarget$Reader" "text" "LRainTarget$Text;") (List.mem_of_getElem? (i := 2) rfl)) (fun _ h9 => h9) rfl dX4_step_67 ?_
      refine va_getN (D := D) (ci := 7) (v := .int (nZ len)) (C := RX7) (T := TX7) (N := 2) hx hb hts iX7 hown hK hP 1 rfl rfl 1 (by decide) (va_Nw.use rfl (nw_X4_70 hN)) (fun _ h9 => h9) rfl dX4_step_70 ?_
      refine z_icmp_ge (tgt := 116) hx hb dX4_step_73 (by decide) (by omega) (by omega) (fun c_73 => ?_) (fun c_73 => ?_)
      · refine lv_aload_n hx hb dX4_step_116 rfl (lv_at hl 0 rfl) ?_
        refine lv_iload_n hx hb dX4_step_117 rfl (lv_at hl 1 rfl) ?_
        refine va_put (D := D) (ci := 4) (v := .int (nZ y)) (ty := .int) (C := RX4) (T := TX4) (N := 7) hx hb hts iX4 tyX4 tyX4_ok nmX4 hown hK hP hD hS 0 rfl rfl 6 (by decide) (hts (.fieldLink RX4 26 "RainTarget$Reader" "end" "I") (List.mem_of_getElem? (i := 1) rfl)) (fun _ h9 => h9) rfl (by decide +kernel) rfl rfl (Nat.le_of_ble_eq_true rfl) dX4_step_118 (fun H locs hP hD hS => ?_)
        have hP : va_P D vwCl [(rdr, .inr (4, [.ref t, .ref wq, .ref nq, .int (nZ li), .int (nZ r49), .int (nZ p), .int (nZ y)])), (t, .inr (7, [.ref tq, .int (nZ len)])), (tq, .inl (cI, 200, .inl (aZ tx)))] H := hP
        have hD : va_D A [(rdr, .inr (4, [.ref t, .ref wq, .ref nq, .int (nZ li), .int (nZ r49), .int (nZ p), .int (nZ y)])), (t, .inr (7, [.ref tq, .int (nZ len)])), (tq, .inl (cI, 200, .inl (aZ tx)))] := hD
        have hfin : (if r49 = 1 ∨ r49 = 2 then tkR tx len r49 y else y) = y := by split <;> first | rfl | exact tkR_e tx (by omega) | (exfalso; omega)
        have hP9 := hP.sub (ws' := [(rdr, .inr (4, [.ref t, .ref wq, .ref nq, .int (nZ li), .int (nZ r49), .int (nZ p), .int (nZ y)])), (t, .inr (7, [.ref tq, .int (nZ len)])), (tq, .inl (cI, 200, .inl (aZ tx)))]) [0, 1, 2] rfl
        have hD9 := hD.sub (ws' := [(rdr, .inr (4, [.ref t, .ref wq, .ref nq, .int (nZ li), .int (nZ r49), .int (nZ p), .int (nZ y)])), (t, .inr (7, [.ref tq, .int (nZ len)])), (tq, .inl (cI, 200, .inl (aZ tx)))]) [0, 1, 2] (by decide) rfl
        have hq9 : ([(rdr, .inr (4, [.ref t, .ref wq, .ref nq, .int (nZ li), .int (nZ r49), .int (nZ p), .int (nZ y)])), (t, .inr (7, [.ref tq, .int (nZ len)])), (tq, .inl (cI, 200, .inl (aZ tx)))] : va_W) = [(rdr, .inr (4, [.ref t, .ref wq, .ref nq, .int (nZ li), .int (nZ (tkK tx len en)), .int (nZ (tkS tx len en)), .int (nZ (tkE tx len en))])), (t, .inr (7, [.ref tq, .int (nZ len)])), (tq, .inl (cI, 200, .inl (aZ tx)))] := by rw [hKK, hSS, hye, hfin]
        rw [hq9] at hP9 hD9
        exact W.vret hx hb hr (fun t9 ht9 _ => ⟨⟨(), rfl, trivial, ⟨by rw [ht9]; exact hP9, hD9⟩⟩, hS.F ht9⟩) hS.2.2 dX4_step_121
      · refine lv_aload_n hx hb dX4_step_76 rfl (lv_at hl 0 rfl) ?_
        refine va_get (D := D) (ci := 4) (v := .int (nZ r49)) (C := RX4) (T := TX4) (N := 7) hx hb hts iX4 hown hK hP 0 rfl rfl 4 (by decide) (hts (.fieldLink RX4 39 "RainTarget$Reader" "kind" "I") (List.mem_of_getElem? (i := 4) rfl)) (fun _ h9 => h9) rfl dX4_step_77 ?_
        refine lv_iconst (v := nZ 1) hx hb dX4_step_80 rfl ?_
        refine z_icmp_eq (tgt := 92) hx hb dX4_step_81 (by decide) (by omega) (by decide) (fun c_81 => ?_) (fun c_81 => ?_)
        · refine lv_aload_n hx hb dX4_step_92 rfl (lv_at hl 0 rfl) ?_
          refine va_get (D := D) (ci := 4) (v := .ref t) (C := RX4) (T := TX4) (N := 7) hx hb hts iX4 hown hK hP 0 rfl rfl 0 (by decide) (hts (.fieldLink RX4 18 "RainTarget$Reader" "text" "LRainTarget$Text;") (List.mem_of_getElem? (i := 2) rfl)) (fun _ h9 => h9) rfl dX4_step_93 ?_
          refine lv_iload_n hx hb dX4_step_96 rfl (lv_at hl 1 rfl) ?_
          have hgy := hgb y
          refine vp_callSi ((va_runVN (As := [.int (nZ y)]) (rest := []) ⟨hx, hb, hml, hown, hts⟩ (c_X7_at l D cI cJ tn t tq tx len y (by omega) (by omega) ) ⟨va_cnB 1 hts gX4_step_X7_at_n65 rfl rfl rfl (nw_X4_65 hN) (hts (.initialized RX7) (List.mem_of_getElem? (i := 6) rfl)) (by decide +kernel) ⟨Nat.le_of_ble_eq_true rfl, Nat.le_of_ble_eq_true rfl⟩, (hts (.instanceMethod yX7_at) (List.mem_of_getElem? (i := 5) rfl)), (hts (.selects RX7 yX7_at yX7_at) (List.mem_of_getElem? (i := 7) rfl))⟩ ⟨RoP.blind, va_recv hK hP (ci := 7) (q0 := 1) rfl rfl, fun U hU hW => ⟨rfl, RoP.call hE hS (hP.sub (ws' := [(t, .inr (7, [.ref tq, .int (nZ len)])), (tq, .inl (cI, 200, .inl (aZ tx)))]) [1, 2] rfl) hU hW⟩⟩ rfl rfl hl.1 rfl (lv_room (Nat.le_of_ble_eq_true rfl)) dX4_step_97 ⟨Nat.le_of_ble_eq_true rfl, Nat.le_of_ble_eq_true rfl⟩).run) (fun r97 hr97 => ?_)
          subst hr97
          refine z_nameI (fun r97 er97 => ?_)
          have e97 : r97 = tx y := by rw [er97, if_pos (by omega)]
          refine vp_callSi ((va_runS (As := [.int (nZ r97)]) (rest := []) ⟨hx, hb, hml, hown, hts⟩ (c_X4_kindOf l D cI cJ tn r97 (by omega) ) (va_cwS 1 hts gX4_step_X4_kindOf rfl rfl rfl (by decide +kernel) ⟨Nat.le_of_ble_eq_true rfl, Nat.le_of_ble_eq_true rfl⟩) ⟨RoP.blind, fun U hU hW => ⟨rfl, RoP.call hE hS (hP.sub (ws' := []) [] rfl) hU hW⟩⟩ rfl rfl hl.1 rfl (lv_room (Nat.le_of_ble_eq_true rfl)) dX4_step_100 ⟨Nat.le_of_ble_eq_true rfl, Nat.le_of_ble_eq_true rfl⟩).run) (fun r100 hr100 => ?_)
          subst hr100
          refine z_nameI (fun r100 er100 => ?_)
          have hkb2 := kdF_bd r97
          have e100 : r100 = kdF (tx y) := by rw [er100, e97]
          refine lv_aload_n hx hb dX4_step_103 rfl (lv_at hl 0 rfl) ?_
          refine va_get (D := D) (ci := 4) (v := .int (nZ r49)) (C := RX4) (T := TX4) (N := 7) hx hb hts iX4 hown hK hP 0 rfl rfl 4 (by decide) (hts (.fieldLink RX4 39 "RainTarget$Reader" "kind" "I") (List.mem_of_getElem? (i := 4) rfl)) (fun _ h9 => h9) rfl dX4_step_104 ?_
          refine z_icmp_ne (tgt := 116) hx hb dX4_step_107 (by decide) (by omega) (by omega) (fun c_107 => ?_) (fun c_107 => ?_)
          · refine lv_aload_n hx hb dX4_step_116 rfl (lv_at hl 0 rfl) ?_
            refine lv_iload_n hx hb dX4_step_117 rfl (lv_at hl 1 rfl) ?_
            refine va_put (D := D) (ci := 4) (v := .int (nZ y)) (ty := .int) (C := RX4) (T := TX4) (N := 7) hx hb hts iX4 tyX4 tyX4_ok nmX4 hown hK hP hD hS 0 rfl rfl 6 (by decide) (hts (.fieldLink RX4 26 "RainTarget$Reader" "end" "I") (List.mem_of_getElem? (i := 1) rfl)) (fun _ h9 => h9) rfl (by decide +kernel) rfl rfl (Nat.le_of_ble_eq_true rfl) dX4_step_118 (fun H locs hP hD hS => ?_)
            have hP : va_P D vwCl [(rdr, .inr (4, [.ref t, .ref wq, .ref nq, .int (nZ li), .int (nZ r49), .int (nZ p), .int (nZ y)])), (t, .inr (7, [.ref tq, .int (nZ len)])), (tq, .inl (cI, 200, .inl (aZ tx)))] H := hP
            have hD : va_D A [(rdr, .inr (4, [.ref t, .ref wq, .ref nq, .int (nZ li), .int (nZ r49), .int (nZ p), .int (nZ y)])), (t, .inr (7, [.ref tq, .int (nZ len)])), (tq, .inl (cI, 200, .inl (aZ tx)))] := hD
            have hfin : (if r49 = 1 ∨ r49 = 2 then tkR tx len r49 y else y) = y := by split <;> first | rfl | exact tkR_e tx (by omega) | (exfalso; omega)
            have hP9 := hP.sub (ws' := [(rdr, .inr (4, [.ref t, .ref wq, .ref nq, .int (nZ li), .int (nZ r49), .int (nZ p), .int (nZ y)])), (t, .inr (7, [.ref tq, .int (nZ len)])), (tq, .inl (cI, 200, .inl (aZ tx)))]) [0, 1, 2] rfl
            have hD9 := hD.sub (ws' := [(rdr, .inr (4, [.ref t, .ref wq, .ref nq, .int (nZ li), .int (nZ r49), .int (nZ p), .int (nZ y)])), (t, .inr (7, [.ref tq, .int (nZ len)])), (tq, .inl (cI, 200, .inl (aZ tx)))]) [0, 1, 2] (by decide) rfl
            have hq9 : ([(rdr, .inr (4, [.ref t, .ref wq, .ref nq, .int (nZ li), .int (nZ r49), .int (nZ p), .int (nZ y)])), (t, .inr (7, [.ref tq, .int (nZ len)])), (tq, .inl (cI, 200, .inl (aZ tx)))] : va_W) = [(rdr, .inr (4, [.ref t, .ref wq, .ref nq, .int (nZ li), .int (nZ (tkK tx len en)), .int (nZ (tkS tx len en)), .int (nZ (tkE tx len en))])), (t, .inr (7, [.ref tq, .int (nZ len)])), (tq, .inl (cI, 200, .inl (aZ tx)))] := by rw [hKK, hSS, hye, hfin]
            rw [hq9] at hP9 hD9
            exact W.vret hx hb hr (fun t9 ht9 _ => ⟨⟨(), rfl, trivial, ⟨by rw [ht9]; exact hP9, hD9⟩⟩, hS.F ht9⟩) hS.2.2 dX4_step_121
          · refine lv_iinc (v := nZ (y + 1)) (lv' := [(1, .int (nZ (y + 1))), (0, .ref rdr)]) hx hb dX4_step_110 hl (k := 1) rfl (nZ_add _ _) (by decide) rfl (fun ls hl => ?_)
            refine lv_goto (tgt := 65) hx hb dX4_step_113 (by decide) ?_
            exact ih65 (y + 1) ⟨(by first | assumption | omega), (by first | assumption | omega), (by rw [hye, if_pos (by omega), if_pos (by omega), tkR_s tx (by omega) (by omega)]), (fun q => by omega)⟩ (show (len - (y + 1)).toNat < (len - y).toNat from by omega) _ _ ls (hP.sub [0, 1, 2] rfl) (hD.sub [0, 1, 2] (by decide) rfl) hS (lv_sub hl [1, 0] rfl)
        · refine lv_aload_n hx hb dX4_step_84 rfl (lv_at hl 0 rfl) ?_
          refine va_get (D := D) (ci := 4) (v := .int (nZ r49)) (C := RX4) (T := TX4) (N := 7) hx hb hts iX4 hown hK hP 0 rfl rfl 4 (by decide) (hts (.fieldLink RX4 39 "RainTarget$Reader" "kind" "I") (List.mem_of_getElem? (i := 4) rfl)) (fun _ h9 => h9) rfl dX4_step_85 ?_
          refine lv_iconst (v := nZ 2) hx hb dX4_step_88 rfl ?_
          refine z_icmp_ne (tgt := 116) hx hb dX4_step_89 (by decide) (by omega) (by decide) (fun c_89 => ?_) (fun c_89 => ?_)
          · refine lv_aload_n hx hb dX4_step_116 rfl (lv_at hl 0 rfl) ?_
            refine lv_iload_n hx hb dX4_step_117 rfl (lv_at hl 1 rfl) ?_
            refine va_put (D := D) (ci := 4) (v := .int (nZ y)) (ty := .int) (C := RX4) (T := TX4) (N := 7) hx hb hts iX4 tyX4 tyX4_ok nmX4 hown hK hP hD hS 0 rfl rfl 6 (by decide) (hts (.fieldLink RX4 26 "RainTarget$Reader" "end" "I") (List.mem_of_getElem? (i := 1) rfl)) (fun _ h9 => h9) rfl (by decide +kernel) rfl rfl (Nat.le_of_ble_eq_true rfl) dX4_step_118 (fun H locs hP hD hS => ?_)
            have hP : va_P D vwCl [(rdr, .inr (4, [.ref t, .ref wq, .ref nq, .int (nZ li), .int (nZ r49), .int (nZ p), .int (nZ y)])), (t, .inr (7, [.ref tq, .int (nZ len)])), (tq, .inl (cI, 200, .inl (aZ tx)))] H := hP
            have hD : va_D A [(rdr, .inr (4, [.ref t, .ref wq, .ref nq, .int (nZ li), .int (nZ r49), .int (nZ p), .int (nZ y)])), (t, .inr (7, [.ref tq, .int (nZ len)])), (tq, .inl (cI, 200, .inl (aZ tx)))] := hD
            have hfin : (if r49 = 1 ∨ r49 = 2 then tkR tx len r49 y else y) = y := by split <;> first | rfl | exact tkR_e tx (by omega) | (exfalso; omega)
            have hP9 := hP.sub (ws' := [(rdr, .inr (4, [.ref t, .ref wq, .ref nq, .int (nZ li), .int (nZ r49), .int (nZ p), .int (nZ y)])), (t, .inr (7, [.ref tq, .int (nZ len)])), (tq, .inl (cI, 200, .inl (aZ tx)))]) [0, 1, 2] rfl
            have hD9 := hD.sub (ws' := [(rdr, .inr (4, [.ref t, .ref wq, .ref nq, .int (nZ li), .int (nZ r49), .int (nZ p), .int (nZ y)])), (t, .inr (7, [.ref tq, .int (nZ len)])), (tq, .inl (cI, 200, .inl (aZ tx)))]) [0, 1, 2] (by decide) rfl
            have hq9 : ([(rdr, .inr (4, [.ref t, .ref wq, .ref nq, .int (nZ li), .int (nZ r49), .int (nZ p), .int (nZ y)])), (t, .inr (7, [.ref tq, .int (nZ len)])), (tq, .inl (cI, 200, .inl (aZ tx)))] : va_W) = [(rdr, .inr (4, [.ref t, .ref wq, .ref nq, .int (nZ li), .int (nZ (tkK tx len en)), .int (nZ (tkS tx len en)), .int (nZ (tkE tx len en))])), (t, .inr (7, [.ref tq, .int (nZ len)])), (tq, .inl (cI, 200, .inl (aZ tx)))] := by rw [hKK, hSS, hye, hfin]
            rw [hq9] at hP9 hD9
            exact W.vret hx hb hr (fun t9 ht9 _ => ⟨⟨(), rfl, trivial, ⟨by rw [ht9]; exact hP9, hD9⟩⟩, hS.F ht9⟩) hS.2.2 dX4_step_121
          · refine lv_aload_n hx hb dX4_step_92 rfl (lv_at hl 0 rfl) ?_
            refine va_get (D := D) (ci := 4) (v := .ref t) (C := RX4) (T := TX4) (N := 7) hx hb hts iX4 hown hK hP 0 rfl rfl 0 (by decide) (hts (.fieldLink RX4 18 "RainTarget$Reader" "text" "LRainTarget$Text;") (List.mem_of_getElem? (i := 2) rfl)) (fun _ h9 => h9) rfl dX4_step_93 ?_
            refine lv_iload_n hx hb dX4_step_96 rfl (lv_at hl 1 rfl) ?_
            have hgy := hgb y
            refine vp_callSi ((va_runVN (As := [.int (nZ y)]) (rest := []) ⟨hx, hb, hml, hown, hts⟩ (c_X7_at l D cI cJ tn t tq tx len y (by omega) (by omega) ) ⟨va_cnB 1 hts gX4_step_X7_at_n65 rfl rfl rfl (nw_X4_65 hN) (hts (.initialized RX7) (List.mem_of_getElem? (i := 6) rfl)) (by decide +kernel) ⟨Nat.le_of_ble_eq_true rfl, Nat.le_of_ble_eq_true rfl⟩, (hts (.instanceMethod yX7_at) (List.mem_of_getElem? (i := 5) rfl)), (hts (.selects RX7 yX7_at yX7_at) (List.mem_of_getElem? (i := 7) rfl))⟩ ⟨RoP.blind, va_recv hK hP (ci := 7) (q0 := 1) rfl rfl, fun U hU hW => ⟨rfl, RoP.call hE hS (hP.sub (ws' := [(t, .inr (7, [.ref tq, .int (nZ len)])), (tq, .inl (cI, 200, .inl (aZ tx)))]) [1, 2] rfl) hU hW⟩⟩ rfl rfl hl.1 rfl (lv_room (Nat.le_of_ble_eq_true rfl)) dX4_step_97 ⟨Nat.le_of_ble_eq_true rfl, Nat.le_of_ble_eq_true rfl⟩).run) (fun r97 hr97 => ?_)
            subst hr97
            refine z_nameI (fun r97 er97 => ?_)
            have e97 : r97 = tx y := by rw [er97, if_pos (by omega)]
            refine vp_callSi ((va_runS (As := [.int (nZ r97)]) (rest := []) ⟨hx, hb, hml, hown, hts⟩ (c_X4_kindOf l D cI cJ tn r97 (by omega) ) (va_cwS 1 hts gX4_step_X4_kindOf rfl rfl rfl (by decide +kernel) ⟨Nat.le_of_ble_eq_true rfl, Nat.le_of_ble_eq_true rfl⟩) ⟨RoP.blind, fun U hU hW => ⟨rfl, RoP.call hE hS (hP.sub (ws' := []) [] rfl) hU hW⟩⟩ rfl rfl hl.1 rfl (lv_room (Nat.le_of_ble_eq_true rfl)) dX4_step_100 ⟨Nat.le_of_ble_eq_true rfl, Nat.le_of_ble_eq_true rfl⟩).run) (fun r100 hr100 => ?_)
            subst hr100
            refine z_nameI (fun r100 er100 => ?_)
            have hkb2 := kdF_bd r97
            have e100 : r100 = kdF (tx y) := by rw [er100, e97]
            refine lv_aload_n hx hb dX4_step_103 rfl (lv_at hl 0 rfl) ?_
            refine va_get (D := D) (ci := 4) (v := .int (nZ r49)) (C := RX4) (T := TX4) (N := 7) hx hb hts iX4 hown hK hP 0 rfl rfl 4 (by decide) (hts (.fieldLink RX4 39 "RainTarget$Reader" "kind" "I") (List.mem_of_getElem? (i := 4) rfl)) (fun _ h9 => h9) rfl dX4_step_104 ?_
            refine z_icmp_ne (tgt := 116) hx hb dX4_step_107 (by decide) (by omega) (by omega) (fun c_107 => ?_) (fun c_107 => ?_)
            · refine lv_aload_n hx hb dX4_step_116 rfl (lv_at hl 0 rfl) ?_
              refine lv_iload_n hx hb dX4_step_117 rfl (lv_at hl 1 rfl) ?_
              refine va_put (D := D) (ci := 4) (v := .int (nZ y)) (ty := .int) (C := RX4) (T := TX4) (N := 7) hx hb hts iX4 tyX4 tyX4_ok nmX4 hown hK hP hD hS 0 rfl rfl 6 (by decide) (hts (.fieldLink RX4 26 "RainTarget$Reader" "end" "I") (List.mem_of_getElem? (i := 1) rfl)) (fun _ h9 => h9) rfl (by decide +kernel) rfl rfl (Nat.le_of_ble_eq_true rfl) dX4_step_118 (fun H locs hP hD hS => ?_)
              have hP : va_P D vwCl [(rdr, .inr (4, [.ref t, .ref wq, .ref nq, .int (nZ li), .int (nZ r49), .int (nZ p), .int (nZ y)])), (t, .inr (7, [.ref tq, .int (nZ len)])), (tq, .inl (cI, 200, .inl (aZ tx)))] H := hP
              have hD : va_D A [(rdr, .inr (4, [.ref t, .ref wq, .ref nq, .int (nZ li), .int (nZ r49), .int (nZ p), .int (nZ y)])), (t, .inr (7, [.ref tq, .int (nZ len)])), (tq, .inl (cI, 200, .inl (aZ tx)))] := hD
              have hfin : (if r49 = 1 ∨ r49 = 2 then tkR tx len r49 y else y) = y := by split <;> first | rfl | exact tkR_e tx (by omega) | (exfalso; omega)
              have hP9 := hP.sub (ws' := [(rdr, .inr (4, [.ref t, .ref wq, .ref nq, .int (nZ li), .int (nZ r49), .int (nZ p), .int (nZ y)])), (t, .inr (7, [.ref tq, .int (nZ len)])), (tq, .inl (cI, 200, .inl (aZ tx)))]) [0, 1, 2] rfl
              have hD9 := hD.sub (ws' := [(rdr, .inr (4, [.ref t, .ref wq, .ref nq, .int (nZ li), .int (nZ r49), .int (nZ p), .int (nZ y)])), (t, .inr (7, [.ref tq, .int (nZ len)])), (tq, .inl (cI, 200, .inl (aZ tx)))]) [0, 1, 2] (by decide) rfl
              have hq9 : ([(rdr, .inr (4, [.ref t, .ref wq, .ref nq, .int (nZ li), .int (nZ r49), .int (nZ p), .int (nZ y)])), (t, .inr (7, [.ref tq, .int (nZ len)])), (tq, .inl (cI, 200, .inl (aZ tx)))] : va_W) = [(rdr, .inr (4, [.ref t, .ref wq, .ref nq, .int (nZ li), .int (nZ (tkK tx len en)), .int (nZ (tkS tx len en)), .int (nZ (tkE tx len en))])), (t, .inr (7, [.ref tq, .int (nZ len)])), (tq, .inl (cI, 200, .inl (aZ tx)))] := by rw [hKK, hSS, hye, hfin]
              rw [hq9] at hP9 hD9
              exact W.vret hx hb hr (fun t9 ht9 _ => ⟨⟨(), rfl, trivial, ⟨by rw [ht9]; exact hP9, hD9⟩⟩, hS.F ht9⟩) hS.2.2 dX4_step_121
            · refine lv_iinc (v := nZ (y + 1)) (lv' := [(1, .int (nZ (y + 1))), (0, .ref rdr)]) hx hb dX4_step_110 hl (k := 1) rfl (nZ_add _ _) (by decide) rfl (fun ls hl => ?_)
              refine lv_goto (tgt := 65) hx hb dX4_step_113 (by decide) ?_
              exact ih65 (y + 1) ⟨(by first | assumption | omega), (by first | assumption | omega), (by rw [hye, if_pos (by omega), if_pos (by omega), tkR_s tx (by omega) (by omega)]), (fun q => by omega)⟩ (show (len - (y + 1)).toNat < (len - y).toNat from by omega) _ _ ls (hP.sub [0, 1, 2] rfl) (hD.sub [0, 1, 2] (by decide) rfl) hS (lv_sub hl [1, 0] rfl)
  · have hgp := hgb p
    refine lv_aload_n hx hb dX4_step_16 rfl (lv_at hl 0 rfl) ?_
    refine va_get (D := D) (ci := 4) (v := .ref t) (C := RX4) (T := TX4) (N := 7) hx hb hts iX4 hown hK hP 0 rfl rfl 0 (by decide) (hts (.fieldLink RX4 18 "RainTarget$Reader" "text" "LRainTarget$Text;") (List.mem_of_getElem? (i := 2) rfl)) (fun _ h9 => h9) rfl dX4_step_17 ?_
    refine lv_iload_n hx hb dX4_step_20 rfl (lv_at hl 1 rfl) ?_
    refine vp_callSi ((va_runVN (As := [.int (nZ p)]) (rest := []) ⟨hx, hb, hml, hown, hts⟩ (c_X7_at l D cI cJ tn t tq tx len p (by omega) (by omega) ) ⟨va_cnB 1 hts gX4_step_X7_at_n65 rfl rfl rfl (nw_X4_65 hN) (hts (.initialized RX7) (List.mem_of_getElem? (i := 6) rfl)) (by decide +kernel) ⟨Nat.le_of_ble_eq_true rfl, Nat.le_of_ble_eq_true rfl⟩, (hts (.instanceMethod yX7_at) (List.mem_of_getElem? (i := 5) rfl)), (hts (.selects RX7 yX7_at yX7_at) (List.mem_of_getElem? (i := 7) rfl))⟩ ⟨RoP.blind, va_recv hK hP (ci := 7) (q0 := 1) rfl rfl, fun U hU hW => ⟨rfl, RoP.call hE hS (hP.sub (ws' := [(t, .inr (7, [.ref tq, .int (nZ len)])), (tq, .inl (cI, 200, .inl (aZ tx)))]) [1, 2] rfl) hU hW⟩⟩ rfl rfl hl.1 rfl (lv_room (Nat.le_of_ble_eq_true rfl)) dX4_step_21 ⟨Nat.le_of_ble_eq_true rfl, Nat.le_of_ble_eq_true rfl⟩).run) (fun r21 hr21 => ?_)
    subst hr21
    refine z_nameI (fun r21 er21 => ?_)
    have e21 : r21 = tx p := by rw [er21, if_pos (by omega)]
    refine lv_bipush (v := nZ 32) hx hb dX4_step_24 (by decide) ?_
    refine z_icmp_ne (tgt := 35) hx hb dX4_step_26 (by decide) (by omega) (by decide) (fun c_26 => ?_) (fun c_26 => ?_)
    · have hSS : tkS tx len en = p := by rw [hpe]; exact tkS_e tx (by omega)
      refine lv_aload_n hx hb dX4_step_35 rfl (lv_at hl 0 rfl) ?_
      refine lv_iload_n hx hb dX4_step_36 rfl (lv_at hl 1 rfl) ?_
      refine va_put (D := D) (ci := 4) (v := .int (nZ p)) (ty := .int) (C := RX4) (T := TX4) (N := 7) hx hb hts iX4 tyX4 tyX4_ok nmX4 hown hK hP hD hS 0 rfl rfl 5 (by decide) (hts (.fieldLink RX4 33 "RainTarget$Reader" "start" "I") (List.mem_of_getElem? (i := 3) rfl)) (fun _ h9 => h9) rfl (by decide +kernel) rfl rfl (Nat.le_of_ble_eq_true rfl) dX4_step_37 (fun H locs hP hD hS => ?_)
      have hP : va_P D vwCl [(rdr, .inr (4, [.ref t, .ref wq, .ref nq, .int (nZ li), .int (nZ kd), .int (nZ p), .int (nZ en)])), (t, .inr (7, [.ref tq, .int (nZ len)])), (tq, .inl (cI, 200, .inl (aZ tx)))] H := hP
      have hD : va_D A [(rdr, .inr (4, [.ref t, .ref wq, .ref nq, .int (nZ li), .int (nZ kd), .int (nZ p), .int (nZ en)])), (t, .inr (7, [.ref tq, .int (nZ len)])), (tq, .inl (cI, 200, .inl (aZ tx)))] := hD
      refine lv_aload_n hx hb dX4_step_40 rfl (lv_at hl 0 rfl) ?_
      refine lv_aload_n hx hb dX4_step_41 rfl (lv_at hl 0 rfl) ?_
      refine va_get (D := D) (ci := 4) (v := .ref t) (C := RX4) (T := TX4) (N := 7) hx hb hts iX4 hown hK hP 0 rfl rfl 0 (by decide) (hts (.fieldLink RX4 18 "RainTarget$Reader" "text" "LRainTarget$Text;") (List.mem_of_getElem? (i := 2) rfl)) (fun _ h9 => h9) rfl dX4_step_42 ?_
      refine lv_iload_n hx hb dX4_step_45 rfl (lv_at hl 1 rfl) ?_
      have hgp := hgb p
      refine vp_callSi ((va_runVN (As := [.int (nZ p)]) (rest := [.ref rdr]) ⟨hx, hb, hml, hown, hts⟩ (c_X7_at l D cI cJ tn t tq tx len p (by omega) (by omega) ) ⟨va_cnB 1 hts gX4_step_X7_at_n65 rfl rfl rfl (nw_X4_65 hN) (hts (.initialized RX7) (List.mem_of_getElem? (i := 6) rfl)) (by decide +kernel) ⟨Nat.le_of_ble_eq_true rfl, Nat.le_of_ble_eq_true rfl⟩, (hts (.instanceMethod yX7_at) (List.mem_of_getElem? (i := 5) rfl)), (hts (.selects RX7 yX7_at yX7_at) (List.mem_of_getElem? (i := 7) rfl))⟩ ⟨RoP.blind, va_recv hK hP (ci := 7) (q0 := 1) rfl rfl, fun U hU hW => ⟨rfl, RoP.call hE hS (hP.sub (ws' := [(t, .inr (7, [.ref tq, .int (nZ len)])), (tq, .inl (cI, 200, .inl (aZ tx)))]) [1, 2] rfl) hU hW⟩⟩ rfl rfl hl.1 rfl (lv_room (Nat.le_of_ble_eq_true rfl)) dX4_step_46 ⟨Nat.le_of_ble_eq_true rfl, Nat.le_of_ble_eq_true rfl⟩).run) (fun r46 hr46 => ?_)
      subst hr46
      refine z_nameI (fun r46 er46 => ?_)
      have e46 : r46 = atF tx len p := by unfold atF; rw [er46]; by_cases q : p < len <;> first | (rw [if_pos q, if_pos (by omega)]; done) | (rw [if_neg q, if_neg (by omega)]; done)
      have hr46 : -1 ≤ r46 ∧ r46 ≤ 255 := by rw [e46]; unfold atF; split <;> omega
      refine vp_callSi ((va_runS (As := [.int (nZ r46)]) (rest := [.ref rdr]) ⟨hx, hb, hml, hown, hts⟩ (c_X4_kindOf l D cI cJ tn r46 (by omega) ) (va_cwS 1 hts gX4_step_X4_kindOf rfl rfl rfl (by decide +kernel) ⟨Nat.le_of_ble_eq_true rfl, Nat.le_of_ble_eq_true rfl⟩) ⟨RoP.blind, fun U hU hW => ⟨rfl, RoP.call hE hS (hP.sub (ws' := []) [] rfl) hU hW⟩⟩ rfl rfl hl.1 rfl (lv_room (Nat.le_of_ble_eq_true rfl)) dX4_step_49 ⟨Nat.le_of_ble_eq_true rfl, Nat.le_of_ble_eq_true rfl⟩).run) (fun r49 hr49 => ?_)
      subst hr49
      refine z_nameI (fun r49 er49 => ?_)
      have hkb := kdF_bd r46
      have hKK : tkK tx len en = r49 := by unfold tkK; rw [hSS, er49, e46]
      refine va_put (D := D) (ci := 4) (v := .int (nZ r49)) (ty := .int) (C := RX4) (T := TX4) (N := 7) hx hb hts iX4 tyX4 tyX4_ok nmX4 hown hK hP hD hS 0 rfl rfl 4 (by decide) (hts (.fieldLink RX4 39 "RainTarget$Reader" "kind" "I") (List.mem_of_getElem? (i := 4) rfl)) (fun _ h9 => h9) rfl (by decide +kernel) rfl rfl (Nat.le_of_ble_eq_true rfl) dX4_step_52 (fun H locs hP hD hS => ?_)
      have hP : va_P D vwCl [(rdr, .inr (4, [.ref t, .ref wq, .ref nq, .int (nZ li), .int (nZ r49), .int (nZ p), .int (nZ en)])), (t, .inr (7, [.ref tq, .int (nZ len)])), (tq, .inl (cI, 200, .inl (aZ tx)))] H := hP
      have hD : va_D A [(rdr, .inr (4, [.ref t, .ref wq, .ref nq, .int (nZ li), .int (nZ r49), .int (nZ p), .int (nZ en)])), (t, .inr (7, [.ref tq, .int (nZ len)])), (tq, .inl (cI, 200, .inl (aZ tx)))] := hD
      refine lv_aload_n hx hb dX4_step_55 rfl (lv_at hl 0 rfl) ?_
      refine va_get (D := D) (ci := 4) (v := .int (nZ r49)) (C := RX4) (T := TX4) (N := 7) hx hb hts iX4 hown hK hP 0 rfl rfl 4 (by decide) (hts (.fieldLink RX4 39 "RainTarget$Reader" "kind" "I") (List.mem_of_getElem? (i := 4) rfl)) (fun _ h9 => h9) rfl dX4_step_56 ?_
      refine z_if_eq (tgt := 65) hx hb dX4_step_59 (by decide) (by omega) (fun c_59 => ?_) (fun c_59 => ?_)
      · have hinit : tkE tx len en = (if r49 = 1 ∨ r49 = 2 then tkR tx len r49 p else p) := by unfold tkE; rw [hKK, if_pos (by omega), if_neg (by omega), hSS]
        refine z_loop1 (fun (y : Int) => (0 ≤ y) ∧ (y ≤ len) ∧ (tkE tx len en = (if r49 = 1 ∨ r49 = 2 then tkR tx len r49 y else y)) ∧ (r49 = 0 → y = tkS tx len en)) (fun (y : Int) => (len - y).toNat) (fun (y : Int) => [(rdr, .inr (4, [.ref t, .ref wq, .ref nq, .int (nZ li), .int (nZ r49), .int (nZ p), .int (nZ en)])), (t, .inr (7, [.ref tq, .int (nZ len)])), (tq, .inl (cI, 200, .inl (aZ tx)))]) (fun (y : Int) => [(0, .ref rdr), (1, .int (nZ y))]) ?_ p ⟨(by first | assumption | omega), (by first | assumption | omega), hinit, (fun q => by omega)⟩ (hP.sub [0, 1, 2] rfl) (hD.sub [0, 1, 2] (by decide) rfl) hS (lv_sub hl [0, 1] rfl)
        intro y hI65 ih65 H locs ls hP hD hS hl
        have hP : va_P D vwCl [(rdr, .inr (4, [.ref t, .ref wq, .ref nq, .int (nZ li), .int (nZ r49), .int (nZ p), .int (nZ en)])), (t, .inr (7, [.ref tq, .int (nZ len)])), (tq, .inl (cI, 200, .inl (aZ tx)))] H := hP
        have hD : va_D A [(rdr, .inr (4, [.ref t, .ref wq, .ref nq, .int (nZ li), .int (nZ r49), .int (nZ p), .int (nZ en)])), (t, .inr (7, [.ref tq, .int (nZ len)])), (tq, .inl (cI, 200, .inl (aZ tx)))] := hD
        have hl : lv_has ls 2 [(0, .ref rdr), (1, .int (nZ y))] := hl
        obtain ⟨hy0, hy1, hye, hyk⟩ : (0 ≤ y) ∧ (y ≤ len) ∧ (tkE tx len en = (if r49 = 1 ∨ r49 = 2 then tkR tx len r49 y else y)) ∧ (r49 = 0 → y = tkS tx len en) := hI65
        refine lv_iload_n hx hb dX4_step_65 rfl (lv_at hl 1 rfl) ?_
        refine lv_aload_n hx hb dX4_step_66 rfl (lv_at hl 0 rfl) ?_
        refine va_get (D := D) (ci := 4) (v := .ref t) (C := RX4) (T := TX4) (N := 7) hx hb hts iX4 hown hK hP 0 rfl rfl 0 (by decide) (hts (.fieldLink RX4 18 "RainTarget$Reader" "text" "LRainTarget$Text;") (List.mem_of_getElem? (i := 2) rfl)) (fun _ h9 => h9) rfl dX4_step_67 ?_
        refine va_getN (D := D) (ci := 7) (v := .int (nZ len)) (C := RX7) (T := TX7) (N := 2) hx hb hts iX7 hown hK hP 1 rfl rfl 1 (by decide) (va_Nw.use rfl (nw_X4_70 hN)) (fun _ h9 => h9) rfl dX4_step_70 ?_
        refine z_icmp_ge (tgt := 116) hx hb dX4_step_73 (by decide) (by omega) (by omega) (fun c_73 => ?_) (fun c_73 => ?_)
        · refine lv_aload_n hx hb dX4_step_116 rfl (lv_at hl 0 rfl) ?_
          refine lv_iload_n hx hb dX4_step_117 rfl (lv_at hl 1 rfl) ?_
          refine va_put (D := D) (ci := 4) (v := .int (nZ y)) (ty := .int) (C := RX4) (T := TX4) (N := 7) hx hb hts iX4 tyX4 tyX4_ok nmX4 hown hK hP hD hS 0 rfl rfl 6 (by decide) (hts (.fieldLink RX4 26 "RainTarget$Reader" "end" "I") (List.mem_of_getElem? (i := 1) rfl)) (fun _ h9 => h9) rfl (by decide +kernel) rfl rfl (Nat.le_of_ble_eq_true rfl) dX4_step_118 (fun H locs hP hD hS => ?_)
          have hP : va_P D vwCl [(rdr, .inr (4, [.ref t, .ref wq, .ref nq, .int (nZ li), .int (nZ r49), .int (nZ p), .int (nZ y)])), (t, .inr (7, [.ref tq, .int (nZ len)])), (tq, .inl (cI, 200, .inl (aZ tx)))] H := hP
          have hD : va_D A [(rdr, .inr (4, [.ref t, .ref wq, .ref nq, .int (nZ li), .int (nZ r49), .int (nZ p), .int (nZ y)])), (t, .inr (7, [.ref tq, .int (nZ len)])), (tq, .inl (cI, 200, .inl (aZ tx)))] := hD
          have hfin : (if r49 = 1 ∨ r49 = 2 then tkR tx len r49 y else y) = y := by split <;> first | rfl | exact tkR_e tx (by omega) | (exfalso; omega)
          have hP9 := hP.sub (ws' := [(rdr, .inr (4, [.ref t, .ref wq, .ref nq, .int (nZ li), .int (nZ r49), .int (nZ p), .int (nZ y)])), (t, .inr (7, [.ref tq, .int (nZ len)])), (tq, .inl (cI, 200, .inl (aZ tx)))]) [0, 1, 2] rfl
          have hD9 := hD.sub (ws' := [(rdr, .inr (4, [.ref t, .ref wq, .ref nq, .int (nZ li), .int (nZ r49), .int (nZ p), .int (nZ y)])), (t, .inr (7, [.ref tq, .int (nZ len)])), (tq, .inl (cI, 200, .inl (aZ tx)))]) [0, 1, 2] (by decide) rfl
          have hq9 : ([(rdr, .inr (4, [.ref t, .ref wq, .ref nq, .int (nZ li), .int (nZ r49), .int (nZ p), .int (nZ y)])), (t, .inr (7, [.ref tq, .int (nZ len)])), (tq, .inl (cI, 200, .inl (aZ tx)))] : va_W) = [(rdr, .inr (4, [.ref t, .ref wq, .ref nq, .int (nZ li), .int (nZ (tkK tx len en)), .int (nZ (tkS tx len en)), .int (nZ (tkE tx len en))])), (t, .inr (7, [.ref tq, .int (nZ len)])), (tq, .inl (cI, 200, .inl (aZ tx)))] := by rw [hKK, hSS, hye, hfin]
          rw [hq9] at hP9 hD9
          exact W.vret hx hb hr (fun t9 ht9 _ => ⟨⟨(), rfl, trivial, ⟨by rw [ht9]; exact hP9, hD9⟩⟩, hS.F ht9⟩) hS.2.2 dX4_step_121
        · refine lv_aload_n hx hb dX4_step_76 rfl (lv_at hl 0 rfl) ?_
          refine va_get (D := D) (ci := 4) (v := .int (nZ r49)) (C := RX4) (T := TX4) (N := 7) hx hb hts iX4 hown hK hP 0 rfl rfl 4 (by decide) (hts (.fieldLink RX4 39 "RainTarget$Reader" "kind" "I") (List.mem_of_getElem? (i := 4) rfl)) (fun _ h9 => h9) rfl dX4_step_77 ?_
          refine lv_iconst (v := nZ 1) hx hb dX4_step_80 rfl ?_
          refine z_icmp_eq (tgt := 92) hx hb dX4_step_81 (by decide) (by omega) (by decide) (fun c_81 => ?_) (fun c_81 => ?_)
          · refine lv_aload_n hx hb dX4_step_92 rfl (lv_at hl 0 rfl) ?_
            refine va_get (D := D) (ci := 4) (v := .ref t) (C := RX4) (T := TX4) (N := 7) hx hb hts iX4 hown hK hP 0 rfl rfl 0 (by decide) (hts (.fieldLink RX4 18 "RainTarget$Reader" "text" "LRainTarget$Text;") (List.mem_of_getElem? (i := 2) rfl)) (fun _ h9 => h9) rfl dX4_step_93 ?_
            refine lv_iload_n hx hb dX4_step_96 rfl (lv_at hl 1 rfl) ?_
            have hgy := hgb y
            refine vp_callSi ((va_runVN (As := [.int (nZ y)]) (rest := []) ⟨hx, hb, hml, hown, hts⟩ (c_X7_at l D cI cJ tn t tq tx len y (by omega) (by omega) ) ⟨va_cnB 1 hts gX4_step_X7_at_n65 rfl rfl rfl (nw_X4_65 hN) (hts (.initialized RX7) (List.mem_of_getElem? (i := 6) rfl)) (by decide +kernel) ⟨Nat.le_of_ble_eq_true rfl, Nat.le_of_ble_eq_true rfl⟩, (hts (.instanceMethod yX7_at) (List.mem_of_getElem? (i := 5) rfl)), (hts (.selects RX7 yX7_at yX7_at) (List.mem_of_getElem? (i := 7) rfl))⟩ ⟨RoP.blind, va_recv hK hP (ci := 7) (q0 := 1) rfl rfl, fun U hU hW => ⟨rfl, RoP.call hE hS (hP.sub (ws' := [(t, .inr (7, [.ref tq, .int (nZ len)])), (tq, .inl (cI, 200, .inl (aZ tx)))]) [1, 2] rfl) hU hW⟩⟩ rfl rfl hl.1 rfl (lv_room (Nat.le_of_ble_eq_true rfl)) dX4_step_97 ⟨Nat.le_of_ble_eq_true rfl, Nat.le_of_ble_eq_true rfl⟩).run) (fun r97 hr97 => ?_)
            subst hr97
            refine z_nameI (fun r97 er97 => ?_)
            have e97 : r97 = tx y := by rw [er97, if_pos (by omega)]
            refine vp_callSi ((va_runS (As := [.int (nZ r97)]) (rest := []) ⟨hx, hb, hml, hown, hts⟩ (c_X4_kindOf l D cI cJ tn r97 (by omega) ) (va_cwS 1 hts gX4_step_X4_kindOf rfl rfl rfl (by decide +kernel) ⟨Nat.le_of_ble_eq_true rfl, Nat.le_of_ble_eq_true rfl⟩) ⟨RoP.blind, fun U hU hW => ⟨rfl, RoP.call hE hS (hP.sub (ws' := []) [] rfl) hU hW⟩⟩ rfl rfl hl.1 rfl (lv_room (Nat.le_of_ble_eq_true rfl)) dX4_step_100 ⟨Nat.le_of_ble_eq_true rfl, Nat.le_of_ble_eq_true rfl⟩).run) (fun r100 hr100 => ?_)
            subst hr100
            refine z_nameI (fun r100 er100 => ?_)
            have hkb2 := kdF_bd r97
            have e100 : r100 = kdF (tx y) := by rw [er100, e97]
            refine lv_aload_n hx hb dX4_step_103 rfl (lv_at hl 0 rfl) ?_
            refine va_get (D := D) (ci := 4) (v := .int (nZ r49)) (C := RX4) (T := TX4) (N := 7) hx hb hts iX4 hown hK hP 0 rfl rfl 4 (by decide) (hts (.fieldLink RX4 39 "RainTarget$Reader" "kind" "I") (List.mem_of_getElem? (i := 4) rfl)) (fun _ h9 => h9) rfl dX4_step_104 ?_
            refine z_icmp_ne (tgt := 116) hx hb dX4_step_107 (by decide) (by omega) (by omega) (fun c_107 => ?_) (fun c_107 => ?_)
            · refine lv_aload_n hx hb dX4_step_116 rfl (lv_at hl 0 rfl) ?_
              refine lv_iload_n hx hb dX4_step_117 rfl (lv_at hl 1 rfl) ?_
              refine va_put (D := D) (ci := 4) (v := .int (nZ y)) (ty := .int) (C := RX4) (T := TX4) (N := 7) hx hb hts iX4 tyX4 tyX4_ok nmX4 hown hK hP hD hS 0 rfl rfl 6 (by decide) (hts (.fieldLink RX4 26 "RainTarget$Reader" "end" "I") (List.mem_of_getElem? (i := 1) rfl)) (fun _ h9 => h9) rfl (by decide +kernel) rfl rfl (Nat.le_of_ble_eq_true rfl) dX4_step_118 (fun H locs hP hD hS => ?_)
              have hP : va_P D vwCl [(rdr, .inr (4, [.ref t, .ref wq, .ref nq, .int (nZ li), .int (nZ r49), .int (nZ p), .int (nZ y)])), (t, .inr (7, [.ref tq, .int (nZ len)])), (tq, .inl (cI, 200, .inl (aZ tx)))] H := hP
              have hD : va_D A [(rdr, .inr (4, [.ref t, .ref wq, .ref nq, .int (nZ li), .int (nZ r49), .int (nZ p), .int (nZ y)])), (t, .inr (7, [.ref tq, .int (nZ len)])), (tq, .inl (cI, 200, .inl (aZ tx)))] := hD
              have hfin : (if r49 = 1 ∨ r49 = 2 then tkR tx len r49 y else y) = y := by split <;> first | rfl | exact tkR_e tx (by omega) | (exfalso; omega)
              have hP9 := hP.sub (ws' := [(rdr, .inr (4, [.ref t, .ref wq, .ref nq, .int (nZ li), .int (nZ r49), .int (nZ p), .int (nZ y)])), (t, .inr (7, [.ref tq, .int (nZ len)])), (tq, .inl (cI, 200, .inl (aZ tx)))]) [0, 1, 2] rfl
              have hD9 := hD.sub (ws' := [(rdr, .inr (4, [.ref t, .ref wq, .ref nq, .int (nZ li), .int (nZ r49), .int (nZ p), .int (nZ y)])), (t, .inr (7, [.ref tq, .int (nZ len)])), (tq, .inl (cI, 200, .inl (aZ tx)))]) [0, 1, 2] (by decide) rfl
              have hq9 : ([(rdr, .inr (4, [.ref t, .ref wq, .ref nq, .int (nZ li), .int (nZ r49), .int (nZ p), .int (nZ y)])), (t, .inr (7, [.ref tq, .int (nZ len)])), (tq, .inl (cI, 200, .inl (aZ tx)))] : va_W) = [(rdr, .inr (4, [.ref t, .ref wq, .ref nq, .int (nZ li), .int (nZ (tkK tx len en)), .int (nZ (tkS tx len en)), .int (nZ (tkE tx len en))])), (t, .inr (7, [.ref tq, .int (nZ len)])), (tq, .inl (cI, 200, .inl (aZ tx)))] := by rw [hKK, hSS, hye, hfin]
              rw [hq9] at hP9 hD9
              exact W.vret hx hb hr (fun t9 ht9 _ => ⟨⟨(), rfl, trivial, ⟨by rw [ht9]; exact hP9, hD9⟩⟩, hS.F ht9⟩) hS.2.2 dX4_step_121
            · refine lv_iinc (v := nZ (y + 1)) (lv' := [(1, .int (nZ (y + 1))), (0, .ref rdr)]) hx hb dX4_step_110 hl (k := 1) rfl (nZ_add _ _) (by decide) rfl (fun ls hl => ?_)
              refine lv_goto (tgt := 65) hx hb dX4_step_113 (by decide) ?_
              exact ih65 (y + 1) ⟨(by first | assumption | omega), (by first | assumption | omega), (by rw [hye, if_pos (by omega), if_pos (by omega), tkR_s tx (by omega) (by omega)]), (fun q => by omega)⟩ (show (len - (y + 1)).toNat < (len - y).toNat from by omega) _ _ ls (hP.sub [0, 1, 2] rfl) (hD.sub [0, 1, 2] (by decide) rfl) hS (lv_sub hl [1, 0] rfl)
          · refine lv_aload_n hx hb dX4_step_84 rfl (lv_at hl 0 rfl) ?_
            refine va_get (D := D) (ci := 4) (v := .int (nZ r49)) (C := RX4) (T := TX4) (N := 7) hx hb hts iX4 hown hK hP 0 rfl rfl 4 (by decide) (hts (.fieldLink RX4 39 "RainTarget$Reader" "kind" "I") (List.mem_of_getElem? (i := 4) rfl)) (fun _ h9 => h9) rfl dX4_step_85 ?_
            refine lv_iconst (v := nZ 2) hx hb dX4_step_88 rfl ?_
            refine z_icmp_ne (tgt := 116) hx hb dX4_step_89 (by decide) (by omega) (by decide) (fun c_89 => ?_) (fun c_89 => ?_)
            · refine lv_aload_n hx hb dX4_step_116 rfl (lv_at hl 0 rfl) ?_
              refine lv_iload_n hx hb dX4_step_117 rfl (lv_at hl 1 rfl) ?_
              refine va_put (D := D) (ci := 4) (v := .int (nZ y)) (ty := .int) (C := RX4) (T := TX4) (N := 7) hx hb hts iX4 tyX4 tyX4_ok nmX4 hown hK hP hD hS 0 rfl rfl 6 (by decide) (hts (.fieldLink RX4 26 "RainTarget$Reader" "end" "I") (List.mem_of_getElem? (i := 1) rfl)) (fun _ h9 => h9) rfl (by decide +kernel) rfl rfl (Nat.le_of_ble_eq_true rfl) dX4_step_118 (fun H locs hP hD hS => ?_)
              have hP : va_P D vwCl [(rdr, .inr (4, [.ref t, .ref wq, .ref nq, .int (nZ li), .int (nZ r49), .int (nZ p), .int (nZ y)])), (t, .inr (7, [.ref tq, .int (nZ len)])), (tq, .inl (cI, 200, .inl (aZ tx)))] H := hP
              have hD : va_D A [(rdr, .inr (4, [.ref t, .ref wq, .ref nq, .int (nZ li), .int (nZ r49), .int (nZ p), .int (nZ y)])), (t, .inr (7, [.ref tq, .int (nZ len)])), (tq, .inl (cI, 200, .inl (aZ tx)))] := hD
              have hfin : (if r49 = 1 ∨ r49 = 2 then tkR tx len r49 y else y) = y := by split <;> first | rfl | exact tkR_e tx (by omega) | (exfalso; omega)
              have hP9 := hP.sub (ws' := [(rdr, .inr (4, [.ref t, .ref wq, .ref nq, .int (nZ li), .int (nZ r49), .int (nZ p), .int (nZ y)])), (t, .inr (7, [.ref tq, .int (nZ len)])), (tq, .inl (cI, 200, .inl (aZ tx)))]) [0, 1, 2] rfl
              have hD9 := hD.sub (ws' := [(rdr, .inr (4, [.ref t, .ref wq, .ref nq, .int (nZ li), .int (nZ r49), .int (nZ p), .int (nZ y)])), (t, .inr (7, [.ref tq, .int (nZ len)])), (tq, .inl (cI, 200, .inl (aZ tx)))]) [0, 1, 2] (by decide) rfl
              have hq9 : ([(rdr, .inr (4, [.ref t, .ref wq, .ref nq, .int (nZ li), .int (nZ r49), .int (nZ p), .int (nZ y)])), (t, .inr (7, [.ref tq, .int (nZ len)])), (tq, .inl (cI, 200, .inl (aZ tx)))] : va_W) = [(rdr, .inr (4, [.ref t, .ref wq, .ref nq, .int (nZ li), .int (nZ (tkK tx len en)), .int (nZ (tkS tx len en)), .int (nZ (tkE tx len en))])), (t, .inr (7, [.ref tq, .int (nZ len)])), (tq, .inl (cI, 200, .inl (aZ tx)))] := by rw [hKK, hSS, hye, hfin]
              rw [hq9] at hP9 hD9
              exact W.vret hx hb hr (fun t9 ht9 _ => ⟨⟨(), rfl, trivial, ⟨by rw [ht9]; exact hP9, hD9⟩⟩, hS.F ht9⟩) hS.2.2 dX4_step_121
            · refine lv_aload_n hx hb dX4_step_92 rfl (lv_at hl 0 rfl) ?_
              refine va_get (D := D) (ci := 4) (v := .ref t) (C := RX4) (T := TX4) (N := 7) hx hb hts iX4 hown hK hP 0 rfl rfl 0 (by decide) (hts (.fieldLink RX4 18 "RainTarget$Reader" "text" "LRainTarget$Text;") (List.mem_of_getElem? (i := 2) rfl)) (fun _ h9 => h9) rfl dX4_step_93 ?_
              refine lv_iload_n hx hb dX4_step_96 rfl (lv_at hl 1 rfl) ?_
              have hgy := hgb y
              refine vp_callSi ((va_runVN (As := [.int (nZ y)]) (rest := []) ⟨hx, hb, hml, hown, hts⟩ (c_X7_at l D cI cJ tn t tq tx len y (by omega) (by omega) ) ⟨va_cnB 1 hts gX4_step_X7_at_n65 rfl rfl rfl (nw_X4_65 hN) (hts (.initialized RX7) (List.mem_of_getElem? (i := 6) rfl)) (by decide +kernel) ⟨Nat.le_of_ble_eq_true rfl, Nat.le_of_ble_eq_true rfl⟩, (hts (.instanceMethod yX7_at) (List.mem_of_getElem? (i := 5) rfl)), (hts (.selects RX7 yX7_at yX7_at) (List.mem_of_getElem? (i := 7) rfl))⟩ ⟨RoP.blind, va_recv hK hP (ci := 7) (q0 := 1) rfl rfl, fun U hU hW => ⟨rfl, RoP.call hE hS (hP.sub (ws' := [(t, .inr (7, [.ref tq, .int (nZ len)])), (tq, .inl (cI, 200, .inl (aZ tx)))]) [1, 2] rfl) hU hW⟩⟩ rfl rfl hl.1 rfl (lv_room (Nat.le_of_ble_eq_true rfl)) dX4_step_97 ⟨Nat.le_of_ble_eq_true rfl, Nat.le_of_ble_eq_true rfl⟩).run) (fun r97 hr97 => ?_)
              subst hr97
              refine z_nameI (fun r97 er97 => ?_)
              have e97 : r97 = tx y := by rw [er97, if_pos (by omega)]
              refine vp_callSi ((va_runS (As := [.int (nZ r97)]) (rest := []) ⟨hx, hb, hml, hown, hts⟩ (c_X4_kindOf l D cI cJ tn r97 (by omega) ) (va_cwS 1 hts gX4_step_X4_kindOf rfl rfl rfl (by decide +kernel) ⟨Nat.le_of_ble_eq_true rfl, Nat.le_of_ble_eq_true rfl⟩) ⟨RoP.blind, fun U hU hW => ⟨rfl, RoP.call hE hS (hP.sub (ws' := []) [] rfl) hU hW⟩⟩ rfl rfl hl.1 rfl (lv_room (Nat.le_of_ble_eq_true rfl)) dX4_step_100 ⟨Nat.le_of_ble_eq_true rfl, Nat.le_of_ble_eq_true rfl⟩).run) (fun r100 hr100 => ?_)
              subst hr100
              refine z_nameI (fun r100 er100 => ?_)
              have hkb2 := kdF_bd r97
              have e100 : r100 = kdF (tx y) := by rw [er100, e97]
              refine lv_aload_n hx hb dX4_step_103 rfl (lv_at hl 0 rfl) ?_
              refine va_get (D := D) (ci := 4) (v := .int (nZ r49)) (C := RX4) (T := TX4) (N := 7) hx hb hts iX4 hown hK hP 0 rfl rfl 4 (by decide) (hts (.fieldLink RX4 39 "RainTarget$Reader" "kind" "I") (List.mem_of_getElem? (i := 4) rfl)) (fun _ h9 => h9) rfl dX4_step_104 ?_
              refine z_icmp_ne (tgt := 116) hx hb dX4_step_107 (by decide) (by omega) (by omega) (fun c_107 => ?_) (fun c_107 => ?_)
              · refine lv_aload_n hx hb dX4_step_116 rfl (lv_at hl 0 rfl) ?_
                refine lv_iload_n hx hb dX4_step_117 rfl (lv_at hl 1 rfl) ?_
                refine va_put (D := D) (ci := 4) (v := .int (nZ y)) (ty := .int) (C := RX4) (T := TX4) (N := 7) hx hb hts iX4 tyX4 tyX4_ok nmX4 hown hK hP hD hS 0 rfl rfl 6 (by decide) (hts (.fieldLink RX4 26 "RainTarget$Reader" "end" "I") (List.mem_of_getElem? (i := 1) rfl)) (fun _ h9 => h9) rfl (by decide +kernel) rfl rfl (Nat.le_of_ble_eq_true rfl) dX4_step_118 (fun H locs hP hD hS => ?_)
                have hP : va_P D vwCl [(rdr, .inr (4, [.ref t, .ref wq, .ref nq, .int (nZ li), .int (nZ r49), .int (nZ p), .int (nZ y)])), (t, .inr (7, [.ref tq, .int (nZ len)])), (tq, .inl (cI, 200, .inl (aZ tx)))] H := hP
                have hD : va_D A [(rdr, .inr (4, [.ref t, .ref wq, .ref nq, .int (nZ li), .int (nZ r49), .int (nZ p), .int (nZ y)])), (t, .inr (7, [.ref tq, .int (nZ len)])), (tq, .inl (cI, 200, .inl (aZ tx)))] := hD
                have hfin : (if r49 = 1 ∨ r49 = 2 then tkR tx len r49 y else y) = y := by split <;> first | rfl | exact tkR_e tx (by omega) | (exfalso; omega)
                have hP9 := hP.sub (ws' := [(rdr, .inr (4, [.ref t, .ref wq, .ref nq, .int (nZ li), .int (nZ r49), .int (nZ p), .int (nZ y)])), (t, .inr (7, [.ref tq, .int (nZ len)])), (tq, .inl (cI, 200, .inl (aZ tx)))]) [0, 1, 2] rfl
                have hD9 := hD.sub (ws' := [(rdr, .inr (4, [.ref t, .ref wq, .ref nq, .int (nZ li), .int (nZ r49), .int (nZ p), .int (nZ y)])), (t, .inr (7, [.ref tq, .int (nZ len)])), (tq, .inl (cI, 200, .inl (aZ tx)))]) [0, 1, 2] (by decide) rfl
                have hq9 : ([(rdr, .inr (4, [.ref t, .ref wq, .ref nq, .int (nZ li), .int (nZ r49), .int (nZ p), .int (nZ y)])), (t, .inr (7, [.ref tq, .int (nZ len)])), (tq, .inl (cI, 200, .inl (aZ tx)))] : va_W) = [(rdr, .inr (4, [.ref t, .ref wq, .ref nq, .int (nZ li), .int (nZ (tkK tx len en)), .int (nZ (tkS tx len en)), .int (nZ (tkE tx len en))])), (t, .inr (7, [.ref tq, .int (nZ len)])), (tq, .inl (cI, 200, .inl (aZ tx)))] := by rw [hKK, hSS, hye, hfin]
                rw [hq9] at hP9 hD9
                exact W.vret hx hb hr (fun t9 ht9 _ => ⟨⟨(), rfl, trivial, ⟨by rw [ht9]; exact hP9, hD9⟩⟩, hS.F ht9⟩) hS.2.2 dX4_step_121
              · refine lv_iinc (v := nZ (y + 1)) (lv' := [(1, .int (nZ (y + 1))), (0, .ref rdr)]) hx hb dX4_step_110 hl (k := 1) rfl (nZ_add _ _) (by decide) rfl (fun ls hl => ?_)
                refine lv_goto (tgt := 65) hx hb dX4_step_113 (by decide) ?_
                exact ih65 (y + 1) ⟨(by first | assumption | omega), (by first | assumption | omega), (by rw [hye, if_pos (by omega), if_pos (by omega), tkR_s tx (by omega) (by omega)]), (fun q => by omega)⟩ (show (len - (y + 1)).toNat < (len - y).toNat from by omega) _ _ ls (hP.sub [0, 1, 2] rfl) (hD.sub [0, 1, 2] (by decide) rfl) hS (lv_sub hl [1, 0] rfl)
      · have hlt : p < len := by
          rcases Int.lt_or_le p len with q | q
          · exact q
          · exfalso; apply c_59; rw [er49, e46]; unfold atF; rw [if_neg (by omega)]; rfl
        have hinit : tkE tx len en = (if r49 = 1 ∨ r49 = 2 then tkR tx len r49 (p + 1) else p + 1) := by unfold tkE; rw [hKK, if_neg (by omega), hSS]
        refine lv_iinc (v := nZ (p + 1)) (lv' := [(1, .int (nZ (p + 1))), (0, .ref rdr)]) hx hb dX4_step_62 hl (k := 1) rfl (nZ_add _ _) (by decide) rfl (fun ls hl => ?_)
        refine z_loop1 (fun (y : Int) => (0 ≤ y) ∧ (y ≤ len) ∧ (tkE tx len en = (if r49 = 1 ∨ r49 = 2 then tkR tx len r49 y else y)) ∧ (r49 = 0 → y = tkS tx len en)) (fun (y : Int) => (len - y).toNat) (fun (y : Int) => [(rdr, .inr (4, [.ref t, .ref wq, .ref nq, .int (nZ li), .int (nZ r49), .int (nZ p), .int (nZ en)])), (t, .inr (7, [.ref tq, .int (nZ len)])), (tq, .inl (cI, 200, .inl (aZ tx)))]) (fun (y : Int) => [(0, .ref rdr), (1, .int (nZ y))]) ?_ (p + 1) ⟨(by first | assumption | omega), (by first | assumption | omega), hinit, (fun q => by omega)⟩ (hP.sub [0, 1, 2] rfl) (hD.sub [0, 1, 2] (by decide) rfl) hS (lv_sub hl [1, 0] rfl)
        intro y hI65 ih65 H locs ls hP hD hS hl
        have hP : va_P D vwCl [(rdr, .inr (4, [.ref t, .ref wq, .ref nq, .int (nZ li), .int (nZ r49), .int (nZ p), .int (nZ en)])), (t, .inr (7, [.ref tq, .int (nZ len)])), (tq, .inl (cI, 200, .inl (aZ tx)))] H := hP
        have hD : va_D A [(rdr, .inr (4, [.ref t, .ref wq, .ref nq, .int (nZ li), .int (nZ r49), .int (nZ p), .int (nZ en)])), (t, .inr (7, [.ref tq, .int (nZ len)])), (tq, .inl (cI, 200, .inl (aZ tx)))] := hD
        have hl : lv_has ls 2 [(0, .ref rdr), (1, .int (nZ y))] := hl
        obtain ⟨hy0, hy1, hye, hyk⟩ : (0 ≤ y) ∧ (y ≤ len) ∧ (tkE tx len en = (if r49 = 1 ∨ r49 = 2 then tkR tx len r49 y else y)) ∧ (r49 = 0 → y = tkS tx len en) := hI65
        refine lv_iload_n hx hb dX4_step_65 rfl (lv_at hl 1 rfl) ?_
        refine lv_aload_n hx hb dX4_step_66 rfl (lv_at hl 0 rfl) ?_
        refine va_get (D := D) (ci := 4) (v := .ref t) (C := RX4) (T := TX4) (N := 7) hx hb hts iX4 hown hK hP 0 rfl rfl 0 (by decide) (hts (.fieldLink RX4 18 "RainTarget$Reader" "text" "LRainTarget$Text;") (List.mem_of_getElem? (i := 2) rfl)) (fun _ h9 => h9) rfl dX4_step_67 ?_
        refine va_getN (D := D) (ci := 7) (v := .int (nZ len)) (C := RX7) (T := TX7) (N := 2) hx hb hts iX7 hown hK hP 1 rfl rfl 1 (by decide) (va_Nw.use rfl (nw_X4_70 hN)) (fun _ h9 => h9) rfl dX4_step_70 ?_
        refine z_icmp_ge (tgt := 116) hx hb dX4_step_73 (by decide) (by omega) (by omega) (fun c_73 => ?_) (fun c_73 => ?_)
        · refine lv_aload_n hx hb dX4_step_116 rfl (lv_at hl 0 rfl) ?_
          refine lv_iload_n hx hb dX4_step_117 rfl (lv_at hl 1 rfl) ?_
          refine va_put (D := D) (ci := 4) (v := .int (nZ y)) (ty := .int) (C := RX4) (T := TX4) (N := 7) hx hb hts iX4 tyX4 tyX4_ok nmX4 hown hK hP hD hS 0 rfl rfl 6 (by decide) (hts (.fieldLink RX4 26 "RainTarget$Reader" "end" "I") (List.mem_of_getElem? (i := 1) rfl)) (fun _ h9 => h9) rfl (by decide +kernel) rfl rfl (Nat.le_of_ble_eq_true rfl) dX4_step_118 (fun H locs hP hD hS => ?_)
          have hP : va_P D vwCl [(rdr, .inr (4, [.ref t, .ref wq, .ref nq, .int (nZ li), .int (nZ r49), .int (nZ p), .int (nZ y)])), (t, .inr (7, [.ref tq, .int (nZ len)])), (tq, .inl (cI, 200, .inl (aZ tx)))] H := hP
          have hD : va_D A [(rdr, .inr (4, [.ref t, .ref wq, .ref nq, .int (nZ li), .int (nZ r49), .int (nZ p), .int (nZ y)])), (t, .inr (7, [.ref tq, .int (nZ len)])), (tq, .inl (cI, 200, .inl (aZ tx)))] := hD
          have hfin : (if r49 = 1 ∨ r49 = 2 then tkR tx len r49 y else y) = y := by split <;> first | rfl | exact tkR_e tx (by omega) | (exfalso; omega)
          have hP9 := hP.sub (ws' := [(rdr, .inr (4, [.ref t, .ref wq, .ref nq, .int (nZ li), .int (nZ r49), .int (nZ p), .int (nZ y)])), (t, .inr (7, [.ref tq, .int (nZ len)])), (tq, .inl (cI, 200, .inl (aZ tx)))]) [0, 1, 2] rfl
          have hD9 := hD.sub (ws' := [(rdr, .inr (4, [.ref t, .ref wq, .ref nq, .int (nZ li), .int (nZ r49), .int (nZ p), .int (nZ y)])), (t, .inr (7, [.ref tq, .int (nZ len)])), (tq, .inl (cI, 200, .inl (aZ tx)))]) [0, 1, 2] (by decide) rfl
          have hq9 : ([(rdr, .inr (4, [.ref t, .ref wq, .ref nq, .int (nZ li), .int (nZ r49), .int (nZ p), .int (nZ y)])), (t, .inr (7, [.ref tq, .int (nZ len)])), (tq, .inl (cI, 200, .inl (aZ tx)))] : va_W) = [(rdr, .inr (4, [.ref t, .ref wq, .ref nq, .int (nZ li), .int (nZ (tkK tx len en)), .int (nZ (tkS tx len en)), .int (nZ (tkE tx len en))])), (t, .inr (7, [.ref tq, .int (nZ len)])), (tq, .inl (cI, 200, .inl (aZ tx)))] := by rw [hKK, hSS, hye, hfin]
          rw [hq9] at hP9 hD9
          exact W.vret hx hb hr (fun t9 ht9 _ => ⟨⟨(), rfl, trivial, ⟨by rw [ht9]; exact hP9, hD9⟩⟩, hS.F ht9⟩) hS.2.2 dX4_step_121
        · refine lv_aload_n hx hb dX4_step_76 rfl (lv_at hl 0 rfl) ?_
          refine va_get (D := D) (ci := 4) (v := .int (nZ r49)) (C := RX4) (T := TX4) (N := 7) hx hb hts iX4 hown hK hP 0 rfl rfl 4 (by decide) (hts (.fieldLink RX4 39 "RainTarget$Reader" "kind" "I") (List.mem_of_getElem? (i := 4) rfl)) (fun _ h9 => h9) rfl dX4_step_77 ?_
          refine lv_iconst (v := nZ 1) hx hb dX4_step_80 rfl ?_
          refine z_icmp_eq (tgt := 92) hx hb dX4_step_81 (by decide) (by omega) (by decide) (fun c_81 => ?_) (fun c_81 => ?_)
          · refine lv_aload_n hx hb dX4_step_92 rfl (lv_at hl 0 rfl) ?_
            refine va_get (D := D) (ci := 4) (v := .ref t) (C := RX4) (T := TX4) (N := 7) hx hb hts iX4 hown hK hP 0 rfl rfl 0 (by decide) (hts (.fieldLink RX4 18 "RainTarget$Reader" "text" "LRainTarget$Text;") (List.mem_of_getElem? (i := 2) rfl)) (fun _ h9 => h9) rfl dX4_step_93 ?_
            refine lv_iload_n hx hb dX4_step_96 rfl (lv_at hl 1 rfl) ?_
            have hgy := hgb y
            refine vp_callSi ((va_runVN (As := [.int (nZ y)]) (rest := []) ⟨hx, hb, hml, hown, hts⟩ (c_X7_at l D cI cJ tn t tq tx len y (by omega) (by omega) ) ⟨va_cnB 1 hts gX4_step_X7_at_n65 rfl rfl rfl (nw_X4_65 hN) (hts (.initialized RX7) (List.mem_of_getElem? (i := 6) rfl)) (by decide +kernel) ⟨Nat.le_of_ble_eq_true rfl, Nat.le_of_ble_eq_true rfl⟩, (hts (.instanceMethod yX7_at) (List.mem_of_getElem? (i := 5) rfl)), (hts (.selects RX7 yX7_at yX7_at) (List.mem_of_getElem? (i := 7) rfl))⟩ ⟨RoP.blind, va_recv hK hP (ci := 7) (q0 := 1) rfl rfl, fun U hU hW => ⟨rfl, RoP.call hE hS (hP.sub (ws' := [(t, .inr (7, [.ref tq, .int (nZ len)])), (tq, .inl (cI, 200, .inl (aZ tx)))]) [1, 2] rfl) hU hW⟩⟩ rfl rfl hl.1 rfl (lv_room (Nat.le_of_ble_eq_true rfl)) dX4_step_97 ⟨Nat.le_of_ble_eq_true rfl, Nat.le_of_ble_eq_true rfl⟩).run) (fun r97 hr97 => ?_)
            subst hr97
            refine z_nameI (fun r97 er97 => ?_)
            have e97 : r97 = tx y := by rw [er97, if_pos (by omega)]
            refine vp_callSi ((va_runS (As := [.int (nZ r97)]) (rest := []) ⟨hx, hb, hml, hown, hts⟩ (c_X4_kindOf l D cI cJ tn r97 (by omega) ) (va_cwS 1 hts gX4_step_X4_kindOf rfl rfl rfl (by decide +kernel) ⟨Nat.le_of_ble_eq_true rfl, Nat.le_of_ble_eq_true rfl⟩) ⟨RoP.blind, fun U hU hW => ⟨rfl, RoP.call hE hS (hP.sub (ws' := []) [] rfl) hU hW⟩⟩ rfl rfl hl.1 rfl (lv_room (Nat.le_of_ble_eq_true rfl)) dX4_step_100 ⟨Nat.le_of_ble_eq_true rfl, Nat.le_of_ble_eq_true rfl⟩).run) (fun r100 hr100 => ?_)
            subst hr100
            refine z_nameI (fun r100 er100 => ?_)
            have hkb2 := kdF_bd r97
            have e100 : r100 = kdF (tx y) := by rw [er100, e97]
            refine lv_aload_n hx hb dX4_step_103 rfl (lv_at hl 0 rfl) ?_
            refine va_get (D := D) (ci := 4) (v := .int (nZ r49)) (C := RX4) (T := TX4) (N := 7) hx hb hts iX4 hown hK hP 0 rfl rfl 4 (by decide) (hts (.fieldLink RX4 39 "RainTarget$Reader" "kind" "I") (List.mem_of_getElem? (i := 4) rfl)) (fun _ h9 => h9) rfl dX4_step_104 ?_
            refine z_icmp_ne (tgt := 116) hx hb dX4_step_107 (by decide) (by omega) (by omega) (fun c_107 => ?_) (fun c_107 => ?_)
            · refine lv_aload_n hx hb dX4_step_116 rfl (lv_at hl 0 rfl) ?_
              refine lv_iload_n hx hb dX4_step_117 rfl (lv_at hl 1 rfl) ?_
              refine va_put (D := D) (ci := 4) (v := .int (nZ y)) (ty := .int) (C := RX4) (T := TX4) (N := 7) hx hb hts iX4 tyX4 tyX4_ok nmX4 hown hK hP hD hS 0 rfl rfl 6 (by decide) (hts (.fieldLink RX4 26 "RainTarget$Reader" "end" "I") (List.mem_of_getElem? (i := 1) rfl)) (fun _ h9 => h9) rfl (by decide +kernel) rfl rfl (Nat.le_of_ble_eq_true rfl) dX4_step_118 (fun H locs hP hD hS => ?_)
              have hP : va_P D vwCl [(rdr, .inr (4, [.ref t, .ref wq, .ref nq, .int (nZ li), .int (nZ r49), .int (nZ p), .int (nZ y)])), (t, .inr (7, [.ref tq, .int (nZ len)])), (tq, .inl (cI, 200, .inl (aZ tx)))] H := hP
              have hD : va_D A [(rdr, .inr (4, [.ref t, .ref wq, .ref nq, .int (nZ li), .int (nZ r49), .int (nZ p), .int (nZ y)])), (t, .inr (7, [.ref tq, .int (nZ len)])), (tq, .inl (cI, 200, .inl (aZ tx)))] := hD
              have hfin : (if r49 = 1 ∨ r49 = 2 then tkR tx len r49 y else y) = y := by split <;> first | rfl | exact tkR_e tx (by omega) | (exfalso; omega)
              have hP9 := hP.sub (ws' := [(rdr, .inr (4, [.ref t, .ref wq, .ref nq, .int (nZ li), .int (nZ r49), .int (nZ p), .int (nZ y)])), (t, .inr (7, [.ref tq, .int (nZ len)])), (tq, .inl (cI, 200, .inl (aZ tx)))]) [0, 1, 2] rfl
              have hD9 := hD.sub (ws' := [(rdr, .inr (4, [.ref t, .ref wq, .ref nq, .int (nZ li), .int (nZ r49), .int (nZ p), .int (nZ y)])), (t, .inr (7, [.ref tq, .int (nZ len)])), (tq, .inl (cI, 200, .inl (aZ tx)))]) [0, 1, 2] (by decide) rfl
              have hq9 : ([(rdr, .inr (4, [.ref t, .ref wq, .ref nq, .int (nZ li), .int (nZ r49), .int (nZ p), .int (nZ y)])), (t, .inr (7, [.ref tq, .int (nZ len)])), (tq, .inl (cI, 200, .inl (aZ tx)))] : va_W) = [(rdr, .inr (4, [.ref t, .ref wq, .ref nq, .int (nZ li), .int (nZ (tkK tx len en)), .int (nZ (tkS tx len en)), .int (nZ (tkE tx len en))])), (t, .inr (7, [.ref tq, .int (nZ len)])), (tq, .inl (cI, 200, .inl (aZ tx)))] := by rw [hKK, hSS, hye, hfin]
              rw [hq9] at hP9 hD9
              exact W.vret hx hb hr (fun t9 ht9 _ => ⟨⟨(), rfl, trivial, ⟨by rw [ht9]; exact hP9, hD9⟩⟩, hS.F ht9⟩) hS.2.2 dX4_step_121
            · refine lv_iinc (v := nZ (y + 1)) (lv' := [(1, .int (nZ (y + 1))), (0, .ref rdr)]) hx hb dX4_step_110 hl (k := 1) rfl (nZ_add _ _) (by decide) rfl (fun ls hl => ?_)
              refine lv_goto (tgt := 65) hx hb dX4_step_113 (by decide) ?_
              exact ih65 (y + 1) ⟨(by first | assumption | omega), (by first | assumption | omega), (by rw [hye, if_pos (by omega), if_pos (by omega), tkR_s tx (by omega) (by omega)]), (fun q => by omega)⟩ (show (len - (y + 1)).toNat < (len - y).toNat from by omega) _ _ ls (hP.sub [0, 1, 2] rfl) (hD.sub [0, 1, 2] (by decide) rfl) hS (lv_sub hl [1, 0] rfl)
          · refine lv_aload_n hx hb dX4_step_84 rfl (lv_at hl 0 rfl) ?_
            refine va_get (D := D) (ci := 4) (v := .int (nZ r49)) (C := RX4) (T := TX4) (N := 7) hx hb hts iX4 hown hK hP 0 rfl rfl 4 (by decide) (hts (.fieldLink RX4 39 "RainTarget$Reader" "kind" "I") (List.mem_of_getElem? (i := 4) rfl)) (fun _ h9 => h9) rfl dX4_step_85 ?_
            refine lv_iconst (v := nZ 2) hx hb dX4_step_88 rfl ?_
            refine z_icmp_ne (tgt := 116) hx hb dX4_step_89 (by decide) (by omega) (by decide) (fun c_89 => ?_) (fun c_89 => ?_)
            · refine lv_aload_n hx hb dX4_step_116 rfl (lv_at hl 0 rfl) ?_
              refine lv_iload_n hx hb dX4_step_117 rfl (lv_at hl 1 rfl) ?_
              refine va_put (D := D) (ci := 4) (v := .int (nZ y)) (ty := .int) (C := RX4) (T := TX4) (N := 7) hx hb hts iX4 tyX4 tyX4_ok nmX4 hown hK hP hD hS 0 rfl rfl 6 (by decide) (hts (.fieldLink RX4 26 "RainTarget$Reader" "end" "I") (List.mem_of_getElem? (i := 1) rfl)) (fun _ h9 => h9) rfl (by decide +kernel) rfl rfl (Nat.le_of_ble_eq_true rfl) dX4_step_118 (fun H locs hP hD hS => ?_)
              have hP : va_P D vwCl [(rdr, .inr (4, [.ref t, .ref wq, .ref nq, .int (nZ li), .int (nZ r49), .int (nZ p), .int (nZ y)])), (t, .inr (7, [.ref tq, .int (nZ len)])), (tq, .inl (cI, 200, .inl (aZ tx)))] H := hP
              have hD : va_D A [(rdr, .inr (4, [.ref t, .ref wq, .ref nq, .int (nZ li), .int (nZ r49), .int (nZ p), .int (nZ y)])), (t, .inr (7, [.ref tq, .int (nZ len)])), (tq, .inl (cI, 200, .inl (aZ tx)))] := hD
              have hfin : (if r49 = 1 ∨ r49 = 2 then tkR tx len r49 y else y) = y := by split <;> first | rfl | exact tkR_e tx (by omega) | (exfalso; omega)
              have hP9 := hP.sub (ws' := [(rdr, .inr (4, [.ref t, .ref wq, .ref nq, .int (nZ li), .int (nZ r49), .int (nZ p), .int (nZ y)])), (t, .inr (7, [.ref tq, .int (nZ len)])), (tq, .inl (cI, 200, .inl (aZ tx)))]) [0, 1, 2] rfl
              have hD9 := hD.sub (ws' := [(rdr, .inr (4, [.ref t, .ref wq, .ref nq, .int (nZ li), .int (nZ r49), .int (nZ p), .int (nZ y)])), (t, .inr (7, [.ref tq, .int (nZ len)])), (tq, .inl (cI, 200, .inl (aZ tx)))]) [0, 1, 2] (by decide) rfl
              have hq9 : ([(rdr, .inr (4, [.ref t, .ref wq, .ref nq, .int (nZ li), .int (nZ r49), .int (nZ p), .int (nZ y)])), (t, .inr (7, [.ref tq, .int (nZ len)])), (tq, .inl (cI, 200, .inl (aZ tx)))] : va_W) = [(rdr, .inr (4, [.ref t, .ref wq, .ref nq, .int (nZ li), .int (nZ (tkK tx len en)), .int (nZ (tkS tx len en)), .int (nZ (tkE tx len en))])), (t, .inr (7, [.ref tq, .int (nZ len)])), (tq, .inl (cI, 200, .inl (aZ tx)))] := by rw [hKK, hSS, hye, hfin]
              rw [hq9] at hP9 hD9
              exact W.vret hx hb hr (fun t9 ht9 _ => ⟨⟨(), rfl, trivial, ⟨by rw [ht9]; exact hP9, hD9⟩⟩, hS.F ht9⟩) hS.2.2 dX4_step_121
            · refine lv_aload_n hx hb dX4_step_92 rfl (lv_at hl 0 rfl) ?_
              refine va_get (D := D) (ci := 4) (v := .ref t) (C := RX4) (T := TX4) (N := 7) hx hb hts iX4 hown hK hP 0 rfl rfl 0 (by decide) (hts (.fieldLink RX4 18 "RainTarget$Reader" "text" "LRainTarget$Text;") (List.mem_of_getElem? (i := 2) rfl)) (fun _ h9 => h9) rfl dX4_step_93 ?_
              refine lv_iload_n hx hb dX4_step_96 rfl (lv_at hl 1 rfl) ?_
              have hgy := hgb y
              refine vp_callSi ((va_runVN (As := [.int (nZ y)]) (rest := []) ⟨hx, hb, hml, hown, hts⟩ (c_X7_at l D cI cJ tn t tq tx len y (by omega) (by omega) ) ⟨va_cnB 1 hts gX4_step_X7_at_n65 rfl rfl rfl (nw_X4_65 hN) (hts (.initialized RX7) (List.mem_of_getElem? (i := 6) rfl)) (by decide +kernel) ⟨Nat.le_of_ble_eq_true rfl, Nat.le_of_ble_eq_true rfl⟩, (hts (.instanceMethod yX7_at) (List.mem_of_getElem? (i := 5) rfl)), (hts (.selects RX7 yX7_at yX7_at) (List.mem_of_getElem? (i := 7) rfl))⟩ ⟨RoP.blind, va_recv hK hP (ci := 7) (q0 := 1) rfl rfl, fun U hU hW => ⟨rfl, RoP.call hE hS (hP.sub (ws' := [(t, .inr (7, [.ref tq, .int (nZ len)])), (tq, .inl (cI, 200, .inl (aZ tx)))]) [1, 2] rfl) hU hW⟩⟩ rfl rfl hl.1 rfl (lv_room (Nat.le_of_ble_eq_true rfl)) dX4_step_97 ⟨Nat.le_of_ble_eq_true rfl, Nat.le_of_ble_eq_true rfl⟩).run) (fun r97 hr97 => ?_)
              subst hr97
              refine z_nameI (fun r97 er97 => ?_)
              have e97 : r97 = tx y := by rw [er97, if_pos (by omega)]
              refine vp_callSi ((va_runS (As := [.int (nZ r97)]) (rest := []) ⟨hx, hb, hml, hown, hts⟩ (c_X4_kindOf l D cI cJ tn r97 (by omega) ) (va_cwS 1 hts gX4_step_X4_kindOf rfl rfl rfl (by decide +kernel) ⟨Nat.le_of_ble_eq_true rfl, Nat.le_of_ble_eq_true rfl⟩) ⟨RoP.blind, fun U hU hW => ⟨rfl, RoP.call hE hS (hP.sub (ws' := []) [] rfl) hU hW⟩⟩ rfl rfl hl.1 rfl (lv_room (Nat.le_of_ble_eq_true rfl)) dX4_step_100 ⟨Nat.le_of_ble_eq_true rfl, Nat.le_of_ble_eq_true rfl⟩).run) (fun r100 hr100 => ?_)
              subst hr100
              refine z_nameI (fun r100 er100 => ?_)
              have hkb2 := kdF_bd r97
              have e100 : r100 = kdF (tx y) := by rw [er100, e97]
              refine lv_aload_n hx hb dX4_step_103 rfl (lv_at hl 0 rfl) ?_
              refine va_get (D := D) (ci := 4) (v := .int (nZ r49)) (C := RX4) (T := TX4) (N := 7) hx hb hts iX4 hown hK hP 0 rfl rfl 4 (by decide) (hts (.fieldLink RX4 39 "RainTarget$Reader" "kind" "I") (List.mem_of_getElem? (i := 4) rfl)) (fun _ h9 => h9) rfl dX4_step_104 ?_
              refine z_icmp_ne (tgt := 116) hx hb dX4_step_107 (by decide) (by omega) (by omega) (fun c_107 => ?_) (fun c_107 => ?_)
              · refine lv_aload_n hx hb dX4_step_116 rfl (lv_at hl 0 rfl) ?_
                refine lv_iload_n hx hb dX4_step_117 rfl (lv_at hl 1 rfl) ?_
                refine va_put (D := D) (ci := 4) (v := .int (nZ y)) (ty := .int) (C := RX4) (T := TX4) (N := 7) hx hb hts iX4 tyX4 tyX4_ok nmX4 hown hK hP hD hS 0 rfl rfl 6 (by decide) (hts (.fieldLink RX4 26 "RainTarget$Reader" "end" "I") (List.mem_of_getElem? (i := 1) rfl)) (fun _ h9 => h9) rfl (by decide +kernel) rfl rfl (Nat.le_of_ble_eq_true rfl) dX4_step_118 (fun H locs hP hD hS => ?_)
                have hP : va_P D vwCl [(rdr, .inr (4, [.ref t, .ref wq, .ref nq, .int (nZ li), .int (nZ r49), .int (nZ p), .int (nZ y)])), (t, .inr (7, [.ref tq, .int (nZ len)])), (tq, .inl (cI, 200, .inl (aZ tx)))] H := hP
                have hD : va_D A [(rdr, .inr (4, [.ref t, .ref wq, .ref nq, .int (nZ li), .int (nZ r49), .int (nZ p), .int (nZ y)])), (t, .inr (7, [.ref tq, .int (nZ len)])), (tq, .inl (cI, 200, .inl (aZ tx)))] := hD
                have hfin : (if r49 = 1 ∨ r49 = 2 then tkR tx len r49 y else y) = y := by split <;> first | rfl | exact tkR_e tx (by omega) | (exfalso; omega)
                have hP9 := hP.sub (ws' := [(rdr, .inr (4, [.ref t, .ref wq, .ref nq, .int (nZ li), .int (nZ r49), .int (nZ p), .int (nZ y)])), (t, .inr (7, [.ref tq, .int (nZ len)])), (tq, .inl (cI, 200, .inl (aZ tx)))]) [0, 1, 2] rfl
                have hD9 := hD.sub (ws' := [(rdr, .inr (4, [.ref t, .ref wq, .ref nq, .int (nZ li), .int (nZ r49), .int (nZ p), .int (nZ y)])), (t, .inr (7, [.ref tq, .int (nZ len)])), (tq, .inl (cI, 200, .inl (aZ tx)))]) [0, 1, 2] (by decide) rfl
                have hq9 : ([(rdr, .inr (4, [.ref t, .ref wq, .ref nq, .int (nZ li), .int (nZ r49), .int (nZ p), .int (nZ y)])), (t, .inr (7, [.ref tq, .int (nZ len)])), (tq, .inl (cI, 200, .inl (aZ tx)))] : va_W) = [(rdr, .inr (4, [.ref t, .ref wq, .ref nq, .int (nZ li), .int (nZ (tkK tx len en)), .int (nZ (tkS tx len en)), .int (nZ (tkE tx len en))])), (t, .inr (7, [.ref tq, .int (nZ len)])), (tq, .inl (cI, 200, .inl (aZ tx)))] := by rw [hKK, hSS, hye, hfin]
                rw [hq9] at hP9 hD9
                exact W.vret hx hb hr (fun t9 ht9 _ => ⟨⟨(), rfl, trivial, ⟨by rw [ht9]; exact hP9, hD9⟩⟩, hS.F ht9⟩) hS.2.2 dX4_step_121
              · refine lv_iinc (v := nZ (y + 1)) (lv' := [(1, .int (nZ (y + 1))), (0, .ref rdr)]) hx hb dX4_step_110 hl (k := 1) rfl (nZ_add _ _) (by decide) rfl (fun ls hl => ?_)
                refine lv_goto (tgt := 65) hx hb dX4_step_113 (by decide) ?_
                exact ih65 (y + 1) ⟨(by first | assumption | omega), (by first | assumption | omega), (by rw [hye, if_pos (by omega), if_pos (by omega), tkR_s tx (by omega) (by omega)]), (fun q => by omega)⟩ (show (len - (y + 1)).toNat < (len - y).toNat from by omega) _ _ ls (hP.sub [0, 1, 2] rfl) (hD.sub [0, 1, 2] (by decide) rfl) hS (lv_sub hl [1, 0] rfl)
    · refine lv_iinc (v := nZ (p + 1)) (lv' := [(1, .int (nZ (p + 1))), (0, .ref rdr)]) hx hb dX4_step_29 hl (k := 1) rfl (nZ_add _ _) (by decide) rfl (fun ls hl => ?_)
      refine lv_goto (tgt := 5) hx hb dX4_step_32 (by decide) ?_
      exact ih5 (p + 1) ⟨(by first | assumption | omega), (by first | assumption | omega), (by rw [hpe, tkS_s tx (by omega) (by omega)])⟩ (show (len - (p + 1)).toNat < (len - p).toNat from by omega) _ _ ls (hP.sub [0, 1, 2] rfl) (hD.sub [0, 1, 2] (by decide) rfl) hS (lv_sub hl [1, 0] rfl)

def dvN (g : Int → Int) (s : Int) : Nat → Int
  | 0 => 0
  | n + 1 => 10 * dvN g s n + g (s + (n : Int)) - 48
def wcN (g : Int → Int) (s : Int) : Nat → Int
  | 0 => 0
  | n + 1 => 27 * wcN g s n + g (s + (n : Int)) - 96
theorem dvN_s (g : Int → Int) (s : Int) {j : Int} (h : 0 ≤ j) : dvN g s (j + 1).toNat = 10 * dvN g s j.toNat + g (s + j) - 48 := by rw [toN_s h, dvN, Int.toNat_of_nonneg h]
theorem wcN_s (g : Int → Int) (s : Int) {j : Int} (h : 0 ≤ j) : wcN g s (j + 1).toNat = 27 * wcN g s j.toNat + g (s + j) - 96 := by rw [toN_s h, wcN, Int.toNat_of_nonneg h]
theorem kd1 {x : Int} (h : 0 ≤ x) : kdF x = 1 ↔ 97 ≤ x ∧ x ≤ 122 := by unfold kdF; rw [if_neg (by omega)]; split <;> (try split) <;> (try split) <;> omega
theorem kd2 {x : Int} (h : 0 ≤ x) : kdF x = 2 ↔ 48 ≤ x ∧ x ≤ 57 := by unfold kdF; rw [if_neg (by omega)]; split <;> (try split) <;> (try split) <;> omega
theorem kd3 {x : Int} (h : 0 ≤ x) : kdF x = 3 ↔ x = 59 := by unfold kdF; rw [if_neg (by omega)]; split <;> (try split) <;> (try split) <;> omega
/-- what the model's token says of the token -/
def TKR (g : Int → Int) (len p tk nu : Int) : Prop := (tkK g len p = 0 → tk = -2) ∧ (tkK g len p = 1 → tk = if tkE g len p - tkS g len p ≤ 9 then wcN g (tkS g len p) (tkE g len p - tkS g len p).toNat else -4) ∧ (tkK g len p = 2 → (if tkE g len p - tkS g len p ≤ 3 then tk = -1 ∧ nu = dvN g (tkS g len p) (tkE g len p - tkS g len p).toNat else tk = -4)) ∧ (tkK g len p = 3 → tk = -3) ∧ (tkK g len p = 4 → tk = -4)
theorem wc_bd {g : Int → Int} {s : Int} (h : ∀ k, 0 ≤ g k ∧ g k ≤ 255) : ∀ n : Nat, n ≤ 9 → -9000000000000000 ≤ wcN g s n ∧ wcN g s n ≤ 9000000000000000 := by
  have key : ∀ n : Nat, -(96 * (28 : Int) ^ n) ≤ wcN g s n ∧ wcN g s n ≤ 159 * (28 : Int) ^ n := by
    intro n
    induction n with
    | zero => simp [wcN]
    | succ n ih =>
      have b := h (s + (n : Int))
      have p1 : 1 ≤ (28 : Int) ^ n := Int.pow_pos (by decide)
      rw [wcN, Int.pow_succ]; omega
  intro n hn
  have k := key n
  have : n = 0 ∨ n = 1 ∨ n = 2 ∨ n = 3 ∨ n = 4 ∨ n = 5 ∨ n = 6 ∨ n = 7 ∨ n = 8 ∨ n = 9 := by omega
  rcases this with rfl | rfl | rfl | rfl | rfl | rfl | rfl | rfl | rfl | rfl <;> simp at k <;> omega
