set_option maxHeartbeats 4000000 in
set_option maxRecDepth 100000 in
theorem c_X9_write (l : Launch) (D : va_G) (cI cJ : ClassId) (tn : Nat) (sz : Nat) (x : Nat) (t : Nat) (rdr : Nat) (g : Nat) (q1 : Nat) (h : Nat) (f : Nat) (s2 : Nat) (w : Nat) (mq : Nat) (tq : Nat) (tx : Int → Int) (len : Int) (b : Int64) (n : Int) (rn : I32 n) (hl0 : 0 ≤ len) (hl1 : len ≤ 200)  : Met l yX9_write wsX9_write ({ frames := 2, cells := 0, slots := 0, locals := 46 } : Room) (va_Pc [.ref x, .long b, .int (nZ n)] (WrP D cI cJ tn [(x, .inr (9, [.ref t, .ref rdr, .ref g, .ref q1, .ref h, .ref f, .ref s2, .ref w, .ref mq])), (t, .inr (7, [.ref tq, .int (nZ len)])), (tq, .inl (cI, 200, .inl (aZ tx)))] sz)) (va_Qi (fun (r9 : Int32) (u9 : Unit) => r9 = nZ (if 1 ≤ n ∧ n ≤ 8 then (if len + n ≤ 200 then len + n else -5) else -3) ∧ True) (fun u9 t9 => WrQ D (va_A [(x, .inr (9, [.ref t, .ref rdr, .ref g, .ref q1, .ref h, .ref f, .ref s2, .ref w, .ref mq])), (t, .inr (7, [.ref tq, .int (nZ len)])), (tq, .inl (cI, 200, .inl (aZ tx)))] sz) [(x, .inr (9, [.ref t, .ref rdr, .ref g, .ref q1, .ref h, .ref f, .ref s2, .ref w, .ref mq])), (t, .inr (7, [.ref tq, .int (nZ (if (1 ≤ n ∧ n ≤ 8) ∧ len + n ≤ 200 then len + n else len))])), (tq, .inl (cI, 200, .inl (aZ (if (1 ≤ n ∧ n ≤ 8) ∧ len + n ≤ 200 then apF tx len b n else tx))))] t9) (va_A [(x, .inr (9, [.ref t, .ref rdr, .ref g, .ref q1, .ref h, .ref f, .ref s2, .ref w, .ref mq])), (t, .inr (7, [.ref tq, .int (nZ len)])), (tq, .inl (cI, 200, .inl (aZ tx)))] sz)) 0 0 (va_A [(x, .inr (9, [.ref t, .ref rdr, .ref g, .ref q1, .ref h, .ref f, .ref s2, .ref w, .ref mq])), (t, .inr (7, [.ref tq, .int (nZ len)])), (tq, .inl (cI, 200, .inl (aZ tx)))] sz) := by
  refine Met.ofW (cc := cX9_write) (maxL := 4) (ret := (some .int)) (by decide) rfl ?_
  intro p e s m args below meth c s₁ B hml hv
  obtain ⟨rfl, hsz, hE, hP, hD0⟩ := hv
  have hx := B.exec
  have hb := B.bytes
  have hr := B.returns
  have hts := atoms_spec (ws := wsX9_write) B.pre
  have hown : s.vm.findClass RX9 = some m.cls := findClass_of_methodNamed B.named
  have hlocks := B.notSynchronized
  subst hsz
  have hD := hD0.self (sz := s.heap.size)
  generalize hAe : va_A [(x, .inr (9, [.ref t, .ref rdr, .ref g, .ref q1, .ref h, .ref f, .ref s2, .ref w, .ref mq])), (t, .inr (7, [.ref tq, .int (nZ len)])), (tq, .inl (cI, 200, .inl (aZ tx)))] s.heap.size = A at hD hE ⊢
  have hA : ∀ q : Nat, s.heap.size ≤ q → A q := fun q h => by rw [← hAe]; exact Or.inr h
  have hS : va_S A s.heap s.heap [] := va_S.rf
  have hK := hE.1
  have hN := hE.2.1
  have hl := lv_entry ([.ref x, .long b, .int (nZ n)]) (n := 4) (Nat.le_of_ble_eq_true rfl)
  rw [lg_entry_eq]
  generalize (lg_sl ([.ref x, .long b, .int (nZ n)]) ++ List.replicate (4 - (lg_sl ([.ref x, .long b, .int (nZ n)])).length) Slot.unset).toArray = ls at hl ⊢
  have hl : lv_has ls 4 [(0, .ref x), (1, .long b), (3, .int (nZ n))] := hl
  have iX7 : ∀ w ∈ u_ws RX7 TX7 2, w ∈ wsX9_write := fun _ h => List.mem_cons_of_mem _ (List.mem_append_right _ h)
  have iX9 : ∀ w ∈ u_ws RX9 TX9 9, w ∈ wsX9_write := fun _ h => List.mem_cons_of_mem _ (List.mem_append_left _ (List.mem_append_right _ h))
  refine lv_iload_n hx hb dX9_write_0 rfl (lv_at hl 2 rfl) ?_
  refine lv_iconst (v := nZ 1) hx hb dX9_write_1 rfl ?_
  refine lv_bipush (v := nZ 8) hx hb dX9_write_2 (by decide) ?_
  refine vp_callSi ((va_runS (As := [.int (nZ n), .int (nZ 1), .int (nZ 8)]) (rest := []) ⟨hx, hb, hml, hown, hts⟩ (c_X9_within l D cI cJ tn n 1 8 rn (by decide) (by decide) ) (va_cwS 3 hts gX9_write_X9_within rfl rfl rfl (by decide +kernel) ⟨Nat.le_of_ble_eq_true rfl, Nat.le_of_ble_eq_true rfl⟩) ⟨RoP.blind, fun U hU hW => ⟨rfl, RoP.call hE hS (hP.sub (ws' := []) [] rfl) hU hW⟩⟩ rfl rfl hl.1 rfl (lv_room (Nat.le_of_ble_eq_true rfl)) dX9_write_4 ⟨Nat.le_of_ble_eq_true rfl, Nat.le_of_ble_eq_true rfl⟩).run) (fun r4 hr4 => ?_)
  subst hr4
  refine z_nameI (fun r4 er4 => ?_)
  refine z_if_ne (tgt := 13) hx hb dX9_write_7 (by decide) (by omega) (fun c_7 => ?_) (fun c_7 => ?_)
  · refine lv_iload_n hx hb dX9_write_13 rfl (lv_at hl 2 rfl) ?_
    refine lv_sipush (v := nZ 200) hx hb dX9_write_14 (by decide) ?_
    refine lv_aload_n hx hb dX9_write_17 rfl (lv_at hl 0 rfl) ?_
    refine va_get (D := D) (ci := 9) (v := .ref t) (C := RX9) (T := TX9) (N := 9) hx hb hts iX9 hown hK hP 0 rfl rfl 0 (by decide) (hts (.fieldLink RX9 12 "RainTarget" "text" "LRainTarget$Text;") (List.mem_of_getElem? (i := 1) rfl)) (fun _ h9 => h9) rfl dX9_write_18 ?_
    refine va_getN (D := D) (ci := 7) (v := .int (nZ len)) (C := RX7) (T := TX7) (N := 2) hx hb hts iX7 hown hK hP 1 rfl rfl 1 (by decide) (va_Nw.use rfl (nw_X9_89 hN)) (fun _ h9 => h9) rfl dX9_write_21 ?_
    refine z_isub hx hb dX9_write_24 ?_
    refine z_icmp_le (tgt := 31) hx hb dX9_write_25 (by decide) (by omega) (by omega) (fun c_25 => ?_) (fun c_25 => ?_)
    · refine lv_aload_n hx hb dX9_write_31 rfl (lv_at hl 0 rfl) ?_
      refine va_get (D := D) (ci := 9) (v := .ref t) (C := RX9) (T := TX9) (N := 9) hx hb hts iX9 hown hK hP 0 rfl rfl 0 (by decide) (hts (.fieldLink RX9 12 "RainTarget" "text" "LRainTarget$Text;") (List.mem_of_getElem? (i := 1) rfl)) (fun _ h9 => h9) rfl dX9_write_32 ?_
      refine lv_lload_n hx hb dX9_write_35 rfl (lv_at hl 1 rfl) ?_
      refine lv_iload_n hx hb dX9_write_36 rfl (lv_at hl 2 rfl) ?_
      have hFc := va_free (wc := [(t, .inr (7, [.ref tq, .int (nZ len)])), (tq, .inl (cI, 200, .inl (aZ tx)))]) hD hS hA [1, 2] rfl
      have hPc := hP.sub (ws' := [(t, .inr (7, [.ref tq, .int (nZ len)])), (tq, .inl (cI, 200, .inl (aZ tx)))]) [1, 2] rfl
      have hDc := hD.sub (ws' := [(t, .inr (7, [.ref tq, .int (nZ len)])), (tq, .inl (cI, 200, .inl (aZ tx)))]) [1, 2] (by decide) rfl
      refine va_callv (va_runVN (As := [.long b, .int (nZ n)]) (rest := []) ⟨hx, hb, hml, hown, hts⟩ (c_X7_append l D cI cJ tn s.heap.size t tq tx len b n hl0 (by first | assumption | omega) (by first | assumption | omega) (by first | assumption | omega) ) ⟨va_cnB 2 hts gX9_write_X7_append_n93 rfl rfl rfl (nw_X9_93 hN) (hts (.initialized RX7) (List.mem_of_getElem? (i := 7) rfl)) (by decide +kernel) ⟨Nat.le_of_ble_eq_true rfl, Nat.le_of_ble_eq_true rfl⟩, (hts (.instanceMethod yX7_append) (List.mem_of_getElem? (i := 6) rfl)), (hts (.selects RX7 yX7_append yX7_append) (List.mem_of_getElem? (i := 8) rfl))⟩ ⟨WrP.blind, va_recv hK hP (ci := 7) (q0 := 1) rfl rfl, fun U hU hW => ⟨rfl, WrP.call hE hS hPc hDc hFc hU hW⟩⟩ rfl rfl hl.1 rfl (lv_room (Nat.le_of_ble_eq_true rfl)) dX9_write_37 ⟨Nat.le_of_ble_eq_true rfl, Nat.le_of_ble_eq_true rfl⟩) hS (fun q _ h => hFc q h) hFc (fun u9 t9 H1 locs ht9 hvm hv37 hB9 hz9 hk9 hS => ?_)
      obtain ⟨hP8, hD8⟩ := hB9
      rw [ht9] at hP8
      have hw37 : True := hv37
      obtain ⟨hP, hD⟩ := va_join (wr := [(x, .inr (9, [.ref t, .ref rdr, .ref g, .ref q1, .ref h, .ref f, .ref s2, .ref w, .ref mq]))]) (w1 := [(t, .inr (7, [.ref tq, .int (nZ (len + n))])), (tq, .inl (cI, 200, .inl (aZ (apF tx len b n))))]) hP hD [1, 2] [0] rfl rfl (by decide) (by decide) hk9 hFc hP8 hD8
      generalize H1 = H at hP hS ⊢
      have hP : va_P D vwCl [(x, .inr (9, [.ref t, .ref rdr, .ref g, .ref q1, .ref h, .ref f, .ref s2, .ref w, .ref mq])), (t, .inr (7, [.ref tq, .int (nZ (len + n))])), (tq, .inl (cI, 200, .inl (aZ (apF tx len b n))))] H := hP
      have hD : va_D A [(x, .inr (9, [.ref t, .ref rdr, .ref g, .ref q1, .ref h, .ref f, .ref s2, .ref w, .ref mq])), (t, .inr (7, [.ref tq, .int (nZ (len + n))])), (tq, .inl (cI, 200, .inl (aZ (apF tx len b n))))] := hD
      refine lv_aload_n hx hb dX9_write_40 rfl (lv_at hl 0 rfl) ?_
      refine va_get (D := D) (ci := 9) (v := .ref t) (C := RX9) (T := TX9) (N := 9) hx hb hts iX9 hown hK hP 0 rfl rfl 0 (by decide) (hts (.fieldLink RX9 12 "RainTarget" "text" "LRainTarget$Text;") (List.mem_of_getElem? (i := 1) rfl)) (fun _ h9 => h9) rfl dX9_write_41 ?_
      refine va_getN (D := D) (ci := 7) (v := .int (nZ (len + n))) (C := RX7) (T := TX7) (N := 2) hx hb hts iX7 hown hK hP 1 rfl rfl 1 (by decide) (va_Nw.use rfl (nw_X9_89 hN)) (fun _ h9 => h9) rfl dX9_write_44 ?_
      have hP9 := hP.sub (ws' := [(x, .inr (9, [.ref t, .ref rdr, .ref g, .ref q1, .ref h, .ref f, .ref s2, .ref w, .ref mq])), (t, .inr (7, [.ref tq, .int (nZ (len + n))])), (tq, .inl (cI, 200, .inl (aZ (apF tx len b n))))]) [0, 1, 2] rfl
      have hD9 := hD.sub (ws' := [(x, .inr (9, [.ref t, .ref rdr, .ref g, .ref q1, .ref h, .ref f, .ref s2, .ref w, .ref mq])), (t, .inr (7, [.ref tq, .int (nZ (len + n))])), (tq, .inl (cI, 200, .inl (aZ (apF tx len b n))))]) [0, 1, 2] (by decide) rfl
      have hq9 : ([(x, .inr (9, [.ref t, .ref rdr, .ref g, .ref q1, .ref h, .ref f, .ref s2, .ref w, .ref mq])), (t, .inr (7, [.ref tq, .int (nZ (len + n))])), (tq, .inl (cI, 200, .inl (aZ (apF tx len b n))))] : va_W) = [(x, .inr (9, [.ref t, .ref rdr, .ref g, .ref q1, .ref h, .ref f, .ref s2, .ref w, .ref mq])), (t, .inr (7, [.ref tq, .int (nZ (if (1 ≤ n ∧ n ≤ 8) ∧ len + n ≤ 200 then len + n else len))])), (tq, .inl (cI, 200, .inl (aZ (if (1 ≤ n ∧ n ≤ 8) ∧ len + n ≤ 200 then apF tx len b n else tx))))] := by first | (simp only [if_pos (show (1 ≤ n ∧ n ≤ 8) ∧ len + n ≤ 200 from by omega)]; done) | (simp only [if_neg (show ¬ ((1 ≤ n ∧ n ≤ 8) ∧ len + n ≤ 200) from by omega)]; done)
      rw [hq9] at hP9 hD9
      exact W.iret (v := nZ (len + n)) hx hb hr (fun t9 ht9 _ => ⟨⟨nZ (len + n), (), rfl, ⟨congrArg nZ (show (len + n : Int) = if 1 ≤ n ∧ n ≤ 8 then (if len + n ≤ 200 then len + n else -5) else -3 from (by first | rfl | omega | (split <;> omega) | (split <;> split <;> omega))), trivial⟩, ⟨by rw [ht9]; exact hP9, hD9⟩⟩, hS.F ht9⟩) hS.2.2 dX9_write_47
    · refine lv_bipush (v := nZ (-5)) hx hb dX9_write_28 (by decide) ?_
      have hP9 := hP.sub (ws' := [(x, .inr (9, [.ref t, .ref rdr, .ref g, .ref q1, .ref h, .ref f, .ref s2, .ref w, .ref mq])), (t, .inr (7, [.ref tq, .int (nZ len)])), (tq, .inl (cI, 200, .inl (aZ tx)))]) [0, 1, 2] rfl
      have hD9 := hD.sub (ws' := [(x, .inr (9, [.ref t, .ref rdr, .ref g, .ref q1, .ref h, .ref f, .ref s2, .ref w, .ref mq])), (t, .inr (7, [.ref tq, .int (nZ len)])), (tq, .inl (cI, 200, .inl (aZ tx)))]) [0, 1, 2] (by decide) rfl
      have hq9 : ([(x, .inr (9, [.ref t, .ref rdr, .ref g, .ref q1, .ref h, .ref f, .ref s2, .ref w, .ref mq])), (t, .inr (7, [.ref tq, .int (nZ len)])), (tq, .inl (cI, 200, .inl (aZ tx)))] : va_W) = [(x, .inr (9, [.ref t, .ref rdr, .ref g, .ref q1, .ref h, .ref f, .ref s2, .ref w, .ref mq])), (t, .inr (7, [.ref tq, .int (nZ (if (1 ≤ n ∧ n ≤ 8) ∧ len + n ≤ 200 then len + n else len))])), (tq, .inl (cI, 200, .inl (aZ (if (1 ≤ n ∧ n ≤ 8) ∧ len + n ≤ 200 then apF tx len b n else tx))))] := by first | (simp only [if_pos (show (1 ≤ n ∧ n ≤ 8) ∧ len + n ≤ 200 from by omega)]; done) | (simp only [if_neg (show ¬ ((1 ≤ n ∧ n ≤ 8) ∧ len + n ≤ 200) from by omega)]; done)
      rw [hq9] at hP9 hD9
      exact W.iret (v := nZ (-5)) hx hb hr (fun t9 ht9 _ => ⟨⟨nZ (-5), (), rfl, ⟨congrArg nZ (show (-5 : Int) = if 1 ≤ n ∧ n ≤ 8 then (if len + n ≤ 200 then len + n else -5) else -3 from (by first | rfl | omega | (split <;> omega) | (split <;> split <;> omega))), trivial⟩, ⟨by rw [ht9]; exact hP9, hD9⟩⟩, hS.F ht9⟩) hS.2.2 dX9_write_30
  · refine lv_bipush (v := nZ (-3)) hx hb dX9_write_10 (by decide) ?_
    have hP9 := hP.sub (ws' := [(x, .inr (9, [.ref t, .ref rdr, .ref g, .ref q1, .ref h, .ref f, .ref s2, .ref w, .ref mq])), (t, .inr (7, [.ref tq, .int (nZ len)])), (tq, .inl (cI, 200, .inl (aZ tx)))]) [0, 1, 2] rfl
    have hD9 := hD.sub (ws' := [(x, .inr (9, [.ref t, .ref rdr, .ref g, .ref q1, .ref h, .ref f, .ref s2, .ref w, .ref mq])), (t, .inr (7, [.ref tq, .int (nZ len)])), (tq, .inl (cI, 200, .inl (aZ tx)))]) [0, 1, 2] (by decide) rfl
    have hq9 : ([(x, .inr (9, [.ref t, .ref rdr, .ref g, .ref q1, .ref h, .ref f, .ref s2, .ref w, .ref mq])), (t, .inr (7, [.ref tq, .int (nZ len)])), (tq, .inl (cI, 200, .inl (aZ tx)))] : va_W) = [(x, .inr (9, [.ref t, .ref rdr, .ref g, .ref q1, .ref h, .ref f, .ref s2, .ref w, .ref mq])), (t, .inr (7, [.ref tq, .int (nZ (if (1 ≤ n ∧ n ≤ 8) ∧ len + n ≤ 200 then len + n else len))])), (tq, .inl (cI, 200, .inl (aZ (if (1 ≤ n ∧ n ≤ 8) ∧ len + n ≤ 200 then apF tx len b n else tx))))] := by first | (simp only [if_pos (show (1 ≤ n ∧ n ≤ 8) ∧ len + n ≤ 200 from by omega)]; done) | (simp only [if_neg (show ¬ ((1 ≤ n ∧ n ≤ 8) ∧ len + n ≤ 200) from by omega)]; done)
    rw [hq9] at hP9 hD9
    exact W.iret (v := nZ (-3)) hx hb hr (fun t9 ht9 _ => ⟨⟨nZ (-3), (), rfl, ⟨congrArg nZ (show (-3 : Int) = if 1 ≤ n ∧ n ≤ 8 then (if len + n ≤ 200 then len + n else -5) else -3 from (by first | rfl | omega | (split <;> omega) | (split <;> split <;> omega))), trivial⟩, ⟨by rw [ht9]; exact hP9, hD9⟩⟩, hS.F ht9⟩) hS.2.2 dX9_write_12

set_option maxHeartbeats 4000000 in
set_option maxRecDepth 100000 in
theorem c_X9_erase (l : Launch) (D : va_G) (cI cJ : ClassId) (tn : Nat) (sz : Nat) (x : Nat) (t : Nat) (rdr : Nat) (g : Nat) (q1 : Nat) (h : Nat) (f : Nat) (s2 : Nat) (w : Nat) (mq : Nat) (tq : Nat) (len : Int)   : Met l yX9_erase wsX9_erase ({ frames := 0, cells := 0, slots := 0, locals := 0 } : Room) (va_Pc [.ref x] (WrP D cI cJ tn [(x, .inr (9, [.ref t, .ref rdr, .ref g, .ref q1, .ref h, .ref f, .ref s2, .ref w, .ref mq])), (t, .inr (7, [.ref tq, .int (nZ len)]))] sz)) (va_Qi (fun (r9 : Int32) (u9 : Unit) => r9 = nZ len ∧ True) (fun u9 t9 => WrQ D (va_A [(x, .inr (9, [.ref t, .ref rdr, .ref g, .ref q1, .ref h, .ref f, .ref s2, .ref w, .ref mq])), (t, .inr (7, [.ref tq, .int (nZ len)]))] sz) [(x, .inr (9, [.ref t, .ref rdr, .ref g, .ref q1, .ref h, .ref f, .ref s2, .ref w, .ref mq])), (t, .inr (7, [.ref tq, .int (nZ 0)]))] t9) (va_A [(x, .inr (9, [.ref t, .ref rdr, .ref g, .ref q1, .ref h, .ref f, .ref s2, .ref w, .ref mq])), (t, .inr (7, [.ref tq, .int (nZ len)]))] sz)) 0 0 (va_A [(x, .inr (9, [.ref t, .ref rdr, .ref g, .ref q1, .ref h, .ref f, .ref s2, .ref w, .ref mq])), (t, .inr (7, [.ref tq, .int (nZ len)]))] sz) := by
  refine Met.ofW (cc := cX9_erase) (maxL := 2) (ret := (some .int)) (by decide) rfl ?_
  intro p e s m args below meth c s₁ B hml hv
  obtain ⟨rfl, hsz, hE, hP, hD0⟩ := hv
  have hx := B.exec
  have hb := B.bytes
  have hr := B.returns
  have hts := atoms_spec (ws := wsX9_erase) B.pre
  have hown : s.vm.findClass RX9 = some m.cls := findClass_of_methodNamed B.named
  have hlocks := B.notSynchronized
  subst hsz
  have hD := hD0.self (sz := s.heap.size)
  generalize hAe : va_A [(x, .inr (9, [.ref t, .ref rdr, .ref g, .ref q1, .ref h, .ref f, .ref s2, .ref w, .ref mq])), (t, .inr (7, [.ref tq, .int (nZ len)]))] s.heap.size = A at hD hE ⊢
  have hA : ∀ q : Nat, s.heap.size ≤ q → A q := fun q h => by rw [← hAe]; exact Or.inr h
  have hS : va_S A s.heap s.heap [] := va_S.rf
  have hK := hE.1
  have hN := hE.2.1
  have hl := lv_entry ([.ref x]) (n := 2) (Nat.le_of_ble_eq_true rfl)
  rw [lg_entry_eq]
  generalize (lg_sl ([.ref x]) ++ List.replicate (2 - (lg_sl ([.ref x])).length) Slot.unset).toArray = ls at hl ⊢
  have hl : lv_has ls 2 [(0, .ref x)] := hl
  have iX7 : ∀ w ∈ u_ws RX7 TX7 2, w ∈ wsX9_erase := fun _ h => List.mem_cons_of_mem _ (List.mem_append_right _ h)
  have iX9 : ∀ w ∈ u_ws RX9 TX9 9, w ∈ wsX9_erase := fun _ h => List.mem_cons_of_mem _ (List.mem_append_left _ (List.mem_append_right _ h))
  refine lv_aload_n hx hb dX9_erase_0 rfl (lv_at hl 0 rfl) ?_
  refine va_get (D := D) (ci := 9) (v := .ref t) (C := RX9) (T := TX9) (N := 9) hx hb hts iX9 hown hK hP 0 rfl rfl 0 (by decide) (hts (.fieldLink RX9 12 "RainTarget" "text" "LRainTarget$Text;") (List.mem_of_getElem? (i := 1) rfl)) (fun _ h9 => h9) rfl dX9_erase_1 ?_
  refine va_getN (D := D) (ci := 7) (v := .int (nZ len)) (C := RX7) (T := TX7) (N := 2) hx hb hts iX7 hown hK hP 1 rfl rfl 1 (by decide) (va_Nw.use rfl (nw_X9_89 hN)) (fun _ h9 => h9) rfl dX9_erase_4 ?_
  refine lv_istore_n (lv' := [(1, .int (nZ len)), (0, .ref x)]) hx hb dX9_erase_7 rfl hl (by decide) rfl (fun ls hl => ?_)
  refine lv_aload_n hx hb dX9_erase_8 rfl (lv_at hl 1 rfl) ?_
  refine va_get (D := D) (ci := 9) (v := .ref t) (C := RX9) (T := TX9) (N := 9) hx hb hts iX9 hown hK hP 0 rfl rfl 0 (by decide) (hts (.fieldLink RX9 12 "RainTarget" "text" "LRainTarget$Text;") (List.mem_of_getElem? (i := 1) rfl)) (fun _ h9 => h9) rfl dX9_erase_9 ?_
  refine lv_iconst (v := nZ 0) hx hb dX9_erase_12 rfl ?_
  refine va_putN (D := D) (ci := 7) (v := .int (nZ 0)) (ty := .int) (C := RX7) (T := TX7) (N := 2) hx hb hts iX7 tyX7 tyX7_ok nmX7 hown hK hP hD hS 1 rfl rfl 1 (by decide) (va_Nw.use rfl (nw_X9_89 hN)) (fun _ h9 => h9) rfl (by decide +kernel) rfl rfl (Nat.le_of_ble_eq_true rfl) dX9_erase_13 (fun H locs hP hD hS => ?_)
  have hP : va_P D vwCl [(x, .inr (9, [.ref t, .ref rdr, .ref g, .ref q1, .ref h, .ref f, .ref s2, .ref w, .ref mq])), (t, .inr (7, [.ref tq, .int (nZ 0)]))] H := hP
  have hD : va_D A [(x, .inr (9, [.ref t, .ref rdr, .ref g, .ref q1, .ref h, .ref f, .ref s2, .ref w, .ref mq])), (t, .inr (7, [.ref tq, .int (nZ 0)]))] := hD
  refine lv_iload_n hx hb dX9_erase_16 rfl (lv_at hl 0 rfl) ?_
  have hP9 := hP.sub (ws' := [(x, .inr (9, [.ref t, .ref rdr, .ref g, .ref q1, .ref h, .ref f, .ref s2, .ref w, .ref mq])), (t, .inr (7, [.ref tq, .int (nZ 0)]))]) [0, 1] rfl
  have hD9 := hD.sub (ws' := [(x, .inr (9, [.ref t, .ref rdr, .ref g, .ref q1, .ref h, .ref f, .ref s2, .ref w, .ref mq])), (t, .inr (7, [.ref tq, .int (nZ 0)]))]) [0, 1] (by decide) rfl
  exact W.iret (v := nZ len) hx hb hr (fun t9 ht9 _ => ⟨⟨nZ len, (), rfl, ⟨congrArg nZ (show (len : Int) = len from (by first | rfl | omega | (split <;> omega) | (simp_all; done))), trivial⟩, ⟨by rw [ht9]; exact hP9, hD9⟩⟩, hS.F ht9⟩) hS.2.2 dX9_erase_17

set_option maxHeartbeats 4000000 in
set_option maxRecDepth 100000 in
theorem c_X9_isLeft (l : Launch) (D : va_G) (cI cJ : ClassId) (tn : Nat) (x : Nat) (t : Nat) (rdr : Nat) (g : Nat) (q1 : Nat) (h : Nat) (f : Nat) (s2 : Nat) (w : Nat) (mq : Nat) (so : Int) (sm : Int) (sp : Int) (sb : Int) (sc : Int) (sd : Int) (sl : Int) (a : Int) (b : Int) (ra : I32 a) (rb : I32 b) (rso : I32 so) (rsm : I32 sm)  : Met l yX9_isLeft wsX9_isLeft ({ frames := 1, cells := 0, slots := 0, locals := 22 } : Room) (va_Pc [.ref x, .int (nZ a), .int (nZ b)] (RoP D cI cJ tn [(x, .inr (9, [.ref t, .ref rdr, .ref g, .ref q1, .ref h, .ref f, .ref s2, .ref w, .ref mq])), (g, .inr (6, [.int (nZ so), .int (nZ sm), .int (nZ sp), .int (nZ sb), .int (nZ sc), .int (nZ sd), .int (nZ sl)]))])) (vp_Si (fun r9 : Int32 => r9 = nZ (if (0 ≤ a ∧ a ≤ so) ∧ (0 ≤ b ∧ b ≤ sm) then 1 else 0))) 0 0 (fun _ => False) := by
  refine Met.ofW (cc := cX9_isLeft) (maxL := 3) (ret := (some .boolean)) (by decide) rfl ?_
  intro p e s m args below meth c s₁ B hml hv
  obtain ⟨rfl, hE, hP⟩ := hv
  have hx := B.exec
  have hb := B.bytes
  have hr := B.returns
  have hts := atoms_spec (ws := wsX9_isLeft) B.pre
  have hown : s.vm.findClass RX9 = some m.cls := findClass_of_methodNamed B.named
  have hlocks := B.notSynchronized
  have hS : va_S (fun _ => False) s.heap s.heap [] := va_S.rf
  have hK := hE.1
  have hN := hE.2.1
  have hl := lv_entry ([.ref x, .int (nZ a), .int (nZ b)]) (n := 3) (Nat.le_of_ble_eq_true rfl)
  rw [lg_entry_eq]
  generalize (lg_sl ([.ref x, .int (nZ a), .int (nZ b)]) ++ List.replicate (3 - (lg_sl ([.ref x, .int (nZ a), .int (nZ b)])).length) Slot.unset).toArray = ls at hl ⊢
  have hl : lv_has ls 3 [(0, .ref x), (1, .int (nZ a)), (2, .int (nZ b))] := hl
  have iX6 : ∀ w ∈ u_ws RX6 TX6 7, w ∈ wsX9_isLeft := fun _ h => List.mem_cons_of_mem _ (List.mem_append_right _ h)
  have iX9 : ∀ w ∈ u_ws RX9 TX9 9, w ∈ wsX9_isLeft := fun _ h => List.mem_cons_of_mem _ (List.mem_append_left _ (List.mem_append_right _ h))
  refine lv_iload_n hx hb dX9_isLeft_0 rfl (lv_at hl 1 rfl) ?_
  refine lv_iconst (v := nZ 0) hx hb dX9_isLeft_1 rfl ?_
  refine lv_aload_n hx hb dX9_isLeft_2 rfl (lv_at hl 0 rfl) ?_
  refine va_get (D := D) (ci := 9) (v := .ref g) (C := RX9) (T := TX9) (N := 9) hx hb hts iX9 hown hK hP 0 rfl rfl 2 (by decide) (hts (.fieldLink RX9 28 "RainTarget" "settings" "LRainTarget$Settings;") (List.mem_of_getElem? (i := 1) rfl)) (fun _ h9 => h9) rfl dX9_isLeft_3 ?_
  refine va_getN (D := D) (ci := 6) (v := .int (nZ so)) (C := RX6) (T := TX6) (N := 7) hx hb hts iX6 hown hK hP 1 rfl rfl 0 (by decide) (va_Nw.use rfl (nw_X9_158 hN)) (fun _ h9 => h9) rfl dX9_isLeft_6 ?_
  refine vp_callSi ((va_runS (As := [.int (nZ a), .int (nZ 0), .int (nZ so)]) (rest := []) ⟨hx, hb, hml, hown, hts⟩ (c_X9_within l D cI cJ tn a 0 so ra (by decide) rso ) (va_cwS 3 hts gX9_isLeft_X9_within rfl rfl rfl (by decide +kernel) ⟨Nat.le_of_ble_eq_true rfl, Nat.le_of_ble_eq_true rfl⟩) ⟨RoP.blind, fun U hU hW => ⟨rfl, RoP.call hE hS (hP.sub (ws' := []) [] rfl) hU hW⟩⟩ rfl rfl hl.1 rfl (lv_room (Nat.le_of_ble_eq_true rfl)) dX9_isLeft_9 ⟨Nat.le_of_ble_eq_true rfl, Nat.le_of_ble_eq_true rfl⟩).run) (fun r9 hr9 => ?_)
  subst hr9
  refine z_nameI (fun r9 er9 => ?_)
  refine z_if_eq (tgt := 34) hx hb dX9_isLeft_12 (by decide) (by omega) (fun c_12 => ?_) (fun c_12 => ?_)
  · refine lv_iconst (v := nZ 0) hx hb dX9_isLeft_34 rfl ?_
    exact W.zret (v := nZ 0) hx hb hr (z_bool (show (0 : Int) = 0 ∨ (0 : Int) = 1 from by omega)) (fun t9 ht9 _ => ⟨nZ 0, rfl, congrArg nZ (show (0 : Int) = if (0 ≤ a ∧ a ≤ so) ∧ (0 ≤ b ∧ b ≤ sm) then 1 else 0 from (by first | rfl | omega | (split <;> omega) | (simp_all; done))), ht9⟩) (fun _ h => by cases h) dX9_isLeft_35
  · refine lv_iload_n hx hb dX9_isLeft_15 rfl (lv_at hl 2 rfl) ?_
    refine lv_iconst (v := nZ 0) hx hb dX9_isLeft_16 rfl ?_
    refine lv_aload_n hx hb dX9_isLeft_17 rfl (lv_at hl 0 rfl) ?_
    refine va_get (D := D) (ci := 9) (v := .ref g) (C := RX9) (T := TX9) (N := 9) hx hb hts iX9 hown hK hP 0 rfl rfl 2 (by decide) (hts (.fieldLink RX9 28 "RainTarget" "settings" "LRainTarget$Settings;") (List.mem_of_getElem? (i := 1) rfl)) (fun _ h9 => h9) rfl dX9_isLeft_18 ?_
    refine va_getN (D := D) (ci := 6) (v := .int (nZ sm)) (C := RX6) (T := TX6) (N := 7) hx hb hts iX6 hown hK hP 1 rfl rfl 1 (by decide) (va_Nw.use rfl (nw_X9_214 hN)) (fun _ h9 => h9) rfl dX9_isLeft_21 ?_
    refine vp_callSi ((va_runS (As := [.int (nZ b), .int (nZ 0), .int (nZ sm)]) (rest := []) ⟨hx, hb, hml, hown, hts⟩ (c_X9_within l D cI cJ tn b 0 sm rb (by decide) rsm ) (va_cwS 3 hts gX9_isLeft_X9_within rfl rfl rfl (by decide +kernel) ⟨Nat.le_of_ble_eq_true rfl, Nat.le_of_ble_eq_true rfl⟩) ⟨RoP.blind, fun U hU hW => ⟨rfl, RoP.call hE hS (hP.sub (ws' := []) [] rfl) hU hW⟩⟩ rfl rfl hl.1 rfl (lv_room (Nat.le_of_ble_eq_true rfl)) dX9_isLeft_24 ⟨Nat.le_of_ble_eq_true rfl, Nat.le_of_ble_eq_true rfl⟩).run) (fun r24 hr24 => ?_)
    subst hr24
    refine z_nameI (fun r24 er24 => ?_)
    refine z_if_eq (tgt := 34) hx hb dX9_isLeft_27 (by decide) (by omega) (fun c_27 => ?_) (fun c_27 => ?_)
    · refine lv_iconst (v := nZ 0) hx hb dX9_isLeft_34 rfl ?_
      exact W.zret (v := nZ 0) hx hb hr (z_bool (show (0 : Int) = 0 ∨ (0 : Int) = 1 from by omega)) (fun t9 ht9 _ => ⟨nZ 0, rfl, congrArg nZ (show (0 : Int) = if (0 ≤ a ∧ a ≤ so) ∧ (0 ≤ b ∧ b ≤ sm) then 1 else 0 from (by first | rfl | omega | (split <;> omega) | (simp_all; done))), ht9⟩) (fun _ h => by cases h) dX9_isLeft_35
    · refine lv_iconst (v := nZ 1) hx hb dX9_isLeft_30 rfl ?_
      refine lv_goto (tgt := 35) hx hb dX9_isLeft_31 (by decide) ?_
      exact W.zret (v := nZ 1) hx hb hr (z_bool (show (1 : Int) = 0 ∨ (1 : Int) = 1 from by omega)) (fun t9 ht9 _ => ⟨nZ 1, rfl, congrArg nZ (show (1 : Int) = if (0 ≤ a ∧ a ≤ so) ∧ (0 ≤ b ∧ b ≤ sm) then 1 else 0 from (by first | rfl | omega | (split <;> omega) | (simp_all; done))), ht9⟩) (fun _ h => by cases h) dX9_isLeft_35

set_option maxHeartbeats 4000000 in
set_option maxRecDepth 100000 in
theorem c_X9_mood (l : Launch) (D : va_G) (cI cJ : ClassId) (tn : Nat) (x : Nat) (t : Nat) (rdr : Nat) (g : Nat) (q1 : Nat) (h : Nat) (f : Nat) (s2 : Nat) (w : Nat) (mq : Nat) (p1 : Nat) (p2 : Nat) (cs : Int → Int) (mp : Int → Int) (a : Int) (b : Int) (d : Int) (hM : MoodOK cs mp) (ra : I32 a) (rb : I32 b) (rd : I32 d)  : Met l yX9_mood wsX9_mood ({ frames := 1, cells := 0, slots := 0, locals := 24 } : Room) (va_Pc [.ref x, .int (nZ a), .int (nZ b), .int (nZ d)] (RoP D cI cJ tn [(x, .inr (9, [.ref t, .ref rdr, .ref g, .ref q1, .ref h, .ref f, .ref s2, .ref w, .ref mq])), (q1, .inr (3, [.ref p1, .ref p2])), (p1, .inl (cI, 4, .inl (aZ cs))), (p2, .inl (cI, 48, .inl (aZ mp)))])) (vp_Si (fun r9 : Int32 => r9 = nZ (if 0 ≤ a ∧ a ≤ 3 then (if d = -1 then cs a else if 0 ≤ b ∧ b < cs a then (if 0 ≤ d ∧ d ≤ 2 then mp (12 * a + 3 * b + d) else -3) else -2) else -2))) 0 0 (fun _ => False) := by
  refine Met.ofW (cc := cX9_mood) (maxL := 4) (ret := (some .int)) (by decide) rfl ?_
  intro p e s m args below meth c s₁ B hml hv
  obtain ⟨rfl, hE, hP⟩ := hv
  have hx := B.exec
  have hb := B.bytes
  have hr := B.returns
  have hts := atoms_spec (ws := wsX9_mood) B.pre
  have hown : s.vm.findClass RX9 = some m.cls := findClass_of_methodNamed B.named
  have hlocks := B.notSynchronized
  have hS : va_S (fun _ => False) s.heap s.heap [] := va_S.rf
  have hK := hE.1
  have hN := hE.2.1
  have hl := lv_entry ([.ref x, .int (nZ a), .int (nZ b), .int (nZ d)]) (n := 4) (Nat.le_of_ble_eq_true rfl)
  rw [lg_entry_eq]
  generalize (lg_sl ([.ref x, .int (nZ a), .int (nZ b), .int (nZ d)]) ++ List.replicate (4 - (lg_sl ([.ref x, .int (nZ a), .int (nZ b), .int (nZ d)])).length) Slot.unset).toArray = ls at hl ⊢
  have hl : lv_has ls 4 [(0, .ref x), (1, .int (nZ a)), (2, .int (nZ b)), (3, .int (nZ d))] := hl
  have iX9 : ∀ w ∈ u_ws RX9 TX9 9, w ∈ wsX9_mood := fun _ h => List.mem_cons_of_mem _ (List.mem_append_left _ (List.mem_append_right _ h))
  refine lv_iload_n hx hb dX9_mood_0 rfl (lv_at hl 1 rfl) ?_
  refine lv_iconst (v := nZ 0) hx hb dX9_mood_1 rfl ?_
  refine lv_iconst (v := nZ 3) hx hb dX9_mood_2 rfl ?_
  refine vp_callSi ((va_runS (As := [.int (nZ a), .int (nZ 0), .int (nZ 3)]) (rest := []) ⟨hx, hb, hml, hown, hts⟩ (c_X9_within l D cI cJ tn a 0 3 ra (by decide) (by decide) ) (va_cwS 3 hts gX9_mood_X9_within rfl rfl rfl (by decide +kernel) ⟨Nat.le_of_ble_eq_true rfl, Nat.le_of_ble_eq_true rfl⟩) ⟨RoP.blind, fun U hU hW => ⟨rfl, RoP.call hE hS (hP.sub (ws' := []) [] rfl) hU hW⟩⟩ rfl rfl hl.1 rfl (lv_room (Nat.le_of_ble_eq_true rfl)) dX9_mood_3 ⟨Nat.le_of_ble_eq_true rfl, Nat.le_of_ble_eq_true rfl⟩).run) (fun r3 hr3 => ?_)
  subst hr3
  refine z_nameI (fun r3 er3 => ?_)
  refine z_if_ne (tgt := 12) hx hb dX9_mood_6 (by decide) (by omega) (fun c_6 => ?_) (fun c_6 => ?_)
  · have hca := (hM a (by omega) (by omega)).1
    refine lv_iload_n hx hb dX9_mood_12 rfl (lv_at hl 3 rfl) ?_
    refine lv_iconst (v := nZ (-1)) hx hb dX9_mood_13 rfl ?_
    refine z_icmp_ne (tgt := 26) hx hb dX9_mood_14 (by decide) (by omega) (by decide) (fun c_14 => ?_) (fun c_14 => ?_)
    · refine lv_iload_n hx hb dX9_mood_26 rfl (lv_at hl 2 rfl) ?_
      refine lv_iconst (v := nZ 0) hx hb dX9_mood_27 rfl ?_
      refine lv_aload_n hx hb dX9_mood_28 rfl (lv_at hl 0 rfl) ?_
      refine va_get (D := D) (ci := 9) (v := .ref q1) (C := RX9) (T := TX9) (N := 9) hx hb hts iX9 hown hK hP 0 rfl rfl 3 (by decide) (hts (.fieldLink RX9 35 "RainTarget" "moods" "LRainTarget$Moods;") (List.mem_of_getElem? (i := 1) rfl)) (fun _ h9 => h9) rfl dX9_mood_29 ?_
      refine lv_iload_n hx hb dX9_mood_32 rfl (lv_at hl 1 rfl) ?_
      refine vp_callSi ((va_runVN (As := [.int (nZ a)]) (rest := [.int (nZ 0), .int (nZ b)]) ⟨hx, hb, hml, hown, hts⟩ (c_X3_size l D cI cJ tn q1 p1 p2 cs a ra ) ⟨va_cnB 1 hts gX9_mood_X3_size_n114 rfl rfl rfl (nw_X9_114 hN) (hts (.initialized RX3) (List.mem_of_getElem? (i := 7) rfl)) (by decide +kernel) ⟨Nat.le_of_ble_eq_true rfl, Nat.le_of_ble_eq_true rfl⟩, (hts (.instanceMethod yX3_size) (List.mem_of_getElem? (i := 6) rfl)), (hts (.selects RX3 yX3_size yX3_size) (List.mem_of_getElem? (i := 8) rfl))⟩ ⟨RoP.blind, va_recv hK hP (ci := 3) (q0 := 1) rfl rfl, fun U hU hW => ⟨rfl, RoP.call hE hS (hP.sub (ws' := [(q1, .inr (3, [.ref p1, .ref p2])), (p1, .inl (cI, 4, .inl (aZ cs)))]) [1, 2] rfl) hU hW⟩⟩ rfl rfl hl.1 rfl (lv_room (Nat.le_of_ble_eq_true rfl)) dX9_mood_33 ⟨Nat.le_of_ble_eq_true rfl, Nat.le_of_ble_eq_true rfl⟩).run) (fun r33 hr33 => ?_)
      subst hr33
      refine z_nameI (fun r33 er33 => ?_)
      have e33 : r33 = cs a := by rw [er33, if_pos (by omega)]
      refine lv_iconst (v := nZ 1) hx hb dX9_mood_36 rfl ?_
      refine z_isub hx hb dX9_mood_37 ?_
      refine vp_callSi ((va_runS (As := [.int (nZ b), .int (nZ 0), .int (nZ (r33 - 1))]) (rest := []) ⟨hx, hb, hml, hown, hts⟩ (c_X9_within l D cI cJ tn b 0 (r33 - 1) rb (by decide) (by omega) ) (va_cwS 3 hts gX9_mood_X9_within rfl rfl rfl (by decide +kernel) ⟨Nat.le_of_ble_eq_true rfl, Nat.le_of_ble_eq_true rfl⟩) ⟨RoP.blind, fun U hU hW => ⟨rfl, RoP.call hE hS (hP.sub (ws' := []) [] rfl) hU hW⟩⟩ rfl rfl hl.1 rfl (lv_room (Nat.le_of_ble_eq_true rfl)) dX9_mood_38 ⟨Nat.le_of_ble_eq_true rfl, Nat.le_of_ble_eq_true rfl⟩).run) (fun r38 hr38 => ?_)
      subst hr38
      refine z_nameI (fun r38 er38 => ?_)
      refine z_if_ne (tgt := 47) hx hb dX9_mood_41 (by decide) (by omega) (fun c_41 => ?_) (fun c_41 => ?_)
      · refine lv_iload_n hx hb dX9_mood_47 rfl (lv_at hl 3 rfl) ?_
        refine lv_iconst (v := nZ 0) hx hb dX9_mood_48 rfl ?_
        refine lv_iconst (v := nZ 2) hx hb dX9_mood_49 rfl ?_
        refine vp_callSi ((va_runS (As := [.int (nZ d), .int (nZ 0), .int (nZ 2)]) (rest := []) ⟨hx, hb, hml, hown, hts⟩ (c_X9_within l D cI cJ tn d 0 2 rd (by decide) (by decide) ) (va_cwS 3 hts gX9_mood_X9_within rfl rfl rfl (by decide +kernel) ⟨Nat.le_of_ble_eq_true rfl, Nat.le_of_ble_eq_true rfl⟩) ⟨RoP.blind, fun U hU hW => ⟨rfl, RoP.call hE hS (hP.sub (ws' := []) [] rfl) hU hW⟩⟩ rfl rfl hl.1 rfl (lv_room (Nat.le_of_ble_eq_true rfl)) dX9_mood_50 ⟨Nat.le_of_ble_eq_true rfl, Nat.le_of_ble_eq_true rfl⟩).run) (fun r50 hr50 => ?_)
        subst hr50
        refine z_nameI (fun r50 er50 => ?_)
        refine z_if_ne (tgt := 59) hx hb dX9_mood_53 (by decide) (by omega) (fun c_53 => ?_) (fun c_53 => ?_)
        · refine lv_aload_n hx hb dX9_mood_59 rfl (lv_at hl 0 rfl) ?_
          refine va_get (D := D) (ci := 9) (v := .ref q1) (C := RX9) (T := TX9) (N := 9) hx hb hts iX9 hown hK hP 0 rfl rfl 3 (by decide) (hts (.fieldLink RX9 35 "RainTarget" "moods" "LRainTarget$Moods;") (List.mem_of_getElem? (i := 1) rfl)) (fun _ h9 => h9) rfl dX9_mood_60 ?_
          refine lv_iload_n hx hb dX9_mood_63 rfl (lv_at hl 1 rfl) ?_
          refine lv_iload_n hx hb dX9_mood_64 rfl (lv_at hl 2 rfl) ?_
          refine lv_iload_n hx hb dX9_mood_65 rfl (lv_at hl 3 rfl) ?_
          refine vp_callSi ((va_runVN (As := [.int (nZ a), .int (nZ b), .int (nZ d)]) (rest := []) ⟨hx, hb, hml, hown, hts⟩ (c_X3_part l D cI cJ tn q1 p1 p2 mp a b d (by first | assumption | omega) (by first | assumption | omega) (by first | assumption | omega) ) ⟨va_cnB 3 hts gX9_mood_X3_part_n118 rfl rfl rfl (nw_X9_118 hN) (hts (.initialized RX3) (List.mem_of_getElem? (i := 7) rfl)) (by decide +kernel) ⟨Nat.le_of_ble_eq_true rfl, Nat.le_of_ble_eq_true rfl⟩, (hts (.instanceMethod yX3_part) (List.mem_of_getElem? (i := 11) rfl)), (hts (.selects RX3 yX3_part yX3_part) (List.mem_of_getElem? (i := 12) rfl))⟩ ⟨RoP.blind, va_recv hK hP (ci := 3) (q0 := 1) rfl rfl, fun U hU hW => ⟨rfl, RoP.call hE hS (hP.sub (ws' := [(q1, .inr (3, [.ref p1, .ref p2])), (p2, .inl (cI, 48, .inl (aZ mp)))]) [1, 3] rfl) hU hW⟩⟩ rfl rfl hl.1 rfl (lv_room (Nat.le_of_ble_eq_true rfl)) dX9_mood_66 ⟨Nat.le_of_ble_eq_true rfl, Nat.le_of_ble_eq_true rfl⟩).run) (fun r66 hr66 => ?_)
          subst hr66
          refine z_nameI (fun r66 er66 => ?_)
          have e66 : r66 = mp (12 * a + 3 * b + d) := by rw [er66, if_pos (by omega)]
          exact W.iret (v := nZ r66) hx hb hr (fun t9 ht9 _ => ⟨nZ r66, rfl, congrArg nZ (show (r66 : Int) = if 0 ≤ a ∧ a ≤ 3 then (if d = -1 then cs a else if 0 ≤ b ∧ b < cs a then (if 0 ≤ d ∧ d ≤ 2 then mp (12 * a + 3 * b + d) else -3) else -2) else -2 from (by rw [e66, if_pos (by omega), if_neg (by omega), if_pos (by omega), if_pos (by omega)])), ht9⟩) (fun _ h => by cases h) dX9_mood_69
        · refine lv_bipush (v := nZ (-3)) hx hb dX9_mood_56 (by decide) ?_
          exact W.iret (v := nZ (-3)) hx hb hr (fun t9 ht9 _ => ⟨nZ (-3), rfl, congrArg nZ (show (-3 : Int) = if 0 ≤ a ∧ a ≤ 3 then (if d = -1 then cs a else if 0 ≤ b ∧ b < cs a then (if 0 ≤ d ∧ d ≤ 2 then mp (12 * a + 3 * b + d) else -3) else -2) else -2 from (by rw [if_pos (by omega), if_neg (by omega), if_pos (by omega), if_neg (by omega)])), ht9⟩) (fun _ h => by cases h) dX9_mood_58
      · refine lv_bipush (v := nZ (-2)) hx hb dX9_mood_44 (by decide) ?_
        exact W.iret (v := nZ (-2)) hx hb hr (fun t9 ht9 _ => ⟨nZ (-2), rfl, congrArg nZ (show (-2 : Int) = if 0 ≤ a ∧ a ≤ 3 then (if d = -1 then cs a else if 0 ≤ b ∧ b < cs a then (if 0 ≤ d ∧ d ≤ 2 then mp (12 * a + 3 * b + d) else -3) else -2) else -2 from (by rw [if_pos (by omega), if_neg (by omega), if_neg (by omega)])), ht9⟩) (fun _ h => by cases h) dX9_mood_46
    · refine lv_aload_n hx hb dX9_mood_17 rfl (lv_at hl 0 rfl) ?_
      refine va_get (D := D) (ci := 9) (v := .ref q1) (C := RX9) (T := TX9) (N := 9) hx hb hts iX9 hown hK hP 0 rfl rfl 3 (by decide) (hts (.fieldLink RX9 35 "RainTarget" "moods" "LRainTarget$Moods;") (List.mem_of_getElem? (i := 1) rfl)) (fun _ h9 => h9) rfl dX9_mood_18 ?_
      refine lv_iload_n hx hb dX9_mood_21 rfl (lv_at hl 1 rfl) ?_
      refine vp_callSi ((va_runVN (As := [.int (nZ a)]) (rest := []) ⟨hx, hb, hml, hown, hts⟩ (c_X3_size l D cI cJ tn q1 p1 p2 cs a ra ) ⟨va_cnB 1 hts gX9_mood_X3_size_n114 rfl rfl rfl (nw_X9_114 hN) (hts (.initialized RX3) (List.mem_of_getElem? (i := 7) rfl)) (by decide +kernel) ⟨Nat.le_of_ble_eq_true rfl, Nat.le_of_ble_eq_true rfl⟩, (hts (.instanceMethod yX3_size) (List.mem_of_getElem? (i := 6) rfl)), (hts (.selects RX3 yX3_size yX3_size) (List.mem_of_getElem? (i := 8) rfl))⟩ ⟨RoP.blind, va_recv hK hP (ci := 3) (q0 := 1) rfl rfl, fun U hU hW => ⟨rfl, RoP.call hE hS (hP.sub (ws' := [(q1, .inr (3, [.ref p1, .ref p2])), (p1, .inl (cI, 4, .inl (aZ cs)))]) [1, 2] rfl) hU hW⟩⟩ rfl rfl hl.1 rfl (lv_room (Nat.le_of_ble_eq_true rfl)) dX9_mood_22 ⟨Nat.le_of_ble_eq_true rfl, Nat.le_of_ble_eq_true rfl⟩).run) (fun r22 hr22 => ?_)
      subst hr22
      refine z_nameI (fun r22 er22 => ?_)
      have e22 : r22 = cs a := by rw [er22, if_pos (by omega)]
      exact W.iret (v := nZ r22) hx hb hr (fun t9 ht9 _ => ⟨nZ r22, rfl, congrArg nZ (show (r22 : Int) = if 0 ≤ a ∧ a ≤ 3 then (if d = -1 then cs a else if 0 ≤ b ∧ b < cs a then (if 0 ≤ d ∧ d ≤ 2 then mp (12 * a + 3 * b + d) else -3) else -2) else -2 from (by rw [e22, if_pos (by omega), if_pos (by omega)])), ht9⟩) (fun _ h => by cases h) dX9_mood_25
  · refine lv_bipush (v := nZ (-2)) hx hb dX9_mood_9 (by decide) ?_
    exact W.iret (v := nZ (-2)) hx hb hr (fun t9 ht9 _ => ⟨nZ (-2), rfl, congrArg nZ (show (-2 : Int) = if 0 ≤ a ∧ a ≤ 3 then (if d = -1 then cs a else if 0 ≤ b ∧ b < cs a then (if 0 ≤ d ∧ d ≤ 2 then mp (12 * a + 3 * b + d) else -3) else -2) else -2 from (by rw [if_neg (by omega)])), ht9⟩) (fun _ h => by cases h) dX9_mood_11

set_option maxHeartbeats 4000000 in
set_option maxRecDepth 100000 in
theorem c_X9_spend (l : Launch) (D : va_G) (cI cJ : ClassId) (tn : Nat) (x : Nat) (t : Nat) (rdr : Nat) (g : Nat) (q1 : Nat) (h : Nat) (f : Nat) (s2 : Nat) (w : Nat) (mq : Nat) (q2 : Nat) (q3 : Nat) (me : Int → Int) (cs : Int → Int) (mp : Int → Int) (so : Int) (sm : Int) (sp : Int) (sb : Int) (sc : Int) (sd : Int) (sl : Int) (a : Int) (b : Int) (hM : MoodOK cs mp) (hMe : MeanOK cs mp me) (ho1 : 1 ≤ so) (ho : so ≤ 12) (hm0 : 0 ≤ sm) (hm : sm ≤ 10) (ra : I32 a) (rb : I32 b)  : Met l yX9_spend wsX9_spend ({ frames := 3, cells := 0, slots := 0, locals := 69 } : Room) (va_Pc [.ref x, .int (nZ a), .int (nZ b)] (RoP D cI cJ tn [(x, .inr (9, [.ref t, .ref rdr, .ref g, .ref q1, .ref h, .ref f, .ref s2, .ref w, .ref mq])), (g, .inr (6, [.int (nZ so), .int (nZ sm), .int (nZ sp), .int (nZ sb), .int (nZ sc), .int (nZ sd), .int (nZ sl)])), (h, .inr (0, [.ref q1, .ref q2, .ref q3])), (q2, .inl (cJ, 143, .inr (.inl (bZ me))))])) (vp_Si (fun r9 : Int32 => r9 = nZ (if (0 ≤ a ∧ a ≤ so) ∧ (0 ≤ b ∧ b ≤ sm) then SP cs mp so sm a b else -3))) 0 0 (fun _ => False) := by
  refine Met.ofW (cc := cX9_spend) (maxL := 3) (ret := (some .int)) (by decide) rfl ?_
  intro p e s m args below meth c s₁ B hml hv
  obtain ⟨rfl, hE, hP⟩ := hv
  have hx := B.exec
  have hb := B.bytes
  have hr := B.returns
  have hts := atoms_spec (ws := wsX9_spend) B.pre
  have hown : s.vm.findClass RX9 = some m.cls := findClass_of_methodNamed B.named
  have hlocks := B.notSynchronized
  have hS : va_S (fun _ => False) s.heap s.heap [] := va_S.rf
  have hK := hE.1
  have hN := hE.2.1
  have hl := lv_entry ([.ref x, .int (nZ a), .int (nZ b)]) (n := 3) (Nat.le_of_ble_eq_true rfl)
  rw [lg_entry_eq]
  generalize (lg_sl ([.ref x, .int (nZ a), .int (nZ b)]) ++ List.replicate (3 - (lg_sl ([.ref x, .int (nZ a), .int (nZ b)])).length) Slot.unset).toArray = ls at hl ⊢
  have hl : lv_has ls 3 [(0, .ref x), (1, .int (nZ a)), (2, .int (nZ b))] := hl
  have iX9 : ∀ w ∈ u_ws RX9 TX9 9, w ∈ wsX9_spend := fun _ h => List.mem_cons_of_mem _ (List.mem_append_left _ (List.mem_append_left _ (List.mem_append_right _ h)))
  refine lv_aload_n hx hb dX9_spend_0 rfl (lv_at hl 0 rfl) ?_
  refine lv_iload_n hx hb dX9_spend_1 rfl (lv_at hl 1 rfl) ?_
  refine lv_iload_n hx hb dX9_spend_2 rfl (lv_at hl 2 rfl) ?_
  refine vp_callSi ((va_runV (As := [.int (nZ a), .int (nZ b)]) (rest := []) ⟨hx, hb, hml, hown, hts⟩ (c_X9_isLeft l D cI cJ tn x t rdr g q1 h f s2 w mq so sm sp sb sc sd sl a b ra rb (by omega) (by omega) ) (cwV 2 hts gX9_spend_X9_isLeft rfl rfl rfl (by decide +kernel) ⟨Nat.le_of_ble_eq_true rfl, Nat.le_of_ble_eq_true rfl⟩) ⟨RoP.blind, va_recv hK hP (ci := 9) (q0 := 0) rfl rfl, fun U hU hW => ⟨rfl, RoP.call hE hS (hP.sub (ws' := [(x, .inr (9, [.ref t, .ref rdr, .ref g, .ref q1, .ref h, .ref f, .ref s2, .ref w, .ref mq])), (g, .inr (6, [.int (nZ so), .int (nZ sm), .int (nZ sp), .int (nZ sb), .int (nZ sc), .int (nZ sd), .int (nZ sl)]))]) [0, 1] rfl) hU hW⟩⟩ rfl rfl hl.1 rfl (lv_room (Nat.le_of_ble_eq_true rfl)) dX9_spend_3 ⟨Nat.le_of_ble_eq_true rfl, Nat.le_of_ble_eq_true rfl⟩).run) (fun r3 hr3 => ?_)
  subst hr3
  refine z_nameI (fun r3 er3 => ?_)
  refine z_if_ne (tgt := 12) hx hb dX9_spend_6 (by decide) (by omega) (fun c_6 => ?_) (fun c_6 => ?_)
  · refine lv_aload_n hx hb dX9_spend_12 rfl (lv_at hl 0 rfl) ?_
    refine va_get (D := D) (ci := 9) (v := .ref h) (C := RX9) (T := TX9) (N := 9) hx hb hts iX9 hown hK hP 0 rfl rfl 4 (by decide) (hts (.fieldLink RX9 44 "RainTarget" "batting" "LRainTarget$Batting;") (List.mem_of_getElem? (i := 1) rfl)) (fun _ h9 => h9) rfl dX9_spend_13 ?_
    refine lv_iload_n hx hb dX9_spend_16 rfl (lv_at hl 1 rfl) ?_
    refine lv_iload_n hx hb dX9_spend_17 rfl (lv_at hl 2 rfl) ?_
    refine lv_aload_n hx hb dX9_spend_18 rfl (lv_at hl 0 rfl) ?_
    refine va_get (D := D) (ci := 9) (v := .ref g) (C := RX9) (T := TX9) (N := 9) hx hb hts iX9 hown hK hP 0 rfl rfl 2 (by decide) (hts (.fieldLink RX9 28 "RainTarget" "settings" "LRainTarget$Settings;") (List.mem_of_getElem? (i := 2) rfl)) (fun _ h9 => h9) rfl dX9_spend_19 ?_
    refine vp_callSi ((va_runVN (As := [.int (nZ a), .int (nZ b), .ref g]) (rest := []) ⟨hx, hb, hml, hown, hts⟩ (c_X0_share l D cI cJ tn h q1 q2 q3 g me cs mp so sm sp sb sc sd sl a b hM hMe ho hm (by first | assumption | omega) (by first | assumption | omega) (by first | assumption | omega) (by first | assumption | omega) ) ⟨va_cnB 3 hts gX9_spend_X0_share_n151 rfl rfl rfl (nw_X9_151 hN) (hts (.initialized RX0) (List.mem_of_getElem? (i := 12) rfl)) (by decide +kernel) ⟨Nat.le_of_ble_eq_true rfl, Nat.le_of_ble_eq_true rfl⟩, (hts (.instanceMethod yX0_share) (List.mem_of_getElem? (i := 11) rfl)), (hts (.selects RX0 yX0_share yX0_share) (List.mem_of_getElem? (i := 13) rfl))⟩ ⟨RoP.blind, va_recv hK hP (ci := 0) (q0 := 2) rfl rfl, fun U hU hW => ⟨rfl, RoP.call hE hS (hP.sub (ws' := [(h, .inr (0, [.ref q1, .ref q2, .ref q3])), (q2, .inl (cJ, 143, .inr (.inl (bZ me)))), (g, .inr (6, [.int (nZ so), .int (nZ sm), .int (nZ sp), .int (nZ sb), .int (nZ sc), .int (nZ sd), .int (nZ sl)]))]) [2, 3, 1] rfl) hU hW⟩⟩ rfl rfl hl.1 rfl (lv_room (Nat.le_of_ble_eq_true rfl)) dX9_spend_22 ⟨Nat.le_of_ble_eq_true rfl, Nat.le_of_ble_eq_true rfl⟩).run) (fun r22 hr22 => ?_)
    subst hr22
    refine z_nameI (fun r22 er22 => ?_)
    exact W.iret (v := nZ r22) hx hb hr (fun t9 ht9 _ => ⟨nZ r22, rfl, congrArg nZ (show (r22 : Int) = if (0 ≤ a ∧ a ≤ so) ∧ (0 ≤ b ∧ b ≤ sm) then SP cs mp so sm a b else -3 from (by rw [er22, if_pos (by omega)])), ht9⟩) (fun _ h => by cases h) dX9_spend_25
  · refine lv_bipush (v := nZ (-3)) hx hb dX9_spend_9 (by decide) ?_
    exact W.iret (v := nZ (-3)) hx hb hr (fun t9 ht9 _ => ⟨nZ (-3), rfl, congrArg nZ (show (-3 : Int) = if (0 ≤ a ∧ a ≤ so) ∧ (0 ≤ b ∧ b ≤ sm) then SP cs mp so sm a b else -3 from (by rw [if_neg (by omega)])), ht9⟩) (fun _ h => by cases h) dX9_spend_11

set_option maxHeartbeats 4000000 in
set_option maxRecDepth 100000 in
theorem c_X9_bat (l : Launch) (D : va_G) (cI cJ : ClassId) (tn : Nat) (sz : Nat) (x : Nat) (t : Nat) (rdr : Nat) (g : Nat) (q1 : Nat) (h : Nat) (f : Nat) (s2 : Nat) (w : Nat) (mq : Nat) (fq : Nat) (fo : Int → Int) (so : Int) (sm : Int) (sp : Int) (sb : Int) (sc : Int) (sd : Int) (sl : Int) (told : Int) (tot : Int) (a : Int) (ra : I32 a) (ho : so ≤ 12) (ho1 : 1 ≤ so) (ht0 : 0 ≤ told) (ht1 : told ≤ so)  : Met l yX9_bat wsX9_bat ({ frames := 2, cells := 0, slots := 0, locals := 43 } : Room) (va_Pc [.ref x, .int (nZ a)] (WrP D cI cJ tn [(x, .inr (9, [.ref t, .ref rdr, .ref g, .ref q1, .ref h, .ref f, .ref s2, .ref w, .ref mq])), (g, .inr (6, [.int (nZ so), .int (nZ sm), .int (nZ sp), .int (nZ sb), .int (nZ sc), .int (nZ sd), .int (nZ sl)])), (f, .inr (1, [.ref fq, .int (nZ told), .int (nZ tot)])), (fq, .inl (cI, 12, .inl (aZ fo)))] sz)) (va_Qi (fun (r9 : Int32) (u9 : Unit) => r9 = nZ (if 0 ≤ a ∧ a ≤ 36 then (if told < so then told + 1 else -5) else -3) ∧ True) (fun u9 t9 => WrQ D (va_A [(x, .inr (9, [.ref t, .ref rdr, .ref g, .ref q1, .ref h, .ref f, .ref s2, .ref w, .ref mq])), (g, .inr (6, [.int (nZ so), .int (nZ sm), .int (nZ sp), .int (nZ sb), .int (nZ sc), .int (nZ sd), .int (nZ sl)])), (f, .inr (1, [.ref fq, .int (nZ told), .int (nZ tot)])), (fq, .inl (cI, 12, .inl (aZ fo)))] sz) [(x, .inr (9, [.ref t, .ref rdr, .ref g, .ref q1, .ref h, .ref f, .ref s2, .ref w, .ref mq])), (g, .inr (6, [.int (nZ so), .int (nZ sm), .int (nZ sp), .int (nZ sb), .int (nZ sc), .int (nZ sd), .int (nZ sl)])), (f, .inr (1, [.ref fq, .int (nZ (if (0 ≤ a ∧ a ≤ 36) ∧ told < so then told + 1 else told)), .int (nZ (if (0 ≤ a ∧ a ≤ 36) ∧ told < so then tot + a else tot))])), (fq, .inl (cI, 12, .inl (aZ (if (0 ≤ a ∧ a ≤ 36) ∧ told < so then uZ fo told a else fo))))] t9) (va_A [(x, .inr (9, [.ref t, .ref rdr, .ref g, .ref q1, .ref h, .ref f, .ref s2, .ref w, .ref mq])), (g, .inr (6, [.int (nZ so), .int (nZ sm), .int (nZ sp), .int (nZ sb), .int (nZ sc), .int (nZ sd), .int (nZ sl)])), (f, .inr (1, [.ref fq, .int (nZ told), .int (nZ tot)])), (fq, .inl (cI, 12, .inl (aZ fo)))] sz)) 0 0 (va_A [(x, .inr (9, [.ref t, .ref rdr, .ref g, .ref q1, .ref h, .ref f, .ref s2, .ref w, .ref mq])), (g, .inr (6, [.int (nZ so), .int (nZ sm), .int (nZ sp), .int (nZ sb), .int (nZ sc), .int (nZ sd), .int (nZ sl)])), (f, .inr (1, [.ref fq, .int (nZ told), .int (nZ tot)])), (fq, .inl (cI, 12, .inl (aZ fo)))] sz) := by
  refine Met.ofW (cc := cX9_bat) (maxL := 2) (ret := (some .int)) (by decide) rfl ?_
  intro p e s m args below meth c s₁ B hml hv
  obtain ⟨rfl, hsz, hE, hP, hD0⟩ := hv
  have hx := B.exec
  have hb := B.bytes
  have hr := B.returns
  have hts := atoms_spec (ws := wsX9_bat) B.pre
  have hown : s.vm.findClass RX9 = some m.cls := findClass_of_methodNamed B.named
  have hlocks := B.notSynchronized
  subst hsz
  have hD := hD0.self (sz := s.heap.size)
  generalize hAe : va_A [(x, .inr (9, [.ref t, .ref rdr, .ref g, .ref q1, .ref h, .ref f, .ref s2, .ref w, .ref mq])), (g, .inr (6, [.int (nZ so), .int (nZ sm), .int (nZ sp), .int (nZ sb), .int (nZ sc), .int (nZ sd), .int (nZ sl)])), (f, .inr (1, [.ref fq, .int (nZ told), .int (nZ tot)])), (fq, .inl (cI, 12, .inl (aZ fo)))] s.heap.size = A at hD hE ⊢
  have hA : ∀ q : Nat, s.heap.size ≤ q → A q := fun q h => by rw [← hAe]; exact Or.inr h
  have hS : va_S A s.heap s.heap [] := va_S.rf
  have hK := hE.1
  have hN := hE.2.1
  have hl := lv_entry ([.ref x, .int (nZ a)]) (n := 2) (Nat.le_of_ble_eq_true rfl)
  rw [lg_entry_eq]
  generalize (lg_sl ([.ref x, .int (nZ a)]) ++ List.replicate (2 - (lg_sl ([.ref x, .int (nZ a)])).length) Slot.unset).toArray = ls at hl ⊢
  have hl : lv_has ls 2 [(0, .ref x), (1, .int (nZ a))] := hl
  have iX1 : ∀ w ∈ u_ws RX1 TX1 3, w ∈ wsX9_bat := fun _ h => List.mem_cons_of_mem _ (List.mem_append_left _ (List.mem_append_right _ h))
  have iX6 : ∀ w ∈ u_ws RX6 TX6 7, w ∈ wsX9_bat := fun _ h => List.mem_cons_of_mem _ (List.mem_append_right _ h)
  have iX9 : ∀ w ∈ u_ws RX9 TX9 9, w ∈ wsX9_bat := fun _ h => List.mem_cons_of_mem _ (List.mem_append_left _ (List.mem_append_left _ (List.mem_append_right _ h)))
  refine lv_iload_n hx hb dX9_bat_0 rfl (lv_at hl 1 rfl) ?_
  refine lv_iconst (v := nZ 0) hx hb dX9_bat_1 rfl ?_
  refine lv_bipush (v := nZ 36) hx hb dX9_bat_2 (by decide) ?_
  refine vp_callSi ((va_runS (As := [.int (nZ a), .int (nZ 0), .int (nZ 36)]) (rest := []) ⟨hx, hb, hml, hown, hts⟩ (c_X9_within l D cI cJ tn a 0 36 ra (by decide) (by decide) ) (va_cwS 3 hts gX9_bat_X9_within rfl rfl rfl (by decide +kernel) ⟨Nat.le_of_ble_eq_true rfl, Nat.le_of_ble_eq_true rfl⟩) ⟨RoP.blind, fun U hU hW => ⟨rfl, RoP.call hE hS (hP.sub (ws' := []) [] rfl) hU hW⟩⟩ rfl rfl hl.1 rfl (lv_room (Nat.le_of_ble_eq_true rfl)) dX9_bat_4 ⟨Nat.le_of_ble_eq_true rfl, Nat.le_of_ble_eq_true rfl⟩).run) (fun r4 hr4 => ?_)
  subst hr4
  refine z_nameI (fun r4 er4 => ?_)
  refine z_if_ne (tgt := 13) hx hb dX9_bat_7 (by decide) (by omega) (fun c_7 => ?_) (fun c_7 => ?_)
  · refine lv_aload_n hx hb dX9_bat_13 rfl (lv_at hl 0 rfl) ?_
    refine va_get (D := D) (ci := 9) (v := .ref f) (C := RX9) (T := TX9) (N := 9) hx hb hts iX9 hown hK hP 0 rfl rfl 5 (by decide) (hts (.fieldLink RX9 51 "RainTarget" "first" "LRainTarget$FirstSide;") (List.mem_of_getElem? (i := 1) rfl)) (fun _ h9 => h9) rfl dX9_bat_14 ?_
    refine va_getN (D := D) (ci := 1) (v := .int (nZ told)) (C := RX1) (T := TX1) (N := 3) hx hb hts iX1 hown hK hP 2 rfl rfl 1 (by decide) (va_Nw.use rfl (nw_X9_155 hN)) (fun _ h9 => h9) rfl dX9_bat_17 ?_
    refine lv_aload_n hx hb dX9_bat_20 rfl (lv_at hl 0 rfl) ?_
    refine va_get (D := D) (ci := 9) (v := .ref g) (C := RX9) (T := TX9) (N := 9) hx hb hts iX9 hown hK hP 0 rfl rfl 2 (by decide) (hts (.fieldLink RX9 28 "RainTarget" "settings" "LRainTarget$Settings;") (List.mem_of_getElem? (i := 2) rfl)) (fun _ h9 => h9) rfl dX9_bat_21 ?_
    refine va_getN (D := D) (ci := 6) (v := .int (nZ so)) (C := RX6) (T := TX6) (N := 7) hx hb hts iX6 hown hK hP 1 rfl rfl 0 (by decide) (va_Nw.use rfl (nw_X9_158 hN)) (fun _ h9 => h9) rfl dX9_bat_24 ?_
    refine z_icmp_lt (tgt := 33) hx hb dX9_bat_27 (by decide) (by omega) (by omega) (fun c_27 => ?_) (fun c_27 => ?_)
    · refine lv_aload_n hx hb dX9_bat_33 rfl (lv_at hl 0 rfl) ?_
      refine va_get (D := D) (ci := 9) (v := .ref f) (C := RX9) (T := TX9) (N := 9) hx hb hts iX9 hown hK hP 0 rfl rfl 5 (by decide) (hts (.fieldLink RX9 51 "RainTarget" "first" "LRainTarget$FirstSide;") (List.mem_of_getElem? (i := 1) rfl)) (fun _ h9 => h9) rfl dX9_bat_34 ?_
      refine lv_iload_n hx hb dX9_bat_37 rfl (lv_at hl 1 rfl) ?_
      have hFc := va_free (wc := [(f, .inr (1, [.ref fq, .int (nZ told), .int (nZ tot)])), (fq, .inl (cI, 12, .inl (aZ fo)))]) hD hS hA [2, 3] rfl
      have hPc := hP.sub (ws' := [(f, .inr (1, [.ref fq, .int (nZ told), .int (nZ tot)])), (fq, .inl (cI, 12, .inl (aZ fo)))]) [2, 3] rfl
      have hDc := hD.sub (ws' := [(f, .inr (1, [.ref fq, .int (nZ told), .int (nZ tot)])), (fq, .inl (cI, 12, .inl (aZ fo)))]) [2, 3] (by decide) rfl
      refine va_callv (va_runVN (As := [.int (nZ a)]) (rest := []) ⟨hx, hb, hml, hown, hts⟩ (c_X1_add l D cI cJ tn s.heap.size f fq fo told tot a ht0 (by first | assumption | omega) ) ⟨va_cnB 1 hts gX9_bat_X1_add_n161 rfl rfl rfl (nw_X9_161 hN) (hts (.initialized RX1) (List.mem_of_getElem? (i := 8) rfl)) (by decide +kernel) ⟨Nat.le_of_ble_eq_true rfl, Nat.le_of_ble_eq_true rfl⟩, (hts (.instanceMethod yX1_add) (List.mem_of_getElem? (i := 7) rfl)), (hts (.selects RX1 yX1_add yX1_add) (List.mem_of_getElem? (i := 9) rfl))⟩ ⟨WrP.blind, va_recv hK hP (ci := 1) (q0 := 2) rfl rfl, fun U hU hW => ⟨rfl, WrP.call hE hS hPc hDc hFc hU hW⟩⟩ rfl rfl hl.1 rfl (lv_room (Nat.le_of_ble_eq_true rfl)) dX9_bat_38 ⟨Nat.le_of_ble_eq_true rfl, Nat.le_of_ble_eq_true rfl⟩) hS (fun q _ h => hFc q h) hFc (fun u9 t9 H1 locs ht9 hvm hv38 hB9 hz9 hk9 hS => ?_)
      obtain ⟨hP8, hD8⟩ := hB9
      rw [ht9] at hP8
      have hw38 : True := hv38
      obtain ⟨hP, hD⟩ := va_join (wr := [(x, .inr (9, [.ref t, .ref rdr, .ref g, .ref q1, .ref h, .ref f, .ref s2, .ref w, .ref mq])), (g, .inr (6, [.int (nZ so), .int (nZ sm), .int (nZ sp), .int (nZ sb), .int (nZ sc), .int (nZ sd), .int (nZ sl)]))]) (w1 := [(f, .inr (1, [.ref fq, .int (nZ (told + 1)), .int (nZ (tot + a))])), (fq, .inl (cI, 12, .inl (aZ (uZ fo told a))))]) hP hD [2, 3] [0, 1] rfl rfl (by decide) (by decide) hk9 hFc hP8 hD8
      generalize H1 = H at hP hS ⊢
      have hP : va_P D vwCl [(x, .inr (9, [.ref t, .ref rdr, .ref g, .ref q1, .ref h, .ref f, .ref s2, .ref w, .ref mq])), (g, .inr (6, [.int (nZ so), .int (nZ sm), .int (nZ sp), .int (nZ sb), .int (nZ sc), .int (nZ sd), .int (nZ sl)])), (f, .inr (1, [.ref fq, .int (nZ (told + 1)), .int (nZ (tot + a))])), (fq, .inl (cI, 12, .inl (aZ (uZ fo told a))))] H := hP
      have hD : va_D A [(x, .inr (9, [.ref t, .ref rdr, .ref g, .ref q1, .ref h, .ref f, .ref s2, .ref w, .ref mq])), (g, .inr (6, [.int (nZ so), .int (nZ sm), .int (nZ sp), .int (nZ sb), .int (nZ sc), .int (nZ sd), .int (nZ sl)])), (f, .inr (1, [.ref fq, .int (nZ (told + 1)), .int (nZ (tot + a))])), (fq, .inl (cI, 12, .inl (aZ (uZ fo told a))))] := hD
      refine lv_aload_n hx hb dX9_bat_41 rfl (lv_at hl 0 rfl) ?_
      refine va_get (D := D) (ci := 9) (v := .ref f) (C := RX9) (T := TX9) (N := 9) hx hb hts iX9 hown hK hP 0 rfl rfl 5 (by decide) (hts (.fieldLink RX9 51 "RainTarget" "first" "LRainTarget$FirstSide;") (List.mem_of_getElem? (i := 1) rfl)) (fun _ h9 => h9) rfl dX9_bat_42 ?_
      refine va_getN (D := D) (ci := 1) (v := .int (nZ (told + 1))) (C := RX1) (T := TX1) (N := 3) hx hb hts iX1 hown hK hP 2 rfl rfl 1 (by decide) (va_Nw.use rfl (nw_X9_155 hN)) (fun _ h9 => h9) rfl dX9_bat_45 ?_
      have hP9 := hP.sub (ws' := [(x, .inr (9, [.ref t, .ref rdr, .ref g, .ref q1, .ref h, .ref f, .ref s2, .ref w, .ref mq])), (g, .inr (6, [.int (nZ so), .int (nZ sm), .int (nZ sp), .int (nZ sb), .int (nZ sc), .int (nZ sd), .int (nZ sl)])), (f, .inr (1, [.ref fq, .int (nZ (told + 1)), .int (nZ (tot + a))])), (fq, .inl (cI, 12, .inl (aZ (uZ fo told a))))]) [0, 1, 2, 3] rfl
      have hD9 := hD.sub (ws' := [(x, .inr (9, [.ref t, .ref rdr, .ref g, .ref q1, .ref h, .ref f, .ref s2, .ref w, .ref mq])), (g, .inr (6, [.int (nZ so), .int (nZ sm), .int (nZ sp), .int (nZ sb), .int (nZ sc), .int (nZ sd), .int (nZ sl)])), (f, .inr (1, [.ref fq, .int (nZ (told + 1)), .int (nZ (tot + a))])), (fq, .inl (cI, 12, .inl (aZ (uZ fo told a))))]) [0, 1, 2, 3] (by decide) rfl
      have hq9 : ([(x, .inr (9, [.ref t, .ref rdr, .ref g, .ref q1, .ref h, .ref f, .ref s2, .ref w, .ref mq])), (g, .inr (6, [.int (nZ so), .int (nZ sm), .int (nZ sp), .int (nZ sb), .int (nZ sc), .int (nZ sd), .int (nZ sl)])), (f, .inr (1, [.ref fq, .int (nZ (told + 1)), .int (nZ (tot + a))])), (fq, .inl (cI, 12, .inl (aZ (uZ fo told a))))] : va_W) = [(x, .inr (9, [.ref t, .ref rdr, .ref g, .ref q1, .ref h, .ref f, .ref s2, .ref w, .ref mq])), (g, .inr (6, [.int (nZ so), .int (nZ sm), .int (nZ sp), .int (nZ sb), .int (nZ sc), .int (nZ sd), .int (nZ sl)])), (f, .inr (1, [.ref fq, .int (nZ (if (0 ≤ a ∧ a ≤ 36) ∧ told < so then told + 1 else told)), .int (nZ (if (0 ≤ a ∧ a ≤ 36) ∧ told < so then tot + a else tot))])), (fq, .inl (cI, 12, .inl (aZ (if (0 ≤ a ∧ a ≤ 36) ∧ told < so then uZ fo told a else fo))))] := by first | (simp only [if_pos (show (0 ≤ a ∧ a ≤ 36) ∧ told < so from by omega)]; done) | (simp only [if_neg (show ¬ ((0 ≤ a ∧ a ≤ 36) ∧ told < so) from by omega)]; done)
      rw [hq9] at hP9 hD9
      exact W.iret (v := nZ (told + 1)) hx hb hr (fun t9 ht9 _ => ⟨⟨nZ (told + 1), (), rfl, ⟨congrArg nZ (show (told + 1 : Int) = if 0 ≤ a ∧ a ≤ 36 then (if told < so then told + 1 else -5) else -3 from (by first | rfl | omega | (split <;> omega) | (split <;> split <;> omega))), trivial⟩, ⟨by rw [ht9]; exact hP9, hD9⟩⟩, hS.F ht9⟩) hS.2.2 dX9_bat_48
    · refine lv_bipush (v := nZ (-5)) hx hb dX9_bat_30 (by decide) ?_
      have hP9 := hP.sub (ws' := [(x, .inr (9, [.ref t, .ref rdr, .ref g, .ref q1, .ref h, .ref f, .ref s2, .ref w, .ref mq])), (g, .inr (6, [.int (nZ so), .int (nZ sm), .int (nZ sp), .int (nZ sb), .int (nZ sc), .int (nZ sd), .int (nZ sl)])), (f, .inr (1, [.ref fq, .int (nZ told), .int (nZ tot)])), (fq, .inl (cI, 12, .inl (aZ fo)))]) [0, 1, 2, 3] rfl
      have hD9 := hD.sub (ws' := [(x, .inr (9, [.ref t, .ref rdr, .ref g, .ref q1, .ref h, .ref f, .ref s2, .ref w, .ref mq])), (g, .inr (6, [.int (nZ so), .int (nZ sm), .int (nZ sp), .int (nZ sb), .int (nZ sc), .int (nZ sd), .int (nZ sl)])), (f, .inr (1, [.ref fq, .int (nZ told), .int (nZ tot)])), (fq, .inl (cI, 12, .inl (aZ fo)))]) [0, 1, 2, 3] (by decide) rfl
      have hq9 : ([(x, .inr (9, [.ref t, .ref rdr, .ref g, .ref q1, .ref h, .ref f, .ref s2, .ref w, .ref mq])), (g, .inr (6, [.int (nZ so), .int (nZ sm), .int (nZ sp), .int (nZ sb), .int (nZ sc), .int (nZ sd), .int (nZ sl)])), (f, .inr (1, [.ref fq, .int (nZ told), .int (nZ tot)])), (fq, .inl (cI, 12, .inl (aZ fo)))] : va_W) = [(x, .inr (9, [.ref t, .ref rdr, .ref g, .ref q1, .ref h, .ref f, .ref s2, .ref w, .ref mq])), (g, .inr (6, [.int (nZ so), .int (nZ sm), .int (nZ sp), .int (nZ sb), .int (nZ sc), .int (nZ sd), .int (nZ sl)])), (f, .inr (1, [.ref fq, .int (nZ (if (0 ≤ a ∧ a ≤ 36) ∧ told < so then told + 1 else told)), .int (nZ (if (0 ≤ a ∧ a ≤ 36) ∧ told < so then tot + a else tot))])), (fq, .inl (cI, 12, .inl (aZ (if (0 ≤ a ∧ a ≤ 36) ∧ told < so then uZ fo told a else fo))))] := by first | (simp only [if_pos (show (0 ≤ a ∧ a ≤ 36) ∧ told < so from by omega)]; done) | (simp only [if_neg (show ¬ ((0 ≤ a ∧ a ≤ 36) ∧ told < so) from by omega)]; done)
      rw [hq9] at hP9 hD9
      exact W.iret (v := nZ (-5)) hx hb hr (fun t9 ht9 _ => ⟨⟨nZ (-5), (), rfl, ⟨congrArg nZ (show (-5 : Int) = if 0 ≤ a ∧ a ≤ 36 then (if told < so then told + 1 else -5) else -3 from (by first | rfl | omega | (split <;> omega) | (split <;> split <;> omega))), trivial⟩, ⟨by rw [ht9]; exact hP9, hD9⟩⟩, hS.F ht9⟩) hS.2.2 dX9_bat_32
  · refine lv_bipush (v := nZ (-3)) hx hb dX9_bat_10 (by decide) ?_
    have hP9 := hP.sub (ws' := [(x, .inr (9, [.ref t, .ref rdr, .ref g, .ref q1, .ref h, .ref f, .ref s2, .ref w, .ref mq])), (g, .inr (6, [.int (nZ so), .int (nZ sm), .int (nZ sp), .int (nZ sb), .int (nZ sc), .int (nZ sd), .int (nZ sl)])), (f, .inr (1, [.ref fq, .int (nZ told), .int (nZ tot)])), (fq, .inl (cI, 12, .inl (aZ fo)))]) [0, 1, 2, 3] rfl
    have hD9 := hD.sub (ws' := [(x, .inr (9, [.ref t, .ref rdr, .ref g, .ref q1, .ref h, .ref f, .ref s2, .ref w, .ref mq])), (g, .inr (6, [.int (nZ so), .int (nZ sm), .int (nZ sp), .int (nZ sb), .int (nZ sc), .int (nZ sd), .int (nZ sl)])), (f, .inr (1, [.ref fq, .int (nZ told), .int (nZ tot)])), (fq, .inl (cI, 12, .inl (aZ fo)))]) [0, 1, 2, 3] (by decide) rfl
    have hq9 : ([(x, .inr (9, [.ref t, .ref rdr, .ref g, .ref q1, .ref h, .ref f, .ref s2, .ref w, .ref mq])), (g, .inr (6, [.int (nZ so), .int (nZ sm), .int (nZ sp), .int (nZ sb), .int (nZ sc), .int (nZ sd), .int (nZ sl)])), (f, .inr (1, [.ref fq, .int (nZ told), .int (nZ tot)])), (fq, .inl (cI, 12, .inl (aZ fo)))] : va_W) = [(x, .inr (9, [.ref t, .ref rdr, .ref g, .ref q1, .ref h, .ref f, .ref s2, .ref w, .ref mq])), (g, .inr (6, [.int (nZ so), .int (nZ sm), .int (nZ sp), .int (nZ sb), .int (nZ sc), .int (nZ sd), .int (nZ sl)])), (f, .inr (1, [.ref fq, .int (nZ (if (0 ≤ a ∧ a ≤ 36) ∧ told < so then told + 1 else told)), .int (nZ (if (0 ≤ a ∧ a ≤ 36) ∧ told < so then tot + a else tot))])), (fq, .inl (cI, 12, .inl (aZ (if (0 ≤ a ∧ a ≤ 36) ∧ told < so then uZ fo told a else fo))))] := by first | (simp only [if_pos (show (0 ≤ a ∧ a ≤ 36) ∧ told < so from by omega)]; done) | (simp only [if_neg (show ¬ ((0 ≤ a ∧ a ≤ 36) ∧ told < so) from by omega)]; done)
    rw [hq9] at hP9 hD9
    exact W.iret (v := nZ (-3)) hx hb hr (fun t9 ht9 _ => ⟨⟨nZ (-3), (), rfl, ⟨congrArg nZ (show (-3 : Int) = if 0 ≤ a ∧ a ≤ 36 then (if told < so then told + 1 else -5) else -3 from (by first | rfl | omega | (split <;> omega) | (split <;> split <;> omega))), trivial⟩, ⟨by rw [ht9]; exact hP9, hD9⟩⟩, hS.F ht9⟩) hS.2.2 dX9_bat_12

set_option maxHeartbeats 4000000 in
set_option maxRecDepth 100000 in
theorem c_X9_anew (l : Launch) (D : va_G) (cI cJ : ClassId) (tn : Nat) (sz : Nat) (x : Nat) (t : Nat) (rdr : Nat) (g : Nat) (q1 : Nat) (h : Nat) (f : Nat) (s2 : Nat) (w : Nat) (mq : Nat) (fq : Nat) (eq : Nat) (fo : Int → Int) (so : Int) (sm : Int) (sp : Int) (sb : Int) (sc : Int) (sd : Int) (sl : Int) (told : Int) (tot : Int) (size : Int) (so2 : Int) (sm2 : Int) (rn : Int)   : Met l yX9_anew wsX9_anew ({ frames := 2, cells := 0, slots := 0, locals := 43 } : Room) (va_Pc [.ref x] (WrP D cI cJ tn [(x, .inr (9, [.ref t, .ref rdr, .ref g, .ref q1, .ref h, .ref f, .ref s2, .ref w, .ref mq])), (g, .inr (6, [.int (nZ so), .int (nZ sm), .int (nZ sp), .int (nZ sb), .int (nZ sc), .int (nZ sd), .int (nZ sl)])), (f, .inr (1, [.ref fq, .int (nZ told), .int (nZ tot)])), (fq, .inl (cI, 12, .inl (aZ fo))), (s2, .inr (5, [.ref eq, .int (nZ size), .int (nZ so2), .int (nZ sm2), .int (nZ rn)]))] sz)) (va_Qi (fun (r9 : Int32) (u9 : Unit) => r9 = nZ tot ∧ True) (fun u9 t9 => WrQ D (va_A [(x, .inr (9, [.ref t, .ref rdr, .ref g, .ref q1, .ref h, .ref f, .ref s2, .ref w, .ref mq])), (g, .inr (6, [.int (nZ so), .int (nZ sm), .int (nZ sp), .int (nZ sb), .int (nZ sc), .int (nZ sd), .int (nZ sl)])), (f, .inr (1, [.ref fq, .int (nZ told), .int (nZ tot)])), (fq, .inl (cI, 12, .inl (aZ fo))), (s2, .inr (5, [.ref eq, .int (nZ size), .int (nZ so2), .int (nZ sm2), .int (nZ rn)]))] sz) [(x, .inr (9, [.ref t, .ref rdr, .ref g, .ref q1, .ref h, .ref f, .ref s2, .ref w, .ref mq])), (g, .inr (6, [.int (nZ so), .int (nZ sm), .int (nZ sp), .int (nZ sb), .int (nZ sc), .int (nZ sd), .int (nZ sl)])), (f, .inr (1, [.ref fq, .int (nZ 0), .int (nZ 0)])), (fq, .inl (cI, 12, .inl (aZ (fiF fo 0 12)))), (s2, .inr (5, [.ref eq, .int (nZ 0), .int (nZ so), .int (nZ sm), .int (nZ 0)]))] t9) (va_A [(x, .inr (9, [.ref t, .ref rdr, .ref g, .ref q1, .ref h, .ref f, .ref s2, .ref w, .ref mq])), (g, .inr (6, [.int (nZ so), .int (nZ sm), .int (nZ sp), .int (nZ sb), .int (nZ sc), .int (nZ sd), .int (nZ sl)])), (f, .inr (1, [.ref fq, .int (nZ told), .int (nZ tot)])), (fq, .inl (cI, 12, .inl (aZ fo))), (s2, .inr (5, [.ref eq, .int (nZ size), .int (nZ so2), .int (nZ sm2), .int (nZ rn)]))] sz)) 0 0 (va_A [(x, .inr (9, [.ref t, .ref rdr, .ref g, .ref q1, .ref h, .ref f, .ref s2, .ref w, .ref mq])), (g, .inr (6, [.int (nZ so), .int (nZ sm), .int (nZ sp), .int (nZ sb), .int (nZ sc), .int (nZ sd), .int (nZ sl)])), (f, .inr (1, [.ref fq, .int (nZ told), .int (nZ tot)])), (fq, .inl (cI, 12, .inl (aZ fo))), (s2, .inr (5, [.ref eq, .int (nZ size), .int (nZ so2), .int (nZ sm2), .int (nZ rn)]))] sz) := by
  refine Met.ofW (cc := cX9_anew) (maxL := 2) (ret := (some .int)) (by decide) rfl ?_
  intro p e s m args below meth c s₁ B hml hv
  obtain ⟨rfl, hsz, hE, hP, hD0⟩ := hv
  have hx := B.exec
  have hb := B.bytes
  have hr := B.returns
  have hts := atoms_spec (ws := wsX9_anew) B.pre
  have hown : s.vm.findClass RX9 = some m.cls := findClass_of_methodNamed B.named
  have hlocks := B.notSynchronized
  subst hsz
  have hD := hD0.self (sz := s.heap.size)
  generalize hAe : va_A [(x, .inr (9, [.ref t, .ref rdr, .ref g, .ref q1, .ref h, .ref f, .ref s2, .ref w, .ref mq])), (g, .inr (6, [.int (nZ so), .int (nZ sm), .int (nZ sp), .int (nZ sb), .int (nZ sc), .int (nZ sd), .int (nZ sl)])), (f, .inr (1, [.ref fq, .int (nZ told), .int (nZ tot)])), (fq, .inl (cI, 12, .inl (aZ fo))), (s2, .inr (5, [.ref eq, .int (nZ size), .int (nZ so2), .int (nZ sm2), .int (nZ rn)]))] s.heap.size = A at hD hE ⊢
  have hA : ∀ q : Nat, s.heap.size ≤ q → A q := fun q h => by rw [← hAe]; exact Or.inr h
  have hS : va_S A s.heap s.heap [] := va_S.rf
  have hK := hE.1
  have hN := hE.2.1
  have hl := lv_entry ([.ref x]) (n := 2) (Nat.le_of_ble_eq_true rfl)
  rw [lg_entry_eq]
  generalize (lg_sl ([.ref x]) ++ List.replicate (2 - (lg_sl ([.ref x])).length) Slot.unset).toArray = ls at hl ⊢
  have hl : lv_has ls 2 [(0, .ref x)] := hl
  have iX1 : ∀ w ∈ u_ws RX1 TX1 3, w ∈ wsX9_anew := fun _ h => List.mem_cons_of_mem _ (List.mem_append_left _ (List.mem_append_left _ (List.mem_append_right _ h)))
  have iX9 : ∀ w ∈ u_ws RX9 TX9 9, w ∈ wsX9_anew := fun _ h => List.mem_cons_of_mem _ (List.mem_append_left _ (List.mem_append_left _ (List.mem_append_left _ (List.mem_append_right _ h))))
  refine lv_aload_n hx hb dX9_anew_0 rfl (lv_at hl 0 rfl) ?_
  refine va_get (D := D) (ci := 9) (v := .ref f) (C := RX9) (T := TX9) (N := 9) hx hb hts iX9 hown hK hP 0 rfl rfl 5 (by decide) (hts (.fieldLink RX9 51 "RainTarget" "first" "LRainTarget$FirstSide;") (List.mem_of_getElem? (i := 1) rfl)) (fun _ h9 => h9) rfl dX9_anew_1 ?_
  refine va_getN (D := D) (ci := 1) (v := .int (nZ tot)) (C := RX1) (T := TX1) (N := 3) hx hb hts iX1 hown hK hP 2 rfl rfl 2 (by decide) (va_Nw.use rfl (nw_X9_164 hN)) (fun _ h9 => h9) rfl dX9_anew_4 ?_
  refine lv_istore_n (lv' := [(1, .int (nZ tot)), (0, .ref x)]) hx hb dX9_anew_7 rfl hl (by decide) rfl (fun ls hl => ?_)
  refine lv_aload_n hx hb dX9_anew_8 rfl (lv_at hl 1 rfl) ?_
  refine va_get (D := D) (ci := 9) (v := .ref f) (C := RX9) (T := TX9) (N := 9) hx hb hts iX9 hown hK hP 0 rfl rfl 5 (by decide) (hts (.fieldLink RX9 51 "RainTarget" "first" "LRainTarget$FirstSide;") (List.mem_of_getElem? (i := 1) rfl)) (fun _ h9 => h9) rfl dX9_anew_9 ?_
  have hFc := va_free (wc := [(f, .inr (1, [.ref fq, .int (nZ told), .int (nZ tot)])), (fq, .inl (cI, 12, .inl (aZ fo)))]) hD hS hA [2, 3] rfl
  have hPc := hP.sub (ws' := [(f, .inr (1, [.ref fq, .int (nZ told), .int (nZ tot)])), (fq, .inl (cI, 12, .inl (aZ fo)))]) [2, 3] rfl
  have hDc := hD.sub (ws' := [(f, .inr (1, [.ref fq, .int (nZ told), .int (nZ tot)])), (fq, .inl (cI, 12, .inl (aZ fo)))]) [2, 3] (by decide) rfl
  refine va_callv (va_runVN (As := []) (rest := []) ⟨hx, hb, hml, hown, hts⟩ (c_X1_begin l D cI cJ tn s.heap.size f fq fo told tot  ) ⟨va_cnB 0 hts gX9_anew_X1_begin_n112 rfl rfl rfl (nw_X9_112 hN) (hts (.initialized RX1) (List.mem_of_getElem? (i := 5) rfl)) (by decide +kernel) ⟨Nat.le_of_ble_eq_true rfl, Nat.le_of_ble_eq_true rfl⟩, (hts (.instanceMethod yX1_begin) (List.mem_of_getElem? (i := 4) rfl)), (hts (.selects RX1 yX1_begin yX1_begin) (List.mem_of_getElem? (i := 6) rfl))⟩ ⟨WrP.blind, va_recv hK hP (ci := 1) (q0 := 2) rfl rfl, fun U hU hW => ⟨rfl, WrP.call hE hS hPc hDc hFc hU hW⟩⟩ rfl rfl hl.1 rfl (lv_room (Nat.le_of_ble_eq_true rfl)) dX9_anew_12 ⟨Nat.le_of_ble_eq_true rfl, Nat.le_of_ble_eq_true rfl⟩) hS (fun q _ h => hFc q h) hFc (fun u9 t9 H1 locs ht9 hvm hv12 hB9 hz9 hk9 hS => ?_)
  obtain ⟨hP8, hD8⟩ := hB9
  rw [ht9] at hP8
  have hw12 : True := hv12
  obtain ⟨hP, hD⟩ := va_join (wr := [(x, .inr (9, [.ref t, .ref rdr, .ref g, .ref q1, .ref h, .ref f, .ref s2, .ref w, .ref mq])), (g, .inr (6, [.int (nZ so), .int (nZ sm), .int (nZ sp), .int (nZ sb), .int (nZ sc), .int (nZ sd), .int (nZ sl)])), (s2, .inr (5, [.ref eq, .int (nZ size), .int (nZ so2), .int (nZ sm2), .int (nZ rn)]))]) (w1 := [(f, .inr (1, [.ref fq, .int (nZ 0), .int (nZ 0)])), (fq, .inl (cI, 12, .inl (aZ (fiF fo 0 12))))]) hP hD [2, 3] [0, 1, 4] rfl rfl (by decide) (by decide) hk9 hFc hP8 hD8
  generalize H1 = H at hP hS ⊢
  have hP : va_P D vwCl [(x, .inr (9, [.ref t, .ref rdr, .ref g, .ref q1, .ref h, .ref f, .ref s2, .ref w, .ref mq])), (g, .inr (6, [.int (nZ so), .int (nZ sm), .int (nZ sp), .int (nZ sb), .int (nZ sc), .int (nZ sd), .int (nZ sl)])), (s2, .inr (5, [.ref eq, .int (nZ size), .int (nZ so2), .int (nZ sm2), .int (nZ rn)])), (f, .inr (1, [.ref fq, .int (nZ 0), .int (nZ 0)])), (fq, .inl (cI, 12, .inl (aZ (fiF fo 0 12))))] H := hP
  have hD : va_D A [(x, .inr (9, [.ref t, .ref rdr, .ref g, .ref q1, .ref h, .ref f, .ref s2, .ref w, .ref mq])), (g, .inr (6, [.int (nZ so), .int (nZ sm), .int (nZ sp), .int (nZ sb), .int (nZ sc), .int (nZ sd), .int (nZ sl)])), (s2, .inr (5, [.ref eq, .int (nZ size), .int (nZ so2), .int (nZ sm2), .int (nZ rn)])), (f, .inr (1, [.ref fq, .int (nZ 0), .int (nZ 0)])), (fq, .inl (cI, 12, .inl (aZ (fiF fo 0 12))))] := hD
  refine lv_aload_n hx hb dX9_anew_15 rfl (lv_at hl 1 rfl) ?_
  refine va_get (D := D) (ci := 9) (v := .ref s2) (C := RX9) (T := TX9) (N := 9) hx hb hts iX9 hown hK hP 0 rfl rfl 6 (by decide) (hts (.fieldLink RX9 58 "RainTarget" "second" "LRainTarget$SecondSide;") (List.mem_of_getElem? (i := 2) rfl)) (fun _ h9 => h9) rfl dX9_anew_16 ?_
  refine lv_aload_n hx hb dX9_anew_19 rfl (lv_at hl 1 rfl) ?_
  refine va_get (D := D) (ci := 9) (v := .ref g) (C := RX9) (T := TX9) (N := 9) hx hb hts iX9 hown hK hP 0 rfl rfl 2 (by decide) (hts (.fieldLink RX9 28 "RainTarget" "settings" "LRainTarget$Settings;") (List.mem_of_getElem? (i := 3) rfl)) (fun _ h9 => h9) rfl dX9_anew_20 ?_
  have hFc := va_free (wc := [(s2, .inr (5, [.ref eq, .int (nZ size), .int (nZ so2), .int (nZ sm2), .int (nZ rn)])), (g, .inr (6, [.int (nZ so), .int (nZ sm), .int (nZ sp), .int (nZ sb), .int (nZ sc), .int (nZ sd), .int (nZ sl)]))]) hD hS hA [2, 1] rfl
  have hPc := hP.sub (ws' := [(s2, .inr (5, [.ref eq, .int (nZ size), .int (nZ so2), .int (nZ sm2), .int (nZ rn)])), (g, .inr (6, [.int (nZ so), .int (nZ sm), .int (nZ sp), .int (nZ sb), .int (nZ sc), .int (nZ sd), .int (nZ sl)]))]) [2, 1] rfl
  have hDc := hD.sub (ws' := [(s2, .inr (5, [.ref eq, .int (nZ size), .int (nZ so2), .int (nZ sm2), .int (nZ rn)])), (g, .inr (6, [.int (nZ so), .int (nZ sm), .int (nZ sp), .int (nZ sb), .int (nZ sc), .int (nZ sd), .int (nZ sl)]))]) [2, 1] (by decide) rfl
  refine va_callv (va_runVN (As := [.ref g]) (rest := []) ⟨hx, hb, hml, hown, hts⟩ (c_X5_begin l D cI cJ tn H.size s2 eq g size so2 sm2 rn so sm sp sb sc sd sl  ) ⟨va_cnB 1 hts gX9_anew_X5_begin_n81 rfl rfl rfl (nw_X9_81 hN) (hts (.initialized RX5) (List.mem_of_getElem? (i := 16) rfl)) (by decide +kernel) ⟨Nat.le_of_ble_eq_true rfl, Nat.le_of_ble_eq_true rfl⟩, (hts (.instanceMethod yX5_begin) (List.mem_of_getElem? (i := 15) rfl)), (hts (.selects RX5 yX5_begin yX5_begin) (List.mem_of_getElem? (i := 17) rfl))⟩ ⟨WrP.blind, va_recv hK hP (ci := 5) (q0 := 2) rfl rfl, fun U hU hW => ⟨rfl, WrP.call hE hS hPc hDc hFc hU hW⟩⟩ rfl rfl hl.1 rfl (lv_room (Nat.le_of_ble_eq_true rfl)) dX9_anew_23 ⟨Nat.le_of_ble_eq_true rfl, Nat.le_of_ble_eq_true rfl⟩) hS (fun q _ h => hFc q h) hFc (fun u9 t9 H1 locs ht9 hvm hv23 hB9 hz9 hk9 hS => ?_)
  obtain ⟨hP8, hD8⟩ := hB9
  rw [ht9] at hP8
  have hw23 : True := hv23
  obtain ⟨hP, hD⟩ := va_join (wr := [(x, .inr (9, [.ref t, .ref rdr, .ref g, .ref q1, .ref h, .ref f, .ref s2, .ref w, .ref mq])), (f, .inr (1, [.ref fq, .int (nZ 0), .int (nZ 0)])), (fq, .inl (cI, 12, .inl (aZ (fiF fo 0 12))))]) (w1 := [(s2, .inr (5, [.ref eq, .int (nZ 0), .int (nZ so), .int (nZ sm), .int (nZ 0)])), (g, .inr (6, [.int (nZ so), .int (nZ sm), .int (nZ sp), .int (nZ sb), .int (nZ sc), .int (nZ sd), .int (nZ sl)]))]) hP hD [2, 1] [0, 3, 4] rfl rfl (by decide) (by decide) hk9 hFc hP8 hD8
  generalize H1 = H at hP hS ⊢
  have hP : va_P D vwCl [(x, .inr (9, [.ref t, .ref rdr, .ref g, .ref q1, .ref h, .ref f, .ref s2, .ref w, .ref mq])), (f, .inr (1, [.ref fq, .int (nZ 0), .int (nZ 0)])), (fq, .inl (cI, 12, .inl (aZ (fiF fo 0 12)))), (s2, .inr (5, [.ref eq, .int (nZ 0), .int (nZ so), .int (nZ sm), .int (nZ 0)])), (g, .inr (6, [.int (nZ so), .int (nZ sm), .int (nZ sp), .int (nZ sb), .int (nZ sc), .int (nZ sd), .int (nZ sl)]))] H := hP
  have hD : va_D A [(x, .inr (9, [.ref t, .ref rdr, .ref g, .ref q1, .ref h, .ref f, .ref s2, .ref w, .ref mq])), (f, .inr (1, [.ref fq, .int (nZ 0), .int (nZ 0)])), (fq, .inl (cI, 12, .inl (aZ (fiF fo 0 12)))), (s2, .inr (5, [.ref eq, .int (nZ 0), .int (nZ so), .int (nZ sm), .int (nZ 0)])), (g, .inr (6, [.int (nZ so), .int (nZ sm), .int (nZ sp), .int (nZ sb), .int (nZ sc), .int (nZ sd), .int (nZ sl)]))] := hD
  refine lv_iload_n hx hb dX9_anew_26 rfl (lv_at hl 0 rfl) ?_
  have hP9 := hP.sub (ws' := [(x, .inr (9, [.ref t, .ref rdr, .ref g, .ref q1, .ref h, .ref f, .ref s2, .ref w, .ref mq])), (g, .inr (6, [.int (nZ so), .int (nZ sm), .int (nZ sp), .int (nZ sb), .int (nZ sc), .int (nZ sd), .int (nZ sl)])), (f, .inr (1, [.ref fq, .int (nZ 0), .int (nZ 0)])), (fq, .inl (cI, 12, .inl (aZ (fiF fo 0 12)))), (s2, .inr (5, [.ref eq, .int (nZ 0), .int (nZ so), .int (nZ sm), .int (nZ 0)]))]) [0, 4, 1, 2, 3] rfl
  have hD9 := hD.sub (ws' := [(x, .inr (9, [.ref t, .ref rdr, .ref g, .ref q1, .ref h, .ref f, .ref s2, .ref w, .ref mq])), (g, .inr (6, [.int (nZ so), .int (nZ sm), .int (nZ sp), .int (nZ sb), .int (nZ sc), .int (nZ sd), .int (nZ sl)])), (f, .inr (1, [.ref fq, .int (nZ 0), .int (nZ 0)])), (fq, .inl (cI, 12, .inl (aZ (fiF fo 0 12)))), (s2, .inr (5, [.ref eq, .int (nZ 0), .int (nZ so), .int (nZ sm), .int (nZ 0)]))]) [0, 4, 1, 2, 3] (by decide) rfl
  exact W.iret (v := nZ tot) hx hb hr (fun t9 ht9 _ => ⟨⟨nZ tot, (), rfl, ⟨congrArg nZ (show (tot : Int) = tot from (by first | rfl | omega | (split <;> omega) | (simp_all; done))), trivial⟩, ⟨by rw [ht9]; exact hP9, hD9⟩⟩, hS.F ht9⟩) hS.2.2 dX9_anew_27

set_option maxHeartbeats 4000000 in
set_option maxRecDepth 100000 in
theorem c_X9_play (l : Launch) (D : va_G) (cI cJ : ClassId) (tn : Nat) (sz : Nat) (x : Nat) (t : Nat) (rdr : Nat) (g : Nat) (q1 : Nat) (h : Nat) (f : Nat) (s2 : Nat) (w : Nat) (mq : Nat) (eq : Nat) (ev : Int → Int) (size : Int) (so2 : Int) (sm2 : Int) (rn : Int) (a : Int) (b : Int) (ra : I32 a) (rb : I32 b) (hz0 : 0 ≤ size) (hz1 : 0 ≤ so2) (hz2 : size + so2 ≤ 12) (hz3 : 0 ≤ sm2) (hz4 : sm2 ≤ 10) (hz5 : 0 ≤ rn) (hz6 : rn ≤ 36 * size)  : Met l yX9_play wsX9_play ({ frames := 3, cells := 0, slots := 0, locals := 68 } : Room) (va_Pc [.ref x, .int (nZ a), .int (nZ b)] (WrP D cI cJ tn [(x, .inr (9, [.ref t, .ref rdr, .ref g, .ref q1, .ref h, .ref f, .ref s2, .ref w, .ref mq])), (s2, .inr (5, [.ref eq, .int (nZ size), .int (nZ so2), .int (nZ sm2), .int (nZ rn)])), (eq, .inl (cI, 144, .inl (aZ ev)))] sz)) (va_Qi (fun (r9 : Int32) (u9 : Unit) => r9 = nZ (if (0 ≤ a ∧ a ≤ 36) ∧ (0 ≤ b ∧ b ≤ 3) then (if 0 < so2 ∧ 0 < sm2 then rn + a else -4) else -3) ∧ True) (fun u9 t9 => WrQ D (va_A [(x, .inr (9, [.ref t, .ref rdr, .ref g, .ref q1, .ref h, .ref f, .ref s2, .ref w, .ref mq])), (s2, .inr (5, [.ref eq, .int (nZ size), .int (nZ so2), .int (nZ sm2), .int (nZ rn)])), (eq, .inl (cI, 144, .inl (aZ ev)))] sz) [(x, .inr (9, [.ref t, .ref rdr, .ref g, .ref q1, .ref h, .ref f, .ref s2, .ref w, .ref mq])), (s2, .inr (5, [.ref eq, .int (nZ (if ((0 ≤ a ∧ a ≤ 36) ∧ (0 ≤ b ∧ b ≤ 3)) ∧ (0 < so2 ∧ 0 < sm2) then size + 1 else size)), .int (nZ (if ((0 ≤ a ∧ a ≤ 36) ∧ (0 ≤ b ∧ b ≤ 3)) ∧ (0 < so2 ∧ 0 < sm2) then so2 - 1 else so2)), .int (nZ (if ((0 ≤ a ∧ a ≤ 36) ∧ (0 ≤ b ∧ b ≤ 3)) ∧ (0 < so2 ∧ 0 < sm2) then (if 0 < sm2 - b then sm2 - b else 0) else sm2)), .int (nZ (if ((0 ≤ a ∧ a ≤ 36) ∧ (0 ≤ b ∧ b ≤ 3)) ∧ (0 < so2 ∧ 0 < sm2) then rn + a else rn))])), (eq, .inl (cI, 144, .inl (aZ (if ((0 ≤ a ∧ a ≤ 36) ∧ (0 ≤ b ∧ b ≤ 3)) ∧ (0 < so2 ∧ 0 < sm2) then evF ev size 0 a b so2 sm2 rn else ev))))] t9) (va_A [(x, .inr (9, [.ref t, .ref rdr, .ref g, .ref q1, .ref h, .ref f, .ref s2, .ref w, .ref mq])), (s2, .inr (5, [.ref eq, .int (nZ size), .int (nZ so2), .int (nZ sm2), .int (nZ rn)])), (eq, .inl (cI, 144, .inl (aZ ev)))] sz)) 0 0 (va_A [(x, .inr (9, [.ref t, .ref rdr, .ref g, .ref q1, .ref h, .ref f, .ref s2, .ref w, .ref mq])), (s2, .inr (5, [.ref eq, .int (nZ size), .int (nZ so2), .int (nZ sm2), .int (nZ rn)])), (eq, .inl (cI, 144, .inl (aZ ev)))] sz) := by
  refine Met.ofW (cc := cX9_play) (maxL := 3) (ret := (some .int)) (by decide) rfl ?_
  intro p e s m args below meth c s₁ B hml hv
  obtain ⟨rfl, hsz, hE, hP, hD0⟩ := hv
  have hx := B.exec
  have hb := B.bytes
  have hr := B.returns
  have hts := atoms_spec (ws := wsX9_play) B.pre
  have hown : s.vm.findClass RX9 = some m.cls := findClass_of_methodNamed B.named
  have hlocks := B.notSynchronized
  subst hsz
  have hD := hD0.self (sz := s.heap.size)
  generalize hAe : va_A [(x, .inr (9, [.ref t, .ref rdr, .ref g, .ref q1, .ref h, .ref f, .ref s2, .ref w, .ref mq])), (s2, .inr (5, [.ref eq, .int (nZ size), .int (nZ so2), .int (nZ sm2), .int (nZ rn)])), (eq, .inl (cI, 144, .inl (aZ ev)))] s.heap.size = A at hD hE ⊢
  have hA : ∀ q : Nat, s.heap.size ≤ q → A q := fun q h => by rw [← hAe]; exact Or.inr h
  have hS : va_S A s.heap s.heap [] := va_S.rf
  have hK := hE.1
  have hN := hE.2.1
  have hl := lv_entry ([.ref x, .int (nZ a), .int (nZ b)]) (n := 3) (Nat.le_of_ble_eq_true rfl)
  rw [lg_entry_eq]
  generalize (lg_sl ([.ref x, .int (nZ a), .int (nZ b)]) ++ List.replicate (3 - (lg_sl ([.ref x, .int (nZ a), .int (nZ b)])).length) Slot.unset).toArray = ls at hl ⊢
  have hl : lv_has ls 3 [(0, .ref x), (1, .int (nZ a)), (2, .int (nZ b))] := hl
  have iX5 : ∀ w ∈ u_ws RX5 TX5 5, w ∈ wsX9_play := fun _ h => List.mem_cons_of_mem _ (List.mem_append_right _ h)
  have iX9 : ∀ w ∈ u_ws RX9 TX9 9, w ∈ wsX9_play := fun _ h => List.mem_cons_of_mem _ (List.mem_append_left _ (List.mem_append_right _ h))
  refine lv_iload_n hx hb dX9_play_0 rfl (lv_at hl 1 rfl) ?_
  refine lv_iconst (v := nZ 0) hx hb dX9_play_1 rfl ?_
  refine lv_bipush (v := nZ 36) hx hb dX9_play_2 (by decide) ?_
  refine vp_callSi ((va_runS (As := [.int (nZ a), .int (nZ 0), .int (nZ 36)]) (rest := []) ⟨hx, hb, hml, hown, hts⟩ (c_X9_within l D cI cJ tn a 0 36 ra (by decide) (by decide) ) (va_cwS 3 hts gX9_play_X9_within rfl rfl rfl (by decide +kernel) ⟨Nat.le_of_ble_eq_true rfl, Nat.le_of_ble_eq_true rfl⟩) ⟨RoP.blind, fun U hU hW => ⟨rfl, RoP.call hE hS (hP.sub (ws' := []) [] rfl) hU hW⟩⟩ rfl rfl hl.1 rfl (lv_room (Nat.le_of_ble_eq_true rfl)) dX9_play_4 ⟨Nat.le_of_ble_eq_true rfl, Nat.le_of_ble_eq_true rfl⟩).run) (fun r4 hr4 => ?_)
  subst hr4
  refine z_nameI (fun r4 er4 => ?_)
  refine z_if_eq (tgt := 19) hx hb dX9_play_7 (by decide) (by omega) (fun c_7 => ?_) (fun c_7 => ?_)
  · refine lv_bipush (v := nZ (-3)) hx hb dX9_play_19 (by decide) ?_
    have hP9 := hP.sub (ws' := [(x, .inr (9, [.ref t, .ref rdr, .ref g, .ref q1, .ref h, .ref f, .ref s2, .ref w, .ref mq])), (s2, .inr (5, [.ref eq, .int (nZ size), .int (nZ so2), .int (nZ sm2), .int (nZ rn)])), (eq, .inl (cI, 144, .inl (aZ ev)))]) [0, 1, 2] rfl
    have hD9 := hD.sub (ws' := [(x, .inr (9, [.ref t, .ref rdr, .ref g, .ref q1, .ref h, .ref f, .ref s2, .ref w, .ref mq])), (s2, .inr (5, [.ref eq, .int (nZ size), .int (nZ so2), .int (nZ sm2), .int (nZ rn)])), (eq, .inl (cI, 144, .inl (aZ ev)))]) [0, 1, 2] (by decide) rfl
    have hq9 : ([(x, .inr (9, [.ref t, .ref rdr, .ref g, .ref q1, .ref h, .ref f, .ref s2, .ref w, .ref mq])), (s2, .inr (5, [.ref eq, .int (nZ size), .int (nZ so2), .int (nZ sm2), .int (nZ rn)])), (eq, .inl (cI, 144, .inl (aZ ev)))] : va_W) = [(x, .inr (9, [.ref t, .ref rdr, .ref g, .ref q1, .ref h, .ref f, .ref s2, .ref w, .ref mq])), (s2, .inr (5, [.ref eq, .int (nZ (if ((0 ≤ a ∧ a ≤ 36) ∧ (0 ≤ b ∧ b ≤ 3)) ∧ (0 < so2 ∧ 0 < sm2) then size + 1 else size)), .int (nZ (if ((0 ≤ a ∧ a ≤ 36) ∧ (0 ≤ b ∧ b ≤ 3)) ∧ (0 < so2 ∧ 0 < sm2) then so2 - 1 else so2)), .int (nZ (if ((0 ≤ a ∧ a ≤ 36) ∧ (0 ≤ b ∧ b ≤ 3)) ∧ (0 < so2 ∧ 0 < sm2) then (if 0 < sm2 - b then sm2 - b else 0) else sm2)), .int (nZ (if ((0 ≤ a ∧ a ≤ 36) ∧ (0 ≤ b ∧ b ≤ 3)) ∧ (0 < so2 ∧ 0 < sm2) then rn + a else rn))])), (eq, .inl (cI, 144, .inl (aZ (if ((0 ≤ a ∧ a ≤ 36) ∧ (0 ≤ b ∧ b ≤ 3)) ∧ (0 < so2 ∧ 0 < sm2) then evF ev size 0 a b so2 sm2 rn else ev))))] := by first | (simp only [if_pos (show ((0 ≤ a ∧ a ≤ 36) ∧ (0 ≤ b ∧ b ≤ 3)) ∧ (0 < so2 ∧ 0 < sm2) from by omega)]; done) | (simp only [if_neg (show ¬ (((0 ≤ a ∧ a ≤ 36) ∧ (0 ≤ b ∧ b ≤ 3)) ∧ (0 < so2 ∧ 0 < sm2)) from by omega)]; done)
    rw [hq9] at hP9 hD9
    exact W.iret (v := nZ (-3)) hx hb hr (fun t9 ht9 _ => ⟨⟨nZ (-3), (), rfl, ⟨congrArg nZ (show (-3 : Int) = if (0 ≤ a ∧ a ≤ 36) ∧ (0 ≤ b ∧ b ≤ 3) then (if 0 < so2 ∧ 0 < sm2 then rn + a else -4) else -3 from (by first | rfl | omega | (split <;> omega) | (split <;> split <;> omega))), trivial⟩, ⟨by rw [ht9]; exact hP9, hD9⟩⟩, hS.F ht9⟩) hS.2.2 dX9_play_21
  · refine lv_iload_n hx hb dX9_play_10 rfl (lv_at hl 2 rfl) ?_
    refine lv_iconst (v := nZ 0) hx hb dX9_play_11 rfl ?_
    refine lv_iconst (v := nZ 3) hx hb dX9_play_12 rfl ?_
    refine vp_callSi ((va_runS (As := [.int (nZ b), .int (nZ 0), .int (nZ 3)]) (rest := []) ⟨hx, hb, hml, hown, hts⟩ (c_X9_within l D cI cJ tn b 0 3 rb (by decide) (by decide) ) (va_cwS 3 hts gX9_play_X9_within rfl rfl rfl (by decide +kernel) ⟨Nat.le_of_ble_eq_true rfl, Nat.le_of_ble_eq_true rfl⟩) ⟨RoP.blind, fun U hU hW => ⟨rfl, RoP.call hE hS (hP.sub (ws' := []) [] rfl) hU hW⟩⟩ rfl rfl hl.1 rfl (lv_room (Nat.le_of_ble_eq_true rfl)) dX9_play_13 ⟨Nat.le_of_ble_eq_true rfl, Nat.le_of_ble_eq_true rfl⟩).run) (fun r13 hr13 => ?_)
    subst hr13
    refine z_nameI (fun r13 er13 => ?_)
    refine z_if_ne (tgt := 22) hx hb dX9_play_16 (by decide) (by omega) (fun c_16 => ?_) (fun c_16 => ?_)
    · refine lv_aload_n hx hb dX9_play_22 rfl (lv_at hl 0 rfl) ?_
      refine va_get (D := D) (ci := 9) (v := .ref s2) (C := RX9) (T := TX9) (N := 9) hx hb hts iX9 hown hK hP 0 rfl rfl 6 (by decide) (hts (.fieldLink RX9 58 "RainTarget" "second" "LRainTarget$SecondSide;") (List.mem_of_getElem? (i := 1) rfl)) (fun _ h9 => h9) rfl dX9_play_23 ?_
      refine vp_callSi ((va_runVN (As := []) (rest := []) ⟨hx, hb, hml, hown, hts⟩ (c_X5_isAtEnd l D cI cJ tn s2 eq ev size so2 sm2 rn (by omega) (by omega) ) ⟨va_cnB 0 hts gX9_play_X5_isAtEnd_n167 rfl rfl rfl (nw_X9_167 hN) (hts (.initialized RX5) (List.mem_of_getElem? (i := 7) rfl)) (by decide +kernel) ⟨Nat.le_of_ble_eq_true rfl, Nat.le_of_ble_eq_true rfl⟩, (hts (.instanceMethod yX5_isAtEnd) (List.mem_of_getElem? (i := 6) rfl)), (hts (.selects RX5 yX5_isAtEnd yX5_isAtEnd) (List.mem_of_getElem? (i := 8) rfl))⟩ ⟨RoP.blind, va_recv hK hP (ci := 5) (q0 := 1) rfl rfl, fun U hU hW => ⟨rfl, RoP.call hE hS (hP.sub (ws' := [(s2, .inr (5, [.ref eq, .int (nZ size), .int (nZ so2), .int (nZ sm2), .int (nZ rn)])), (eq, .inl (cI, 144, .inl (aZ ev)))]) [1, 2] rfl) hU hW⟩⟩ rfl rfl hl.1 rfl (lv_room (Nat.le_of_ble_eq_true rfl)) dX9_play_26 ⟨Nat.le_of_ble_eq_true rfl, Nat.le_of_ble_eq_true rfl⟩).run) (fun r26 hr26 => ?_)
      subst hr26
      refine z_nameI (fun r26 er26 => ?_)
      refine z_if_eq (tgt := 35) hx hb dX9_play_29 (by decide) (by omega) (fun c_29 => ?_) (fun c_29 => ?_)
      · refine lv_aload_n hx hb dX9_play_35 rfl (lv_at hl 0 rfl) ?_
        refine va_get (D := D) (ci := 9) (v := .ref s2) (C := RX9) (T := TX9) (N := 9) hx hb hts iX9 hown hK hP 0 rfl rfl 6 (by decide) (hts (.fieldLink RX9 58 "RainTarget" "second" "LRainTarget$SecondSide;") (List.mem_of_getElem? (i := 1) rfl)) (fun _ h9 => h9) rfl dX9_play_36 ?_
        refine va_getN (D := D) (ci := 5) (v := .int (nZ size)) (C := RX5) (T := TX5) (N := 5) hx hb hts iX5 hown hK hP 1 rfl rfl 1 (by decide) (va_Nw.use rfl (nw_X9_171 hN)) (fun _ h9 => h9) rfl dX9_play_39 ?_
        refine lv_bipush (v := nZ 24) hx hb dX9_play_42 (by decide) ?_
        refine z_icmp_lt (tgt := 50) hx hb dX9_play_44 (by decide) (by omega) (by decide) (fun c_44 => ?_) (fun c_44 => ?_)
        · refine lv_aload_n hx hb dX9_play_50 rfl (lv_at hl 0 rfl) ?_
          refine va_get (D := D) (ci := 9) (v := .ref s2) (C := RX9) (T := TX9) (N := 9) hx hb hts iX9 hown hK hP 0 rfl rfl 6 (by decide) (hts (.fieldLink RX9 58 "RainTarget" "second" "LRainTarget$SecondSide;") (List.mem_of_getElem? (i := 1) rfl)) (fun _ h9 => h9) rfl dX9_play_51 ?_
          refine lv_iload_n hx hb dX9_play_54 rfl (lv_at hl 1 rfl) ?_
          refine lv_iload_n hx hb dX9_play_55 rfl (lv_at hl 2 rfl) ?_
          have hFc := va_free (wc := [(s2, .inr (5, [.ref eq, .int (nZ size), .int (nZ so2), .int (nZ sm2), .int (nZ rn)])), (eq, .inl (cI, 144, .inl (aZ ev)))]) hD hS hA [1, 2] rfl
          have hPc := hP.sub (ws' := [(s2, .inr (5, [.ref eq, .int (nZ size), .int (nZ so2), .int (nZ sm2), .int (nZ rn)])), (eq, .inl (cI, 144, .inl (aZ ev)))]) [1, 2] rfl
          have hDc := hD.sub (ws' := [(s2, .inr (5, [.ref eq, .int (nZ size), .int (nZ so2), .int (nZ sm2), .int (nZ rn)])), (eq, .inl (cI, 144, .inl (aZ ev)))]) [1, 2] (by decide) rfl
          refine va_callv (va_runVN (As := [.int (nZ a), .int (nZ b)]) (rest := []) ⟨hx, hb, hml, hown, hts⟩ (c_X5_addOver l D cI cJ tn s.heap.size s2 eq ev size so2 sm2 rn a b hz0 (by first | assumption | omega) hz3 hz4 (by first | assumption | omega) (by first | assumption | omega) ) ⟨va_cnB 2 hts gX9_play_X5_addOver_n173 rfl rfl rfl (nw_X9_173 hN) (hts (.initialized RX5) (List.mem_of_getElem? (i := 7) rfl)) (by decide +kernel) ⟨Nat.le_of_ble_eq_true rfl, Nat.le_of_ble_eq_true rfl⟩, (hts (.instanceMethod yX5_addOver) (List.mem_of_getElem? (i := 12) rfl)), (hts (.selects RX5 yX5_addOver yX5_addOver) (List.mem_of_getElem? (i := 13) rfl))⟩ ⟨WrP.blind, va_recv hK hP (ci := 5) (q0 := 1) rfl rfl, fun U hU hW => ⟨rfl, WrP.call hE hS hPc hDc hFc hU hW⟩⟩ rfl rfl hl.1 rfl (lv_room (Nat.le_of_ble_eq_true rfl)) dX9_play_56 ⟨Nat.le_of_ble_eq_true rfl, Nat.le_of_ble_eq_true rfl⟩) hS (fun q _ h => hFc q h) hFc (fun u9 t9 H1 locs ht9 hvm hv56 hB9 hz9 hk9 hS => ?_)
          obtain ⟨hP8, hD8⟩ := hB9
          rw [ht9] at hP8
          have hw56 : True := hv56
          obtain ⟨hP, hD⟩ := va_join (wr := [(x, .inr (9, [.ref t, .ref rdr, .ref g, .ref q1, .ref h, .ref f, .ref s2, .ref w, .ref mq]))]) (w1 := [(s2, .inr (5, [.ref eq, .int (nZ (size + 1)), .int (nZ (so2 - 1)), .int (nZ (if 0 < sm2 - b then sm2 - b else 0)), .int (nZ (rn + a))])), (eq, .inl (cI, 144, .inl (aZ (evF ev size 0 a b so2 sm2 rn))))]) hP hD [1, 2] [0] rfl rfl (by decide) (by decide) hk9 hFc hP8 hD8
          generalize H1 = H at hP hS ⊢
          have hP : va_P D vwCl [(x, .inr (9, [.ref t, .ref rdr, .ref g, .ref q1, .ref h, .ref f, .ref s2, .ref w, .ref mq])), (s2, .inr (5, [.ref eq, .int (nZ (size + 1)), .int (nZ (so2 - 1)), .int (nZ (if 0 < sm2 - b then sm2 - b else 0)), .int (nZ (rn + a))])), (eq, .inl (cI, 144, .inl (aZ (evF ev size 0 a b so2 sm2 rn))))] H := hP
          have hD : va_D A [(x, .inr (9, [.ref t, .ref rdr, .ref g, .ref q1, .ref h, .ref f, .ref s2, .ref w, .ref mq])), (s2, .inr (5, [.ref eq, .int (nZ (size + 1)), .int (nZ (so2 - 1)), .int (nZ (if 0 < sm2 - b then sm2 - b else 0)), .int (nZ (rn + a))])), (eq, .inl (cI, 144, .inl (aZ (evF ev size 0 a b so2 sm2 rn))))] := hD
          refine lv_aload_n hx hb dX9_play_59 rfl (lv_at hl 0 rfl) ?_
          refine va_get (D := D) (ci := 9) (v := .ref s2) (C := RX9) (T := TX9) (N := 9) hx hb hts iX9 hown hK hP 0 rfl rfl 6 (by decide) (hts (.fieldLink RX9 58 "RainTarget" "second" "LRainTarget$SecondSide;") (List.mem_of_getElem? (i := 1) rfl)) (fun _ h9 => h9) rfl dX9_play_60 ?_
          refine va_getN (D := D) (ci := 5) (v := .int (nZ (rn + a))) (C := RX5) (T := TX5) (N := 5) hx hb hts iX5 hown hK hP 1 rfl rfl 4 (by decide) (va_Nw.use rfl (nw_X9_177 hN)) (fun _ h9 => h9) rfl dX9_play_63 ?_
          have hP9 := hP.sub (ws' := [(x, .inr (9, [.ref t, .ref rdr, .ref g, .ref q1, .ref h, .ref f, .ref s2, .ref w, .ref mq])), (s2, .inr (5, [.ref eq, .int (nZ (size + 1)), .int (nZ (so2 - 1)), .int (nZ (if 0 < sm2 - b then sm2 - b else 0)), .int (nZ (rn + a))])), (eq, .inl (cI, 144, .inl (aZ (evF ev size 0 a b so2 sm2 rn))))]) [0, 1, 2] rfl
          have hD9 := hD.sub (ws' := [(x, .inr (9, [.ref t, .ref rdr, .ref g, .ref q1, .ref h, .ref f, .ref s2, .ref w, .ref mq])), (s2, .inr (5, [.ref eq, .int (nZ (size + 1)), .int (nZ (so2 - 1)), .int (nZ (if 0 < sm2 - b then sm2 - b else 0)), .int (nZ (rn + a))])), (eq, .inl (cI, 144, .inl (aZ (evF ev size 0 a b so2 sm2 rn))))]) [0, 1, 2] (by decide) rfl
          have hq9 : ([(x, .inr (9, [.ref t, .ref rdr, .ref g, .ref q1, .ref h, .ref f, .ref s2, .ref w, .ref mq])), (s2, .inr (5, [.ref eq, .int (nZ (size + 1)), .int (nZ (so2 - 1)), .int (nZ (if 0 < sm2 - b then sm2 - b else 0)), .int (nZ (rn + a))])), (eq, .inl (cI, 144, .inl (aZ (evF ev size 0 a b so2 sm2 rn))))] : va_W) = [(x, .inr (9, [.ref t, .ref rdr, .ref g, .ref q1, .ref h, .ref f, .ref s2, .ref w, .ref mq])), (s2, .inr (5, [.ref eq, .int (nZ (if ((0 ≤ a ∧ a ≤ 36) ∧ (0 ≤ b ∧ b ≤ 3)) ∧ (0 < so2 ∧ 0 < sm2) then size + 1 else size)), .int (nZ (if ((0 ≤ a ∧ a ≤ 36) ∧ (0 ≤ b ∧ b ≤ 3)) ∧ (0 < so2 ∧ 0 < sm2) then so2 - 1 else so2)), .int (nZ (if ((0 ≤ a ∧ a ≤ 36) ∧ (0 ≤ b ∧ b ≤ 3)) ∧ (0 < so2 ∧ 0 < sm2) then (if 0 < sm2 - b then sm2 - b else 0) else sm2)), .int (nZ (if ((0 ≤ a ∧ a ≤ 36) ∧ (0 ≤ b ∧ b ≤ 3)) ∧ (0 < so2 ∧ 0 < sm2) then rn + a else rn))])), (eq, .inl (cI, 144, .inl (aZ (if ((0 ≤ a ∧ a ≤ 36) ∧ (0 ≤ b ∧ b ≤ 3)) ∧ (0 < so2 ∧ 0 < sm2) then evF ev size 0 a b so2 sm2 rn else ev))))] := by first | (simp only [if_pos (show ((0 ≤ a ∧ a ≤ 36) ∧ (0 ≤ b ∧ b ≤ 3)) ∧ (0 < so2 ∧ 0 < sm2) from by omega)]; done) | (simp only [if_neg (show ¬ (((0 ≤ a ∧ a ≤ 36) ∧ (0 ≤ b ∧ b ≤ 3)) ∧ (0 < so2 ∧ 0 < sm2)) from by omega)]; done)
          rw [hq9] at hP9 hD9
          exact W.iret (v := nZ (rn + a)) hx hb hr (fun t9 ht9 _ => ⟨⟨nZ (rn + a), (), rfl, ⟨congrArg nZ (show (rn + a : Int) = if (0 ≤ a ∧ a ≤ 36) ∧ (0 ≤ b ∧ b ≤ 3) then (if 0 < so2 ∧ 0 < sm2 then rn + a else -4) else -3 from (by first | rfl | omega | (split <;> omega) | (split <;> split <;> omega))), trivial⟩, ⟨by rw [ht9]; exact hP9, hD9⟩⟩, hS.F ht9⟩) hS.2.2 dX9_play_66
        · exfalso; omega
      · refine lv_bipush (v := nZ (-4)) hx hb dX9_play_32 (by decide) ?_
        have hP9 := hP.sub (ws' := [(x, .inr (9, [.ref t, .ref rdr, .ref g, .ref q1, .ref h, .ref f, .ref s2, .ref w, .ref mq])), (s2, .inr (5, [.ref eq, .int (nZ size), .int (nZ so2), .int (nZ sm2), .int (nZ rn)])), (eq, .inl (cI, 144, .inl (aZ ev)))]) [0, 1, 2] rfl
        have hD9 := hD.sub (ws' := [(x, .inr (9, [.ref t, .ref rdr, .ref g, .ref q1, .ref h, .ref f, .ref s2, .ref w, .ref mq])), (s2, .inr (5, [.ref eq, .int (nZ size), .int (nZ so2), .int (nZ sm2), .int (nZ rn)])), (eq, .inl (cI, 144, .inl (aZ ev)))]) [0, 1, 2] (by decide) rfl
        have hq9 : ([(x, .inr (9, [.ref t, .ref rdr, .ref g, .ref q1, .ref h, .ref f, .ref s2, .ref w, .ref mq])), (s2, .inr (5, [.ref eq, .int (nZ size), .int (nZ so2), .int (nZ sm2), .int (nZ rn)])), (eq, .inl (cI, 144, .inl (aZ ev)))] : va_W) = [(x, .inr (9, [.ref t, .ref rdr, .ref g, .ref q1, .ref h, .ref f, .ref s2, .ref w, .ref mq])), (s2, .inr (5, [.ref eq, .int (nZ (if ((0 ≤ a ∧ a ≤ 36) ∧ (0 ≤ b ∧ b ≤ 3)) ∧ (0 < so2 ∧ 0 < sm2) then size + 1 else size)), .int (nZ (if ((0 ≤ a ∧ a ≤ 36) ∧ (0 ≤ b ∧ b ≤ 3)) ∧ (0 < so2 ∧ 0 < sm2) then so2 - 1 else so2)), .int (nZ (if ((0 ≤ a ∧ a ≤ 36) ∧ (0 ≤ b ∧ b ≤ 3)) ∧ (0 < so2 ∧ 0 < sm2) then (if 0 < sm2 - b then sm2 - b else 0) else sm2)), .int (nZ (if ((0 ≤ a ∧ a ≤ 36) ∧ (0 ≤ b ∧ b ≤ 3)) ∧ (0 < so2 ∧ 0 < sm2) then rn + a else rn))])), (eq, .inl (cI, 144, .inl (aZ (if ((0 ≤ a ∧ a ≤ 36) ∧ (0 ≤ b ∧ b ≤ 3)) ∧ (0 < so2 ∧ 0 < sm2) then evF ev size 0 a b so2 sm2 rn else ev))))] := by first | (simp only [if_pos (show ((0 ≤ a ∧ a ≤ 36) ∧ (0 ≤ b ∧ b ≤ 3)) ∧ (0 < so2 ∧ 0 < sm2) from by omega)]; done) | (simp only [if_neg (show ¬ (((0 ≤ a ∧ a ≤ 36) ∧ (0 ≤ b ∧ b ≤ 3)) ∧ (0 < so2 ∧ 0 < sm2)) from by omega)]; done)
        rw [hq9] at hP9 hD9
        exact W.iret (v := nZ (-4)) hx hb hr (fun t9 ht9 _ => ⟨⟨nZ (-4), (), rfl, ⟨congrArg nZ (show (-4 : Int) = if (0 ≤ a ∧ a ≤ 36) ∧ (0 ≤ b ∧ b ≤ 3) then (if 0 < so2 ∧ 0 < sm2 then rn + a else -4) else -3 from (by first | rfl | omega | (split <;> omega) | (split <;> split <;> omega))), trivial⟩, ⟨by rw [ht9]; exact hP9, hD9⟩⟩, hS.F ht9⟩) hS.2.2 dX9_play_34
    · refine lv_bipush (v := nZ (-3)) hx hb dX9_play_19 (by decide) ?_
      have hP9 := hP.sub (ws' := [(x, .inr (9, [.ref t, .ref rdr, .ref g, .ref q1, .ref h, .ref f, .ref s2, .ref w, .ref mq])), (s2, .inr (5, [.ref eq, .int (nZ size), .int (nZ so2), .int (nZ sm2), .int (nZ rn)])), (eq, .inl (cI, 144, .inl (aZ ev)))]) [0, 1, 2] rfl
      have hD9 := hD.sub (ws' := [(x, .inr (9, [.ref t, .ref rdr, .ref g, .ref q1, .ref h, .ref f, .ref s2, .ref w, .ref mq])), (s2, .inr (5, [.ref eq, .int (nZ size), .int (nZ so2), .int (nZ sm2), .int (nZ rn)])), (eq, .inl (cI, 144, .inl (aZ ev)))]) [0, 1, 2] (by decide) rfl
      have hq9 : ([(x, .inr (9, [.ref t, .ref rdr, .ref g, .ref q1, .ref h, .ref f, .ref s2, .ref w, .ref mq])), (s2, .inr (5, [.ref eq, .int (nZ size), .int (nZ so2), .int (nZ sm2), .int (nZ rn)])), (eq, .inl (cI, 144, .inl (aZ ev)))] : va_W) = [(x, .inr (9, [.ref t, .ref rdr, .ref g, .ref q1, .ref h, .ref f, .ref s2, .ref w, .ref mq])), (s2, .inr (5, [.ref eq, .int (nZ (if ((0 ≤ a ∧ a ≤ 36) ∧ (0 ≤ b ∧ b ≤ 3)) ∧ (0 < so2 ∧ 0 < sm2) then size + 1 else size)), .int (nZ (if ((0 ≤ a ∧ a ≤ 36) ∧ (0 ≤ b ∧ b ≤ 3)) ∧ (0 < so2 ∧ 0 < sm2) then so2 - 1 else so2)), .int (nZ (if ((0 ≤ a ∧ a ≤ 36) ∧ (0 ≤ b ∧ b ≤ 3)) ∧ (0 < so2 ∧ 0 < sm2) then (if 0 < sm2 - b then sm2 - b else 0) else sm2)), .int (nZ (if ((0 ≤ a ∧ a ≤ 36) ∧ (0 ≤ b ∧ b ≤ 3)) ∧ (0 < so2 ∧ 0 < sm2) then rn + a else rn))])), (eq, .inl (cI, 144, .inl (aZ (if ((0 ≤ a ∧ a ≤ 36) ∧ (0 ≤ b ∧ b ≤ 3)) ∧ (0 < so2 ∧ 0 < sm2) then evF ev size 0 a b so2 sm2 rn else ev))))] := by first | (simp only [if_pos (show ((0 ≤ a ∧ a ≤ 36) ∧ (0 ≤ b ∧ b ≤ 3)) ∧ (0 < so2 ∧ 0 < sm2) from by omega)]; done) | (simp only [if_neg (show ¬ (((0 ≤ a ∧ a ≤ 36) ∧ (0 ≤ b ∧ b ≤ 3)) ∧ (0 < so2 ∧ 0 < sm2)) from by omega)]; done)
      rw [hq9] at hP9 hD9
      exact W.iret (v := nZ (-3)) hx hb hr (fun t9 ht9 _ => ⟨⟨nZ (-3), (), rfl, ⟨congrArg nZ (show (-3 : Int) = if (0 ≤ a ∧ a ≤ 36) ∧ (0 ≤ b ∧ b ≤ 3) then (if 0 < so2 ∧ 0 < sm2 then rn + a else -4) else -3 from (by first | rfl | omega | (split <;> omega) | (split <;> split <;> omega))), trivial⟩, ⟨by rw [ht9]; exact hP9, hD9⟩⟩, hS.F ht9⟩) hS.2.2 dX9_play_21

set_option maxHeartbeats 4000000 in
set_option maxRecDepth 100000 in
theorem c_X9_rain (l : Launch) (D : va_G) (cI cJ : ClassId) (tn : Nat) (sz : Nat) (x : Nat) (t : Nat) (rdr : Nat) (g : Nat) (q1 : Nat) (h : Nat) (f : Nat) (s2 : Nat) (w : Nat) (mq : Nat) (eq : Nat) (ev : Int → Int) (size : Int) (so2 : Int) (sm2 : Int) (rn : Int) (a : Int) (ra : I32 a) (hz0 : 0 ≤ size) (hz1 : 0 ≤ so2) (hz2 : size + so2 ≤ 12) (hz3 : 0 ≤ sm2) (hz4 : sm2 ≤ 10) (hz5 : 0 ≤ rn) (hz6 : rn ≤ 36 * size)  : Met l yX9_rain wsX9_rain ({ frames := 3, cells := 0, slots := 0, locals := 67 } : Room) (va_Pc [.ref x, .int (nZ a)] (WrP D cI cJ tn [(x, .inr (9, [.ref t, .ref rdr, .ref g, .ref q1, .ref h, .ref f, .ref s2, .ref w, .ref mq])), (s2, .inr (5, [.ref eq, .int (nZ size), .int (nZ so2), .int (nZ sm2), .int (nZ rn)])), (eq, .inl (cI, 144, .inl (aZ ev)))] sz)) (va_Qi (fun (r9 : Int32) (u9 : Unit) => r9 = nZ (if 1 ≤ a ∧ a ≤ 12 then (if a ≤ so2 then so2 - a else -4) else -3) ∧ True) (fun u9 t9 => WrQ D (va_A [(x, .inr (9, [.ref t, .ref rdr, .ref g, .ref q1, .ref h, .ref f, .ref s2, .ref w, .ref mq])), (s2, .inr (5, [.ref eq, .int (nZ size), .int (nZ so2), .int (nZ sm2), .int (nZ rn)])), (eq, .inl (cI, 144, .inl (aZ ev)))] sz) [(x, .inr (9, [.ref t, .ref rdr, .ref g, .ref q1, .ref h, .ref f, .ref s2, .ref w, .ref mq])), (s2, .inr (5, [.ref eq, .int (nZ (if (1 ≤ a ∧ a ≤ 12) ∧ a ≤ so2 then size + 1 else size)), .int (nZ (if (1 ≤ a ∧ a ≤ 12) ∧ a ≤ so2 then so2 - a else so2)), .int (nZ (if (1 ≤ a ∧ a ≤ 12) ∧ a ≤ so2 then sm2 else sm2)), .int (nZ (if (1 ≤ a ∧ a ≤ 12) ∧ a ≤ so2 then rn else rn))])), (eq, .inl (cI, 144, .inl (aZ (if (1 ≤ a ∧ a ≤ 12) ∧ a ≤ so2 then evF ev size 1 a 0 so2 sm2 rn else ev))))] t9) (va_A [(x, .inr (9, [.ref t, .ref rdr, .ref g, .ref q1, .ref h, .ref f, .ref s2, .ref w, .ref mq])), (s2, .inr (5, [.ref eq, .int (nZ size), .int (nZ so2), .int (nZ sm2), .int (nZ rn)])), (eq, .inl (cI, 144, .inl (aZ ev)))] sz)) 0 0 (va_A [(x, .inr (9, [.ref t, .ref rdr, .ref g, .ref q1, .ref h, .ref f, .ref s2, .ref w, .ref mq])), (s2, .inr (5, [.ref eq, .int (nZ size), .int (nZ so2), .int (nZ sm2), .int (nZ rn)])), (eq, .inl (cI, 144, .inl (aZ ev)))] sz) := by
  refine Met.ofW (cc := cX9_rain) (maxL := 2) (ret := (some .int)) (by decide) rfl ?_
  intro p e s m args below meth c s₁ B hml hv
  obtain ⟨rfl, hsz, hE, hP, hD0⟩ := hv
  have hx := B.exec
  have hb := B.bytes
  have hr := B.returns
  have hts := atoms_spec (ws := wsX9_rain) B.pre
  have hown : s.vm.findClass RX9 = some m.cls := findClass_of_methodNamed B.named
  have hlocks := B.notSynchronized
  subst hsz
  have hD := hD0.self (sz := s.heap.size)
  generalize hAe : va_A [(x, .inr (9, [.ref t, .ref rdr, .ref g, .ref q1, .ref h, .ref f, .ref s2, .ref w, .ref mq])), (s2, .inr (5, [.ref eq, .int (nZ size), .int (nZ so2), .int (nZ sm2), .int (nZ rn)])), (eq, .inl (cI, 144, .inl (aZ ev)))] s.heap.size = A at hD hE ⊢
  have hA : ∀ q : Nat, s.heap.size ≤ q → A q := fun q h => by rw [← hAe]; exact Or.inr h
  have hS : va_S A s.heap s.heap [] := va_S.rf
  have hK := hE.1
  have hN := hE.2.1
  have hl := lv_entry ([.ref x, .int (nZ a)]) (n := 2) (Nat.le_of_ble_eq_true rfl)
  rw [lg_entry_eq]
  generalize (lg_sl ([.ref x, .int (nZ a)]) ++ List.replicate (2 - (lg_sl ([.ref x, .int (nZ a)])).length) Slot.unset).toArray = ls at hl ⊢
  have hl : lv_has ls 2 [(0, .ref x), (1, .int (nZ a))] := hl
  have iX5 : ∀ w ∈ u_ws RX5 TX5 5, w ∈ wsX9_rain := fun _ h => List.mem_cons_of_mem _ (List.mem_append_right _ h)
  have iX9 : ∀ w ∈ u_ws RX9 TX9 9, w ∈ wsX9_rain := fun _ h => List.mem_cons_of_mem _ (List.mem_append_left _ (List.mem_append_right _ h))
  refine lv_iload_n hx hb dX9_rain_0 rfl (lv_at hl 1 rfl) ?_
  refine lv_iconst (v := nZ 1) hx hb dX9_rain_1 rfl ?_
  refine lv_bipush (v := nZ 12) hx hb dX9_rain_2 (by decide) ?_
  refine vp_callSi ((va_runS (As := [.int (nZ a), .int (nZ 1), .int (nZ 12)]) (rest := []) ⟨hx, hb, hml, hown, hts⟩ (c_X9_within l D cI cJ tn a 1 12 ra (by decide) (by decide) ) (va_cwS 3 hts gX9_rain_X9_within rfl rfl rfl (by decide +kernel) ⟨Nat.le_of_ble_eq_true rfl, Nat.le_of_ble_eq_true rfl⟩) ⟨RoP.blind, fun U hU hW => ⟨rfl, RoP.call hE hS (hP.sub (ws' := []) [] rfl) hU hW⟩⟩ rfl rfl hl.1 rfl (lv_room (Nat.le_of_ble_eq_true rfl)) dX9_rain_4 ⟨Nat.le_of_ble_eq_true rfl, Nat.le_of_ble_eq_true rfl⟩).run) (fun r4 hr4 => ?_)
  subst hr4
  refine z_nameI (fun r4 er4 => ?_)
  refine z_if_ne (tgt := 13) hx hb dX9_rain_7 (by decide) (by omega) (fun c_7 => ?_) (fun c_7 => ?_)
  · refine lv_iload_n hx hb dX9_rain_13 rfl (lv_at hl 1 rfl) ?_
    refine lv_aload_n hx hb dX9_rain_14 rfl (lv_at hl 0 rfl) ?_
    refine va_get (D := D) (ci := 9) (v := .ref s2) (C := RX9) (T := TX9) (N := 9) hx hb hts iX9 hown hK hP 0 rfl rfl 6 (by decide) (hts (.fieldLink RX9 58 "RainTarget" "second" "LRainTarget$SecondSide;") (List.mem_of_getElem? (i := 1) rfl)) (fun _ h9 => h9) rfl dX9_rain_15 ?_
    refine va_getN (D := D) (ci := 5) (v := .int (nZ so2)) (C := RX5) (T := TX5) (N := 5) hx hb hts iX5 hown hK hP 1 rfl rfl 2 (by decide) (va_Nw.use rfl (nw_X9_180 hN)) (fun _ h9 => h9) rfl dX9_rain_18 ?_
    refine z_icmp_le (tgt := 27) hx hb dX9_rain_21 (by decide) (by omega) (by omega) (fun c_21 => ?_) (fun c_21 => ?_)
    · refine lv_aload_n hx hb dX9_rain_27 rfl (lv_at hl 0 rfl) ?_
      refine va_get (D := D) (ci := 9) (v := .ref s2) (C := RX9) (T := TX9) (N := 9) hx hb hts iX9 hown hK hP 0 rfl rfl 6 (by decide) (hts (.fieldLink RX9 58 "RainTarget" "second" "LRainTarget$SecondSide;") (List.mem_of_getElem? (i := 1) rfl)) (fun _ h9 => h9) rfl dX9_rain_28 ?_
      refine va_getN (D := D) (ci := 5) (v := .int (nZ size)) (C := RX5) (T := TX5) (N := 5) hx hb hts iX5 hown hK hP 1 rfl rfl 1 (by decide) (va_Nw.use rfl (nw_X9_171 hN)) (fun _ h9 => h9) rfl dX9_rain_31 ?_
      refine lv_bipush (v := nZ 24) hx hb dX9_rain_34 (by decide) ?_
      refine z_icmp_lt (tgt := 42) hx hb dX9_rain_36 (by decide) (by omega) (by decide) (fun c_36 => ?_) (fun c_36 => ?_)
      · refine lv_aload_n hx hb dX9_rain_42 rfl (lv_at hl 0 rfl) ?_
        refine va_get (D := D) (ci := 9) (v := .ref s2) (C := RX9) (T := TX9) (N := 9) hx hb hts iX9 hown hK hP 0 rfl rfl 6 (by decide) (hts (.fieldLink RX9 58 "RainTarget" "second" "LRainTarget$SecondSide;") (List.mem_of_getElem? (i := 1) rfl)) (fun _ h9 => h9) rfl dX9_rain_43 ?_
        refine lv_iload_n hx hb dX9_rain_46 rfl (lv_at hl 1 rfl) ?_
        have hFc := va_free (wc := [(s2, .inr (5, [.ref eq, .int (nZ size), .int (nZ so2), .int (nZ sm2), .int (nZ rn)])), (eq, .inl (cI, 144, .inl (aZ ev)))]) hD hS hA [1, 2] rfl
        have hPc := hP.sub (ws' := [(s2, .inr (5, [.ref eq, .int (nZ size), .int (nZ so2), .int (nZ sm2), .int (nZ rn)])), (eq, .inl (cI, 144, .inl (aZ ev)))]) [1, 2] rfl
        have hDc := hD.sub (ws' := [(s2, .inr (5, [.ref eq, .int (nZ size), .int (nZ so2), .int (nZ sm2), .int (nZ rn)])), (eq, .inl (cI, 144, .inl (aZ ev)))]) [1, 2] (by decide) rfl
        refine va_callv (va_runVN (As := [.int (nZ a)]) (rest := []) ⟨hx, hb, hml, hown, hts⟩ (c_X5_addRain l D cI cJ tn s.heap.size s2 eq ev size so2 sm2 rn a hz0 (by first | assumption | omega) ) ⟨va_cnB 1 hts gX9_rain_X5_addRain_n181 rfl rfl rfl (nw_X9_181 hN) (hts (.initialized RX5) (List.mem_of_getElem? (i := 7) rfl)) (by decide +kernel) ⟨Nat.le_of_ble_eq_true rfl, Nat.le_of_ble_eq_true rfl⟩, (hts (.instanceMethod yX5_addRain) (List.mem_of_getElem? (i := 6) rfl)), (hts (.selects RX5 yX5_addRain yX5_addRain) (List.mem_of_getElem? (i := 8) rfl))⟩ ⟨WrP.blind, va_recv hK hP (ci := 5) (q0 := 1) rfl rfl, fun U hU hW => ⟨rfl, WrP.call hE hS hPc hDc hFc hU hW⟩⟩ rfl rfl hl.1 rfl (lv_room (Nat.le_of_ble_eq_true rfl)) dX9_rain_47 ⟨Nat.le_of_ble_eq_true rfl, Nat.le_of_ble_eq_true rfl⟩) hS (fun q _ h => hFc q h) hFc (fun u9 t9 H1 locs ht9 hvm hv47 hB9 hz9 hk9 hS => ?_)
        obtain ⟨hP8, hD8⟩ := hB9
        rw [ht9] at hP8
        have hw47 : True := hv47
        obtain ⟨hP, hD⟩ := va_join (wr := [(x, .inr (9, [.ref t, .ref rdr, .ref g, .ref q1, .ref h, .ref f, .ref s2, .ref w, .ref mq]))]) (w1 := [(s2, .inr (5, [.ref eq, .int (nZ (size + 1)), .int (nZ (so2 - a)), .int (nZ sm2), .int (nZ rn)])), (eq, .inl (cI, 144, .inl (aZ (evF ev size 1 a 0 so2 sm2 rn))))]) hP hD [1, 2] [0] rfl rfl (by decide) (by decide) hk9 hFc hP8 hD8
        generalize H1 = H at hP hS ⊢
        have hP : va_P D vwCl [(x, .inr (9, [.ref t, .ref rdr, .ref g, .ref q1, .ref h, .ref f, .ref s2, .ref w, .ref mq])), (s2, .inr (5, [.ref eq, .int (nZ (size + 1)), .int (nZ (so2 - a)), .int (nZ sm2), .int (nZ rn)])), (eq, .inl (cI, 144, .inl (aZ (evF ev size 1 a 0 so2 sm2 rn))))] H := hP
        have hD : va_D A [(x, .inr (9, [.ref t, .ref rdr, .ref g, .ref q1, .ref h, .ref f, .ref s2, .ref w, .ref mq])), (s2, .inr (5, [.ref eq, .int (nZ (size + 1)), .int (nZ (so2 - a)), .int (nZ sm2), .int (nZ rn)])), (eq, .inl (cI, 144, .inl (aZ (evF ev size 1 a 0 so2 sm2 rn))))] := hD
        refine lv_aload_n hx hb dX9_rain_50 rfl (lv_at hl 0 rfl) ?_
        refine va_get (D := D) (ci := 9) (v := .ref s2) (C := RX9) (T := TX9) (N := 9) hx hb hts iX9 hown hK hP 0 rfl rfl 6 (by decide) (hts (.fieldLink RX9 58 "RainTarget" "second" "LRainTarget$SecondSide;") (List.mem_of_getElem? (i := 1) rfl)) (fun _ h9 => h9) rfl dX9_rain_51 ?_
        refine va_getN (D := D) (ci := 5) (v := .int (nZ (so2 - a))) (C := RX5) (T := TX5) (N := 5) hx hb hts iX5 hown hK hP 1 rfl rfl 2 (by decide) (va_Nw.use rfl (nw_X9_180 hN)) (fun _ h9 => h9) rfl dX9_rain_54 ?_
        have hP9 := hP.sub (ws' := [(x, .inr (9, [.ref t, .ref rdr, .ref g, .ref q1, .ref h, .ref f, .ref s2, .ref w, .ref mq])), (s2, .inr (5, [.ref eq, .int (nZ (size + 1)), .int (nZ (so2 - a)), .int (nZ sm2), .int (nZ rn)])), (eq, .inl (cI, 144, .inl (aZ (evF ev size 1 a 0 so2 sm2 rn))))]) [0, 1, 2] rfl
        have hD9 := hD.sub (ws' := [(x, .inr (9, [.ref t, .ref rdr, .ref g, .ref q1, .ref h, .ref f, .ref s2, .ref w, .ref mq])), (s2, .inr (5, [.ref eq, .int (nZ (size + 1)), .int (nZ (so2 - a)), .int (nZ sm2), .int (nZ rn)])), (eq, .inl (cI, 144, .inl (aZ (evF ev size 1 a 0 so2 sm2 rn))))]) [0, 1, 2] (by decide) rfl
        have hq9 : ([(x, .inr (9, [.ref t, .ref rdr, .ref g, .ref q1, .ref h, .ref f, .ref s2, .ref w, .ref mq])), (s2, .inr (5, [.ref eq, .int (nZ (size + 1)), .int (nZ (so2 - a)), .int (nZ sm2), .int (nZ rn)])), (eq, .inl (cI, 144, .inl (aZ (evF ev size 1 a 0 so2 sm2 rn))))] : va_W) = [(x, .inr (9, [.ref t, .ref rdr, .ref g, .ref q1, .ref h, .ref f, .ref s2, .ref w, .ref mq])), (s2, .inr (5, [.ref eq, .int (nZ (if (1 ≤ a ∧ a ≤ 12) ∧ a ≤ so2 then size + 1 else size)), .int (nZ (if (1 ≤ a ∧ a ≤ 12) ∧ a ≤ so2 then so2 - a else so2)), .int (nZ (if (1 ≤ a ∧ a ≤ 12) ∧ a ≤ so2 then sm2 else sm2)), .int (nZ (if (1 ≤ a ∧ a ≤ 12) ∧ a ≤ so2 then rn else rn))])), (eq, .inl (cI, 144, .inl (aZ (if (1 ≤ a ∧ a ≤ 12) ∧ a ≤ so2 then evF ev size 1 a 0 so2 sm2 rn else ev))))] := by first | (simp only [if_pos (show (1 ≤ a ∧ a ≤ 12) ∧ a ≤ so2 from by omega)]; done) | (simp only [if_neg (show ¬ ((1 ≤ a ∧ a ≤ 12) ∧ a ≤ so2) from by omega)]; done)
        rw [hq9] at hP9 hD9
        exact W.iret (v := nZ (so2 - a)) hx hb hr (fun t9 ht9 _ => ⟨⟨nZ (so2 - a), (), rfl, ⟨congrArg nZ (show (so2 - a : Int) = if 1 ≤ a ∧ a ≤ 12 then (if a ≤ so2 then so2 - a else -4) else -3 from (by first | rfl | omega | (split <;> omega) | (split <;> split <;> omega))), trivial⟩, ⟨by rw [ht9]; exact hP9, hD9⟩⟩, hS.F ht9⟩) hS.2.2 dX9_rain_57
      · exfalso; omega
    · refine lv_bipush (v := nZ (-4)) hx hb dX9_rain_24 (by decide) ?_
      have hP9 := hP.sub (ws' := [(x, .inr (9, [.ref t, .ref rdr, .ref g, .ref q1, .ref h, .ref f, .ref s2, .ref w, .ref mq])), (s2, .inr (5, [.ref eq, .int (nZ size), .int (nZ so2), .int (nZ sm2), .int (nZ rn)])), (eq, .inl (cI, 144, .inl (aZ ev)))]) [0, 1, 2] rfl
      have hD9 := hD.sub (ws' := [(x, .inr (9, [.ref t, .ref rdr, .ref g, .ref q1, .ref h, .ref f, .ref s2, .ref w, .ref mq])), (s2, .inr (5, [.ref eq, .int (nZ size), .int (nZ so2), .int (nZ sm2), .int (nZ rn)])), (eq, .inl (cI, 144, .inl (aZ ev)))]) [0, 1, 2] (by decide) rfl
      have hq9 : ([(x, .inr (9, [.ref t, .ref rdr, .ref g, .ref q1, .ref h, .ref f, .ref s2, .ref w, .ref mq])), (s2, .inr (5, [.ref eq, .int (nZ size), .int (nZ so2), .int (nZ sm2), .int (nZ rn)])), (eq, .inl (cI, 144, .inl (aZ ev)))] : va_W) = [(x, .inr (9, [.ref t, .ref rdr, .ref g, .ref q1, .ref h, .ref f, .ref s2, .ref w, .ref mq])), (s2, .inr (5, [.ref eq, .int (nZ (if (1 ≤ a ∧ a ≤ 12) ∧ a ≤ so2 then size + 1 else size)), .int (nZ (if (1 ≤ a ∧ a ≤ 12) ∧ a ≤ so2 then so2 - a else so2)), .int (nZ (if (1 ≤ a ∧ a ≤ 12) ∧ a ≤ so2 then sm2 else sm2)), .int (nZ (if (1 ≤ a ∧ a ≤ 12) ∧ a ≤ so2 then rn else rn))])), (eq, .inl (cI, 144, .inl (aZ (if (1 ≤ a ∧ a ≤ 12) ∧ a ≤ so2 then evF ev size 1 a 0 so2 sm2 rn else ev))))] := by first | (simp only [if_pos (show (1 ≤ a ∧ a ≤ 12) ∧ a ≤ so2 from by omega)]; done) | (simp only [if_neg (show ¬ ((1 ≤ a ∧ a ≤ 12) ∧ a ≤ so2) from by omega)]; done)
      rw [hq9] at hP9 hD9
      exact W.iret (v := nZ (-4)) hx hb hr (fun t9 ht9 _ => ⟨⟨nZ (-4), (), rfl, ⟨congrArg nZ (show (-4 : Int) = if 1 ≤ a ∧ a ≤ 12 then (if a ≤ so2 then so2 - a else -4) else -3 from (by first | rfl | omega | (split <;> omega) | (split <;> split <;> omega))), trivial⟩, ⟨by rw [ht9]; exact hP9, hD9⟩⟩, hS.F ht9⟩) hS.2.2 dX9_rain_26
  · refine lv_bipush (v := nZ (-3)) hx hb dX9_rain_10 (by decide) ?_
    have hP9 := hP.sub (ws' := [(x, .inr (9, [.ref t, .ref rdr, .ref g, .ref q1, .ref h, .ref f, .ref s2, .ref w, .ref mq])), (s2, .inr (5, [.ref eq, .int (nZ size), .int (nZ so2), .int (nZ sm2), .int (nZ rn)])), (eq, .inl (cI, 144, .inl (aZ ev)))]) [0, 1, 2] rfl
    have hD9 := hD.sub (ws' := [(x, .inr (9, [.ref t, .ref rdr, .ref g, .ref q1, .ref h, .ref f, .ref s2, .ref w, .ref mq])), (s2, .inr (5, [.ref eq, .int (nZ size), .int (nZ so2), .int (nZ sm2), .int (nZ rn)])), (eq, .inl (cI, 144, .inl (aZ ev)))]) [0, 1, 2] (by decide) rfl
    have hq9 : ([(x, .inr (9, [.ref t, .ref rdr, .ref g, .ref q1, .ref h, .ref f, .ref s2, .ref w, .ref mq])), (s2, .inr (5, [.ref eq, .int (nZ size), .int (nZ so2), .int (nZ sm2), .int (nZ rn)])), (eq, .inl (cI, 144, .inl (aZ ev)))] : va_W) = [(x, .inr (9, [.ref t, .ref rdr, .ref g, .ref q1, .ref h, .ref f, .ref s2, .ref w, .ref mq])), (s2, .inr (5, [.ref eq, .int (nZ (if (1 ≤ a ∧ a ≤ 12) ∧ a ≤ so2 then size + 1 else size)), .int (nZ (if (1 ≤ a ∧ a ≤ 12) ∧ a ≤ so2 then so2 - a else so2)), .int (nZ (if (1 ≤ a ∧ a ≤ 12) ∧ a ≤ so2 then sm2 else sm2)), .int (nZ (if (1 ≤ a ∧ a ≤ 12) ∧ a ≤ so2 then rn else rn))])), (eq, .inl (cI, 144, .inl (aZ (if (1 ≤ a ∧ a ≤ 12) ∧ a ≤ so2 then evF ev size 1 a 0 so2 sm2 rn else ev))))] := by first | (simp only [if_pos (show (1 ≤ a ∧ a ≤ 12) ∧ a ≤ so2 from by omega)]; done) | (simp only [if_neg (show ¬ ((1 ≤ a ∧ a ≤ 12) ∧ a ≤ so2) from by omega)]; done)
    rw [hq9] at hP9 hD9
    exact W.iret (v := nZ (-3)) hx hb hr (fun t9 ht9 _ => ⟨⟨nZ (-3), (), rfl, ⟨congrArg nZ (show (-3 : Int) = if 1 ≤ a ∧ a ≤ 12 then (if a ≤ so2 then so2 - a else -4) else -3 from (by first | rfl | omega | (split <;> omega) | (split <;> split <;> omega))), trivial⟩, ⟨by rw [ht9]; exact hP9, hD9⟩⟩, hS.F ht9⟩) hS.2.2 dX9_rain_12

set_option maxHeartbeats 4000000 in
set_option maxRecDepth 100000 in
theorem c_X9_event (l : Launch) (D : va_G) (cI cJ : ClassId) (tn : Nat) (x : Nat) (t : Nat) (rdr : Nat) (g : Nat) (q1 : Nat) (h : Nat) (f : Nat) (s2 : Nat) (w : Nat) (mq : Nat) (eq : Nat) (ev : Int → Int) (size : Int) (so2 : Int) (sm2 : Int) (rn : Int) (a : Int) (b : Int) (ra : I32 a) (rb : I32 b) (hz0 : 0 ≤ size) (hz2 : size ≤ 24)  : Met l yX9_event wsX9_event ({ frames := 2, cells := 0, slots := 0, locals := 44 } : Room) (va_Pc [.ref x, .int (nZ a), .int (nZ b)] (RoP D cI cJ tn [(x, .inr (9, [.ref t, .ref rdr, .ref g, .ref q1, .ref h, .ref f, .ref s2, .ref w, .ref mq])), (s2, .inr (5, [.ref eq, .int (nZ size), .int (nZ so2), .int (nZ sm2), .int (nZ rn)])), (eq, .inl (cI, 144, .inl (aZ ev)))])) (vp_Si (fun r9 : Int32 => r9 = nZ (if 0 ≤ a ∧ a < size then (if 0 ≤ b ∧ b ≤ 2 then ev (a * 6 + b) else -3) else -2))) 0 0 (fun _ => False) := by
  refine Met.ofW (cc := cX9_event) (maxL := 3) (ret := (some .int)) (by decide) rfl ?_
  intro p e s m args below meth c s₁ B hml hv
  obtain ⟨rfl, hE, hP⟩ := hv
  have hx := B.exec
  have hb := B.bytes
  have hr := B.returns
  have hts := atoms_spec (ws := wsX9_event) B.pre
  have hown : s.vm.findClass RX9 = some m.cls := findClass_of_methodNamed B.named
  have hlocks := B.notSynchronized
  have hS : va_S (fun _ => False) s.heap s.heap [] := va_S.rf
  have hK := hE.1
  have hN := hE.2.1
  have hl := lv_entry ([.ref x, .int (nZ a), .int (nZ b)]) (n := 3) (Nat.le_of_ble_eq_true rfl)
  rw [lg_entry_eq]
  generalize (lg_sl ([.ref x, .int (nZ a), .int (nZ b)]) ++ List.replicate (3 - (lg_sl ([.ref x, .int (nZ a), .int (nZ b)])).length) Slot.unset).toArray = ls at hl ⊢
  have hl : lv_has ls 3 [(0, .ref x), (1, .int (nZ a)), (2, .int (nZ b))] := hl
  have iX5 : ∀ w ∈ u_ws RX5 TX5 5, w ∈ wsX9_event := fun _ h => List.mem_cons_of_mem _ (List.mem_append_right _ h)
  have iX9 : ∀ w ∈ u_ws RX9 TX9 9, w ∈ wsX9_event := fun _ h => List.mem_cons_of_mem _ (List.mem_append_left _ (List.mem_append_right _ h))
  refine lv_iload_n hx hb dX9_event_0 rfl (lv_at hl 1 rfl) ?_
  refine lv_iconst (v := nZ 0) hx hb dX9_event_1 rfl ?_
  refine lv_aload_n hx hb dX9_event_2 rfl (lv_at hl 0 rfl) ?_
  refine va_get (D := D) (ci := 9) (v := .ref s2) (C := RX9) (T := TX9) (N := 9) hx hb hts iX9 hown hK hP 0 rfl rfl 6 (by decide) (hts (.fieldLink RX9 58 "RainTarget" "second" "LRainTarget$SecondSide;") (List.mem_of_getElem? (i := 1) rfl)) (fun _ h9 => h9) rfl dX9_event_3 ?_
  refine va_getN (D := D) (ci := 5) (v := .int (nZ size)) (C := RX5) (T := TX5) (N := 5) hx hb hts iX5 hown hK hP 1 rfl rfl 1 (by decide) (va_Nw.use rfl (nw_X9_171 hN)) (fun _ h9 => h9) rfl dX9_event_6 ?_
  refine lv_iconst (v := nZ 1) hx hb dX9_event_9 rfl ?_
  refine z_isub hx hb dX9_event_10 ?_
  refine vp_callSi ((va_runS (As := [.int (nZ a), .int (nZ 0), .int (nZ (size - 1))]) (rest := []) ⟨hx, hb, hml, hown, hts⟩ (c_X9_within l D cI cJ tn a 0 (size - 1) ra (by decide) (by omega) ) (va_cwS 3 hts gX9_event_X9_within rfl rfl rfl (by decide +kernel) ⟨Nat.le_of_ble_eq_true rfl, Nat.le_of_ble_eq_true rfl⟩) ⟨RoP.blind, fun U hU hW => ⟨rfl, RoP.call hE hS (hP.sub (ws' := []) [] rfl) hU hW⟩⟩ rfl rfl hl.1 rfl (lv_room (Nat.le_of_ble_eq_true rfl)) dX9_event_11 ⟨Nat.le_of_ble_eq_true rfl, Nat.le_of_ble_eq_true rfl⟩).run) (fun r11 hr11 => ?_)
  subst hr11
  refine z_nameI (fun r11 er11 => ?_)
  refine z_if_ne (tgt := 20) hx hb dX9_event_14 (by decide) (by omega) (fun c_14 => ?_) (fun c_14 => ?_)
  · refine lv_iload_n hx hb dX9_event_20 rfl (lv_at hl 2 rfl) ?_
    refine lv_iconst (v := nZ 0) hx hb dX9_event_21 rfl ?_
    refine lv_iconst (v := nZ 2) hx hb dX9_event_22 rfl ?_
    refine vp_callSi ((va_runS (As := [.int (nZ b), .int (nZ 0), .int (nZ 2)]) (rest := []) ⟨hx, hb, hml, hown, hts⟩ (c_X9_within l D cI cJ tn b 0 2 rb (by decide) (by decide) ) (va_cwS 3 hts gX9_event_X9_within rfl rfl rfl (by decide +kernel) ⟨Nat.le_of_ble_eq_true rfl, Nat.le_of_ble_eq_true rfl⟩) ⟨RoP.blind, fun U hU hW => ⟨rfl, RoP.call hE hS (hP.sub (ws' := []) [] rfl) hU hW⟩⟩ rfl rfl hl.1 rfl (lv_room (Nat.le_of_ble_eq_true rfl)) dX9_event_23 ⟨Nat.le_of_ble_eq_true rfl, Nat.le_of_ble_eq_true rfl⟩).run) (fun r23 hr23 => ?_)
    subst hr23
    refine z_nameI (fun r23 er23 => ?_)
    refine z_if_ne (tgt := 32) hx hb dX9_event_26 (by decide) (by omega) (fun c_26 => ?_) (fun c_26 => ?_)
    · refine lv_aload_n hx hb dX9_event_32 rfl (lv_at hl 0 rfl) ?_
      refine va_get (D := D) (ci := 9) (v := .ref s2) (C := RX9) (T := TX9) (N := 9) hx hb hts iX9 hown hK hP 0 rfl rfl 6 (by decide) (hts (.fieldLink RX9 58 "RainTarget" "second" "LRainTarget$SecondSide;") (List.mem_of_getElem? (i := 1) rfl)) (fun _ h9 => h9) rfl dX9_event_33 ?_
      refine lv_iload_n hx hb dX9_event_36 rfl (lv_at hl 1 rfl) ?_
      refine lv_iload_n hx hb dX9_event_37 rfl (lv_at hl 2 rfl) ?_
      refine vp_callSi ((va_runVN (As := [.int (nZ a), .int (nZ b)]) (rest := []) ⟨hx, hb, hml, hown, hts⟩ (c_X5_part l D cI cJ tn s2 eq ev size so2 sm2 rn a b ra rb ) ⟨va_cnB 2 hts gX9_event_X5_part_n184 rfl rfl rfl (nw_X9_184 hN) (hts (.initialized RX5) (List.mem_of_getElem? (i := 7) rfl)) (by decide +kernel) ⟨Nat.le_of_ble_eq_true rfl, Nat.le_of_ble_eq_true rfl⟩, (hts (.instanceMethod yX5_part) (List.mem_of_getElem? (i := 6) rfl)), (hts (.selects RX5 yX5_part yX5_part) (List.mem_of_getElem? (i := 8) rfl))⟩ ⟨RoP.blind, va_recv hK hP (ci := 5) (q0 := 1) rfl rfl, fun U hU hW => ⟨rfl, RoP.call hE hS (hP.sub (ws' := [(s2, .inr (5, [.ref eq, .int (nZ size), .int (nZ so2), .int (nZ sm2), .int (nZ rn)])), (eq, .inl (cI, 144, .inl (aZ ev)))]) [1, 2] rfl) hU hW⟩⟩ rfl rfl hl.1 rfl (lv_room (Nat.le_of_ble_eq_true rfl)) dX9_event_38 ⟨Nat.le_of_ble_eq_true rfl, Nat.le_of_ble_eq_true rfl⟩).run) (fun r38 hr38 => ?_)
      subst hr38
      refine z_nameI (fun r38 er38 => ?_)
      exact W.iret (v := nZ r38) hx hb hr (fun t9 ht9 _ => ⟨nZ r38, rfl, congrArg nZ (show (r38 : Int) = if 0 ≤ a ∧ a < size then (if 0 ≤ b ∧ b ≤ 2 then ev (a * 6 + b) else -3) else -2 from (by rw [er38, if_pos (by omega), if_pos (by omega), if_pos (by omega)])), ht9⟩) (fun _ h => by cases h) dX9_event_41
    · refine lv_bipush (v := nZ (-3)) hx hb dX9_event_29 (by decide) ?_
      exact W.iret (v := nZ (-3)) hx hb hr (fun t9 ht9 _ => ⟨nZ (-3), rfl, congrArg nZ (show (-3 : Int) = if 0 ≤ a ∧ a < size then (if 0 ≤ b ∧ b ≤ 2 then ev (a * 6 + b) else -3) else -2 from (by rw [if_pos (by omega), if_neg (by omega)])), ht9⟩) (fun _ h => by cases h) dX9_event_31
  · refine lv_bipush (v := nZ (-2)) hx hb dX9_event_17 (by decide) ?_
    exact W.iret (v := nZ (-2)) hx hb hr (fun t9 ht9 _ => ⟨nZ (-2), rfl, congrArg nZ (show (-2 : Int) = if 0 ≤ a ∧ a < size then (if 0 ≤ b ∧ b ≤ 2 then ev (a * 6 + b) else -3) else -2 from (by rw [if_neg (by omega)])), ht9⟩) (fun _ h => by cases h) dX9_event_19

set_option maxHeartbeats 4000000 in
set_option maxRecDepth 100000 in
theorem c_X9_match (l : Launch) (D : va_G) (cI cJ : ClassId) (tn : Nat) (sz : Nat) (x : Nat) (t : Nat) (rdr : Nat) (g : Nat) (q1 : Nat) (h : Nat) (f : Nat) (s2 : Nat) (w : Nat) (mq : Nat) (mtq : Nat) (mt : Int → Int) (ms : Int) (a : Int) (b : Int) (d : Int) (ra : I32 a) (rb : I32 b) (rd : I32 d) (hs0 : 0 ≤ ms) (hs1 : ms ≤ 24)  : Met l yX9_match wsX9_match ({ frames := 2, cells := 0, slots := 0, locals := 46 } : Room) (va_Pc [.ref x, .int (nZ a), .int (nZ b), .int (nZ d)] (WrP D cI cJ tn [(x, .inr (9, [.ref t, .ref rdr, .ref g, .ref q1, .ref h, .ref f, .ref s2, .ref w, .ref mq])), (mq, .inr (2, [.ref mtq, .int (nZ ms)])), (mtq, .inl (cI, 72, .inl (aZ mt)))] sz)) (va_Qi (fun (r9 : Int32) (u9 : Unit) => r9 = nZ (if (0 ≤ a ∧ a ≤ 12) ∧ (0 ≤ b ∧ b ≤ 10) ∧ (0 ≤ d ∧ d ≤ 999) then (if ms < 24 then ms + 1 else -5) else -3) ∧ True) (fun u9 t9 => WrQ D (va_A [(x, .inr (9, [.ref t, .ref rdr, .ref g, .ref q1, .ref h, .ref f, .ref s2, .ref w, .ref mq])), (mq, .inr (2, [.ref mtq, .int (nZ ms)])), (mtq, .inl (cI, 72, .inl (aZ mt)))] sz) [(x, .inr (9, [.ref t, .ref rdr, .ref g, .ref q1, .ref h, .ref f, .ref s2, .ref w, .ref mq])), (mq, .inr (2, [.ref mtq, .int (nZ (if ((0 ≤ a ∧ a ≤ 12) ∧ (0 ≤ b ∧ b ≤ 10) ∧ (0 ≤ d ∧ d ≤ 999)) ∧ ms < 24 then ms + 1 else ms))])), (mtq, .inl (cI, 72, .inl (aZ (if ((0 ≤ a ∧ a ≤ 12) ∧ (0 ≤ b ∧ b ≤ 10) ∧ (0 ≤ d ∧ d ≤ 999)) ∧ ms < 24 then mtF mt ms a b d else mt))))] t9) (va_A [(x, .inr (9, [.ref t, .ref rdr, .ref g, .ref q1, .ref h, .ref f, .ref s2, .ref w, .ref mq])), (mq, .inr (2, [.ref mtq, .int (nZ ms)])), (mtq, .inl (cI, 72, .inl (aZ mt)))] sz)) 0 0 (va_A [(x, .inr (9, [.ref t, .ref rdr, .ref g, .ref q1, .ref h, .ref f, .ref s2, .ref w, .ref mq])), (mq, .inr (2, [.ref mtq, .int (nZ ms)])), (mtq, .inl (cI, 72, .inl (aZ mt)))] sz) := by
  refine Met.ofW (cc := cX9_match) (maxL := 4) (ret := (some .int)) (by decide) rfl ?_
  intro p e s m args below meth c s₁ B hml hv
  obtain ⟨rfl, hsz, hE, hP, hD0⟩ := hv
  have hx := B.exec
  have hb := B.bytes
  have hr := B.returns
  have hts := atoms_spec (ws := wsX9_match) B.pre
  have hown : s.vm.findClass RX9 = some m.cls := findClass_of_methodNamed B.named
  have hlocks := B.notSynchronized
  subst hsz
  have hD := hD0.self (sz := s.heap.size)
  generalize hAe : va_A [(x, .inr (9, [.ref t, .ref rdr, .ref g, .ref q1, .ref h, .ref f, .ref s2, .ref w, .ref mq])), (mq, .inr (2, [.ref mtq, .int (nZ ms)])), (mtq, .inl (cI, 72, .inl (aZ mt)))] s.heap.size = A at hD hE ⊢
  have hA : ∀ q : Nat, s.heap.size ≤ q → A q := fun q h => by rw [← hAe]; exact Or.inr h
  have hS : va_S A s.heap s.heap [] := va_S.rf
  have hK := hE.1
  have hN := hE.2.1
  have hl := lv_entry ([.ref x, .int (nZ a), .int (nZ b), .int (nZ d)]) (n := 4) (Nat.le_of_ble_eq_true rfl)
  rw [lg_entry_eq]
  generalize (lg_sl ([.ref x, .int (nZ a), .int (nZ b), .int (nZ d)]) ++ List.replicate (4 - (lg_sl ([.ref x, .int (nZ a), .int (nZ b), .int (nZ d)])).length) Slot.unset).toArray = ls at hl ⊢
  have hl : lv_has ls 4 [(0, .ref x), (1, .int (nZ a)), (2, .int (nZ b)), (3, .int (nZ d))] := hl
  have iX2 : ∀ w ∈ u_ws RX2 TX2 2, w ∈ wsX9_match := fun _ h => List.mem_cons_of_mem _ (List.mem_append_right _ h)
  have iX9 : ∀ w ∈ u_ws RX9 TX9 9, w ∈ wsX9_match := fun _ h => List.mem_cons_of_mem _ (List.mem_append_left _ (List.mem_append_right _ h))
  refine lv_iload_n hx hb dX9_match_0 rfl (lv_at hl 1 rfl) ?_
  refine lv_iconst (v := nZ 0) hx hb dX9_match_1 rfl ?_
  refine lv_bipush (v := nZ 12) hx hb dX9_match_2 (by decide) ?_
  refine vp_callSi ((va_runS (As := [.int (nZ a), .int (nZ 0), .int (nZ 12)]) (rest := []) ⟨hx, hb, hml, hown, hts⟩ (c_X9_within l D cI cJ tn a 0 12 ra (by decide) (by decide) ) (va_cwS 3 hts gX9_match_X9_within rfl rfl rfl (by decide +kernel) ⟨Nat.le_of_ble_eq_true rfl, Nat.le_of_ble_eq_true rfl⟩) ⟨RoP.blind, fun U hU hW => ⟨rfl, RoP.call hE hS (hP.sub (ws' := []) [] rfl) hU hW⟩⟩ rfl rfl hl.1 rfl (lv_room (Nat.le_of_ble_eq_true rfl)) dX9_match_4 ⟨Nat.le_of_ble_eq_true rfl, Nat.le_of_ble_eq_true rfl⟩).run) (fun r4 hr4 => ?_)
  subst hr4
  refine z_nameI (fun r4 er4 => ?_)
  refine z_if_eq (tgt := 31) hx hb dX9_match_7 (by decide) (by omega) (fun c_7 => ?_) (fun c_7 => ?_)
  · refine lv_bipush (v := nZ (-3)) hx hb dX9_match_31 (by decide) ?_
    have hP9 := hP.sub (ws' := [(x, .inr (9, [.ref t, .ref rdr, .ref g, .ref q1, .ref h, .ref f, .ref s2, .ref w, .ref mq])), (mq, .inr (2, [.ref mtq, .int (nZ ms)])), (mtq, .inl (cI, 72, .inl (aZ mt)))]) [0, 1, 2] rfl
    have hD9 := hD.sub (ws' := [(x, .inr (9, [.ref t, .ref rdr, .ref g, .ref q1, .ref h, .ref f, .ref s2, .ref w, .ref mq])), (mq, .inr (2, [.ref mtq, .int (nZ ms)])), (mtq, .inl (cI, 72, .inl (aZ mt)))]) [0, 1, 2] (by decide) rfl
    have hq9 : ([(x, .inr (9, [.ref t, .ref rdr, .ref g, .ref q1, .ref h, .ref f, .ref s2, .ref w, .ref mq])), (mq, .inr (2, [.ref mtq, .int (nZ ms)])), (mtq, .inl (cI, 72, .inl (aZ mt)))] : va_W) = [(x, .inr (9, [.ref t, .ref rdr, .ref g, .ref q1, .ref h, .ref f, .ref s2, .ref w, .ref mq])), (mq, .inr (2, [.ref mtq, .int (nZ (if ((0 ≤ a ∧ a ≤ 12) ∧ (0 ≤ b ∧ b ≤ 10) ∧ (0 ≤ d ∧ d ≤ 999)) ∧ ms < 24 then ms + 1 else ms))])), (mtq, .inl (cI, 72, .inl (aZ (if ((0 ≤ a ∧ a ≤ 12) ∧ (0 ≤ b ∧ b ≤ 10) ∧ (0 ≤ d ∧ d ≤ 999)) ∧ ms < 24 then mtF mt ms a b d else mt))))] := by first | (simp only [if_pos (show ((0 ≤ a ∧ a ≤ 12) ∧ (0 ≤ b ∧ b ≤ 10) ∧ (0 ≤ d ∧ d ≤ 999)) ∧ ms < 24 from by omega)]; done) | (simp only [if_neg (show ¬ (((0 ≤ a ∧ a ≤ 12) ∧ (0 ≤ b ∧ b ≤ 10) ∧ (0 ≤ d ∧ d ≤ 999)) ∧ ms < 24) from by omega)]; done)
    rw [hq9] at hP9 hD9
    exact W.iret (v := nZ (-3)) hx hb hr (fun t9 ht9 _ => ⟨⟨nZ (-3), (), rfl, ⟨congrArg nZ (show (-3 : Int) = if (0 ≤ a ∧ a ≤ 12) ∧ (0 ≤ b ∧ b ≤ 10) ∧ (0 ≤ d ∧ d ≤ 999) then (if ms < 24 then ms + 1 else -5) else -3 from (by first | rfl | omega | (split <;> omega) | (split <;> split <;> omega))), trivial⟩, ⟨by rw [ht9]; exact hP9, hD9⟩⟩, hS.F ht9⟩) hS.2.2 dX9_match_33
  · refine lv_iload_n hx hb dX9_match_10 rfl (lv_at hl 2 rfl) ?_
    refine lv_iconst (v := nZ 0) hx hb dX9_match_11 rfl ?_
    refine lv_bipush (v := nZ 10) hx hb dX9_match_12 (by decide) ?_
    refine vp_callSi ((va_runS (As := [.int (nZ b), .int (nZ 0), .int (nZ 10)]) (rest := []) ⟨hx, hb, hml, hown, hts⟩ (c_X9_within l D cI cJ tn b 0 10 rb (by decide) (by decide) ) (va_cwS 3 hts gX9_match_X9_within rfl rfl rfl (by decide +kernel) ⟨Nat.le_of_ble_eq_true rfl, Nat.le_of_ble_eq_true rfl⟩) ⟨RoP.blind, fun U hU hW => ⟨rfl, RoP.call hE hS (hP.sub (ws' := []) [] rfl) hU hW⟩⟩ rfl rfl hl.1 rfl (lv_room (Nat.le_of_ble_eq_true rfl)) dX9_match_14 ⟨Nat.le_of_ble_eq_true rfl, Nat.le_of_ble_eq_true rfl⟩).run) (fun r14 hr14 => ?_)
    subst hr14
    refine z_nameI (fun r14 er14 => ?_)
    refine z_if_eq (tgt := 31) hx hb dX9_match_17 (by decide) (by omega) (fun c_17 => ?_) (fun c_17 => ?_)
    · refine lv_bipush (v := nZ (-3)) hx hb dX9_match_31 (by decide) ?_
      have hP9 := hP.sub (ws' := [(x, .inr (9, [.ref t, .ref rdr, .ref g, .ref q1, .ref h, .ref f, .ref s2, .ref w, .ref mq])), (mq, .inr (2, [.ref mtq, .int (nZ ms)])), (mtq, .inl (cI, 72, .inl (aZ mt)))]) [0, 1, 2] rfl
      have hD9 := hD.sub (ws' := [(x, .inr (9, [.ref t, .ref rdr, .ref g, .ref q1, .ref h, .ref f, .ref s2, .ref w, .ref mq])), (mq, .inr (2, [.ref mtq, .int (nZ ms)])), (mtq, .inl (cI, 72, .inl (aZ mt)))]) [0, 1, 2] (by decide) rfl
      have hq9 : ([(x, .inr (9, [.ref t, .ref rdr, .ref g, .ref q1, .ref h, .ref f, .ref s2, .ref w, .ref mq])), (mq, .inr (2, [.ref mtq, .int (nZ ms)])), (mtq, .inl (cI, 72, .inl (aZ mt)))] : va_W) = [(x, .inr (9, [.ref t, .ref rdr, .ref g, .ref q1, .ref h, .ref f, .ref s2, .ref w, .ref mq])), (mq, .inr (2, [.ref mtq, .int (nZ (if ((0 ≤ a ∧ a ≤ 12) ∧ (0 ≤ b ∧ b ≤ 10) ∧ (0 ≤ d ∧ d ≤ 999)) ∧ ms < 24 then ms + 1 else ms))])), (mtq, .inl (cI, 72, .inl (aZ (if ((0 ≤ a ∧ a ≤ 12) ∧ (0 ≤ b ∧ b ≤ 10) ∧ (0 ≤ d ∧ d ≤ 999)) ∧ ms < 24 then mtF mt ms a b d else mt))))] := by first | (simp only [if_pos (show ((0 ≤ a ∧ a ≤ 12) ∧ (0 ≤ b ∧ b ≤ 10) ∧ (0 ≤ d ∧ d ≤ 999)) ∧ ms < 24 from by omega)]; done) | (simp only [if_neg (show ¬ (((0 ≤ a ∧ a ≤ 12) ∧ (0 ≤ b ∧ b ≤ 10) ∧ (0 ≤ d ∧ d ≤ 999)) ∧ ms < 24) from by omega)]; done)
      rw [hq9] at hP9 hD9
      exact W.iret (v := nZ (-3)) hx hb hr (fun t9 ht9 _ => ⟨⟨nZ (-3), (), rfl, ⟨congrArg nZ (show (-3 : Int) = if (0 ≤ a ∧ a ≤ 12) ∧ (0 ≤ b ∧ b ≤ 10) ∧ (0 ≤ d ∧ d ≤ 999) then (if ms < 24 then ms + 1 else -5) else -3 from (by first | rfl | omega | (split <;> omega) | (split <;> split <;> omega))), trivial⟩, ⟨by rw [ht9]; exact hP9, hD9⟩⟩, hS.F ht9⟩) hS.2.2 dX9_match_33
    · refine lv_iload_n hx hb dX9_match_20 rfl (lv_at hl 3 rfl) ?_
      refine lv_iconst (v := nZ 0) hx hb dX9_match_21 rfl ?_
      refine lv_sipush (v := nZ 999) hx hb dX9_match_22 (by decide) ?_
      refine vp_callSi ((va_runS (As := [.int (nZ d), .int (nZ 0), .int (nZ 999)]) (rest := []) ⟨hx, hb, hml, hown, hts⟩ (c_X9_within l D cI cJ tn d 0 999 rd (by decide) (by decide) ) (va_cwS 3 hts gX9_match_X9_within rfl rfl rfl (by decide +kernel) ⟨Nat.le_of_ble_eq_true rfl, Nat.le_of_ble_eq_true rfl⟩) ⟨RoP.blind, fun U hU hW => ⟨rfl, RoP.call hE hS (hP.sub (ws' := []) [] rfl) hU hW⟩⟩ rfl rfl hl.1 rfl (lv_room (Nat.le_of_ble_eq_true rfl)) dX9_match_25 ⟨Nat.le_of_ble_eq_true rfl, Nat.le_of_ble_eq_true rfl⟩).run) (fun r25 hr25 => ?_)
      subst hr25
      refine z_nameI (fun r25 er25 => ?_)
      refine z_if_ne (tgt := 34) hx hb dX9_match_28 (by decide) (by omega) (fun c_28 => ?_) (fun c_28 => ?_)
      · refine lv_aload_n hx hb dX9_match_34 rfl (lv_at hl 0 rfl) ?_
        refine va_get (D := D) (ci := 9) (v := .ref mq) (C := RX9) (T := TX9) (N := 9) hx hb hts iX9 hown hK hP 0 rfl rfl 8 (by decide) (hts (.fieldLink RX9 74 "RainTarget" "matches" "LRainTarget$Matches;") (List.mem_of_getElem? (i := 1) rfl)) (fun _ h9 => h9) rfl dX9_match_35 ?_
        refine va_getN (D := D) (ci := 2) (v := .int (nZ ms)) (C := RX2) (T := TX2) (N := 2) hx hb hts iX2 hown hK hP 1 rfl rfl 1 (by decide) (va_Nw.use rfl (nw_X9_228 hN)) (fun _ h9 => h9) rfl dX9_match_38 ?_
        refine lv_bipush (v := nZ 24) hx hb dX9_match_41 (by decide) ?_
        refine z_icmp_lt (tgt := 49) hx hb dX9_match_43 (by decide) (by omega) (by decide) (fun c_43 => ?_) (fun c_43 => ?_)
        · refine lv_aload_n hx hb dX9_match_49 rfl (lv_at hl 0 rfl) ?_
          refine va_get (D := D) (ci := 9) (v := .ref mq) (C := RX9) (T := TX9) (N := 9) hx hb hts iX9 hown hK hP 0 rfl rfl 8 (by decide) (hts (.fieldLink RX9 74 "RainTarget" "matches" "LRainTarget$Matches;") (List.mem_of_getElem? (i := 1) rfl)) (fun _ h9 => h9) rfl dX9_match_50 ?_
          refine lv_iload_n hx hb dX9_match_53 rfl (lv_at hl 1 rfl) ?_
          refine lv_iload_n hx hb dX9_match_54 rfl (lv_at hl 2 rfl) ?_
          refine lv_iload_n hx hb dX9_match_55 rfl (lv_at hl 3 rfl) ?_
          have hFc := va_free (wc := [(mq, .inr (2, [.ref mtq, .int (nZ ms)])), (mtq, .inl (cI, 72, .inl (aZ mt)))]) hD hS hA [1, 2] rfl
          have hPc := hP.sub (ws' := [(mq, .inr (2, [.ref mtq, .int (nZ ms)])), (mtq, .inl (cI, 72, .inl (aZ mt)))]) [1, 2] rfl
          have hDc := hD.sub (ws' := [(mq, .inr (2, [.ref mtq, .int (nZ ms)])), (mtq, .inl (cI, 72, .inl (aZ mt)))]) [1, 2] (by decide) rfl
          refine va_callv (va_runVN (As := [.int (nZ a), .int (nZ b), .int (nZ d)]) (rest := []) ⟨hx, hb, hml, hown, hts⟩ (c_X2_add l D cI cJ tn s.heap.size mq mtq mt ms a b d hs0 (by first | assumption | omega) ) ⟨va_cnB 3 hts gX9_match_X2_add_n229 rfl rfl rfl (nw_X9_229 hN) (hts (.initialized RX2) (List.mem_of_getElem? (i := 7) rfl)) (by decide +kernel) ⟨Nat.le_of_ble_eq_true rfl, Nat.le_of_ble_eq_true rfl⟩, (hts (.instanceMethod yX2_add) (List.mem_of_getElem? (i := 6) rfl)), (hts (.selects RX2 yX2_add yX2_add) (List.mem_of_getElem? (i := 8) rfl))⟩ ⟨WrP.blind, va_recv hK hP (ci := 2) (q0 := 1) rfl rfl, fun U hU hW => ⟨rfl, WrP.call hE hS hPc hDc hFc hU hW⟩⟩ rfl rfl hl.1 rfl (lv_room (Nat.le_of_ble_eq_true rfl)) dX9_match_56 ⟨Nat.le_of_ble_eq_true rfl, Nat.le_of_ble_eq_true rfl⟩) hS (fun q _ h => hFc q h) hFc (fun u9 t9 H1 locs ht9 hvm hv56 hB9 hz9 hk9 hS => ?_)
          obtain ⟨hP8, hD8⟩ := hB9
          rw [ht9] at hP8
          have hw56 : True := hv56
          obtain ⟨hP, hD⟩ := va_join (wr := [(x, .inr (9, [.ref t, .ref rdr, .ref g, .ref q1, .ref h, .ref f, .ref s2, .ref w, .ref mq]))]) (w1 := [(mq, .inr (2, [.ref mtq, .int (nZ (ms + 1))])), (mtq, .inl (cI, 72, .inl (aZ (mtF mt ms a b d))))]) hP hD [1, 2] [0] rfl rfl (by decide) (by decide) hk9 hFc hP8 hD8
          generalize H1 = H at hP hS ⊢
          have hP : va_P D vwCl [(x, .inr (9, [.ref t, .ref rdr, .ref g, .ref q1, .ref h, .ref f, .ref s2, .ref w, .ref mq])), (mq, .inr (2, [.ref mtq, .int (nZ (ms + 1))])), (mtq, .inl (cI, 72, .inl (aZ (mtF mt ms a b d))))] H := hP
          have hD : va_D A [(x, .inr (9, [.ref t, .ref rdr, .ref g, .ref q1, .ref h, .ref f, .ref s2, .ref w, .ref mq])), (mq, .inr (2, [.ref mtq, .int (nZ (ms + 1))])), (mtq, .inl (cI, 72, .inl (aZ (mtF mt ms a b d))))] := hD
          refine lv_aload_n hx hb dX9_match_59 rfl (lv_at hl 0 rfl) ?_
          refine va_get (D := D) (ci := 9) (v := .ref mq) (C := RX9) (T := TX9) (N := 9) hx hb hts iX9 hown hK hP 0 rfl rfl 8 (by decide) (hts (.fieldLink RX9 74 "RainTarget" "matches" "LRainTarget$Matches;") (List.mem_of_getElem? (i := 1) rfl)) (fun _ h9 => h9) rfl dX9_match_60 ?_
          refine va_getN (D := D) (ci := 2) (v := .int (nZ (ms + 1))) (C := RX2) (T := TX2) (N := 2) hx hb hts iX2 hown hK hP 1 rfl rfl 1 (by decide) (va_Nw.use rfl (nw_X9_228 hN)) (fun _ h9 => h9) rfl dX9_match_63 ?_
          have hP9 := hP.sub (ws' := [(x, .inr (9, [.ref t, .ref rdr, .ref g, .ref q1, .ref h, .ref f, .ref s2, .ref w, .ref mq])), (mq, .inr (2, [.ref mtq, .int (nZ (ms + 1))])), (mtq, .inl (cI, 72, .inl (aZ (mtF mt ms a b d))))]) [0, 1, 2] rfl
          have hD9 := hD.sub (ws' := [(x, .inr (9, [.ref t, .ref rdr, .ref g, .ref q1, .ref h, .ref f, .ref s2, .ref w, .ref mq])), (mq, .inr (2, [.ref mtq, .int (nZ (ms + 1))])), (mtq, .inl (cI, 72, .inl (aZ (mtF mt ms a b d))))]) [0, 1, 2] (by decide) rfl
          have hq9 : ([(x, .inr (9, [.ref t, .ref rdr, .ref g, .ref q1, .ref h, .ref f, .ref s2, .ref w, .ref mq])), (mq, .inr (2, [.ref mtq, .int (nZ (ms + 1))])), (mtq, .inl (cI, 72, .inl (aZ (mtF mt ms a b d))))] : va_W) = [(x, .inr (9, [.ref t, .ref rdr, .ref g, .ref q1, .ref h, .ref f, .ref s2, .ref w, .ref mq])), (mq, .inr (2, [.ref mtq, .int (nZ (if ((0 ≤ a ∧ a ≤ 12) ∧ (0 ≤ b ∧ b ≤ 10) ∧ (0 ≤ d ∧ d ≤ 999)) ∧ ms < 24 then ms + 1 else ms))])), (mtq, .inl (cI, 72, .inl (aZ (if ((0 ≤ a ∧ a ≤ 12) ∧ (0 ≤ b ∧ b ≤ 10) ∧ (0 ≤ d ∧ d ≤ 999)) ∧ ms < 24 then mtF mt ms a b d else mt))))] := by first | (simp only [if_pos (show ((0 ≤ a ∧ a ≤ 12) ∧ (0 ≤ b ∧ b ≤ 10) ∧ (0 ≤ d ∧ d ≤ 999)) ∧ ms < 24 from by omega)]; done) | (simp only [if_neg (show ¬ (((0 ≤ a ∧ a ≤ 12) ∧ (0 ≤ b ∧ b ≤ 10) ∧ (0 ≤ d ∧ d ≤ 999)) ∧ ms < 24) from by omega)]; done)
          rw [hq9] at hP9 hD9
          exact W.iret (v := nZ (ms + 1)) hx hb hr (fun t9 ht9 _ => ⟨⟨nZ (ms + 1), (), rfl, ⟨congrArg nZ (show (ms + 1 : Int) = if (0 ≤ a ∧ a ≤ 12) ∧ (0 ≤ b ∧ b ≤ 10) ∧ (0 ≤ d ∧ d ≤ 999) then (if ms < 24 then ms + 1 else -5) else -3 from (by first | rfl | omega | (split <;> omega) | (split <;> split <;> omega))), trivial⟩, ⟨by rw [ht9]; exact hP9, hD9⟩⟩, hS.F ht9⟩) hS.2.2 dX9_match_66
        · refine lv_bipush (v := nZ (-5)) hx hb dX9_match_46 (by decide) ?_
          have hP9 := hP.sub (ws' := [(x, .inr (9, [.ref t, .ref rdr, .ref g, .ref q1, .ref h, .ref f, .ref s2, .ref w, .ref mq])), (mq, .inr (2, [.ref mtq, .int (nZ ms)])), (mtq, .inl (cI, 72, .inl (aZ mt)))]) [0, 1, 2] rfl
          have hD9 := hD.sub (ws' := [(x, .inr (9, [.ref t, .ref rdr, .ref g, .ref q1, .ref h, .ref f, .ref s2, .ref w, .ref mq])), (mq, .inr (2, [.ref mtq, .int (nZ ms)])), (mtq, .inl (cI, 72, .inl (aZ mt)))]) [0, 1, 2] (by decide) rfl
          have hq9 : ([(x, .inr (9, [.ref t, .ref rdr, .ref g, .ref q1, .ref h, .ref f, .ref s2, .ref w, .ref mq])), (mq, .inr (2, [.ref mtq, .int (nZ ms)])), (mtq, .inl (cI, 72, .inl (aZ mt)))] : va_W) = [(x, .inr (9, [.ref t, .ref rdr, .ref g, .ref q1, .ref h, .ref f, .ref s2, .ref w, .ref mq])), (mq, .inr (2, [.ref mtq, .int (nZ (if ((0 ≤ a ∧ a ≤ 12) ∧ (0 ≤ b ∧ b ≤ 10) ∧ (0 ≤ d ∧ d ≤ 999)) ∧ ms < 24 then ms + 1 else ms))])), (mtq, .inl (cI, 72, .inl (aZ (if ((0 ≤ a ∧ a ≤ 12) ∧ (0 ≤ b ∧ b ≤ 10) ∧ (0 ≤ d ∧ d ≤ 999)) ∧ ms < 24 then mtF mt ms a b d else mt))))] := by first | (simp only [if_pos (show ((0 ≤ a ∧ a ≤ 12) ∧ (0 ≤ b ∧ b ≤ 10) ∧ (0 ≤ d ∧ d ≤ 999)) ∧ ms < 24 from by omega)]; done) | (simp only [if_neg (show ¬ (((0 ≤ a ∧ a ≤ 12) ∧ (0 ≤ b ∧ b ≤ 10) ∧ (0 ≤ d ∧ d ≤ 999)) ∧ ms < 24) from by omega)]; done)
          rw [hq9] at hP9 hD9
          exact W.iret (v := nZ (-5)) hx hb hr (fun t9 ht9 _ => ⟨⟨nZ (-5), (), rfl, ⟨congrArg nZ (show (-5 : Int) = if (0 ≤ a ∧ a ≤ 12) ∧ (0 ≤ b ∧ b ≤ 10) ∧ (0 ≤ d ∧ d ≤ 999) then (if ms < 24 then ms + 1 else -5) else -3 from (by first | rfl | omega | (split <;> omega) | (split <;> split <;> omega))), trivial⟩, ⟨by rw [ht9]; exact hP9, hD9⟩⟩, hS.F ht9⟩) hS.2.2 dX9_match_48
      · refine lv_bipush (v := nZ (-3)) hx hb dX9_match_31 (by decide) ?_
        have hP9 := hP.sub (ws' := [(x, .inr (9, [.ref t, .ref rdr, .ref g, .ref q1, .ref h, .ref f, .ref s2, .ref w, .ref mq])), (mq, .inr (2, [.ref mtq, .int (nZ ms)])), (mtq, .inl (cI, 72, .inl (aZ mt)))]) [0, 1, 2] rfl
        have hD9 := hD.sub (ws' := [(x, .inr (9, [.ref t, .ref rdr, .ref g, .ref q1, .ref h, .ref f, .ref s2, .ref w, .ref mq])), (mq, .inr (2, [.ref mtq, .int (nZ ms)])), (mtq, .inl (cI, 72, .inl (aZ mt)))]) [0, 1, 2] (by decide) rfl
        have hq9 : ([(x, .inr (9, [.ref t, .ref rdr, .ref g, .ref q1, .ref h, .ref f, .ref s2, .ref w, .ref mq])), (mq, .inr (2, [.ref mtq, .int (nZ ms)])), (mtq, .inl (cI, 72, .inl (aZ mt)))] : va_W) = [(x, .inr (9, [.ref t, .ref rdr, .ref g, .ref q1, .ref h, .ref f, .ref s2, .ref w, .ref mq])), (mq, .inr (2, [.ref mtq, .int (nZ (if ((0 ≤ a ∧ a ≤ 12) ∧ (0 ≤ b ∧ b ≤ 10) ∧ (0 ≤ d ∧ d ≤ 999)) ∧ ms < 24 then ms + 1 else ms))])), (mtq, .inl (cI, 72, .inl (aZ (if ((0 ≤ a ∧ a ≤ 12) ∧ (0 ≤ b ∧ b ≤ 10) ∧ (0 ≤ d ∧ d ≤ 999)) ∧ ms < 24 then mtF mt ms a b d else mt))))] := by first | (simp only [if_pos (show ((0 ≤ a ∧ a ≤ 12) ∧ (0 ≤ b ∧ b ≤ 10) ∧ (0 ≤ d ∧ d ≤ 999)) ∧ ms < 24 from by omega)]; done) | (simp only [if_neg (show ¬ (((0 ≤ a ∧ a ≤ 12) ∧ (0 ≤ b ∧ b ≤ 10) ∧ (0 ≤ d ∧ d ≤ 999)) ∧ ms < 24) from by omega)]; done)
        rw [hq9] at hP9 hD9
        exact W.iret (v := nZ (-3)) hx hb hr (fun t9 ht9 _ => ⟨⟨nZ (-3), (), rfl, ⟨congrArg nZ (show (-3 : Int) = if (0 ≤ a ∧ a ≤ 12) ∧ (0 ≤ b ∧ b ≤ 10) ∧ (0 ≤ d ∧ d ≤ 999) then (if ms < 24 then ms + 1 else -5) else -3 from (by first | rfl | omega | (split <;> omega) | (split <;> split <;> omega))), trivial⟩, ⟨by rw [ht9]; exact hP9, hD9⟩⟩, hS.F ht9⟩) hS.2.2 dX9_match_33

