theorem mxF_ge {f : Int → Int} {n : Nat} : ∀ {i : Int}, 0 ≤ i → i < (n : Int) → f i ≤ mxF f n := by
  induction n with
  | zero => intro i a b; omega
  | succ n ih =>
    intro i a b
    show f i ≤ if mxF f n < f n then f n else mxF f n
    by_cases q : i = (n : Int)
    · subst q; split <;> omega
    · have := ih a (show i < (n : Int) by omega)
      split <;> omega
def inM (x u : Int) : Int := if u < 6 then x * (10 : Int) ^ (6 - u).toNat else x / (10 : Int) ^ (u - 6).toNat
theorem tn_bd (k : Nat) : 1 ≤ (10 : Int) ^ k := p10_pos k
theorem tn_nn {u : Int} (h0 : 0 ≤ u) (h : u ≤ 12) : 1 ≤ (10 : Int) ^ u.toNat ∧ (10 : Int) ^ u.toNat ≤ 1000000000000 := ⟨p10_pos _, p10_12 (by omega)⟩
set_option maxHeartbeats 4000000 in
set_option maxRecDepth 100000 in
theorem c_X9_inMillionths (l : Launch) (D : va_G) (cI cJ : ClassId) (tn : Nat) (a : Int) (b : Int) (ha0 : 0 ≤ a) (ha1 : a ≤ 100000000000000) (hb0 : 0 ≤ b) (hb1 : b ≤ 13)  : Met l yX9_inMillionths wsX9_inMillionths ({ frames := 1, cells := 0, slots := 0, locals := 23 } : Room) (va_Pc [.long (lZ a), .int (nZ b)] (RoP D cI cJ tn [])) (vp_Si (fun r9 : Int32 => r9 = nZ (inM a b))) 0 0 (fun _ => False) := by
  refine Met.ofW (cc := cX9_inMillionths) (maxL := 3) (ret := (some .int)) (by decide) rfl ?_
  intro p e s m args below meth c s₁ B hml hv
  obtain ⟨rfl, hE, hP⟩ := hv
  have hx := B.exec
  have hb := B.bytes
  have hr := B.returns
  have hts := atoms_spec (ws := wsX9_inMillionths) B.pre
  have hown : s.vm.findClass RX9 = some m.cls := findClass_of_methodNamed B.named
  have hlocks := B.notSynchronized
  have hS : va_S (fun _ => False) s.heap s.heap [] := va_S.rf
  have hK := hE.1
  have hN := hE.2.1
  have hl := lv_entry ([.long (lZ a), .int (nZ b)]) (n := 3) (Nat.le_of_ble_eq_true rfl)
  rw [lg_entry_eq]
  generalize (lg_sl ([.long (lZ a), .int (nZ b)]) ++ List.replicate (3 - (lg_sl ([.long (lZ a), .int (nZ b)])).length) Slot.unset).toArray = ls at hl ⊢
  have hl : lv_has ls 3 [(0, .long (lZ a)), (2, .int (nZ b))] := hl
  refine lv_iload_n hx hb dX9_inMillionths_0 rfl (lv_at hl 1 rfl) ?_
  refine lv_bipush (v := nZ 6) hx hb dX9_inMillionths_1 (by decide) ?_
  refine z_icmp_ge (tgt := 17) hx hb dX9_inMillionths_3 (by decide) (by omega) (by decide) (fun c_3 => ?_) (fun c_3 => ?_)
  · refine lv_lload_n hx hb dX9_inMillionths_17 rfl (lv_at hl 0 rfl) ?_
    refine lv_iload_n hx hb dX9_inMillionths_18 rfl (lv_at hl 1 rfl) ?_
    refine lv_bipush (v := nZ 6) hx hb dX9_inMillionths_19 (by decide) ?_
    refine z_isub hx hb dX9_inMillionths_21 ?_
    refine vp_callSl ((va_runS (As := [.int (nZ (b - 6))]) (rest := [.long (lZ a)]) ⟨hx, hb, hml, hown, hts⟩ (c_X9_power l D cI cJ tn (b - 6) (by omega) ) (va_cwS 1 hts gX9_inMillionths_X9_power rfl rfl rfl (by decide +kernel) ⟨Nat.le_of_ble_eq_true rfl, Nat.le_of_ble_eq_true rfl⟩) ⟨RoP.blind, fun U hU hW => ⟨rfl, RoP.call hE hS (hP.sub (ws' := []) [] rfl) hU hW⟩⟩ rfl rfl hl.1 rfl (lv_room (Nat.le_of_ble_eq_true rfl)) dX9_inMillionths_22 ⟨Nat.le_of_ble_eq_true rfl, Nat.le_of_ble_eq_true rfl⟩).run) (fun r22 hr22 => ?_)
    subst hr22
    refine z_nameL (fun r22 er22 => ?_)
    have ht := tn_nn (u := b - 6) (by omega) (by omega)
    have e22 : r22 = (10 : Int) ^ (b - 6).toNat := by rw [er22, if_pos (by omega)]
    refine vp_callSl ((va_runS (As := [.long (lZ a), .long (lZ r22)]) (rest := []) ⟨hx, hb, hml, hown, hts⟩ (c_X9_cut l D cI cJ tn a r22 (by omega) (by omega) ) (va_cwS 2 hts gX9_inMillionths_X9_cut rfl rfl rfl (by decide +kernel) ⟨Nat.le_of_ble_eq_true rfl, Nat.le_of_ble_eq_true rfl⟩) ⟨RoP.blind, fun U hU hW => ⟨rfl, RoP.call hE hS (hP.sub (ws' := []) [] rfl) hU hW⟩⟩ rfl rfl hl.1 rfl (lv_room (Nat.le_of_ble_eq_true rfl)) dX9_inMillionths_25 ⟨Nat.le_of_ble_eq_true rfl, Nat.le_of_ble_eq_true rfl⟩).run) (fun r25 hr25 => ?_)
    subst hr25
    refine z_nameL (fun r25 er25 => ?_)
    refine z_l2i hx hb dX9_inMillionths_28 ?_
    exact W.iret (v := nZ r25) hx hb hr (fun t9 ht9 _ => ⟨nZ r25, rfl, congrArg nZ (show (r25 : Int) = inM a b from (by unfold inM; rw [if_neg (by omega), er25, if_pos (by omega), tdivN ha0, e22])), ht9⟩) (fun _ h => by cases h) dX9_inMillionths_29
  · refine lv_lload_n hx hb dX9_inMillionths_6 rfl (lv_at hl 0 rfl) ?_
    refine lv_bipush (v := nZ 6) hx hb dX9_inMillionths_7 (by decide) ?_
    refine lv_iload_n hx hb dX9_inMillionths_9 rfl (lv_at hl 1 rfl) ?_
    refine z_isub hx hb dX9_inMillionths_10 ?_
    refine vp_callSl ((va_runS (As := [.int (nZ (6 - b))]) (rest := [.long (lZ a)]) ⟨hx, hb, hml, hown, hts⟩ (c_X9_power l D cI cJ tn (6 - b) (by omega) ) (va_cwS 1 hts gX9_inMillionths_X9_power rfl rfl rfl (by decide +kernel) ⟨Nat.le_of_ble_eq_true rfl, Nat.le_of_ble_eq_true rfl⟩) ⟨RoP.blind, fun U hU hW => ⟨rfl, RoP.call hE hS (hP.sub (ws' := []) [] rfl) hU hW⟩⟩ rfl rfl hl.1 rfl (lv_room (Nat.le_of_ble_eq_true rfl)) dX9_inMillionths_11 ⟨Nat.le_of_ble_eq_true rfl, Nat.le_of_ble_eq_true rfl⟩).run) (fun r11 hr11 => ?_)
    subst hr11
    refine z_nameL (fun r11 er11 => ?_)
    have ht := tn_nn (u := 6 - b) (by omega) (by omega)
    refine z_lmul hx hb dX9_inMillionths_14 ?_
    refine z_l2i hx hb dX9_inMillionths_15 ?_
    exact W.iret (v := nZ (a * r11)) hx hb hr (fun t9 ht9 _ => ⟨nZ (a * r11), rfl, congrArg nZ (show (a * r11 : Int) = inM a b from (by unfold inM; rw [if_pos (by omega), er11, if_pos (by omega)])), ht9⟩) (fun _ h => by cases h) dX9_inMillionths_16

theorem bmN_s (P : Int → Bool) {m : Int} (h0 : 0 ≤ m) (h4 : m < 4) : bmN P (4 - m).toNat m = if P m = true then m else bmN P (4 - (m + 1)).toNat (m + 1) := by
  rw [show (4 - m).toNat = (4 - (m + 1)).toNat + 1 by omega]; rfl
theorem MKin_le {cs mp : Int → Int} (hM : MoodOK cs mp) {m : Int} (h0 : 0 ≤ m) (h4 : m < 4) (u : Nat) {v : Int} (hv : 0 < v) : MKin cs mp m u v ≤ MK cs mp (u + 1) v := by
  rw [MK_succ cs mp u hv]
  exact mxF_ge (f := fun m => MKin cs mp m u v) (n := 4) h0 h4
theorem MKin_top {cs mp : Int → Int} (hM : MoodOK cs mp) {m u : Int} (h0 : 0 ≤ m) (h4 : m < 4) (h1 : 1 ≤ u) (h2 : u ≤ 12) (v : Int) : MKin cs mp m (u - 1).toNat v ≤ 432000000000000 := by
  by_cases hv : 0 < v
  · have := MKin_le hM h0 h4 (u - 1).toNat hv
    exact Int.le_trans this (MK_top hM _ _ (by omega))
  · have e : MKin cs mp m (u - 1).toNat v = MKin cs mp m (u - 1).toNat 0 := by
      refine sumN_cong (fun i a b => ?_)
      have := (hM.case h0 h4 a b).2.1
      show _ * (_ + MK cs mp _ _) = _ * (_ + MK cs mp _ _)
      rw [MK_men cs mp _ (by omega), MK_men cs mp _ (by omega)]
    have e2 : MKin cs mp m (u - 1).toNat 0 ≤ MKin cs mp m (u - 1).toNat 1 := by
      refine sumN_le (fun i a b => Int.mul_le_mul_of_nonneg_left (Int.add_le_add_left (MK_monov hM _ (by omega)) _) (by have := (hM.case h0 h4 a b).2.2; omega))
    have := MKin_le hM h0 h4 (u - 1).toNat (v := 1) (by decide)
    rw [e]
    exact Int.le_trans e2 (Int.le_trans this (MK_top hM _ _ (by omega)))
set_option maxHeartbeats 4000000 in
set_option maxRecDepth 100000 in
theorem c_X0_moodForMean (l : Launch) (D : va_G) (cI cJ : ClassId) (tn : Nat) (h : Nat) (q1 : Nat) (q2 : Nat) (q3 : Nat) (p1 : Nat) (p2 : Nat) (me : Int → Int) (cs : Int → Int) (mp : Int → Int) (u : Int) (v : Int) (hM : MoodOK cs mp) (hMe : MeanOK cs mp me) (hu1 : 1 ≤ u) (hu2 : u ≤ 12) (hv1 : 1 ≤ v) (hv2 : v ≤ 10)  : Met l yX0_moodForMean wsX0_moodForMean ({ frames := 3, cells := 0, slots := 0, locals := 74 } : Room) (va_Pc [.ref h, .int (nZ u), .int (nZ v)] (RoP D cI cJ tn [(h, .inr (0, [.ref q1, .ref q2, .ref q3])), (q2, .inl (cJ, 143, .inr (.inl (bZ me)))), (q1, .inr (3, [.ref p1, .ref p2])), (p1, .inl (cI, 4, .inl (aZ cs))), (p2, .inl (cI, 48, .inl (aZ mp)))])) (vp_Si (fun r9 : Int32 => r9 = nZ (bmN (fun m => decide (0 < cs m ∧ MKin cs mp m (u - 1).toNat v = MK cs mp u.toNat v)) 4 0))) 0 0 (fun _ => False) := by
  refine Met.ofW (cc := cX0_moodForMean) (maxL := 4) (ret := (some .int)) (by decide) rfl ?_
  intro p e s m args below meth c s₁ B hml hv
  obtain ⟨rfl, hE, hP⟩ := hv
  have hx := B.exec
  have hb := B.bytes
  have hr := B.returns
  have hts := atoms_spec (ws := wsX0_moodForMean) B.pre
  have hown : s.vm.findClass RX0 = some m.cls := findClass_of_methodNamed B.named
  have hlocks := B.notSynchronized
  have hS : va_S (fun _ => False) s.heap s.heap [] := va_S.rf
  have hK := hE.1
  have hN := hE.2.1
  have hl := lv_entry ([.ref h, .int (nZ u), .int (nZ v)]) (n := 4) (Nat.le_of_ble_eq_true rfl)
  rw [lg_entry_eq]
  generalize (lg_sl ([.ref h, .int (nZ u), .int (nZ v)]) ++ List.replicate (4 - (lg_sl ([.ref h, .int (nZ u), .int (nZ v)])).length) Slot.unset).toArray = ls at hl ⊢
  have hl : lv_has ls 4 [(0, .ref h), (1, .int (nZ u)), (2, .int (nZ v))] := hl
  have iX0 : ∀ w ∈ u_ws RX0 TX0 3, w ∈ wsX0_moodForMean := fun _ h => List.mem_cons_of_mem _ (List.mem_append_left _ (List.mem_append_right _ h))
  refine lv_iconst (v := nZ 0) hx hb dX0_moodForMean_0 rfl ?_
  refine lv_istore_n (lv' := [(3, .int (nZ 0)), (0, .ref h), (1, .int (nZ u)), (2, .int (nZ v))]) hx hb dX0_moodForMean_1 rfl hl (by decide) rfl (fun ls hl => ?_)
  refine z_rloop1 (fun (a : Int) => (0 ≤ a) ∧ (a ≤ 4) ∧ (bmN (fun m => decide (0 < cs m ∧ MKin cs mp m (u - 1).toNat v = MK cs mp u.toNat v)) 4 0 = bmN (fun m => decide (0 < cs m ∧ MKin cs mp m (u - 1).toNat v = MK cs mp u.toNat v)) (4 - a).toNat a)) (fun (a : Int) => (4 - a).toNat) (fun (a : Int) => [(3, .int (nZ a)), (0, .ref h), (1, .int (nZ u)), (2, .int (nZ v))]) ?_ 0 ⟨(by first | assumption | omega), (by first | assumption | omega), rfl⟩ (lv_sub hl [0, 1, 2, 3] rfl)
  intro a hI2 ih2 ls hl
  have hl : lv_has ls 4 [(3, .int (nZ a)), (0, .ref h), (1, .int (nZ u)), (2, .int (nZ v))] := hl
  obtain ⟨ha0, ha4, hbm⟩ : (0 ≤ a) ∧ (a ≤ 4) ∧ (bmN (fun m => decide (0 < cs m ∧ MKin cs mp m (u - 1).toNat v = MK cs mp u.toNat v)) 4 0 = bmN (fun m => decide (0 < cs m ∧ MKin cs mp m (u - 1).toNat v = MK cs mp u.toNat v)) (4 - a).toNat a) := hI2
  refine lv_iload_n hx hb dX0_moodForMean_2 rfl (lv_at hl 0 rfl) ?_
  refine lv_iconst (v := nZ 4) hx hb dX0_moodForMean_3 rfl ?_
  refine z_icmp_ge (tgt := 43) hx hb dX0_moodForMean_4 (by decide) (by omega) (by decide) (fun c_4 => ?_) (fun c_4 => ?_)
  · refine lv_iconst (v := nZ (-1)) hx hb dX0_moodForMean_43 rfl ?_
    exact W.iret (v := nZ (-1)) hx hb hr (fun t9 ht9 _ => ⟨nZ (-1), rfl, congrArg nZ (show (-1 : Int) = bmN (fun m => decide (0 < cs m ∧ MKin cs mp m (u - 1).toNat v = MK cs mp u.toNat v)) 4 0 from (by rw [hbm, show a = 4 from by omega]; rfl)), ht9⟩) (fun _ h => by cases h) dX0_moodForMean_44
  · have hca := (hM a ha0 (by omega)).1
    refine lv_aload_n hx hb dX0_moodForMean_7 rfl (lv_at hl 1 rfl) ?_
    refine va_get (D := D) (ci := 0) (v := .ref q1) (C := RX0) (T := TX0) (N := 3) hx hb hts iX0 hown hK hP 0 rfl rfl 0 (by decide) (hts (.fieldLink RX0 18 "RainTarget$Batting" "moods" "LRainTarget$Moods;") (List.mem_of_getElem? (i := 1) rfl)) (fun _ h9 => h9) rfl dX0_moodForMean_8 ?_
    refine lv_iload_n hx hb dX0_moodForMean_11 rfl (lv_at hl 0 rfl) ?_
    refine vp_callSi ((va_runVN (As := [.int (nZ a)]) (rest := []) ⟨hx, hb, hml, hown, hts⟩ (c_X3_size l D cI cJ tn q1 p1 p2 cs a (by omega) ) ⟨va_cnB 1 hts gX0_moodForMean_X3_size_n42 rfl rfl rfl (nw_X0_42 hN) (hts (.initialized RX3) (List.mem_of_getElem? (i := 3) rfl)) (by decide +kernel) ⟨Nat.le_of_ble_eq_true rfl, Nat.le_of_ble_eq_true rfl⟩, (hts (.instanceMethod yX3_size) (List.mem_of_getElem? (i := 2) rfl)), (hts (.selects RX3 yX3_size yX3_size) (List.mem_of_getElem? (i := 4) rfl))⟩ ⟨RoP.blind, va_recv hK hP (ci := 3) (q0 := 2) rfl rfl, fun U hU hW => ⟨rfl, RoP.call hE hS (hP.sub (ws' := [(q1, .inr (3, [.ref p1, .ref p2])), (p1, .inl (cI, 4, .inl (aZ cs)))]) [2, 3] rfl) hU hW⟩⟩ rfl rfl hl.1 rfl (lv_room (Nat.le_of_ble_eq_true rfl)) dX0_moodForMean_12 ⟨Nat.le_of_ble_eq_true rfl, Nat.le_of_ble_eq_true rfl⟩).run) (fun r12 hr12 => ?_)
    subst hr12
    refine z_nameI (fun r12 er12 => ?_)
    refine z_if_le (tgt := 37) hx hb dX0_moodForMean_15 (by decide) (by omega) (fun c_15 => ?_) (fun c_15 => ?_)
    · have hno : ¬ (decide (0 < cs a ∧ MKin cs mp a (u - 1).toNat v = MK cs mp u.toNat v)) = true := by
        intro q
        have := of_decide_eq_true q
        omega
      refine lv_iinc (v := nZ (a + 1)) (lv' := [(3, .int (nZ (a + 1))), (0, .ref h), (1, .int (nZ u)), (2, .int (nZ v))]) hx hb dX0_moodForMean_37 hl (k := 0) rfl (nZ_add _ _) (by decide) rfl (fun ls hl => ?_)
      refine lv_goto (tgt := 2) hx hb dX0_moodForMean_40 (by decide) ?_
      exact ih2 (a + 1) ⟨(by first | assumption | omega), (by first | assumption | omega), (by rw [hbm, bmN_s _ ha0 (by omega), if_neg hno])⟩ (show (4 - (a + 1)).toNat < (4 - a).toNat from by omega) ls (lv_sub hl [0, 1, 2, 3] rfl)
    · have hcp : 0 < cs a := by omega
      refine lv_aload_n hx hb dX0_moodForMean_18 rfl (lv_at hl 1 rfl) ?_
      refine lv_iload_n hx hb dX0_moodForMean_19 rfl (lv_at hl 0 rfl) ?_
      refine lv_iload_n hx hb dX0_moodForMean_20 rfl (lv_at hl 2 rfl) ?_
      refine lv_iload_n hx hb dX0_moodForMean_21 rfl (lv_at hl 3 rfl) ?_
      refine vp_callSl ((va_runV (As := [.int (nZ a), .int (nZ u), .int (nZ v)]) (rest := []) ⟨hx, hb, hml, hown, hts⟩ (c_X0_meanIn l D cI cJ tn h q1 q2 q3 p1 p2 me cs mp a u v hM (by first | assumption | omega) (by first | assumption | omega) hu1 hu2 hv1 hv2 (fun w a b => by have := hMe.at (u := u - 1) (by omega) (by omega) a b; exact this) ) (cwV 3 hts gX0_moodForMean_X0_meanIn rfl rfl rfl (by decide +kernel) ⟨Nat.le_of_ble_eq_true rfl, Nat.le_of_ble_eq_true rfl⟩) ⟨RoP.blind, va_recv hK hP (ci := 0) (q0 := 0) rfl rfl, fun U hU hW => ⟨rfl, RoP.call hE hS (hP.sub (ws' := [(h, .inr (0, [.ref q1, .ref q2, .ref q3])), (q2, .inl (cJ, 143, .inr (.inl (bZ me)))), (q1, .inr (3, [.ref p1, .ref p2])), (p1, .inl (cI, 4, .inl (aZ cs))), (p2, .inl (cI, 48, .inl (aZ mp)))]) [0, 1, 2, 3, 4] rfl) hU hW⟩⟩ rfl rfl hl.1 rfl (lv_room (Nat.le_of_ble_eq_true rfl)) dX0_moodForMean_22 ⟨Nat.le_of_ble_eq_true rfl, Nat.le_of_ble_eq_true rfl⟩).run) (fun r22 hr22 => ?_)
      subst hr22
      refine z_nameL (fun r22 er22 => ?_)
      refine lv_aload_n hx hb dX0_moodForMean_25 rfl (lv_at hl 1 rfl) ?_
      refine lv_iload_n hx hb dX0_moodForMean_26 rfl (lv_at hl 2 rfl) ?_
      refine lv_iload_n hx hb dX0_moodForMean_27 rfl (lv_at hl 3 rfl) ?_
      refine vp_callSl ((va_runV (As := [.int (nZ u), .int (nZ v)]) (rest := [.long (lZ r22)]) ⟨hx, hb, hml, hown, hts⟩ (c_X0_mean l D cI cJ tn h q1 q2 q3 me u v (by omega) (by omega) ) (cwV 2 hts gX0_moodForMean_X0_mean rfl rfl rfl (by decide +kernel) ⟨Nat.le_of_ble_eq_true rfl, Nat.le_of_ble_eq_true rfl⟩) ⟨RoP.blind, va_recv hK hP (ci := 0) (q0 := 0) rfl rfl, fun U hU hW => ⟨rfl, RoP.call hE hS (hP.sub (ws' := [(h, .inr (0, [.ref q1, .ref q2, .ref q3])), (q2, .inl (cJ, 143, .inr (.inl (bZ me))))]) [0, 1] rfl) hU hW⟩⟩ rfl rfl hl.1 rfl (lv_room (Nat.le_of_ble_eq_true rfl)) dX0_moodForMean_28 ⟨Nat.le_of_ble_eq_true rfl, Nat.le_of_ble_eq_true rfl⟩).run) (fun r28 hr28 => ?_)
      subst hr28
      refine z_nameL (fun r28 er28 => ?_)
      have hi0 := MKin_nn hM ha0 (show a < 4 by omega) (u - 1).toNat v
      have hm0 := MK_nn (cs := cs) (mp := mp) u.toNat v
      have hm1 := MK_top hM u.toNat v (by omega)
      have e28 : r28 = MK cs mp u.toNat v := by rw [er28, if_pos (by omega), hMe.at (by omega) hu2 (by omega) hv2]
      have hi1 := MKin_top hM ha0 (show a < 4 by omega) hu1 hu2 v
      refine z_lcmp_ne (tgt := 37) hx hb dX0_moodForMean_31 dX0_moodForMean_32 (by decide) (by omega) (by omega) (fun c_31 => ?_) (fun c_31 => ?_)
      · have hno : ¬ (decide (0 < cs a ∧ MKin cs mp a (u - 1).toNat v = MK cs mp u.toNat v)) = true := by
          intro q
          have := of_decide_eq_true q
          omega
        refine lv_iinc (v := nZ (a + 1)) (lv' := [(3, .int (nZ (a + 1))), (0, .ref h), (1, .int (nZ u)), (2, .int (nZ v))]) hx hb dX0_moodForMean_37 hl (k := 0) rfl (nZ_add _ _) (by decide) rfl (fun ls hl => ?_)
        refine lv_goto (tgt := 2) hx hb dX0_moodForMean_40 (by decide) ?_
        exact ih2 (a + 1) ⟨(by first | assumption | omega), (by first | assumption | omega), (by rw [hbm, bmN_s _ ha0 (by omega), if_neg hno])⟩ (show (4 - (a + 1)).toNat < (4 - a).toNat from by omega) ls (lv_sub hl [0, 1, 2, 3] rfl)
      · refine lv_iload_n hx hb dX0_moodForMean_35 rfl (lv_at hl 0 rfl) ?_
        exact W.iret (v := nZ a) hx hb hr (fun t9 ht9 _ => ⟨nZ a, rfl, congrArg nZ (show (a : Int) = bmN (fun m => decide (0 < cs m ∧ MKin cs mp m (u - 1).toNat v = MK cs mp u.toNat v)) 4 0 from (by rw [hbm, bmN_s _ ha0 (by omega), if_pos (decide_eq_true ⟨hcp, by omega⟩)])), ht9⟩) (fun _ h => by cases h) dX0_moodForMean_36

set_option maxHeartbeats 4000000 in
set_option maxRecDepth 100000 in
theorem c_X0_moodForChance (l : Launch) (D : va_G) (cI cJ : ClassId) (tn : Nat) (sz : Nat) (h : Nat) (q1 : Nat) (q2 : Nat) (q3 : Nat) (p1 : Nat) (p2 : Nat) (cs : Int → Int) (mp : Int → Int) (k : Nat) (ch : Int → Int) (v : Int) (n : Int) (hM : MoodOK cs mp) (hk1 : 1 ≤ k) (hk2 : k ≤ 12) (hmemo : MemoOK cs mp ch) (hv1 : 1 ≤ v) (hv2 : v ≤ 10) (hn1 : 1 ≤ n) (hn2 : n ≤ 100000)  : Met l yX0_moodForChance wsX0_moodForChance ({ frames := 28, cells := 0, slots := 0, locals := 847 } : Room) (va_Pc [.ref h, .int (nZ (k : Int)), .int (nZ v), .int (nZ n)] (WrP D cI cJ tn [(h, .inr (0, [.ref q1, .ref q2, .ref q3])), (q3, .inl (cJ, 28080, .inr (.inl (bZ ch)))), (q1, .inr (3, [.ref p1, .ref p2])), (p1, .inl (cI, 4, .inl (aZ cs))), (p2, .inl (cI, 48, .inl (aZ mp)))] sz)) (va_Qi (fun (r9 : Int32) (u9 : (Int → Int)) => r9 = nZ (bmN (fun m => decide (0 < cs m ∧ WNin cs mp m (k - 1) v n = WN cs mp k v n)) 4 0) ∧ MemoOK cs mp u9) (fun u9 t9 => WrQ D (va_A [(h, .inr (0, [.ref q1, .ref q2, .ref q3])), (q3, .inl (cJ, 28080, .inr (.inl (bZ ch)))), (q1, .inr (3, [.ref p1, .ref p2])), (p1, .inl (cI, 4, .inl (aZ cs))), (p2, .inl (cI, 48, .inl (aZ mp)))] sz) [(h, .inr (0, [.ref q1, .ref q2, .ref q3])), (q3, .inl (cJ, 28080, .inr (.inl (bZ u9)))), (q1, .inr (3, [.ref p1, .ref p2])), (p1, .inl (cI, 4, .inl (aZ cs))), (p2, .inl (cI, 48, .inl (aZ mp)))] t9) (va_A [(h, .inr (0, [.ref q1, .ref q2, .ref q3])), (q3, .inl (cJ, 28080, .inr (.inl (bZ ch)))), (q1, .inr (3, [.ref p1, .ref p2])), (p1, .inl (cI, 4, .inl (aZ cs))), (p2, .inl (cI, 48, .inl (aZ mp)))] sz)) 0 0 (va_A [(h, .inr (0, [.ref q1, .ref q2, .ref q3])), (q3, .inl (cJ, 28080, .inr (.inl (bZ ch)))), (q1, .inr (3, [.ref p1, .ref p2])), (p1, .inl (cI, 4, .inl (aZ cs))), (p2, .inl (cI, 48, .inl (aZ mp)))] sz) := by
  refine Met.ofW (cc := cX0_moodForChance) (maxL := 5) (ret := (some .int)) (by decide) rfl ?_
  intro p e s m args below meth c s₁ B hml hv
  obtain ⟨rfl, hsz, hE, hP, hD0⟩ := hv
  have hx := B.exec
  have hb := B.bytes
  have hr := B.returns
  have hts := atoms_spec (ws := wsX0_moodForChance) B.pre
  have hown : s.vm.findClass RX0 = some m.cls := findClass_of_methodNamed B.named
  have hlocks := B.notSynchronized
  subst hsz
  have hD := hD0.self (sz := s.heap.size)
  generalize hAe : va_A [(h, .inr (0, [.ref q1, .ref q2, .ref q3])), (q3, .inl (cJ, 28080, .inr (.inl (bZ ch)))), (q1, .inr (3, [.ref p1, .ref p2])), (p1, .inl (cI, 4, .inl (aZ cs))), (p2, .inl (cI, 48, .inl (aZ mp)))] s.heap.size = A at hD hE ⊢
  have hA : ∀ q : Nat, s.heap.size ≤ q → A q := fun q h => by rw [← hAe]; exact Or.inr h
  have hS : va_S A s.heap s.heap [] := va_S.rf
  have hK := hE.1
  have hN := hE.2.1
  have hl := lv_entry ([.ref h, .int (nZ (k : Int)), .int (nZ v), .int (nZ n)]) (n := 5) (Nat.le_of_ble_eq_true rfl)
  rw [lg_entry_eq]
  generalize (lg_sl ([.ref h, .int (nZ (k : Int)), .int (nZ v), .int (nZ n)]) ++ List.replicate (5 - (lg_sl ([.ref h, .int (nZ (k : Int)), .int (nZ v), .int (nZ n)])).length) Slot.unset).toArray = ls at hl ⊢
  have hl : lv_has ls 5 [(0, .ref h), (1, .int (nZ (k : Int))), (2, .int (nZ v)), (3, .int (nZ n))] := hl
  have iX0 : ∀ w ∈ u_ws RX0 TX0 3, w ∈ wsX0_moodForChance := fun _ h => List.mem_cons_of_mem _ (List.mem_append_left _ (List.mem_append_right _ h))
  refine lv_iconst (v := nZ 0) hx hb dX0_moodForChance_0 rfl ?_
  refine lv_istore (lv' := [(4, .int (nZ 0)), (0, .ref h), (1, .int (nZ (k : Int))), (2, .int (nZ v)), (3, .int (nZ n))]) hx hb dX0_moodForChance_1 hl (by decide) rfl (fun ls hl => ?_)
  refine z_loop2 (fun (cha : Int → Int) (a : Int) => (0 ≤ a) ∧ (a ≤ 4) ∧ (bmN (fun m => decide (0 < cs m ∧ WNin cs mp m (k - 1) v n = WN cs mp k v n)) 4 0 = bmN (fun m => decide (0 < cs m ∧ WNin cs mp m (k - 1) v n = WN cs mp k v n)) (4 - a).toNat a) ∧ (MemoOK cs mp cha)) (fun (cha : Int → Int) (a : Int) => (4 - a).toNat) (fun (cha : Int → Int) (a : Int) => [(h, .inr (0, [.ref q1, .ref q2, .ref q3])), (q3, .inl (cJ, 28080, .inr (.inl (bZ cha)))), (q1, .inr (3, [.ref p1, .ref p2])), (p1, .inl (cI, 4, .inl (aZ cs))), (p2, .inl (cI, 48, .inl (aZ mp)))]) (fun (cha : Int → Int) (a : Int) => [(0, .ref h), (1, .int (nZ (k : Int))), (2, .int (nZ v)), (3, .int (nZ n)), (4, .int (nZ a))]) ?_ ch 0 ⟨(by first | assumption | omega), (by first | assumption | omega), rfl, hmemo⟩ (hP.sub [0, 1, 2, 3, 4] rfl) (hD.sub [0, 1, 2, 3, 4] (by decide) rfl) hS (lv_sub hl [1, 2, 3, 4, 0] rfl)
  intro cha a hI3 ih3 H locs ls hP hD hS hl
  have hP : va_P D vwCl [(h, .inr (0, [.ref q1, .ref q2, .ref q3])), (q3, .inl (cJ, 28080, .inr (.inl (bZ cha)))), (q1, .inr (3, [.ref p1, .ref p2])), (p1, .inl (cI, 4, .inl (aZ cs))), (p2, .inl (cI, 48, .inl (aZ mp)))] H := hP
  have hD : va_D A [(h, .inr (0, [.ref q1, .ref q2, .ref q3])), (q3, .inl (cJ, 28080, .inr (.inl (bZ cha)))), (q1, .inr (3, [.ref p1, .ref p2])), (p1, .inl (cI, 4, .inl (aZ cs))), (p2, .inl (cI, 48, .inl (aZ mp)))] := hD
  have hl : lv_has ls 5 [(0, .ref h), (1, .int (nZ (k : Int))), (2, .int (nZ v)), (3, .int (nZ n)), (4, .int (nZ a))] := hl
  obtain ⟨ha0, ha4, hbm, hme⟩ : (0 ≤ a) ∧ (a ≤ 4) ∧ (bmN (fun m => decide (0 < cs m ∧ WNin cs mp m (k - 1) v n = WN cs mp k v n)) 4 0 = bmN (fun m => decide (0 < cs m ∧ WNin cs mp m (k - 1) v n = WN cs mp k v n)) (4 - a).toNat a) ∧ (MemoOK cs mp cha) := hI3
  refine lv_iload hx hb dX0_moodForChance_3 (lv_at hl 4 rfl) ?_
  refine lv_iconst (v := nZ 4) hx hb dX0_moodForChance_5 rfl ?_
  refine z_icmp_ge (tgt := 50) hx hb dX0_moodForChance_6 (by decide) (by omega) (by decide) (fun c_6 => ?_) (fun c_6 => ?_)
  · refine lv_iconst (v := nZ (-1)) hx hb dX0_moodForChance_50 rfl ?_
    have hP9 := hP.sub (ws' := [(h, .inr (0, [.ref q1, .ref q2, .ref q3])), (q3, .inl (cJ, 28080, .inr (.inl (bZ cha)))), (q1, .inr (3, [.ref p1, .ref p2])), (p1, .inl (cI, 4, .inl (aZ cs))), (p2, .inl (cI, 48, .inl (aZ mp)))]) [0, 1, 2, 3, 4] rfl
    have hD9 := hD.sub (ws' := [(h, .inr (0, [.ref q1, .ref q2, .ref q3])), (q3, .inl (cJ, 28080, .inr (.inl (bZ cha)))), (q1, .inr (3, [.ref p1, .ref p2])), (p1, .inl (cI, 4, .inl (aZ cs))), (p2, .inl (cI, 48, .inl (aZ mp)))]) [0, 1, 2, 3, 4] (by decide) rfl
    exact W.iret (v := nZ (-1)) hx hb hr (fun t9 ht9 _ => ⟨⟨nZ (-1), (cha), rfl, ⟨congrArg nZ (show (-1 : Int) = bmN (fun m => decide (0 < cs m ∧ WNin cs mp m (k - 1) v n = WN cs mp k v n)) 4 0 from (by rw [hbm, show a = 4 from by omega]; rfl)), hme⟩, ⟨by rw [ht9]; exact hP9, hD9⟩⟩, hS.F ht9⟩) hS.2.2 dX0_moodForChance_51
  · have hca := (hM a ha0 (by omega)).1
    refine lv_aload_n hx hb dX0_moodForChance_9 rfl (lv_at hl 0 rfl) ?_
    refine va_get (D := D) (ci := 0) (v := .ref q1) (C := RX0) (T := TX0) (N := 3) hx hb hts iX0 hown hK hP 0 rfl rfl 0 (by decide) (hts (.fieldLink RX0 18 "RainTarget$Batting" "moods" "LRainTarget$Moods;") (List.mem_of_getElem? (i := 1) rfl)) (fun _ h9 => h9) rfl dX0_moodForChance_10 ?_
    refine lv_iload hx hb dX0_moodForChance_13 (lv_at hl 4 rfl) ?_
    refine vp_callSi ((va_runVN (As := [.int (nZ a)]) (rest := []) ⟨hx, hb, hml, hown, hts⟩ (c_X3_size l D cI cJ tn q1 p1 p2 cs a (by omega) ) ⟨va_cnB 1 hts gX0_moodForChance_X3_size_n42 rfl rfl rfl (nw_X0_42 hN) (hts (.initialized RX3) (List.mem_of_getElem? (i := 3) rfl)) (by decide +kernel) ⟨Nat.le_of_ble_eq_true rfl, Nat.le_of_ble_eq_true rfl⟩, (hts (.instanceMethod yX3_size) (List.mem_of_getElem? (i := 2) rfl)), (hts (.selects RX3 yX3_size yX3_size) (List.mem_of_getElem? (i := 4) rfl))⟩ ⟨RoP.blind, va_recv hK hP (ci := 3) (q0 := 2) rfl rfl, fun U hU hW => ⟨rfl, RoP.call hE hS (hP.sub (ws' := [(q1, .inr (3, [.ref p1, .ref p2])), (p1, .inl (cI, 4, .inl (aZ cs)))]) [2, 3] rfl) hU hW⟩⟩ rfl rfl hl.1 rfl (lv_room (Nat.le_of_ble_eq_true rfl)) dX0_moodForChance_15 ⟨Nat.le_of_ble_eq_true rfl, Nat.le_of_ble_eq_true rfl⟩).run) (fun r15 hr15 => ?_)
    subst hr15
    refine z_nameI (fun r15 er15 => ?_)
    refine z_if_le (tgt := 44) hx hb dX0_moodForChance_18 (by decide) (by omega) (fun c_18 => ?_) (fun c_18 => ?_)
    · have hno : ¬ (decide (0 < cs a ∧ WNin cs mp a (k - 1) v n = WN cs mp k v n)) = true := by
        intro q
        have := of_decide_eq_true q
        omega
      refine lv_iinc (v := nZ (a + 1)) (lv' := [(4, .int (nZ (a + 1))), (0, .ref h), (1, .int (nZ (k : Int))), (2, .int (nZ v)), (3, .int (nZ n))]) hx hb dX0_moodForChance_44 hl (k := 4) rfl (nZ_add _ _) (by decide) rfl (fun ls hl => ?_)
      refine lv_goto (tgt := 3) hx hb dX0_moodForChance_47 (by decide) ?_
      exact ih3 cha (a + 1) ⟨(by first | assumption | omega), (by first | assumption | omega), (by rw [hbm, bmN_s _ ha0 (by omega), if_neg hno]), hme⟩ (show (4 - (a + 1)).toNat < (4 - a).toNat from by omega) _ _ ls (hP.sub [0, 1, 2, 3, 4] rfl) (hD.sub [0, 1, 2, 3, 4] (by decide) rfl) hS (lv_sub hl [1, 2, 3, 4, 0] rfl)
    · have hcp : 0 < cs a := by omega
      refine lv_aload_n hx hb dX0_moodForChance_21 rfl (lv_at hl 0 rfl) ?_
      refine lv_iload hx hb dX0_moodForChance_22 (lv_at hl 4 rfl) ?_
      refine lv_iload_n hx hb dX0_moodForChance_24 rfl (lv_at hl 1 rfl) ?_
      refine lv_iload_n hx hb dX0_moodForChance_25 rfl (lv_at hl 2 rfl) ?_
      refine lv_iload_n hx hb dX0_moodForChance_26 rfl (lv_at hl 3 rfl) ?_
      have hFc := va_free (wc := [(h, .inr (0, [.ref q1, .ref q2, .ref q3])), (q3, .inl (cJ, 28080, .inr (.inl (bZ cha)))), (q1, .inr (3, [.ref p1, .ref p2])), (p1, .inl (cI, 4, .inl (aZ cs))), (p2, .inl (cI, 48, .inl (aZ mp)))]) hD hS hA [0, 1, 2, 3, 4] rfl
      have hPc := hP.sub (ws' := [(h, .inr (0, [.ref q1, .ref q2, .ref q3])), (q3, .inl (cJ, 28080, .inr (.inl (bZ cha)))), (q1, .inr (3, [.ref p1, .ref p2])), (p1, .inl (cI, 4, .inl (aZ cs))), (p2, .inl (cI, 48, .inl (aZ mp)))]) [0, 1, 2, 3, 4] rfl
      have hDc := hD.sub (ws' := [(h, .inr (0, [.ref q1, .ref q2, .ref q3])), (q3, .inl (cJ, 28080, .inr (.inl (bZ cha)))), (q1, .inr (3, [.ref p1, .ref p2])), (p1, .inl (cI, 4, .inl (aZ cs))), (p2, .inl (cI, 48, .inl (aZ mp)))]) [0, 1, 2, 3, 4] (by decide) rfl
      refine va_calll (va_runV (As := [.int (nZ a), .int (nZ (k : Int)), .int (nZ v), .int (nZ n)]) (rest := []) ⟨hx, hb, hml, hown, hts⟩ (c_X0_chanceIn l D cI cJ tn H.size h q1 q2 q3 p1 p2 cs mp k cha a v n hM hk1 hk2 hme (by first | assumption | omega) (by first | assumption | omega) hv1 hv2 hn1 hn2 ) (cwV 4 hts gX0_moodForChance_X0_chanceIn rfl rfl rfl (by decide +kernel) ⟨by show 2 * k + 2 + 1 ≤ 28; omega, by show 8 + (9 + 11) + (60 * k + 70) ≤ 847; omega⟩) ⟨WrP.blind, va_recv hK hP (ci := 0) (q0 := 0) rfl rfl, fun U hU hW => ⟨rfl, WrP.call hE hS hPc hDc hFc hU hW⟩⟩ rfl rfl hl.1 rfl (lv_room (Nat.le_of_ble_eq_true rfl)) dX0_moodForChance_27 ⟨Nat.le_of_ble_eq_true rfl, Nat.le_of_ble_eq_true rfl⟩) hS (fun q _ h => hFc q h) hFc (fun r27 u9 t9 H1 locs ht9 hvm hv27 hB9 hz9 hk9 hS => ?_)
      obtain ⟨ch2_27, rfl⟩ : ∃ z, z = u9 := ⟨_, rfl⟩
      obtain ⟨hP8, hD8⟩ := hB9
      rw [ht9] at hP8
      obtain ⟨hq27, hw27⟩ : r27 = lZ (WNin cs mp a (k - 1) v n) ∧ MemoOK cs mp ch2_27 := hv27
      subst hq27
      obtain ⟨hP, hD⟩ := va_join (wr := []) (w1 := [(h, .inr (0, [.ref q1, .ref q2, .ref q3])), (q3, .inl (cJ, 28080, .inr (.inl (bZ ch2_27)))), (q1, .inr (3, [.ref p1, .ref p2])), (p1, .inl (cI, 4, .inl (aZ cs))), (p2, .inl (cI, 48, .inl (aZ mp)))]) hP hD [0, 1, 2, 3, 4] [] rfl rfl (by decide) (by decide) hk9 hFc hP8 hD8
      generalize H1 = H at hP hS ⊢
      have hP : va_P D vwCl [(h, .inr (0, [.ref q1, .ref q2, .ref q3])), (q3, .inl (cJ, 28080, .inr (.inl (bZ ch2_27)))), (q1, .inr (3, [.ref p1, .ref p2])), (p1, .inl (cI, 4, .inl (aZ cs))), (p2, .inl (cI, 48, .inl (aZ mp)))] H := hP
      have hD : va_D A [(h, .inr (0, [.ref q1, .ref q2, .ref q3])), (q3, .inl (cJ, 28080, .inr (.inl (bZ ch2_27)))), (q1, .inr (3, [.ref p1, .ref p2])), (p1, .inl (cI, 4, .inl (aZ cs))), (p2, .inl (cI, 48, .inl (aZ mp)))] := hD
      refine z_nameL (fun r27 er27 => ?_)
      refine lv_aload_n hx hb dX0_moodForChance_30 rfl (lv_at hl 0 rfl) ?_
      refine lv_iload_n hx hb dX0_moodForChance_31 rfl (lv_at hl 1 rfl) ?_
      refine lv_iload_n hx hb dX0_moodForChance_32 rfl (lv_at hl 2 rfl) ?_
      refine lv_iload_n hx hb dX0_moodForChance_33 rfl (lv_at hl 3 rfl) ?_
      have hFc := va_free (wc := [(h, .inr (0, [.ref q1, .ref q2, .ref q3])), (q3, .inl (cJ, 28080, .inr (.inl (bZ ch2_27)))), (q1, .inr (3, [.ref p1, .ref p2])), (p1, .inl (cI, 4, .inl (aZ cs))), (p2, .inl (cI, 48, .inl (aZ mp)))]) hD hS hA [0, 1, 2, 3, 4] rfl
      have hPc := hP.sub (ws' := [(h, .inr (0, [.ref q1, .ref q2, .ref q3])), (q3, .inl (cJ, 28080, .inr (.inl (bZ ch2_27)))), (q1, .inr (3, [.ref p1, .ref p2])), (p1, .inl (cI, 4, .inl (aZ cs))), (p2, .inl (cI, 48, .inl (aZ mp)))]) [0, 1, 2, 3, 4] rfl
      have hDc := hD.sub (ws' := [(h, .inr (0, [.ref q1, .ref q2, .ref q3])), (q3, .inl (cJ, 28080, .inr (.inl (bZ ch2_27)))), (q1, .inr (3, [.ref p1, .ref p2])), (p1, .inl (cI, 4, .inl (aZ cs))), (p2, .inl (cI, 48, .inl (aZ mp)))]) [0, 1, 2, 3, 4] (by decide) rfl
      refine va_calll (va_runV (As := [.int (nZ (k : Int)), .int (nZ v), .int (nZ n)]) (rest := [.long (lZ r27)]) ⟨hx, hb, hml, hown, hts⟩ (c_X0_chance l D cI cJ tn H.size h q1 q2 q3 p1 p2 cs mp k ch2_27 v n hM hk2 hw27 (by first | assumption | omega) hv2 (by first | assumption | omega) hn2 ) (cwV 3 hts gX0_moodForChance_X0_chance rfl rfl rfl (by decide +kernel) ⟨by show 2 * k + 3 + 1 ≤ 28; omega, by show 8 + (8 + 11) + (60 * k + 100) ≤ 847; omega⟩) ⟨WrP.blind, va_recv hK hP (ci := 0) (q0 := 0) rfl rfl, fun U hU hW => ⟨rfl, WrP.call hE hS hPc hDc hFc hU hW⟩⟩ rfl rfl hl.1 rfl (lv_room (Nat.le_of_ble_eq_true rfl)) dX0_moodForChance_34 ⟨Nat.le_of_ble_eq_true rfl, Nat.le_of_ble_eq_true rfl⟩) hS (fun q _ h => hFc q h) hFc (fun r34 u9 t9 H1 locs ht9 hvm hv34 hB9 hz9 hk9 hS => ?_)
      obtain ⟨ch2_34, rfl⟩ : ∃ z, z = u9 := ⟨_, rfl⟩
      obtain ⟨hP8, hD8⟩ := hB9
      rw [ht9] at hP8
      obtain ⟨hq34, hw34⟩ : r34 = lZ (WN cs mp k v n) ∧ MemoOK cs mp ch2_34 := hv34
      subst hq34
      obtain ⟨hP, hD⟩ := va_join (wr := []) (w1 := [(h, .inr (0, [.ref q1, .ref q2, .ref q3])), (q3, .inl (cJ, 28080, .inr (.inl (bZ ch2_34)))), (q1, .inr (3, [.ref p1, .ref p2])), (p1, .inl (cI, 4, .inl (aZ cs))), (p2, .inl (cI, 48, .inl (aZ mp)))]) hP hD [0, 1, 2, 3, 4] [] rfl rfl (by decide) (by decide) hk9 hFc hP8 hD8
      generalize H1 = H at hP hS ⊢
      have hP : va_P D vwCl [(h, .inr (0, [.ref q1, .ref q2, .ref q3])), (q3, .inl (cJ, 28080, .inr (.inl (bZ ch2_34)))), (q1, .inr (3, [.ref p1, .ref p2])), (p1, .inl (cI, 4, .inl (aZ cs))), (p2, .inl (cI, 48, .inl (aZ mp)))] H := hP
      have hD : va_D A [(h, .inr (0, [.ref q1, .ref q2, .ref q3])), (q3, .inl (cJ, 28080, .inr (.inl (bZ ch2_34)))), (q1, .inr (3, [.ref p1, .ref p2])), (p1, .inl (cI, 4, .inl (aZ cs))), (p2, .inl (cI, 48, .inl (aZ mp)))] := hD
      refine z_nameL (fun r34 er34 => ?_)
      have hi0 := WNin_nn hM ha0 (show a < 4 by omega) (k - 1) v n
      have hm0 := WN_nn hM k v n
      have hm1 := WN_top hM hk2 v n
      have hi1 := WNin_top hM hk1 hk2 ha0 (show a < 4 by omega) v n
      refine z_lcmp_ne (tgt := 44) hx hb dX0_moodForChance_37 dX0_moodForChance_38 (by decide) (by omega) (by omega) (fun c_37 => ?_) (fun c_37 => ?_)
      · have hno : ¬ (decide (0 < cs a ∧ WNin cs mp a (k - 1) v n = WN cs mp k v n)) = true := by
          intro q
          have := of_decide_eq_true q
          omega
        refine lv_iinc (v := nZ (a + 1)) (lv' := [(4, .int (nZ (a + 1))), (0, .ref h), (1, .int (nZ (k : Int))), (2, .int (nZ v)), (3, .int (nZ n))]) hx hb dX0_moodForChance_44 hl (k := 4) rfl (nZ_add _ _) (by decide) rfl (fun ls hl => ?_)
        refine lv_goto (tgt := 3) hx hb dX0_moodForChance_47 (by decide) ?_
        exact ih3 ch2_34 (a + 1) ⟨(by first | assumption | omega), (by first | assumption | omega), (by rw [hbm, bmN_s _ ha0 (by omega), if_neg hno]), hw34⟩ (show (4 - (a + 1)).toNat < (4 - a).toNat from by omega) _ _ ls (hP.sub [0, 1, 2, 3, 4] rfl) (hD.sub [0, 1, 2, 3, 4] (by decide) rfl) hS (lv_sub hl [1, 2, 3, 4, 0] rfl)
      · refine lv_iload hx hb dX0_moodForChance_41 (lv_at hl 4 rfl) ?_
        have hP9 := hP.sub (ws' := [(h, .inr (0, [.ref q1, .ref q2, .ref q3])), (q3, .inl (cJ, 28080, .inr (.inl (bZ ch2_34)))), (q1, .inr (3, [.ref p1, .ref p2])), (p1, .inl (cI, 4, .inl (aZ cs))), (p2, .inl (cI, 48, .inl (aZ mp)))]) [0, 1, 2, 3, 4] rfl
        have hD9 := hD.sub (ws' := [(h, .inr (0, [.ref q1, .ref q2, .ref q3])), (q3, .inl (cJ, 28080, .inr (.inl (bZ ch2_34)))), (q1, .inr (3, [.ref p1, .ref p2])), (p1, .inl (cI, 4, .inl (aZ cs))), (p2, .inl (cI, 48, .inl (aZ mp)))]) [0, 1, 2, 3, 4] (by decide) rfl
        exact W.iret (v := nZ a) hx hb hr (fun t9 ht9 _ => ⟨⟨nZ a, (ch2_34), rfl, ⟨congrArg nZ (show (a : Int) = bmN (fun m => decide (0 < cs m ∧ WNin cs mp m (k - 1) v n = WN cs mp k v n)) 4 0 from (by rw [hbm, bmN_s _ ha0 (by omega), if_pos (decide_eq_true ⟨hcp, by omega⟩)])), hw34⟩, ⟨by rw [ht9]; exact hP9, hD9⟩⟩, hS.F ht9⟩) hS.2.2 dX0_moodForChance_43

set_option maxHeartbeats 4000000 in
set_option maxRecDepth 100000 in
theorem c_X0_share (l : Launch) (D : va_G) (cI cJ : ClassId) (tn : Nat) (h : Nat) (q1 : Nat) (q2 : Nat) (q3 : Nat) (g : Nat) (me : Int → Int) (cs : Int → Int) (mp : Int → Int) (so : Int) (sm : Int) (sp : Int) (sb : Int) (sc : Int) (sd : Int) (sl : Int) (u : Int) (v : Int) (hM : MoodOK cs mp) (hMe : MeanOK cs mp me) (ho : so ≤ 12) (hm : sm ≤ 10) (hu0 : 0 ≤ u) (hu1 : u ≤ so) (hv0 : 0 ≤ v) (hv1 : v ≤ sm)  : Met l yX0_share wsX0_share ({ frames := 2, cells := 0, slots := 0, locals := 44 } : Room) (va_Pc [.ref h, .int (nZ u), .int (nZ v), .ref g] (RoP D cI cJ tn [(h, .inr (0, [.ref q1, .ref q2, .ref q3])), (q2, .inl (cJ, 143, .inr (.inl (bZ me)))), (g, .inr (6, [.int (nZ so), .int (nZ sm), .int (nZ sp), .int (nZ sb), .int (nZ sc), .int (nZ sd), .int (nZ sl)]))])) (vp_Si (fun r9 : Int32 => r9 = nZ (SP cs mp so sm u v))) 0 0 (fun _ => False) := by
  refine Met.ofW (cc := cX0_share) (maxL := 6) (ret := (some .int)) (by decide) rfl ?_
  intro p e s m args below meth c s₁ B hml hv
  obtain ⟨rfl, hE, hP⟩ := hv
  have hx := B.exec
  have hb := B.bytes
  have hr := B.returns
  have hts := atoms_spec (ws := wsX0_share) B.pre
  have hown : s.vm.findClass RX0 = some m.cls := findClass_of_methodNamed B.named
  have hlocks := B.notSynchronized
  have hS : va_S (fun _ => False) s.heap s.heap [] := va_S.rf
  have hK := hE.1
  have hN := hE.2.1
  have hl := lv_entry ([.ref h, .int (nZ u), .int (nZ v), .ref g]) (n := 6) (Nat.le_of_ble_eq_true rfl)
  rw [lg_entry_eq]
  generalize (lg_sl ([.ref h, .int (nZ u), .int (nZ v), .ref g]) ++ List.replicate (6 - (lg_sl ([.ref h, .int (nZ u), .int (nZ v), .ref g])).length) Slot.unset).toArray = ls at hl ⊢
  have hl : lv_has ls 6 [(0, .ref h), (1, .int (nZ u)), (2, .int (nZ v)), (3, .ref g)] := hl
  have iX6 : ∀ w ∈ u_ws RX6 TX6 7, w ∈ wsX0_share := fun _ h => List.mem_cons_of_mem _ (List.mem_append_left _ (List.mem_append_right _ h))
  refine lv_aload_n hx hb dX0_share_0 rfl (lv_at hl 0 rfl) ?_
  refine lv_iload_n hx hb dX0_share_1 rfl (lv_at hl 1 rfl) ?_
  refine lv_iload_n hx hb dX0_share_2 rfl (lv_at hl 2 rfl) ?_
  refine vp_callSl ((va_runV (As := [.int (nZ u), .int (nZ v)]) (rest := []) ⟨hx, hb, hml, hown, hts⟩ (c_X0_mean l D cI cJ tn h q1 q2 q3 me u v (by omega) (by omega) ) (cwV 2 hts gX0_share_X0_mean rfl rfl rfl (by decide +kernel) ⟨Nat.le_of_ble_eq_true rfl, Nat.le_of_ble_eq_true rfl⟩) ⟨RoP.blind, va_recv hK hP (ci := 0) (q0 := 0) rfl rfl, fun U hU hW => ⟨rfl, RoP.call hE hS (hP.sub (ws' := [(h, .inr (0, [.ref q1, .ref q2, .ref q3])), (q2, .inl (cJ, 143, .inr (.inl (bZ me))))]) [0, 1] rfl) hU hW⟩⟩ rfl rfl hl.1 rfl (lv_room (Nat.le_of_ble_eq_true rfl)) dX0_share_3 ⟨Nat.le_of_ble_eq_true rfl, Nat.le_of_ble_eq_true rfl⟩).run) (fun r3 hr3 => ?_)
  subst hr3
  refine z_nameL (fun r3 er3 => ?_)
  refine lv_aload_n hx hb dX0_share_6 rfl (lv_at hl 3 rfl) ?_
  refine va_getN (D := D) (ci := 6) (v := .int (nZ so)) (C := RX6) (T := TX6) (N := 7) hx hb hts iX6 hown hK hP 2 rfl rfl 0 (by decide) (va_Nw.use rfl (nw_X0_67 hN)) (fun _ h9 => h9) rfl dX0_share_7 ?_
  refine lv_iload_n hx hb dX0_share_10 rfl (lv_at hl 1 rfl) ?_
  refine z_isub hx hb dX0_share_11 ?_
  refine vp_callSl ((va_runSN (As := [.int (nZ (so - u))]) (rest := [.long (lZ r3)]) ⟨hx, hb, hml, hown, hts⟩ (c_X9_power l D cI cJ tn (so - u) (by omega) ) ⟨va_cnB 1 hts gX0_share_X9_power_n52 rfl rfl rfl (nw_X0_52 hN) (hts (.initialized RX9) (List.mem_of_getElem? (i := 9) rfl)) (by decide +kernel) ⟨Nat.le_of_ble_eq_true rfl, Nat.le_of_ble_eq_true rfl⟩, (hts (.static yX9_power) (List.mem_of_getElem? (i := 11) rfl)), trivial⟩ ⟨RoP.blind, fun U hU hW => ⟨rfl, RoP.call hE hS (hP.sub (ws' := []) [] rfl) hU hW⟩⟩ rfl rfl hl.1 rfl (lv_room (Nat.le_of_ble_eq_true rfl)) dX0_share_12 ⟨Nat.le_of_ble_eq_true rfl, Nat.le_of_ble_eq_true rfl⟩).run) (fun r12 hr12 => ?_)
  subst hr12
  refine z_nameL (fun r12 er12 => ?_)
  have e3 : r3 = MK cs mp u.toNat v := by rw [er3, if_pos (by omega), hMe.at hu0 (by omega) hv0 (by omega)]
  have e12 : r12 = (10 : Int) ^ (so - u).toNat := by rw [er12, if_pos (by omega)]
  have hle : r3 * r12 ≤ MK cs mp so.toNat sm := by rw [e3, e12]; exact MK_left hM hu0 hu1 hv1
  have hnn : 0 ≤ r3 * r12 := by rw [e3, e12]; exact mul_nn (MK_nn _ _) (Int.le_of_lt (p10_pos _))
  have htop := MK_top hM so.toNat sm (by omega)
  refine z_lmul hx hb dX0_share_15 ?_
  refine lv_lstore (lv' := [(4, .long (lZ (r3 * r12))), (0, .ref h), (1, .int (nZ u)), (2, .int (nZ v)), (3, .ref g)]) hx hb dX0_share_16 hl (by decide) rfl (fun ls hl => ?_)
  refine lv_ldc2 (own := RX0) (v := 1000) hx hb hown (hts (.constantLong RX0 73 (1000)) (List.mem_of_getElem? (i := 1) rfl)) dX0_share_18 ?_
  refine z_litl 1000 (by decide) ?_
  refine lv_lload hx hb dX0_share_21 (lv_at hl 0 rfl) ?_
  refine z_lmul hx hb dX0_share_23 ?_
  refine lv_aload_n hx hb dX0_share_24 rfl (lv_at hl 1 rfl) ?_
  refine lv_aload_n hx hb dX0_share_25 rfl (lv_at hl 4 rfl) ?_
  refine va_getN (D := D) (ci := 6) (v := .int (nZ so)) (C := RX6) (T := TX6) (N := 7) hx hb hts iX6 hown hK hP 2 rfl rfl 0 (by decide) (va_Nw.use rfl (nw_X0_67 hN)) (fun _ h9 => h9) rfl dX0_share_26 ?_
  refine lv_aload_n hx hb dX0_share_29 rfl (lv_at hl 4 rfl) ?_
  refine va_getN (D := D) (ci := 6) (v := .int (nZ sm)) (C := RX6) (T := TX6) (N := 7) hx hb hts iX6 hown hK hP 2 rfl rfl 1 (by decide) (va_Nw.use rfl (nw_X0_75 hN)) (fun _ h9 => h9) rfl dX0_share_30 ?_
  refine vp_callSl ((va_runV (As := [.int (nZ so), .int (nZ sm)]) (rest := [.long (lZ (1000 * (r3 * r12)))]) ⟨hx, hb, hml, hown, hts⟩ (c_X0_mean l D cI cJ tn h q1 q2 q3 me so sm (by omega) (by omega) ) (cwV 2 hts gX0_share_X0_mean rfl rfl rfl (by decide +kernel) ⟨Nat.le_of_ble_eq_true rfl, Nat.le_of_ble_eq_true rfl⟩) ⟨RoP.blind, va_recv hK hP (ci := 0) (q0 := 0) rfl rfl, fun U hU hW => ⟨rfl, RoP.call hE hS (hP.sub (ws' := [(h, .inr (0, [.ref q1, .ref q2, .ref q3])), (q2, .inl (cJ, 143, .inr (.inl (bZ me))))]) [0, 1] rfl) hU hW⟩⟩ rfl rfl hl.1 rfl (lv_room (Nat.le_of_ble_eq_true rfl)) dX0_share_33 ⟨Nat.le_of_ble_eq_true rfl, Nat.le_of_ble_eq_true rfl⟩).run) (fun r33 hr33 => ?_)
  subst hr33
  refine z_nameL (fun r33 er33 => ?_)
  have e33 : r33 = MK cs mp so.toNat sm := by rw [er33, if_pos (by omega), hMe.at (by omega) ho (by omega) hm]
  refine vp_callSl ((va_runSN (As := [.long (lZ (1000 * (r3 * r12))), .long (lZ r33)]) (rest := []) ⟨hx, hb, hml, hown, hts⟩ (c_X9_cut l D cI cJ tn (1000 * (r3 * r12)) r33 (by omega) (by omega) ) ⟨va_cnB 2 hts gX0_share_X9_cut_n78 rfl rfl rfl (nw_X0_78 hN) (hts (.initialized RX9) (List.mem_of_getElem? (i := 9) rfl)) (by decide +kernel) ⟨Nat.le_of_ble_eq_true rfl, Nat.le_of_ble_eq_true rfl⟩, (hts (.static yX9_cut) (List.mem_of_getElem? (i := 14) rfl)), trivial⟩ ⟨RoP.blind, fun U hU hW => ⟨rfl, RoP.call hE hS (hP.sub (ws' := []) [] rfl) hU hW⟩⟩ rfl rfl hl.1 rfl (lv_room (Nat.le_of_ble_eq_true rfl)) dX0_share_36 ⟨Nat.le_of_ble_eq_true rfl, Nat.le_of_ble_eq_true rfl⟩).run) (fun r36 hr36 => ?_)
  subst hr36
  refine z_nameL (fun r36 er36 => ?_)
  refine z_l2i hx hb dX0_share_39 ?_
  exact W.iret (v := nZ r36) hx hb hr (fun t9 ht9 _ => ⟨nZ r36, rfl, congrArg nZ (show (r36 : Int) = SP cs mp so sm u v from (by unfold SP; rw [er36, tdivN (by omega), e33, e3, e12])), ht9⟩) (fun _ h => by cases h) dX0_share_40

set_option maxHeartbeats 4000000 in
set_option maxRecDepth 100000 in
theorem c_X0_millionths (l : Launch) (D : va_G) (cI cJ : ClassId) (tn : Nat) (sz : Nat) (h : Nat) (q1 : Nat) (q2 : Nat) (q3 : Nat) (p1 : Nat) (p2 : Nat) (cs : Int → Int) (mp : Int → Int) (k : Nat) (ch : Int → Int) (v : Int) (n : Int) (hM : MoodOK cs mp) (hk2 : k ≤ 12) (hmemo : MemoOK cs mp ch) (hv1 : -100 ≤ v) (hv2 : v ≤ 10) (hn1 : -1000 ≤ n) (hn2 : n ≤ 100000)  : Met l yX0_millionths wsX0_millionths ({ frames := 28, cells := 0, slots := 0, locals := 847 } : Room) (va_Pc [.ref h, .int (nZ (k : Int)), .int (nZ v), .int (nZ n)] (WrP D cI cJ tn [(h, .inr (0, [.ref q1, .ref q2, .ref q3])), (q3, .inl (cJ, 28080, .inr (.inl (bZ ch)))), (q1, .inr (3, [.ref p1, .ref p2])), (p1, .inl (cI, 4, .inl (aZ cs))), (p2, .inl (cI, 48, .inl (aZ mp)))] sz)) (va_Qi (fun (r9 : Int32) (u9 : (Int → Int)) => r9 = nZ (inM (WN cs mp k v n) (k : Int)) ∧ MemoOK cs mp u9) (fun u9 t9 => WrQ D (va_A [(h, .inr (0, [.ref q1, .ref q2, .ref q3])), (q3, .inl (cJ, 28080, .inr (.inl (bZ ch)))), (q1, .inr (3, [.ref p1, .ref p2])), (p1, .inl (cI, 4, .inl (aZ cs))), (p2, .inl (cI, 48, .inl (aZ mp)))] sz) [(h, .inr (0, [.ref q1, .ref q2, .ref q3])), (q3, .inl (cJ, 28080, .inr (.inl (bZ u9)))), (q1, .inr (3, [.ref p1, .ref p2])), (p1, .inl (cI, 4, .inl (aZ cs))), (p2, .inl (cI, 48, .inl (aZ mp)))] t9) (va_A [(h, .inr (0, [.ref q1, .ref q2, .ref q3])), (q3, .inl (cJ, 28080, .inr (.inl (bZ ch)))), (q1, .inr (3, [.ref p1, .ref p2])), (p1, .inl (cI, 4, .inl (aZ cs))), (p2, .inl (cI, 48, .inl (aZ mp)))] sz)) 0 0 (va_A [(h, .inr (0, [.ref q1, .ref q2, .ref q3])), (q3, .inl (cJ, 28080, .inr (.inl (bZ ch)))), (q1, .inr (3, [.ref p1, .ref p2])), (p1, .inl (cI, 4, .inl (aZ cs))), (p2, .inl (cI, 48, .inl (aZ mp)))] sz) := by
  refine Met.ofW (cc := cX0_millionths) (maxL := 4) (ret := (some .int)) (by decide) rfl ?_
  intro p e s m args below meth c s₁ B hml hv
  obtain ⟨rfl, hsz, hE, hP, hD0⟩ := hv
  have hx := B.exec
  have hb := B.bytes
  have hr := B.returns
  have hts := atoms_spec (ws := wsX0_millionths) B.pre
  have hown : s.vm.findClass RX0 = some m.cls := findClass_of_methodNamed B.named
  have hlocks := B.notSynchronized
  subst hsz
  have hD := hD0.self (sz := s.heap.size)
  generalize hAe : va_A [(h, .inr (0, [.ref q1, .ref q2, .ref q3])), (q3, .inl (cJ, 28080, .inr (.inl (bZ ch)))), (q1, .inr (3, [.ref p1, .ref p2])), (p1, .inl (cI, 4, .inl (aZ cs))), (p2, .inl (cI, 48, .inl (aZ mp)))] s.heap.size = A at hD hE ⊢
  have hA : ∀ q : Nat, s.heap.size ≤ q → A q := fun q h => by rw [← hAe]; exact Or.inr h
  have hS : va_S A s.heap s.heap [] := va_S.rf
  have hK := hE.1
  have hN := hE.2.1
  have hl := lv_entry ([.ref h, .int (nZ (k : Int)), .int (nZ v), .int (nZ n)]) (n := 4) (Nat.le_of_ble_eq_true rfl)
  rw [lg_entry_eq]
  generalize (lg_sl ([.ref h, .int (nZ (k : Int)), .int (nZ v), .int (nZ n)]) ++ List.replicate (4 - (lg_sl ([.ref h, .int (nZ (k : Int)), .int (nZ v), .int (nZ n)])).length) Slot.unset).toArray = ls at hl ⊢
  have hl : lv_has ls 4 [(0, .ref h), (1, .int (nZ (k : Int))), (2, .int (nZ v)), (3, .int (nZ n))] := hl
  refine lv_aload_n hx hb dX0_millionths_0 rfl (lv_at hl 0 rfl) ?_
  refine lv_iload_n hx hb dX0_millionths_1 rfl (lv_at hl 1 rfl) ?_
  refine lv_iload_n hx hb dX0_millionths_2 rfl (lv_at hl 2 rfl) ?_
  refine lv_iload_n hx hb dX0_millionths_3 rfl (lv_at hl 3 rfl) ?_
  have hFc := va_free (wc := [(h, .inr (0, [.ref q1, .ref q2, .ref q3])), (q3, .inl (cJ, 28080, .inr (.inl (bZ ch)))), (q1, .inr (3, [.ref p1, .ref p2])), (p1, .inl (cI, 4, .inl (aZ cs))), (p2, .inl (cI, 48, .inl (aZ mp)))]) hD hS hA [0, 1, 2, 3, 4] rfl
  have hPc := hP.sub (ws' := [(h, .inr (0, [.ref q1, .ref q2, .ref q3])), (q3, .inl (cJ, 28080, .inr (.inl (bZ ch)))), (q1, .inr (3, [.ref p1, .ref p2])), (p1, .inl (cI, 4, .inl (aZ cs))), (p2, .inl (cI, 48, .inl (aZ mp)))]) [0, 1, 2, 3, 4] rfl
  have hDc := hD.sub (ws' := [(h, .inr (0, [.ref q1, .ref q2, .ref q3])), (q3, .inl (cJ, 28080, .inr (.inl (bZ ch)))), (q1, .inr (3, [.ref p1, .ref p2])), (p1, .inl (cI, 4, .inl (aZ cs))), (p2, .inl (cI, 48, .inl (aZ mp)))]) [0, 1, 2, 3, 4] (by decide) rfl
  refine va_calll (va_runV (As := [.int (nZ (k : Int)), .int (nZ v), .int (nZ n)]) (rest := []) ⟨hx, hb, hml, hown, hts⟩ (c_X0_chance l D cI cJ tn s.heap.size h q1 q2 q3 p1 p2 cs mp k ch v n hM hk2 hmemo hv1 hv2 hn1 hn2 ) (cwV 3 hts gX0_millionths_X0_chance rfl rfl rfl (by decide +kernel) ⟨by show 2 * k + 3 + 1 ≤ 28; omega, by show 8 + (8 + 11) + (60 * k + 100) ≤ 847; omega⟩) ⟨WrP.blind, va_recv hK hP (ci := 0) (q0 := 0) rfl rfl, fun U hU hW => ⟨rfl, WrP.call hE hS hPc hDc hFc hU hW⟩⟩ rfl rfl hl.1 rfl (lv_room (Nat.le_of_ble_eq_true rfl)) dX0_millionths_4 ⟨Nat.le_of_ble_eq_true rfl, Nat.le_of_ble_eq_true rfl⟩) hS (fun q _ h => hFc q h) hFc (fun r4 u9 t9 H1 locs ht9 hvm hv4 hB9 hz9 hk9 hS => ?_)
  obtain ⟨ch2_4, rfl⟩ : ∃ z, z = u9 := ⟨_, rfl⟩
  obtain ⟨hP8, hD8⟩ := hB9
  rw [ht9] at hP8
  obtain ⟨hq4, hw4⟩ : r4 = lZ (WN cs mp k v n) ∧ MemoOK cs mp ch2_4 := hv4
  subst hq4
  obtain ⟨hP, hD⟩ := va_join (wr := []) (w1 := [(h, .inr (0, [.ref q1, .ref q2, .ref q3])), (q3, .inl (cJ, 28080, .inr (.inl (bZ ch2_4)))), (q1, .inr (3, [.ref p1, .ref p2])), (p1, .inl (cI, 4, .inl (aZ cs))), (p2, .inl (cI, 48, .inl (aZ mp)))]) hP hD [0, 1, 2, 3, 4] [] rfl rfl (by decide) (by decide) hk9 hFc hP8 hD8
  generalize H1 = H at hP hS ⊢
  have hP : va_P D vwCl [(h, .inr (0, [.ref q1, .ref q2, .ref q3])), (q3, .inl (cJ, 28080, .inr (.inl (bZ ch2_4)))), (q1, .inr (3, [.ref p1, .ref p2])), (p1, .inl (cI, 4, .inl (aZ cs))), (p2, .inl (cI, 48, .inl (aZ mp)))] H := hP
  have hD : va_D A [(h, .inr (0, [.ref q1, .ref q2, .ref q3])), (q3, .inl (cJ, 28080, .inr (.inl (bZ ch2_4)))), (q1, .inr (3, [.ref p1, .ref p2])), (p1, .inl (cI, 4, .inl (aZ cs))), (p2, .inl (cI, 48, .inl (aZ mp)))] := hD
  refine z_nameL (fun r4 er4 => ?_)
  have hW0 := WN_nn hM k v n
  have hW1 := WN_top hM hk2 v n
  refine lv_iload_n hx hb dX0_millionths_7 rfl (lv_at hl 1 rfl) ?_
  refine vp_callSi ((va_runSN (As := [.long (lZ r4), .int (nZ (k : Int))]) (rest := []) ⟨hx, hb, hml, hown, hts⟩ (c_X9_inMillionths l D cI cJ tn r4 (k : Int) (by first | assumption | omega) (by first | assumption | omega) (by first | assumption | omega) (by first | assumption | omega) ) ⟨va_cnB 2 hts gX0_millionths_X9_inMillionths_n81 rfl rfl rfl (nw_X0_81 hN) (hts (.initialized RX9) (List.mem_of_getElem? (i := 12) rfl)) (by decide +kernel) ⟨Nat.le_of_ble_eq_true rfl, Nat.le_of_ble_eq_true rfl⟩, (hts (.static yX9_inMillionths) (List.mem_of_getElem? (i := 31) rfl)), trivial⟩ ⟨RoP.blind, fun U hU hW => ⟨rfl, RoP.call hE hS (hP.sub (ws' := []) [] rfl) hU hW⟩⟩ rfl rfl hl.1 rfl (lv_room (Nat.le_of_ble_eq_true rfl)) dX0_millionths_8 ⟨Nat.le_of_ble_eq_true rfl, Nat.le_of_ble_eq_true rfl⟩).run) (fun r8 hr8 => ?_)
  subst hr8
  refine z_nameI (fun r8 er8 => ?_)
  have hP9 := hP.sub (ws' := [(h, .inr (0, [.ref q1, .ref q2, .ref q3])), (q3, .inl (cJ, 28080, .inr (.inl (bZ ch2_4)))), (q1, .inr (3, [.ref p1, .ref p2])), (p1, .inl (cI, 4, .inl (aZ cs))), (p2, .inl (cI, 48, .inl (aZ mp)))]) [0, 1, 2, 3, 4] rfl
  have hD9 := hD.sub (ws' := [(h, .inr (0, [.ref q1, .ref q2, .ref q3])), (q3, .inl (cJ, 28080, .inr (.inl (bZ ch2_4)))), (q1, .inr (3, [.ref p1, .ref p2])), (p1, .inl (cI, 4, .inl (aZ cs))), (p2, .inl (cI, 48, .inl (aZ mp)))]) [0, 1, 2, 3, 4] (by decide) rfl
  exact W.iret (v := nZ r8) hx hb hr (fun t9 ht9 _ => ⟨⟨nZ r8, (ch2_4), rfl, ⟨congrArg nZ (show (r8 : Int) = inM (WN cs mp k v n) (k : Int) from (by rw [er8, er4])), hw4⟩, ⟨by rw [ht9]; exact hP9, hD9⟩⟩, hS.F ht9⟩) hS.2.2 dX0_millionths_11

