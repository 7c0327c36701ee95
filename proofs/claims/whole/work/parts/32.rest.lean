def ab (x : Int) : Int := if 0 ≤ x then x else -x
def dfN (tot li : Int) (ko : Int → Int) : Nat → Int
  | 0 => 0
  | n + 1 => dfN tot li ko n + ab (al1 (tot + 1 - li * ((n : Int) + 1)) - ko ((n : Int) + 1))
theorem dfN_s (tot li : Int) (ko : Int → Int) {k : Int} (h : 1 ≤ k) : dfN tot li ko k.toNat = dfN tot li ko (k - 1).toNat + ab (al1 (tot + 1 - li * k) - ko k) := by
  rw [show k.toNat = (k - 1).toNat + 1 by omega, dfN, show (((k - 1).toNat : Nat) : Int) + 1 = k by omega]
theorem al1_bd {x c : Int} (h : x ≤ c) (hc : 1 ≤ c) : 1 ≤ al1 x ∧ al1 x ≤ c := by unfold al1; split <;> omega
theorem dfN_bd {tot li : Int} {ko : Int → Int} (ht0 : 0 ≤ tot) (ht1 : tot ≤ 432) (hl : 0 ≤ li) {n : Nat} (hk : ∀ k, 1 ≤ k → k ≤ (n : Int) → 1 ≤ ko k ∧ ko k ≤ 500) : ∀ m : Nat, m ≤ n → 0 ≤ dfN tot li ko m ∧ dfN tot li ko m ≤ 1000 * (m : Int)
  | 0, _ => ⟨Int.le_refl _, Int.le_refl _⟩
  | m + 1, h => by
    have a := dfN_bd ht0 ht1 hl hk m (by omega)
    have b := hk ((m : Int) + 1) (by omega) (by omega)
    have d := al1_bd (x := tot + 1 - li * ((m : Int) + 1)) (c := 433) (by have := Int.mul_nonneg hl (show 0 ≤ (m : Int) + 1 by omega); omega) (by decide)
    rw [dfN]; unfold ab; split <;> omega
/-- the least of the lines' differences, and where -/
def smB (f : Int → Int) : Nat → Int
  | 0 => 0
  | n + 1 => if f ((n : Int) + 1) < f (smB f n) then (n : Int) + 1 else smB f n
theorem smB_s (f : Int → Int) {k : Int} (h : 1 ≤ k) : smB f k.toNat = if f k < f (smB f (k - 1).toNat) then k else smB f (k - 1).toNat := by
  rw [show k.toNat = (k - 1).toNat + 1 by omega, smB, show (((k - 1).toNat : Nat) : Int) + 1 = k by omega]
def mdN (cs mp mv mw mx : Int → Int) (ov mn : Int) : Nat → Int
  | 0 => 0
  | n + 1 => mdN cs mp mv mw mx ov mn n + (if mv (n : Int) ≤ ov ∧ mw (n : Int) ≤ mn then ab (MK cs mp (mv (n : Int)).toNat (mw (n : Int)) / (10 : Int) ^ (mv (n : Int)).toNat - mx (n : Int)) else 0)
theorem mdN_s (cs mp mv mw mx : Int → Int) (ov mn : Int) {j : Int} (h : 0 ≤ j) : mdN cs mp mv mw mx ov mn (j + 1).toNat = mdN cs mp mv mw mx ov mn j.toNat + (if mv j ≤ ov ∧ mw j ≤ mn then ab (MK cs mp (mv j).toNat (mw j) / (10 : Int) ^ (mv j).toNat - mx j) else 0) := by
  rw [toN_s h, mdN, Int.toNat_of_nonneg h]
theorem MK_cut {cs mp : Int → Int} (hM : MoodOK cs mp) (u : Nat) (hu : u ≤ 12) (v : Int) : 0 ≤ MK cs mp u v / (10 : Int) ^ u ∧ MK cs mp u v / (10 : Int) ^ u ≤ 432 := by
  constructor
  · exact Int.ediv_nonneg (MK_nn _ _) (Int.le_of_lt (p10_pos _))
  · have h := Int.ediv_le_ediv (p10_pos u) (MK_le hM u v)
    rw [Int.mul_ediv_cancel _ (by have := p10_pos u; omega)] at h
    omega
set_option maxHeartbeats 4000000 in
set_option maxRecDepth 100000 in
theorem c_X8_differenceOf (l : Launch) (D : va_G) (cI cJ : ClassId) (tn : Nat) (w : Nat) (g : Nat) (h : Nat) (f : Nat) (kq : Nat) (fq : Nat) (ko : Int → Int) (so : Int) (sm : Int) (sp : Int) (sb : Int) (sc : Int) (sd : Int) (sl : Int) (rule : Int) (taken : Int) (lost : Int) (kept : Int) (told : Int) (tot : Int) (a : Int) (ho1 : 1 ≤ so) (ho : so ≤ 12) (ht0 : 0 ≤ tot) (htt : tot ≤ 432) (ha0 : 0 ≤ a) (ha1 : a ≤ 99) (hko : ∀ k, 1 ≤ k → k < so → 1 ≤ ko k ∧ ko k ≤ 500)  : Met l yX8_differenceOf wsX8_differenceOf ({ frames := 3, cells := 0, slots := 0, locals := 66 } : Room) (va_Pc [.ref w, .int (nZ a)] (RoP D cI cJ tn [(w, .inr (8, [.ref g, .ref h, .ref f, .ref kq, .int (nZ rule), .int (nZ taken), .int (nZ lost), .int (nZ kept)])), (g, .inr (6, [.int (nZ so), .int (nZ sm), .int (nZ sp), .int (nZ sb), .int (nZ sc), .int (nZ sd), .int (nZ sl)])), (f, .inr (1, [.ref fq, .int (nZ told), .int (nZ tot)])), (kq, .inl (cI, 13, .inl (aZ ko)))])) (vp_Si (fun r9 : Int32 => r9 = nZ (dfN tot a ko (so - 1).toNat))) 0 0 (fun _ => False) := by
  refine Met.ofW (cc := cX8_differenceOf) (maxL := 4) (ret := (some .int)) (by decide) rfl ?_
  intro p e s m args below meth c s₁ B hml hv
  obtain ⟨rfl, hE, hP⟩ := hv
  have hx := B.exec
  have hb := B.bytes
  have hr := B.returns
  have hts := atoms_spec (ws := wsX8_differenceOf) B.pre
  have hown : s.vm.findClass RX8 = some m.cls := findClass_of_methodNamed B.named
  have hlocks := B.notSynchronized
  have hS : va_S (fun _ => False) s.heap s.heap [] := va_S.rf
  have hK := hE.1
  have hN := hE.2.1
  have hl := lv_entry ([.ref w, .int (nZ a)]) (n := 4) (Nat.le_of_ble_eq_true rfl)
  rw [lg_entry_eq]
  generalize (lg_sl ([.ref w, .int (nZ a)]) ++ List.replicate (4 - (lg_sl ([.ref w, .int (nZ a)])).length) Slot.unset).toArray = ls at hl ⊢
  have hl : lv_has ls 4 [(0, .ref w), (1, .int (nZ a))] := hl
  have iX6 : ∀ w ∈ u_ws RX6 TX6 7, w ∈ wsX8_differenceOf := fun _ h => List.mem_cons_of_mem _ (List.mem_append_left _ (List.mem_append_right _ h))
  have iX8 : ∀ w ∈ u_ws RX8 TX8 8, w ∈ wsX8_differenceOf := fun _ h => List.mem_cons_of_mem _ (List.mem_append_left _ (List.mem_append_left _ (List.mem_append_right _ h)))
  refine lv_iconst (v := nZ 0) hx hb dX8_differenceOf_0 rfl ?_
  refine lv_istore_n (lv' := [(2, .int (nZ 0)), (0, .ref w), (1, .int (nZ a))]) hx hb dX8_differenceOf_1 rfl hl (by decide) rfl (fun ls hl => ?_)
  refine lv_iconst (v := nZ 1) hx hb dX8_differenceOf_2 rfl ?_
  refine lv_istore_n (lv' := [(3, .int (nZ 1)), (2, .int (nZ 0)), (0, .ref w), (1, .int (nZ a))]) hx hb dX8_differenceOf_3 rfl hl (by decide) rfl (fun ls hl => ?_)
  refine z_rloop2 (fun (y : Int) (k : Int) => (1 ≤ k) ∧ (k ≤ so) ∧ (y = dfN tot a ko (k - 1).toNat)) (fun (y : Int) (k : Int) => (so - k).toNat) (fun (y : Int) (k : Int) => [(0, .ref w), (1, .int (nZ a)), (2, .int (nZ y)), (3, .int (nZ k))]) ?_ 0 1 ⟨(by first | assumption | omega), (by first | assumption | omega), rfl⟩ (lv_sub hl [2, 3, 1, 0] rfl)
  intro y k hI4 ih4 ls hl
  have hl : lv_has ls 4 [(0, .ref w), (1, .int (nZ a)), (2, .int (nZ y)), (3, .int (nZ k))] := hl
  obtain ⟨hk1, hk2, hy⟩ : (1 ≤ k) ∧ (k ≤ so) ∧ (y = dfN tot a ko (k - 1).toNat) := hI4
  refine lv_iload_n hx hb dX8_differenceOf_4 rfl (lv_at hl 3 rfl) ?_
  refine lv_aload_n hx hb dX8_differenceOf_5 rfl (lv_at hl 0 rfl) ?_
  refine va_get (D := D) (ci := 8) (v := .ref g) (C := RX8) (T := TX8) (N := 8) hx hb hts iX8 hown hK hP 0 rfl rfl 0 (by decide) (hts (.fieldLink RX8 15 "RainTarget$Umpire" "settings" "LRainTarget$Settings;") (List.mem_of_getElem? (i := 1) rfl)) (fun _ h9 => h9) rfl dX8_differenceOf_6 ?_
  refine va_getN (D := D) (ci := 6) (v := .int (nZ so)) (C := RX6) (T := TX6) (N := 7) hx hb hts iX6 hown hK hP 1 rfl rfl 0 (by decide) (va_Nw.use rfl (nw_X8_51 hN)) (fun _ h9 => h9) rfl dX8_differenceOf_9 ?_
  refine z_icmp_ge (tgt := 46) hx hb dX8_differenceOf_12 (by decide) (by omega) (by omega) (fun c_12 => ?_) (fun c_12 => ?_)
  · refine lv_iload_n hx hb dX8_differenceOf_46 rfl (lv_at hl 2 rfl) ?_
    exact W.iret (v := nZ y) hx hb hr (fun t9 ht9 _ => ⟨nZ y, rfl, congrArg nZ (show (y : Int) = dfN tot a ko (so - 1).toNat from (by rw [hy, show k = so from by omega])), ht9⟩) (fun _ h => by cases h) dX8_differenceOf_47
  · refine lv_iload_n hx hb dX8_differenceOf_15 rfl (lv_at hl 3 rfl) ?_
    refine lv_bipush (v := nZ 12) hx hb dX8_differenceOf_16 (by decide) ?_
    refine z_icmp_gt (tgt := 46) hx hb dX8_differenceOf_18 (by decide) (by omega) (by decide) (fun c_18 => ?_) (fun c_18 => ?_)
    · refine lv_iload_n hx hb dX8_differenceOf_46 rfl (lv_at hl 2 rfl) ?_
      exact W.iret (v := nZ y) hx hb hr (fun t9 ht9 _ => ⟨nZ y, rfl, congrArg nZ (show (y : Int) = dfN tot a ko (so - 1).toNat from (by rw [hy, show k = so from by omega])), ht9⟩) (fun _ h => by cases h) dX8_differenceOf_47
    · refine lv_iload_n hx hb dX8_differenceOf_21 rfl (lv_at hl 2 rfl) ?_
      refine lv_aload_n hx hb dX8_differenceOf_22 rfl (lv_at hl 0 rfl) ?_
      refine lv_iload_n hx hb dX8_differenceOf_23 rfl (lv_at hl 1 rfl) ?_
      refine lv_iload_n hx hb dX8_differenceOf_24 rfl (lv_at hl 3 rfl) ?_
      refine vp_callSi ((va_runV (As := [.int (nZ a), .int (nZ k)]) (rest := [.int (nZ y)]) ⟨hx, hb, hml, hown, hts⟩ (c_X8_said l D cI cJ tn w g h f kq fq rule taken lost kept told tot a k ht0 (by first | assumption | omega) ha0 ha1 (by first | assumption | omega) (by first | assumption | omega) ) (cwV 2 hts gX8_differenceOf_X8_said rfl rfl rfl (by decide +kernel) ⟨Nat.le_of_ble_eq_true rfl, Nat.le_of_ble_eq_true rfl⟩) ⟨RoP.blind, va_recv hK hP (ci := 8) (q0 := 0) rfl rfl, fun U hU hW => ⟨rfl, RoP.call hE hS (hP.sub (ws' := [(w, .inr (8, [.ref g, .ref h, .ref f, .ref kq, .int (nZ rule), .int (nZ taken), .int (nZ lost), .int (nZ kept)])), (f, .inr (1, [.ref fq, .int (nZ told), .int (nZ tot)]))]) [0, 2] rfl) hU hW⟩⟩ rfl rfl hl.1 rfl (lv_room (Nat.le_of_ble_eq_true rfl)) dX8_differenceOf_25 ⟨Nat.le_of_ble_eq_true rfl, Nat.le_of_ble_eq_true rfl⟩).run) (fun r25 hr25 => ?_)
      subst hr25
      refine z_nameI (fun r25 er25 => ?_)
      have hkk := hko k hk1 (by omega)
      have hal := al1_bd (x := tot + 1 - a * k) (c := 433) (by have := Int.mul_nonneg ha0 (show 0 ≤ k by omega); omega) (by decide)
      refine lv_aload_n hx hb dX8_differenceOf_28 rfl (lv_at hl 0 rfl) ?_
      refine va_get (D := D) (ci := 8) (v := .ref kq) (C := RX8) (T := TX8) (N := 8) hx hb hts iX8 hown hK hP 0 rfl rfl 3 (by decide) (hts (.fieldLink RX8 9 "RainTarget$Umpire" "keptOdds" "[I") (List.mem_of_getElem? (i := 2) rfl)) (fun _ h9 => h9) rfl dX8_differenceOf_29 ?_
      refine lv_iload_n hx hb dX8_differenceOf_32 rfl (lv_at hl 3 rfl) ?_
      refine z_iald hx hb hK hP 3 0 rfl rfl (by omega) (by omega) (by omega) dX8_differenceOf_33 ?_
      refine z_isub hx hb dX8_differenceOf_34 ?_
      refine z_mabs hx hb (hml.trans hl.1.symm) hown (hts (.methodLink RX8 61 Lib.Math.abs.name) (List.mem_of_getElem? (i := 3) rfl)) (hts (.static Lib.Math.abs.name) (List.mem_of_getElem? (i := 4) rfl)) (hts (.initialized "java/lang/Math") (List.mem_of_getElem? (i := 5) rfl)) (hts (.code Lib.Math.abs.name Lib.Math.abs.code 1 (some .int)) (List.mem_of_getElem? (i := 6) rfl)) (Nat.le_of_ble_eq_true rfl) (Nat.le_of_ble_eq_true rfl) (Nat.zero_le _) (Nat.zero_le _) (by omega) dX8_differenceOf_35 ?_
      refine z_nameI (fun r35 er35 => ?_)
      refine z_iadd hx hb dX8_differenceOf_38 ?_
      refine lv_istore_n (lv' := [(2, .int (nZ (y + r35))), (0, .ref w), (1, .int (nZ a)), (3, .int (nZ k))]) hx hb dX8_differenceOf_39 rfl hl (by decide) rfl (fun ls hl => ?_)
      refine lv_iinc (v := nZ (k + 1)) (lv' := [(3, .int (nZ (k + 1))), (2, .int (nZ (y + r35))), (0, .ref w), (1, .int (nZ a))]) hx hb dX8_differenceOf_40 hl (k := 3) rfl (nZ_add _ _) (by decide) rfl (fun ls hl => ?_)
      refine lv_goto (tgt := 4) hx hb dX8_differenceOf_43 (by decide) ?_
      exact ih4 (y + r35) (k + 1) ⟨(by first | assumption | omega), (by first | assumption | omega), (by rw [show k + 1 - 1 = k from by omega, dfN_s tot a ko hk1, hy, er35, er25]; rfl)⟩ (show (so - (k + 1)).toNat < (so - k).toNat from by omega) ls (lv_sub hl [2, 3, 1, 0] rfl)

set_option maxHeartbeats 4000000 in
set_option maxRecDepth 100000 in
theorem c_X2_differenceOf (l : Launch) (D : va_G) (cI cJ : ClassId) (tn : Nat) (mq : Nat) (mtq : Nat) (h : Nat) (q1 : Nat) (q2 : Nat) (q3 : Nat) (g : Nat) (mt : Int → Int) (me : Int → Int) (cs : Int → Int) (mp : Int → Int) (so : Int) (sm : Int) (sp : Int) (sb : Int) (sc : Int) (sd : Int) (sl : Int) (ms : Int) (hM : MoodOK cs mp) (hMe : MeanOK cs mp me) (hs0 : 0 ≤ ms) (hs1 : ms ≤ 24) (hmt : ∀ i, 0 ≤ i → i < ms → (0 ≤ mt (i * 3) ∧ mt (i * 3) ≤ 12) ∧ (0 ≤ mt (i * 3 + 1) ∧ mt (i * 3 + 1) ≤ 10) ∧ (0 ≤ mt (i * 3 + 2) ∧ mt (i * 3 + 2) ≤ 999)) (ro : I32 so) (rm : I32 sm)  : Met l yX2_differenceOf wsX2_differenceOf ({ frames := 2, cells := 0, slots := 0, locals := 44 } : Room) (va_Pc [.ref mq, .ref h, .ref g] (RoP D cI cJ tn [(mq, .inr (2, [.ref mtq, .int (nZ ms)])), (mtq, .inl (cI, 72, .inl (aZ mt))), (h, .inr (0, [.ref q1, .ref q2, .ref q3])), (q2, .inl (cJ, 143, .inr (.inl (bZ me)))), (g, .inr (6, [.int (nZ so), .int (nZ sm), .int (nZ sp), .int (nZ sb), .int (nZ sc), .int (nZ sd), .int (nZ sl)]))])) (vp_Si (fun r9 : Int32 => r9 = nZ (mdN cs mp (fun j => mt (j * 3)) (fun j => mt (j * 3 + 1)) (fun j => mt (j * 3 + 2)) so sm ms.toNat))) 0 0 (fun _ => False) := by
  refine Met.ofW (cc := cX2_differenceOf) (maxL := 8) (ret := (some .int)) (by decide) rfl ?_
  intro p e s m args below meth c s₁ B hml hv
  obtain ⟨rfl, hE, hP⟩ := hv
  have hx := B.exec
  have hb := B.bytes
  have hr := B.returns
  have hts := atoms_spec (ws := wsX2_differenceOf) B.pre
  have hown : s.vm.findClass RX2 = some m.cls := findClass_of_methodNamed B.named
  have hlocks := B.notSynchronized
  have hS : va_S (fun _ => False) s.heap s.heap [] := va_S.rf
  have hK := hE.1
  have hN := hE.2.1
  have hl := lv_entry ([.ref mq, .ref h, .ref g]) (n := 8) (Nat.le_of_ble_eq_true rfl)
  rw [lg_entry_eq]
  generalize (lg_sl ([.ref mq, .ref h, .ref g]) ++ List.replicate (8 - (lg_sl ([.ref mq, .ref h, .ref g])).length) Slot.unset).toArray = ls at hl ⊢
  have hl : lv_has ls 8 [(0, .ref mq), (1, .ref h), (2, .ref g)] := hl
  have iX2 : ∀ w ∈ u_ws RX2 TX2 2, w ∈ wsX2_differenceOf := fun _ h => List.mem_cons_of_mem _ (List.mem_append_left _ (List.mem_append_left _ (List.mem_append_right _ h)))
  have iX6 : ∀ w ∈ u_ws RX6 TX6 7, w ∈ wsX2_differenceOf := fun _ h => List.mem_cons_of_mem _ (List.mem_append_left _ (List.mem_append_right _ h))
  refine lv_iconst (v := nZ 0) hx hb dX2_differenceOf_0 rfl ?_
  refine lv_istore_n (lv' := [(3, .int (nZ 0)), (0, .ref mq), (1, .ref h), (2, .ref g)]) hx hb dX2_differenceOf_1 rfl hl (by decide) rfl (fun ls hl => ?_)
  refine lv_iconst (v := nZ 0) hx hb dX2_differenceOf_2 rfl ?_
  refine lv_istore (lv' := [(4, .int (nZ 0)), (3, .int (nZ 0)), (0, .ref mq), (1, .ref h), (2, .ref g)]) hx hb dX2_differenceOf_3 hl (by decide) rfl (fun ls hl => ?_)
  refine z_rloop2 (fun (y : Int) (i : Int) => (0 ≤ i) ∧ (i ≤ ms) ∧ (y = mdN cs mp (fun j => mt (j * 3)) (fun j => mt (j * 3 + 1)) (fun j => mt (j * 3 + 2)) so sm i.toNat)) (fun (y : Int) (i : Int) => (ms - i).toNat) (fun (y : Int) (i : Int) => [(0, .ref mq), (1, .ref h), (2, .ref g), (3, .int (nZ y)), (4, .int (nZ i))]) ?_ 0 0 ⟨(by first | assumption | omega), (by first | assumption | omega), rfl⟩ (lv_sub hl [2, 3, 4, 1, 0] rfl)
  intro y i hI5 ih5 ls hl
  have hl : lv_has ls 8 [(0, .ref mq), (1, .ref h), (2, .ref g), (3, .int (nZ y)), (4, .int (nZ i))] := hl
  obtain ⟨hi0, hi1, hy⟩ : (0 ≤ i) ∧ (i ≤ ms) ∧ (y = mdN cs mp (fun j => mt (j * 3)) (fun j => mt (j * 3 + 1)) (fun j => mt (j * 3 + 2)) so sm i.toNat) := hI5
  refine lv_iload hx hb dX2_differenceOf_5 (lv_at hl 4 rfl) ?_
  refine lv_aload_n hx hb dX2_differenceOf_7 rfl (lv_at hl 0 rfl) ?_
  refine va_get (D := D) (ci := 2) (v := .int (nZ ms)) (C := RX2) (T := TX2) (N := 2) hx hb hts iX2 hown hK hP 0 rfl rfl 1 (by decide) (hts (.fieldLink RX2 15 "RainTarget$Matches" "size" "I") (List.mem_of_getElem? (i := 1) rfl)) (fun _ h9 => h9) rfl dX2_differenceOf_8 ?_
  refine z_icmp_ge (tgt := 108) hx hb dX2_differenceOf_11 (by decide) (by omega) (by omega) (fun c_11 => ?_) (fun c_11 => ?_)
  · refine lv_iload_n hx hb dX2_differenceOf_108 rfl (lv_at hl 3 rfl) ?_
    exact W.iret (v := nZ y) hx hb hr (fun t9 ht9 _ => ⟨nZ y, rfl, congrArg nZ (show (y : Int) = mdN cs mp (fun j => mt (j * 3)) (fun j => mt (j * 3 + 1)) (fun j => mt (j * 3 + 2)) so sm ms.toNat from (by rw [hy, show i = ms from by omega])), ht9⟩) (fun _ h => by cases h) dX2_differenceOf_109
  · refine lv_iload hx hb dX2_differenceOf_14 (lv_at hl 4 rfl) ?_
    refine lv_bipush (v := nZ 24) hx hb dX2_differenceOf_16 (by decide) ?_
    refine z_icmp_ge (tgt := 108) hx hb dX2_differenceOf_18 (by decide) (by omega) (by decide) (fun c_18 => ?_) (fun c_18 => ?_)
    · refine lv_iload_n hx hb dX2_differenceOf_108 rfl (lv_at hl 3 rfl) ?_
      exact W.iret (v := nZ y) hx hb hr (fun t9 ht9 _ => ⟨nZ y, rfl, congrArg nZ (show (y : Int) = mdN cs mp (fun j => mt (j * 3)) (fun j => mt (j * 3 + 1)) (fun j => mt (j * 3 + 2)) so sm ms.toNat from (by rw [hy, show i = ms from by omega])), ht9⟩) (fun _ h => by cases h) dX2_differenceOf_109
    · have hm9 := hmt i hi0 (by omega)
      refine lv_aload_n hx hb dX2_differenceOf_21 rfl (lv_at hl 0 rfl) ?_
      refine va_get (D := D) (ci := 2) (v := .ref mtq) (C := RX2) (T := TX2) (N := 2) hx hb hts iX2 hown hK hP 0 rfl rfl 0 (by decide) (hts (.fieldLink RX2 11 "RainTarget$Matches" "parts" "[I") (List.mem_of_getElem? (i := 2) rfl)) (fun _ h9 => h9) rfl dX2_differenceOf_22 ?_
      refine lv_iload hx hb dX2_differenceOf_25 (lv_at hl 4 rfl) ?_
      refine lv_iconst (v := nZ 3) hx hb dX2_differenceOf_27 rfl ?_
      refine z_imul hx hb dX2_differenceOf_28 ?_
      refine z_iald hx hb hK hP 1 0 rfl rfl (by omega) (by omega) (by omega) dX2_differenceOf_29 ?_
      refine lv_istore (lv' := [(5, .int (nZ (mt (i * 3)))), (0, .ref mq), (1, .ref h), (2, .ref g), (3, .int (nZ y)), (4, .int (nZ i))]) hx hb dX2_differenceOf_30 hl (by decide) rfl (fun ls hl => ?_)
      refine lv_aload_n hx hb dX2_differenceOf_32 rfl (lv_at hl 1 rfl) ?_
      refine va_get (D := D) (ci := 2) (v := .ref mtq) (C := RX2) (T := TX2) (N := 2) hx hb hts iX2 hown hK hP 0 rfl rfl 0 (by decide) (hts (.fieldLink RX2 11 "RainTarget$Matches" "parts" "[I") (List.mem_of_getElem? (i := 2) rfl)) (fun _ h9 => h9) rfl dX2_differenceOf_33 ?_
      refine lv_iload hx hb dX2_differenceOf_36 (lv_at hl 5 rfl) ?_
      refine lv_iconst (v := nZ 3) hx hb dX2_differenceOf_38 rfl ?_
      refine z_imul hx hb dX2_differenceOf_39 ?_
      refine lv_iconst (v := nZ 1) hx hb dX2_differenceOf_40 rfl ?_
      refine z_iadd hx hb dX2_differenceOf_41 ?_
      refine z_iald hx hb hK hP 1 0 rfl rfl (by omega) (by omega) (by omega) dX2_differenceOf_42 ?_
      refine lv_istore (lv' := [(6, .int (nZ (mt ((i * 3) + 1)))), (5, .int (nZ (mt (i * 3)))), (0, .ref mq), (1, .ref h), (2, .ref g), (3, .int (nZ y)), (4, .int (nZ i))]) hx hb dX2_differenceOf_43 hl (by decide) rfl (fun ls hl => ?_)
      refine lv_iload hx hb dX2_differenceOf_45 (lv_at hl 1 rfl) ?_
      refine lv_aload_n hx hb dX2_differenceOf_47 rfl (lv_at hl 4 rfl) ?_
      refine va_getN (D := D) (ci := 6) (v := .int (nZ so)) (C := RX6) (T := TX6) (N := 7) hx hb hts iX6 hown hK hP 4 rfl rfl 0 (by decide) (va_Nw.use rfl (nw_X2_23 hN)) (fun _ h9 => h9) rfl dX2_differenceOf_48 ?_
      refine z_icmp_gt (tgt := 102) hx hb dX2_differenceOf_51 (by decide) (by omega) (by omega) (fun c_51 => ?_) (fun c_51 => ?_)
      · refine lv_iinc (v := nZ (i + 1)) (lv' := [(4, .int (nZ (i + 1))), (6, .int (nZ (mt ((i * 3) + 1)))), (5, .int (nZ (mt (i * 3)))), (0, .ref mq), (1, .ref h), (2, .ref g), (3, .int (nZ y))]) hx hb dX2_differenceOf_102 hl (k := 6) rfl (nZ_add _ _) (by decide) rfl (fun ls hl => ?_)
        refine lv_goto (tgt := 5) hx hb dX2_differenceOf_105 (by decide) ?_
        exact ih5 y (i + 1) ⟨(by first | assumption | omega), (by first | assumption | omega), (by rw [mdN_s cs mp (fun j => mt (j * 3)) (fun j => mt (j * 3 + 1)) (fun j => mt (j * 3 + 2)) so sm hi0, if_neg (show ¬ (mt (i * 3) ≤ so ∧ mt (i * 3 + 1) ≤ sm) by omega), hy, Int.add_zero])⟩ (show (ms - (i + 1)).toNat < (ms - i).toNat from by omega) ls (lv_sub hl [3, 4, 5, 6, 0] rfl)
      · refine lv_iload hx hb dX2_differenceOf_54 (lv_at hl 0 rfl) ?_
        refine lv_aload_n hx hb dX2_differenceOf_56 rfl (lv_at hl 4 rfl) ?_
        refine va_getN (D := D) (ci := 6) (v := .int (nZ sm)) (C := RX6) (T := TX6) (N := 7) hx hb hts iX6 hown hK hP 4 rfl rfl 1 (by decide) (va_Nw.use rfl (nw_X2_28 hN)) (fun _ h9 => h9) rfl dX2_differenceOf_57 ?_
        refine z_icmp_gt (tgt := 102) hx hb dX2_differenceOf_60 (by decide) (by omega) (by omega) (fun c_60 => ?_) (fun c_60 => ?_)
        · refine lv_iinc (v := nZ (i + 1)) (lv' := [(4, .int (nZ (i + 1))), (6, .int (nZ (mt ((i * 3) + 1)))), (5, .int (nZ (mt (i * 3)))), (0, .ref mq), (1, .ref h), (2, .ref g), (3, .int (nZ y))]) hx hb dX2_differenceOf_102 hl (k := 6) rfl (nZ_add _ _) (by decide) rfl (fun ls hl => ?_)
          refine lv_goto (tgt := 5) hx hb dX2_differenceOf_105 (by decide) ?_
          exact ih5 y (i + 1) ⟨(by first | assumption | omega), (by first | assumption | omega), (by rw [mdN_s cs mp (fun j => mt (j * 3)) (fun j => mt (j * 3 + 1)) (fun j => mt (j * 3 + 2)) so sm hi0, if_neg (show ¬ (mt (i * 3) ≤ so ∧ mt (i * 3 + 1) ≤ sm) by omega), hy, Int.add_zero])⟩ (show (ms - (i + 1)).toNat < (ms - i).toNat from by omega) ls (lv_sub hl [3, 4, 5, 6, 0] rfl)
        · refine lv_aload_n hx hb dX2_differenceOf_63 rfl (lv_at hl 3 rfl) ?_
          refine lv_iload hx hb dX2_differenceOf_64 (lv_at hl 1 rfl) ?_
          refine lv_iload hx hb dX2_differenceOf_66 (lv_at hl 0 rfl) ?_
          refine vp_callSl ((va_runVN (As := [.int (nZ (mt (i * 3))), .int (nZ (mt ((i * 3) + 1)))]) (rest := []) ⟨hx, hb, hml, hown, hts⟩ (c_X0_mean l D cI cJ tn h q1 q2 q3 me (mt (i * 3)) (mt ((i * 3) + 1)) (by omega) (by omega) ) ⟨va_cnB 2 hts gX2_differenceOf_X0_mean_n31 rfl rfl rfl (nw_X2_31 hN) (hts (.initialized RX0) (List.mem_of_getElem? (i := 8) rfl)) (by decide +kernel) ⟨Nat.le_of_ble_eq_true rfl, Nat.le_of_ble_eq_true rfl⟩, (hts (.instanceMethod yX0_mean) (List.mem_of_getElem? (i := 7) rfl)), (hts (.selects RX0 yX0_mean yX0_mean) (List.mem_of_getElem? (i := 9) rfl))⟩ ⟨RoP.blind, va_recv hK hP (ci := 0) (q0 := 2) rfl rfl, fun U hU hW => ⟨rfl, RoP.call hE hS (hP.sub (ws' := [(h, .inr (0, [.ref q1, .ref q2, .ref q3])), (q2, .inl (cJ, 143, .inr (.inl (bZ me))))]) [2, 3] rfl) hU hW⟩⟩ rfl rfl hl.1 rfl (lv_room (Nat.le_of_ble_eq_true rfl)) dX2_differenceOf_68 ⟨Nat.le_of_ble_eq_true rfl, Nat.le_of_ble_eq_true rfl⟩).run) (fun r68 hr68 => ?_)
          subst hr68
          refine z_nameL (fun r68 er68 => ?_)
          refine lv_iload hx hb dX2_differenceOf_71 (lv_at hl 1 rfl) ?_
          refine vp_callSl ((va_runSN (As := [.int (nZ (mt (i * 3)))]) (rest := [.long (lZ r68)]) ⟨hx, hb, hml, hown, hts⟩ (c_X9_power l D cI cJ tn (mt (i * 3)) (by omega) ) ⟨va_cnB 1 hts gX2_differenceOf_X9_power_n37 rfl rfl rfl (nw_X2_37 hN) (hts (.initialized RX9) (List.mem_of_getElem? (i := 13) rfl)) (by decide +kernel) ⟨Nat.le_of_ble_eq_true rfl, Nat.le_of_ble_eq_true rfl⟩, (hts (.static yX9_power) (List.mem_of_getElem? (i := 15) rfl)), trivial⟩ ⟨RoP.blind, fun U hU hW => ⟨rfl, RoP.call hE hS (hP.sub (ws' := []) [] rfl) hU hW⟩⟩ rfl rfl hl.1 rfl (lv_room (Nat.le_of_ble_eq_true rfl)) dX2_differenceOf_73 ⟨Nat.le_of_ble_eq_true rfl, Nat.le_of_ble_eq_true rfl⟩).run) (fun r73 hr73 => ?_)
          subst hr73
          refine z_nameL (fun r73 er73 => ?_)
          have e68 : r68 = MK cs mp (mt (i * 3)).toNat (mt (i * 3 + 1)) := by rw [er68, if_pos (by omega), hMe.at (by omega) (by omega) (by omega) (by omega)]
          have e73 : r73 = (10 : Int) ^ (mt (i * 3)).toNat := by rw [er73, if_pos (by omega)]
          have hk0 := MK_nn (cs := cs) (mp := mp) (mt (i * 3)).toNat (mt (i * 3 + 1))
          have hk1 := MK_top hM (mt (i * 3)).toNat (mt (i * 3 + 1)) (by omega)
          have ht := tn_nn (u := mt (i * 3)) (by omega) (by omega)
          have hcu := MK_cut hM (mt (i * 3)).toNat (by omega) (mt (i * 3 + 1))
          refine vp_callSl ((va_runSN (As := [.long (lZ r68), .long (lZ r73)]) (rest := []) ⟨hx, hb, hml, hown, hts⟩ (c_X9_cut l D cI cJ tn r68 r73 (by first | assumption | omega) (by first | assumption | omega) ) ⟨va_cnB 2 hts gX2_differenceOf_X9_cut_n41 rfl rfl rfl (nw_X2_41 hN) (hts (.initialized RX9) (List.mem_of_getElem? (i := 13) rfl)) (by decide +kernel) ⟨Nat.le_of_ble_eq_true rfl, Nat.le_of_ble_eq_true rfl⟩, (hts (.static yX9_cut) (List.mem_of_getElem? (i := 18) rfl)), trivial⟩ ⟨RoP.blind, fun U hU hW => ⟨rfl, RoP.call hE hS (hP.sub (ws' := []) [] rfl) hU hW⟩⟩ rfl rfl hl.1 rfl (lv_room (Nat.le_of_ble_eq_true rfl)) dX2_differenceOf_76 ⟨Nat.le_of_ble_eq_true rfl, Nat.le_of_ble_eq_true rfl⟩).run) (fun r76 hr76 => ?_)
          subst hr76
          refine z_nameL (fun r76 er76 => ?_)
          have e76 : r76 = MK cs mp (mt (i * 3)).toNat (mt (i * 3 + 1)) / (10 : Int) ^ (mt (i * 3)).toNat := by rw [er76, if_pos (by omega), tdivN (by omega), e68, e73]
          refine z_l2i hx hb dX2_differenceOf_79 ?_
          refine lv_istore (lv' := [(7, .int (nZ r76)), (6, .int (nZ (mt ((i * 3) + 1)))), (5, .int (nZ (mt (i * 3)))), (0, .ref mq), (1, .ref h), (2, .ref g), (3, .int (nZ y)), (4, .int (nZ i))]) hx hb dX2_differenceOf_80 hl (by decide) rfl (fun ls hl => ?_)
          refine lv_iload_n hx hb dX2_differenceOf_82 rfl (lv_at hl 6 rfl) ?_
          refine lv_iload hx hb dX2_differenceOf_83 (lv_at hl 0 rfl) ?_
          refine lv_aload_n hx hb dX2_differenceOf_85 rfl (lv_at hl 3 rfl) ?_
          refine va_get (D := D) (ci := 2) (v := .ref mtq) (C := RX2) (T := TX2) (N := 2) hx hb hts iX2 hown hK hP 0 rfl rfl 0 (by decide) (hts (.fieldLink RX2 11 "RainTarget$Matches" "parts" "[I") (List.mem_of_getElem? (i := 2) rfl)) (fun _ h9 => h9) rfl dX2_differenceOf_86 ?_
          refine lv_iload hx hb dX2_differenceOf_89 (lv_at hl 7 rfl) ?_
          refine lv_iconst (v := nZ 3) hx hb dX2_differenceOf_91 rfl ?_
          refine z_imul hx hb dX2_differenceOf_92 ?_
          refine lv_iconst (v := nZ 2) hx hb dX2_differenceOf_93 rfl ?_
          refine z_iadd hx hb dX2_differenceOf_94 ?_
          refine z_iald hx hb hK hP 1 0 rfl rfl (by omega) (by omega) (by omega) dX2_differenceOf_95 ?_
          refine z_isub hx hb dX2_differenceOf_96 ?_
          refine z_mabs hx hb (hml.trans hl.1.symm) hown (hts (.methodLink RX2 45 Lib.Math.abs.name) (List.mem_of_getElem? (i := 3) rfl)) (hts (.static Lib.Math.abs.name) (List.mem_of_getElem? (i := 4) rfl)) (hts (.initialized "java/lang/Math") (List.mem_of_getElem? (i := 5) rfl)) (hts (.code Lib.Math.abs.name Lib.Math.abs.code 1 (some .int)) (List.mem_of_getElem? (i := 6) rfl)) (Nat.le_of_ble_eq_true rfl) (Nat.le_of_ble_eq_true rfl) (Nat.zero_le _) (Nat.zero_le _) (by omega) dX2_differenceOf_97 ?_
          refine z_nameI (fun r97 er97 => ?_)
          refine z_iadd hx hb dX2_differenceOf_100 ?_
          refine lv_istore_n (lv' := [(3, .int (nZ (y + r97))), (7, .int (nZ r76)), (6, .int (nZ (mt ((i * 3) + 1)))), (5, .int (nZ (mt (i * 3)))), (0, .ref mq), (1, .ref h), (2, .ref g), (4, .int (nZ i))]) hx hb dX2_differenceOf_101 rfl hl (by decide) rfl (fun ls hl => ?_)
          refine lv_iinc (v := nZ (i + 1)) (lv' := [(4, .int (nZ (i + 1))), (3, .int (nZ (y + r97))), (7, .int (nZ r76)), (6, .int (nZ (mt ((i * 3) + 1)))), (5, .int (nZ (mt (i * 3)))), (0, .ref mq), (1, .ref h), (2, .ref g)]) hx hb dX2_differenceOf_102 hl (k := 7) rfl (nZ_add _ _) (by decide) rfl (fun ls hl => ?_)
          refine lv_goto (tgt := 5) hx hb dX2_differenceOf_105 (by decide) ?_
          exact ih5 (y + r97) (i + 1) ⟨(by first | assumption | omega), (by first | assumption | omega), (by rw [mdN_s cs mp (fun j => mt (j * 3)) (fun j => mt (j * 3 + 1)) (fun j => mt (j * 3 + 2)) so sm hi0, if_pos ⟨by show mt (i * 3) ≤ so; omega, by show mt (i * 3 + 1) ≤ sm; omega⟩, hy, er97, e76]; rfl)⟩ (show (ms - (i + 1)).toNat < (ms - i).toNat from by omega) ls (lv_sub hl [5, 6, 7, 1, 0] rfl)

set_option maxHeartbeats 4000000 in
set_option maxRecDepth 100000 in
theorem c_X9_tried (l : Launch) (D : va_G) (cI cJ : ClassId) (tn : Nat) (x : Nat) (t : Nat) (rdr : Nat) (g : Nat) (q1 : Nat) (h : Nat) (f : Nat) (s2 : Nat) (w : Nat) (mq : Nat) (mtq : Nat) (q2 : Nat) (q3 : Nat) (mt : Int → Int) (me : Int → Int) (cs : Int → Int) (mp : Int → Int) (so : Int) (sm : Int) (sp : Int) (sb : Int) (sc : Int) (sd : Int) (sl : Int) (ms : Int) (hM : MoodOK cs mp) (hMe : MeanOK cs mp me) (hs0 : 0 ≤ ms) (hs1 : ms ≤ 24) (hmt : ∀ i, 0 ≤ i → i < ms → (0 ≤ mt (i * 3) ∧ mt (i * 3) ≤ 12) ∧ (0 ≤ mt (i * 3 + 1) ∧ mt (i * 3 + 1) ≤ 10) ∧ (0 ≤ mt (i * 3 + 2) ∧ mt (i * 3 + 2) ≤ 999)) (ro : I32 so) (rm : I32 sm)  : Met l yX9_tried wsX9_tried ({ frames := 3, cells := 0, slots := 0, locals := 71 } : Room) (va_Pc [.ref x] (RoP D cI cJ tn [(x, .inr (9, [.ref t, .ref rdr, .ref g, .ref q1, .ref h, .ref f, .ref s2, .ref w, .ref mq])), (mq, .inr (2, [.ref mtq, .int (nZ ms)])), (mtq, .inl (cI, 72, .inl (aZ mt))), (h, .inr (0, [.ref q1, .ref q2, .ref q3])), (q2, .inl (cJ, 143, .inr (.inl (bZ me)))), (g, .inr (6, [.int (nZ so), .int (nZ sm), .int (nZ sp), .int (nZ sb), .int (nZ sc), .int (nZ sd), .int (nZ sl)]))])) (vp_Si (fun r9 : Int32 => r9 = nZ (mdN cs mp (fun j => mt (j * 3)) (fun j => mt (j * 3 + 1)) (fun j => mt (j * 3 + 2)) so sm ms.toNat))) 0 0 (fun _ => False) := by
  refine Met.ofW (cc := cX9_tried) (maxL := 1) (ret := (some .int)) (by decide) rfl ?_
  intro p e s m args below meth c s₁ B hml hv
  obtain ⟨rfl, hE, hP⟩ := hv
  have hx := B.exec
  have hb := B.bytes
  have hr := B.returns
  have hts := atoms_spec (ws := wsX9_tried) B.pre
  have hown : s.vm.findClass RX9 = some m.cls := findClass_of_methodNamed B.named
  have hlocks := B.notSynchronized
  have hS : va_S (fun _ => False) s.heap s.heap [] := va_S.rf
  have hK := hE.1
  have hN := hE.2.1
  have hl := lv_entry ([.ref x]) (n := 1) (Nat.le_of_ble_eq_true rfl)
  rw [lg_entry_eq]
  generalize (lg_sl ([.ref x]) ++ List.replicate (1 - (lg_sl ([.ref x])).length) Slot.unset).toArray = ls at hl ⊢
  have hl : lv_has ls 1 [(0, .ref x)] := hl
  have iX9 : ∀ w ∈ u_ws RX9 TX9 9, w ∈ wsX9_tried := fun _ h => List.mem_cons_of_mem _ (List.mem_append_left _ (List.mem_append_left _ (List.mem_append_left _ (List.mem_append_right _ h))))
  refine lv_aload_n hx hb dX9_tried_0 rfl (lv_at hl 0 rfl) ?_
  refine va_get (D := D) (ci := 9) (v := .ref mq) (C := RX9) (T := TX9) (N := 9) hx hb hts iX9 hown hK hP 0 rfl rfl 8 (by decide) (hts (.fieldLink RX9 74 "RainTarget" "matches" "LRainTarget$Matches;") (List.mem_of_getElem? (i := 1) rfl)) (fun _ h9 => h9) rfl dX9_tried_1 ?_
  refine lv_aload_n hx hb dX9_tried_4 rfl (lv_at hl 0 rfl) ?_
  refine va_get (D := D) (ci := 9) (v := .ref h) (C := RX9) (T := TX9) (N := 9) hx hb hts iX9 hown hK hP 0 rfl rfl 4 (by decide) (hts (.fieldLink RX9 44 "RainTarget" "batting" "LRainTarget$Batting;") (List.mem_of_getElem? (i := 2) rfl)) (fun _ h9 => h9) rfl dX9_tried_5 ?_
  refine lv_aload_n hx hb dX9_tried_8 rfl (lv_at hl 0 rfl) ?_
  refine va_get (D := D) (ci := 9) (v := .ref g) (C := RX9) (T := TX9) (N := 9) hx hb hts iX9 hown hK hP 0 rfl rfl 2 (by decide) (hts (.fieldLink RX9 28 "RainTarget" "settings" "LRainTarget$Settings;") (List.mem_of_getElem? (i := 3) rfl)) (fun _ h9 => h9) rfl dX9_tried_9 ?_
  refine vp_callSi ((va_runVN (As := [.ref h, .ref g]) (rest := []) ⟨hx, hb, hml, hown, hts⟩ (c_X2_differenceOf l D cI cJ tn mq mtq h q1 q2 q3 g mt me cs mp so sm sp sb sc sd sl ms hM hMe hs0 hs1 hmt ro rm ) ⟨va_cnB 2 hts gX9_tried_X2_differenceOf_n232 rfl rfl rfl (nw_X9_232 hN) (hts (.initialized RX2) (List.mem_of_getElem? (i := 5) rfl)) (by decide +kernel) ⟨Nat.le_of_ble_eq_true rfl, Nat.le_of_ble_eq_true rfl⟩, (hts (.instanceMethod yX2_differenceOf) (List.mem_of_getElem? (i := 4) rfl)), (hts (.selects RX2 yX2_differenceOf yX2_differenceOf) (List.mem_of_getElem? (i := 6) rfl))⟩ ⟨RoP.blind, va_recv hK hP (ci := 2) (q0 := 1) rfl rfl, fun U hU hW => ⟨rfl, RoP.call hE hS (hP.sub (ws' := [(mq, .inr (2, [.ref mtq, .int (nZ ms)])), (mtq, .inl (cI, 72, .inl (aZ mt))), (h, .inr (0, [.ref q1, .ref q2, .ref q3])), (q2, .inl (cJ, 143, .inr (.inl (bZ me)))), (g, .inr (6, [.int (nZ so), .int (nZ sm), .int (nZ sp), .int (nZ sb), .int (nZ sc), .int (nZ sd), .int (nZ sl)]))]) [1, 2, 3, 4, 5] rfl) hU hW⟩⟩ rfl rfl hl.1 rfl (lv_room (Nat.le_of_ble_eq_true rfl)) dX9_tried_12 ⟨Nat.le_of_ble_eq_true rfl, Nat.le_of_ble_eq_true rfl⟩).run) (fun r12 hr12 => ?_)
  subst hr12
  refine z_nameI (fun r12 er12 => ?_)
  exact W.iret (v := nZ r12) hx hb hr (fun t9 ht9 _ => ⟨nZ r12, rfl, congrArg nZ (show (r12 : Int) = mdN cs mp (fun j => mt (j * 3)) (fun j => mt (j * 3 + 1)) (fun j => mt (j * 3 + 2)) so sm ms.toNat from er12), ht9⟩) (fun _ h => by cases h) dX9_tried_15

set_option maxHeartbeats 4000000 in
set_option maxRecDepth 100000 in
theorem c_X9_count (l : Launch) (D : va_G) (cI cJ : ClassId) (tn : Nat) (x : Nat) (t : Nat) (rdr : Nat) (g : Nat) (q1 : Nat) (h : Nat) (f : Nat) (s2 : Nat) (w : Nat) (mq : Nat) (tq : Nat) (fq : Nat) (eq : Nat) (mtq : Nat) (so : Int) (sm : Int) (sp : Int) (sb : Int) (sc : Int) (sd : Int) (sl : Int) (len : Int) (told : Int) (tot : Int) (size : Int) (so2 : Int) (sm2 : Int) (rn : Int) (ms : Int) (a : Int) (ra : I32 a)  : Met l yX9_count wsX9_count ({ frames := 0, cells := 0, slots := 0, locals := 0 } : Room) (va_Pc [.ref x, .int (nZ a)] (RoP D cI cJ tn [(x, .inr (9, [.ref t, .ref rdr, .ref g, .ref q1, .ref h, .ref f, .ref s2, .ref w, .ref mq])), (g, .inr (6, [.int (nZ so), .int (nZ sm), .int (nZ sp), .int (nZ sb), .int (nZ sc), .int (nZ sd), .int (nZ sl)])), (t, .inr (7, [.ref tq, .int (nZ len)])), (f, .inr (1, [.ref fq, .int (nZ told), .int (nZ tot)])), (s2, .inr (5, [.ref eq, .int (nZ size), .int (nZ so2), .int (nZ sm2), .int (nZ rn)])), (mq, .inr (2, [.ref mtq, .int (nZ ms)]))])) (vp_Si (fun r9 : Int32 => r9 = nZ (if a = 0 then so else if a = 1 then sm else if a = 2 then len else if a = 3 then tot else if a = 4 then size else if a = 5 then so2 else if a = 6 then sm2 else if a = 7 then rn else if a = 8 then ms else if a = 9 then sl else -3))) 0 0 (fun _ => False) := by
  refine Met.ofW (cc := cX9_count) (maxL := 2) (ret := (some .int)) (by decide) rfl ?_
  intro p e s m args below meth c s₁ B hml hv
  obtain ⟨rfl, hE, hP⟩ := hv
  have hx := B.exec
  have hb := B.bytes
  have hr := B.returns
  have hts := atoms_spec (ws := wsX9_count) B.pre
  have hown : s.vm.findClass RX9 = some m.cls := findClass_of_methodNamed B.named
  have hlocks := B.notSynchronized
  have hS : va_S (fun _ => False) s.heap s.heap [] := va_S.rf
  have hK := hE.1
  have hN := hE.2.1
  have hl := lv_entry ([.ref x, .int (nZ a)]) (n := 2) (Nat.le_of_ble_eq_true rfl)
  rw [lg_entry_eq]
  generalize (lg_sl ([.ref x, .int (nZ a)]) ++ List.replicate (2 - (lg_sl ([.ref x, .int (nZ a)])).length) Slot.unset).toArray = ls at hl ⊢
  have hl : lv_has ls 2 [(0, .ref x), (1, .int (nZ a))] := hl
  have iX1 : ∀ w ∈ u_ws RX1 TX1 3, w ∈ wsX9_count := fun _ h => List.mem_cons_of_mem _ (List.mem_append_left _ (List.mem_append_left _ (List.mem_append_right _ h)))
  have iX2 : ∀ w ∈ u_ws RX2 TX2 2, w ∈ wsX9_count := fun _ h => List.mem_cons_of_mem _ (List.mem_append_right _ h)
  have iX5 : ∀ w ∈ u_ws RX5 TX5 5, w ∈ wsX9_count := fun _ h => List.mem_cons_of_mem _ (List.mem_append_left _ (List.mem_append_right _ h))
  have iX6 : ∀ w ∈ u_ws RX6 TX6 7, w ∈ wsX9_count := fun _ h => List.mem_cons_of_mem _ (List.mem_append_left _ (List.mem_append_left _ (List.mem_append_left _ (List.mem_append_left _ (List.mem_append_right _ h)))))
  have iX7 : ∀ w ∈ u_ws RX7 TX7 2, w ∈ wsX9_count := fun _ h => List.mem_cons_of_mem _ (List.mem_append_left _ (List.mem_append_left _ (List.mem_append_left _ (List.mem_append_right _ h))))
  have iX9 : ∀ w ∈ u_ws RX9 TX9 9, w ∈ wsX9_count := fun _ h => List.mem_cons_of_mem _ (List.mem_append_left _ (List.mem_append_left _ (List.mem_append_left _ (List.mem_append_left _ (List.mem_append_left _ (List.mem_append_right _ h))))))
  refine lv_iload_n hx hb dX9_count_0 rfl (lv_at hl 1 rfl) ?_
  by_cases w1_0 : a = 0
  · refine z_tabIn (off := 55) (tgt := 56) hx hb dX9_count_1 w1_0 (by decide) (by decide) (by decide) (by decide +kernel) (by decide) ?_
    refine lv_aload_n hx hb dX9_count_56 rfl (lv_at hl 0 rfl) ?_
    refine va_get (D := D) (ci := 9) (v := .ref g) (C := RX9) (T := TX9) (N := 9) hx hb hts iX9 hown hK hP 0 rfl rfl 2 (by decide) (hts (.fieldLink RX9 28 "RainTarget" "settings" "LRainTarget$Settings;") (List.mem_of_getElem? (i := 1) rfl)) (fun _ h9 => h9) rfl dX9_count_57 ?_
    refine va_getN (D := D) (ci := 6) (v := .int (nZ so)) (C := RX6) (T := TX6) (N := 7) hx hb hts iX6 hown hK hP 1 rfl rfl 0 (by decide) (va_Nw.use rfl (nw_X9_158 hN)) (fun _ h9 => h9) rfl dX9_count_60 ?_
    exact W.iret (v := nZ so) hx hb hr (fun t9 ht9 _ => ⟨nZ so, rfl, congrArg nZ (show (so : Int) = if a = 0 then so else if a = 1 then sm else if a = 2 then len else if a = 3 then tot else if a = 4 then size else if a = 5 then so2 else if a = 6 then sm2 else if a = 7 then rn else if a = 8 then ms else if a = 9 then sl else -3 from (by rw [if_pos (by omega)])), ht9⟩) (fun _ h => by cases h) dX9_count_63
  by_cases w1_1 : a = 1
  · refine z_tabIn (off := 63) (tgt := 64) hx hb dX9_count_1 w1_1 (by decide) (by decide) (by decide) (by decide +kernel) (by decide) ?_
    refine lv_aload_n hx hb dX9_count_64 rfl (lv_at hl 0 rfl) ?_
    refine va_get (D := D) (ci := 9) (v := .ref g) (C := RX9) (T := TX9) (N := 9) hx hb hts iX9 hown hK hP 0 rfl rfl 2 (by decide) (hts (.fieldLink RX9 28 "RainTarget" "settings" "LRainTarget$Settings;") (List.mem_of_getElem? (i := 1) rfl)) (fun _ h9 => h9) rfl dX9_count_65 ?_
    refine va_getN (D := D) (ci := 6) (v := .int (nZ sm)) (C := RX6) (T := TX6) (N := 7) hx hb hts iX6 hown hK hP 1 rfl rfl 1 (by decide) (va_Nw.use rfl (nw_X9_214 hN)) (fun _ h9 => h9) rfl dX9_count_68 ?_
    exact W.iret (v := nZ sm) hx hb hr (fun t9 ht9 _ => ⟨nZ sm, rfl, congrArg nZ (show (sm : Int) = if a = 0 then so else if a = 1 then sm else if a = 2 then len else if a = 3 then tot else if a = 4 then size else if a = 5 then so2 else if a = 6 then sm2 else if a = 7 then rn else if a = 8 then ms else if a = 9 then sl else -3 from (by rw [if_neg (by omega), if_pos (by omega)])), ht9⟩) (fun _ h => by cases h) dX9_count_71
  by_cases w1_2 : a = 2
  · refine z_tabIn (off := 71) (tgt := 72) hx hb dX9_count_1 w1_2 (by decide) (by decide) (by decide) (by decide +kernel) (by decide) ?_
    refine lv_aload_n hx hb dX9_count_72 rfl (lv_at hl 0 rfl) ?_
    refine va_get (D := D) (ci := 9) (v := .ref t) (C := RX9) (T := TX9) (N := 9) hx hb hts iX9 hown hK hP 0 rfl rfl 0 (by decide) (hts (.fieldLink RX9 12 "RainTarget" "text" "LRainTarget$Text;") (List.mem_of_getElem? (i := 2) rfl)) (fun _ h9 => h9) rfl dX9_count_73 ?_
    refine va_getN (D := D) (ci := 7) (v := .int (nZ len)) (C := RX7) (T := TX7) (N := 2) hx hb hts iX7 hown hK hP 2 rfl rfl 1 (by decide) (va_Nw.use rfl (nw_X9_89 hN)) (fun _ h9 => h9) rfl dX9_count_76 ?_
    exact W.iret (v := nZ len) hx hb hr (fun t9 ht9 _ => ⟨nZ len, rfl, congrArg nZ (show (len : Int) = if a = 0 then so else if a = 1 then sm else if a = 2 then len else if a = 3 then tot else if a = 4 then size else if a = 5 then so2 else if a = 6 then sm2 else if a = 7 then rn else if a = 8 then ms else if a = 9 then sl else -3 from (by rw [if_neg (by omega), if_neg (by omega), if_pos (by omega)])), ht9⟩) (fun _ h => by cases h) dX9_count_79
  by_cases w1_3 : a = 3
  · refine z_tabIn (off := 79) (tgt := 80) hx hb dX9_count_1 w1_3 (by decide) (by decide) (by decide) (by decide +kernel) (by decide) ?_
    refine lv_aload_n hx hb dX9_count_80 rfl (lv_at hl 0 rfl) ?_
    refine va_get (D := D) (ci := 9) (v := .ref f) (C := RX9) (T := TX9) (N := 9) hx hb hts iX9 hown hK hP 0 rfl rfl 5 (by decide) (hts (.fieldLink RX9 51 "RainTarget" "first" "LRainTarget$FirstSide;") (List.mem_of_getElem? (i := 3) rfl)) (fun _ h9 => h9) rfl dX9_count_81 ?_
    refine va_getN (D := D) (ci := 1) (v := .int (nZ tot)) (C := RX1) (T := TX1) (N := 3) hx hb hts iX1 hown hK hP 3 rfl rfl 2 (by decide) (va_Nw.use rfl (nw_X9_164 hN)) (fun _ h9 => h9) rfl dX9_count_84 ?_
    exact W.iret (v := nZ tot) hx hb hr (fun t9 ht9 _ => ⟨nZ tot, rfl, congrArg nZ (show (tot : Int) = if a = 0 then so else if a = 1 then sm else if a = 2 then len else if a = 3 then tot else if a = 4 then size else if a = 5 then so2 else if a = 6 then sm2 else if a = 7 then rn else if a = 8 then ms else if a = 9 then sl else -3 from (by rw [if_neg (by omega), if_neg (by omega), if_neg (by omega), if_pos (by omega)])), ht9⟩) (fun _ h => by cases h) dX9_count_87
  by_cases w1_4 : a = 4
  · refine z_tabIn (off := 87) (tgt := 88) hx hb dX9_count_1 w1_4 (by decide) (by decide) (by decide) (by decide +kernel) (by decide) ?_
    refine lv_aload_n hx hb dX9_count_88 rfl (lv_at hl 0 rfl) ?_
    refine va_get (D := D) (ci := 9) (v := .ref s2) (C := RX9) (T := TX9) (N := 9) hx hb hts iX9 hown hK hP 0 rfl rfl 6 (by decide) (hts (.fieldLink RX9 58 "RainTarget" "second" "LRainTarget$SecondSide;") (List.mem_of_getElem? (i := 4) rfl)) (fun _ h9 => h9) rfl dX9_count_89 ?_
    refine va_getN (D := D) (ci := 5) (v := .int (nZ size)) (C := RX5) (T := TX5) (N := 5) hx hb hts iX5 hown hK hP 4 rfl rfl 1 (by decide) (va_Nw.use rfl (nw_X9_171 hN)) (fun _ h9 => h9) rfl dX9_count_92 ?_
    exact W.iret (v := nZ size) hx hb hr (fun t9 ht9 _ => ⟨nZ size, rfl, congrArg nZ (show (size : Int) = if a = 0 then so else if a = 1 then sm else if a = 2 then len else if a = 3 then tot else if a = 4 then size else if a = 5 then so2 else if a = 6 then sm2 else if a = 7 then rn else if a = 8 then ms else if a = 9 then sl else -3 from (by rw [if_neg (by omega), if_neg (by omega), if_neg (by omega), if_neg (by omega), if_pos (by omega)])), ht9⟩) (fun _ h => by cases h) dX9_count_95
  by_cases w1_5 : a = 5
  · refine z_tabIn (off := 95) (tgt := 96) hx hb dX9_count_1 w1_5 (by decide) (by decide) (by decide) (by decide +kernel) (by decide) ?_
    refine lv_aload_n hx hb dX9_count_96 rfl (lv_at hl 0 rfl) ?_
    refine va_get (D := D) (ci := 9) (v := .ref s2) (C := RX9) (T := TX9) (N := 9) hx hb hts iX9 hown hK hP 0 rfl rfl 6 (by decide) (hts (.fieldLink RX9 58 "RainTarget" "second" "LRainTarget$SecondSide;") (List.mem_of_getElem? (i := 4) rfl)) (fun _ h9 => h9) rfl dX9_count_97 ?_
    refine va_getN (D := D) (ci := 5) (v := .int (nZ so2)) (C := RX5) (T := TX5) (N := 5) hx hb hts iX5 hown hK hP 4 rfl rfl 2 (by decide) (va_Nw.use rfl (nw_X9_180 hN)) (fun _ h9 => h9) rfl dX9_count_100 ?_
    exact W.iret (v := nZ so2) hx hb hr (fun t9 ht9 _ => ⟨nZ so2, rfl, congrArg nZ (show (so2 : Int) = if a = 0 then so else if a = 1 then sm else if a = 2 then len else if a = 3 then tot else if a = 4 then size else if a = 5 then so2 else if a = 6 then sm2 else if a = 7 then rn else if a = 8 then ms else if a = 9 then sl else -3 from (by rw [if_neg (by omega), if_neg (by omega), if_neg (by omega), if_neg (by omega), if_neg (by omega), if_pos (by omega)])), ht9⟩) (fun _ h => by cases h) dX9_count_103
  by_cases w1_6 : a = 6
  · refine z_tabIn (off := 103) (tgt := 104) hx hb dX9_count_1 w1_6 (by decide) (by decide) (by decide) (by decide +kernel) (by decide) ?_
    refine lv_aload_n hx hb dX9_count_104 rfl (lv_at hl 0 rfl) ?_
    refine va_get (D := D) (ci := 9) (v := .ref s2) (C := RX9) (T := TX9) (N := 9) hx hb hts iX9 hown hK hP 0 rfl rfl 6 (by decide) (hts (.fieldLink RX9 58 "RainTarget" "second" "LRainTarget$SecondSide;") (List.mem_of_getElem? (i := 4) rfl)) (fun _ h9 => h9) rfl dX9_count_105 ?_
    refine va_getN (D := D) (ci := 5) (v := .int (nZ sm2)) (C := RX5) (T := TX5) (N := 5) hx hb hts iX5 hown hK hP 4 rfl rfl 3 (by decide) (va_Nw.use rfl (nw_X9_193 hN)) (fun _ h9 => h9) rfl dX9_count_108 ?_
    exact W.iret (v := nZ sm2) hx hb hr (fun t9 ht9 _ => ⟨nZ sm2, rfl, congrArg nZ (show (sm2 : Int) = if a = 0 then so else if a = 1 then sm else if a = 2 then len else if a = 3 then tot else if a = 4 then size else if a = 5 then so2 else if a = 6 then sm2 else if a = 7 then rn else if a = 8 then ms else if a = 9 then sl else -3 from (by rw [if_neg (by omega), if_neg (by omega), if_neg (by omega), if_neg (by omega), if_neg (by omega), if_neg (by omega), if_pos (by omega)])), ht9⟩) (fun _ h => by cases h) dX9_count_111
  by_cases w1_7 : a = 7
  · refine z_tabIn (off := 111) (tgt := 112) hx hb dX9_count_1 w1_7 (by decide) (by decide) (by decide) (by decide +kernel) (by decide) ?_
    refine lv_aload_n hx hb dX9_count_112 rfl (lv_at hl 0 rfl) ?_
    refine va_get (D := D) (ci := 9) (v := .ref s2) (C := RX9) (T := TX9) (N := 9) hx hb hts iX9 hown hK hP 0 rfl rfl 6 (by decide) (hts (.fieldLink RX9 58 "RainTarget" "second" "LRainTarget$SecondSide;") (List.mem_of_getElem? (i := 4) rfl)) (fun _ h9 => h9) rfl dX9_count_113 ?_
    refine va_getN (D := D) (ci := 5) (v := .int (nZ rn)) (C := RX5) (T := TX5) (N := 5) hx hb hts iX5 hown hK hP 4 rfl rfl 4 (by decide) (va_Nw.use rfl (nw_X9_177 hN)) (fun _ h9 => h9) rfl dX9_count_116 ?_
    exact W.iret (v := nZ rn) hx hb hr (fun t9 ht9 _ => ⟨nZ rn, rfl, congrArg nZ (show (rn : Int) = if a = 0 then so else if a = 1 then sm else if a = 2 then len else if a = 3 then tot else if a = 4 then size else if a = 5 then so2 else if a = 6 then sm2 else if a = 7 then rn else if a = 8 then ms else if a = 9 then sl else -3 from (by rw [if_neg (by omega), if_neg (by omega), if_neg (by omega), if_neg (by omega), if_neg (by omega), if_neg (by omega), if_neg (by omega), if_pos (by omega)])), ht9⟩) (fun _ h => by cases h) dX9_count_119
  by_cases w1_8 : a = 8
  · refine z_tabIn (off := 119) (tgt := 120) hx hb dX9_count_1 w1_8 (by decide) (by decide) (by decide) (by decide +kernel) (by decide) ?_
    refine lv_aload_n hx hb dX9_count_120 rfl (lv_at hl 0 rfl) ?_
    refine va_get (D := D) (ci := 9) (v := .ref mq) (C := RX9) (T := TX9) (N := 9) hx hb hts iX9 hown hK hP 0 rfl rfl 8 (by decide) (hts (.fieldLink RX9 74 "RainTarget" "matches" "LRainTarget$Matches;") (List.mem_of_getElem? (i := 5) rfl)) (fun _ h9 => h9) rfl dX9_count_121 ?_
    refine va_getN (D := D) (ci := 2) (v := .int (nZ ms)) (C := RX2) (T := TX2) (N := 2) hx hb hts iX2 hown hK hP 5 rfl rfl 1 (by decide) (va_Nw.use rfl (nw_X9_228 hN)) (fun _ h9 => h9) rfl dX9_count_124 ?_
    exact W.iret (v := nZ ms) hx hb hr (fun t9 ht9 _ => ⟨nZ ms, rfl, congrArg nZ (show (ms : Int) = if a = 0 then so else if a = 1 then sm else if a = 2 then len else if a = 3 then tot else if a = 4 then size else if a = 5 then so2 else if a = 6 then sm2 else if a = 7 then rn else if a = 8 then ms else if a = 9 then sl else -3 from (by rw [if_neg (by omega), if_neg (by omega), if_neg (by omega), if_neg (by omega), if_neg (by omega), if_neg (by omega), if_neg (by omega), if_neg (by omega), if_pos (by omega)])), ht9⟩) (fun _ h => by cases h) dX9_count_127
  by_cases w1_9 : a = 9
  · refine z_tabIn (off := 127) (tgt := 128) hx hb dX9_count_1 w1_9 (by decide) (by decide) (by decide) (by decide +kernel) (by decide) ?_
    refine lv_aload_n hx hb dX9_count_128 rfl (lv_at hl 0 rfl) ?_
    refine va_get (D := D) (ci := 9) (v := .ref g) (C := RX9) (T := TX9) (N := 9) hx hb hts iX9 hown hK hP 0 rfl rfl 2 (by decide) (hts (.fieldLink RX9 28 "RainTarget" "settings" "LRainTarget$Settings;") (List.mem_of_getElem? (i := 1) rfl)) (fun _ h9 => h9) rfl dX9_count_129 ?_
    refine va_getN (D := D) (ci := 6) (v := .int (nZ sl)) (C := RX6) (T := TX6) (N := 7) hx hb hts iX6 hown hK hP 1 rfl rfl 6 (by decide) (va_Nw.use rfl (nw_X9_235 hN)) (fun _ h9 => h9) rfl dX9_count_132 ?_
    exact W.iret (v := nZ sl) hx hb hr (fun t9 ht9 _ => ⟨nZ sl, rfl, congrArg nZ (show (sl : Int) = if a = 0 then so else if a = 1 then sm else if a = 2 then len else if a = 3 then tot else if a = 4 then size else if a = 5 then so2 else if a = 6 then sm2 else if a = 7 then rn else if a = 8 then ms else if a = 9 then sl else -3 from (by rw [if_neg (by omega), if_neg (by omega), if_neg (by omega), if_neg (by omega), if_neg (by omega), if_neg (by omega), if_neg (by omega), if_neg (by omega), if_neg (by omega), if_pos (by omega)])), ht9⟩) (fun _ h => by cases h) dX9_count_135
  refine z_tabOut (tgt := 136) hx hb dX9_count_1 (by omega) (by omega) (by decide) ?_
  refine lv_bipush (v := nZ (-3)) hx hb dX9_count_136 (by decide) ?_
  exact W.iret (v := nZ (-3)) hx hb hr (fun t9 ht9 _ => ⟨nZ (-3), rfl, congrArg nZ (show (-3 : Int) = if a = 0 then so else if a = 1 then sm else if a = 2 then len else if a = 3 then tot else if a = 4 then size else if a = 5 then so2 else if a = 6 then sm2 else if a = 7 then rn else if a = 8 then ms else if a = 9 then sl else -3 from (by rw [if_neg (by omega), if_neg (by omega), if_neg (by omega), if_neg (by omega), if_neg (by omega), if_neg (by omega), if_neg (by omega), if_neg (by omega), if_neg (by omega), if_neg (by omega)])), ht9⟩) (fun _ h => by cases h) dX9_count_138

