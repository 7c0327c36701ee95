def gc (a b : Int) : Int := (Nat.gcd a.toNat b.toNat : Int)
theorem gc_comm (a b : Int) : gc a b = gc b a := by unfold gc; rw [Nat.gcd_comm]
theorem gc_step {a b : Int} (ha : 0 ≤ a) (hb : 0 < b) : gc b (a % b) = gc a b := by
  unfold gc
  rw [Int.toNat_emod ha (by omega), Nat.gcd_comm, ← Nat.gcd_rec, Nat.gcd_comm]
theorem gc_0 {a : Int} (h : 0 ≤ a) : gc a 0 = a := by
  unfold gc; show ((Nat.gcd a.toNat 0 : Nat) : Int) = a; rw [Nat.gcd_zero_right]; omega
theorem gc_pos (a : Int) {b : Int} (h : 0 < b) : 0 < gc a b := by
  unfold gc
  have : 0 < Nat.gcd a.toNat b.toNat := Nat.gcd_pos_of_pos_right _ (by omega)
  omega
theorem gc_le {a b : Int} (h : 0 < b) : gc a b ≤ b := by
  unfold gc
  have : Nat.gcd a.toNat b.toNat ≤ b.toNat := Nat.gcd_le_right _ (by omega)
  omega
def loF (a b p : Int) : Int := if p = 0 then a / gc a b else b / gc a b
theorem em_bd {a b : Int} (hb : 0 < b) : 0 ≤ a % b ∧ a % b < b := ⟨Int.emod_nonneg _ (by omega), Int.emod_lt_of_pos _ hb⟩
theorem em_half {a b : Int} (hb : 0 < b) (h : b < a) : 2 * (a % b) ≤ a := by
  have h1 := em_bd (a := a) hb
  have h2 := Int.emod_add_mul_ediv a b
  have h3 : 1 ≤ a / b := (Int.le_ediv_iff_mul_le hb).mpr (by omega)
  have h4 : b * 1 ≤ b * (a / b) := Int.mul_le_mul_of_nonneg_left h3 (by omega)
  omega
/-- how far the search for a common divisor has come -/
def GP (a0 b0 i a b : Int) : Prop := (i = 0 → a = b0 ∧ b = a0) ∧ (i = 1 → b ≤ 1000000000000 ∧ b < a) ∧ (2 ≤ i → b < a ∧ a * b * (2 : Int) ^ (i - 2).toNat ≤ 1000000000000000000000000)
theorem GP_s {a0 b0 i a b : Int} (ha0 : 0 ≤ a0) (hb0 : 0 < b0) (hb1 : b0 ≤ 1000000000000) (hi : 0 ≤ i) (ha : 0 ≤ a) (hb : 0 < b) (h : GP a0 b0 i a b) : GP a0 b0 (i + 1) b (a % b) := by
  have e := em_bd (a := a) hb
  have e2 : a % b ≤ a := by
    have h1 := Int.emod_add_mul_ediv a b
    have h2 : 0 ≤ b * (a / b) := Int.mul_nonneg (by omega) (Int.ediv_nonneg ha (by omega))
    omega
  refine ⟨fun q => by omega, fun q => ?_, fun q => ⟨e.2, ?_⟩⟩
  · have := h.1 (by omega)
    omega
  · by_cases q1 : i = 1
    · have := h.2.1 q1
      subst q1
      show b * (a % b) * (2 : Int) ^ (1 + 1 - 2 : Int).toNat ≤ _
      have m := mul_bd (a := b) (b := a % b) (A := 1000000000000) (B := 1000000000000) (by omega) (by omega) e.1 (by omega)
      rw [show ((1 + 1 - 2 : Int)).toNat = 0 from rfl, Int.pow_zero, Int.mul_one]
      exact m.2
    · have hh := h.2.2 (by omega)
      have h1 := em_half hb hh.1
      rw [show (i + 1 - 2).toNat = (i - 2).toNat + 1 by omega, Int.pow_succ]
      have h2 : b * (a % b) * ((2 : Int) ^ (i - 2).toNat * 2) = b * (2 * (a % b)) * (2 : Int) ^ (i - 2).toNat := by
        rw [Int.mul_comm ((2 : Int) ^ (i - 2).toNat) 2, ← Int.mul_assoc, Int.mul_assoc b, Int.mul_comm (a % b) 2]
      rw [h2]
      have h3 : b * (2 * (a % b)) ≤ a * b := by rw [Int.mul_comm a b]; exact Int.mul_le_mul_of_nonneg_left h1 (by omega)
      exact Int.le_trans (Int.mul_le_mul_of_nonneg_right h3 (Int.le_of_lt (Int.pow_pos (by decide)))) hh.2
theorem GP_end {a0 b0 a b : Int} (ha : 0 ≤ a) (hb : 0 ≤ b) (h : GP a0 b0 100 a b) : b = 0 := by
  have hh := h.2.2 (by decide)
  by_cases q : b = 0
  · exact q
  · exfalso
    have h1 : 1 * 1 ≤ a * b := Int.mul_le_mul (by omega) (by omega) (by decide) ha
    have h2 : (1 * 1) * (2 : Int) ^ (100 - 2 : Int).toNat ≤ a * b * (2 : Int) ^ (100 - 2 : Int).toNat := Int.mul_le_mul_of_nonneg_right h1 (by decide)
    have h3 : (1000000000000000000000000 : Int) < (1 * 1) * (2 : Int) ^ (100 - 2 : Int).toNat := by decide
    omega
set_option maxHeartbeats 4000000 in
set_option maxRecDepth 100000 in
theorem c_X9_commonDivisor (l : Launch) (D : va_G) (cI cJ : ClassId) (tn : Nat) (a : Int) (b : Int) (ha0 : 0 ≤ a) (ha1 : a ≤ 1000000000000000) (hb0 : 0 < b) (hb1 : b ≤ 1000000000000)  : Met l yX9_commonDivisor wsX9_commonDivisor ({ frames := 0, cells := 0, slots := 0, locals := 0 } : Room) (va_Pc [.long (lZ a), .long (lZ b)] (RoP D cI cJ tn [])) (vp_Sl (fun r9 : Int64 => r9 = lZ (gc a b))) 0 0 (fun _ => False) := by
  refine Met.ofW (cc := cX9_commonDivisor) (maxL := 11) (ret := (some .long)) (by decide) rfl ?_
  intro p e s m args below meth c s₁ B hml hv
  obtain ⟨rfl, hE, hP⟩ := hv
  have hx := B.exec
  have hb := B.bytes
  have hr := B.returns
  have hts := atoms_spec (ws := wsX9_commonDivisor) B.pre
  have hown : s.vm.findClass RX9 = some m.cls := findClass_of_methodNamed B.named
  have hlocks := B.notSynchronized
  have hS : va_S (fun _ => False) s.heap s.heap [] := va_S.rf
  have hK := hE.1
  have hN := hE.2.1
  have hl := lv_entry ([.long (lZ a), .long (lZ b)]) (n := 11) (Nat.le_of_ble_eq_true rfl)
  rw [lg_entry_eq]
  generalize (lg_sl ([.long (lZ a), .long (lZ b)]) ++ List.replicate (11 - (lg_sl ([.long (lZ a), .long (lZ b)])).length) Slot.unset).toArray = ls at hl ⊢
  have hl : lv_has ls 11 [(0, .long (lZ a)), (2, .long (lZ b))] := hl
  refine lv_lload_n hx hb dX9_commonDivisor_0 rfl (lv_at hl 1 rfl) ?_
  refine lv_lstore (lv' := [(4, .long (lZ b)), (0, .long (lZ a)), (2, .long (lZ b))]) hx hb dX9_commonDivisor_1 hl (by decide) rfl (fun ls hl => ?_)
  refine lv_lload_n hx hb dX9_commonDivisor_3 rfl (lv_at hl 1 rfl) ?_
  refine lv_lstore (lv' := [(6, .long (lZ a)), (4, .long (lZ b)), (0, .long (lZ a)), (2, .long (lZ b))]) hx hb dX9_commonDivisor_4 hl (by decide) rfl (fun ls hl => ?_)
  refine lv_iconst (v := nZ 0) hx hb dX9_commonDivisor_6 rfl ?_
  refine lv_istore (lv' := [(8, .int (nZ 0)), (6, .long (lZ a)), (4, .long (lZ b)), (0, .long (lZ a)), (2, .long (lZ b))]) hx hb dX9_commonDivisor_7 hl (by decide) rfl (fun ls hl => ?_)
  refine z_rloop3 (fun (p : Int) (q : Int) (i : Int) => (0 ≤ p) ∧ (0 ≤ q) ∧ (p ≤ 1000000000000000) ∧ (q ≤ 1000000000000000) ∧ (0 ≤ i) ∧ (i ≤ 100) ∧ (gc p q = gc a b) ∧ (GP a b i p q)) (fun (p : Int) (q : Int) (i : Int) => (100 - i).toNat) (fun (p : Int) (q : Int) (i : Int) => [(4, .long (lZ p)), (6, .long (lZ q)), (8, .int (nZ i))]) ?_ b a 0 ⟨(by first | assumption | omega), (by first | assumption | omega), (by first | assumption | omega), (by first | assumption | omega), (by first | assumption | omega), (by first | assumption | omega), (gc_comm b a), ⟨fun _ => ⟨rfl, rfl⟩, fun h => absurd h (by decide), fun h => absurd h (by decide)⟩⟩ (lv_sub hl [2, 1, 0] rfl)
  intro p q i hI9 ih9 ls hl
  have hl : lv_has ls 11 [(4, .long (lZ p)), (6, .long (lZ q)), (8, .int (nZ i))] := hl
  obtain ⟨hp0, hq0, hp1, hq1, hi0, hi1, hg, hGP⟩ : (0 ≤ p) ∧ (0 ≤ q) ∧ (p ≤ 1000000000000000) ∧ (q ≤ 1000000000000000) ∧ (0 ≤ i) ∧ (i ≤ 100) ∧ (gc p q = gc a b) ∧ (GP a b i p q) := hI9
  refine lv_iload hx hb dX9_commonDivisor_9 (lv_at hl 2 rfl) ?_
  refine lv_bipush (v := nZ 100) hx hb dX9_commonDivisor_11 (by decide) ?_
  refine z_icmp_ge (tgt := 44) hx hb dX9_commonDivisor_13 (by decide) (by omega) (by decide) (fun c_13 => ?_) (fun c_13 => ?_)
  · refine lv_lload hx hb dX9_commonDivisor_44 (lv_at hl 0 rfl) ?_
    exact W.lret (v := lZ p) hx hb hr (fun t9 ht9 _ => ⟨lZ p, rfl, congrArg lZ (show (p : Int) = gc a b from (by rw [← hg, GP_end hp0 hq0 (by rw [show i = 100 from by omega] at hGP; exact hGP), gc_0 hp0])), ht9⟩) (fun _ h => by cases h) dX9_commonDivisor_46
  · refine lv_lload hx hb dX9_commonDivisor_16 (lv_at hl 1 rfl) ?_
    refine lv_lconst (v := lZ 0) hx hb dX9_commonDivisor_18 rfl ?_
    refine z_lcmp_le (tgt := 44) hx hb dX9_commonDivisor_19 dX9_commonDivisor_20 (by decide) (by omega) (by decide) (fun c_19 => ?_) (fun c_19 => ?_)
    · refine lv_lload hx hb dX9_commonDivisor_44 (lv_at hl 0 rfl) ?_
      exact W.lret (v := lZ p) hx hb hr (fun t9 ht9 _ => ⟨lZ p, rfl, congrArg lZ (show (p : Int) = gc a b from (by rw [← hg, show q = 0 from by omega, gc_0 hp0])), ht9⟩) (fun _ h => by cases h) dX9_commonDivisor_46
    · refine lv_lload hx hb dX9_commonDivisor_23 (lv_at hl 0 rfl) ?_
      refine lv_lload hx hb dX9_commonDivisor_25 (lv_at hl 1 rfl) ?_
      refine z_lrem hx hb dX9_commonDivisor_27 (by omega) (by omega) (by omega) (by omega) ?_
      have hem := em_bd (a := p) (b := q) (by omega)
      refine lv_lstore (lv' := [(9, .long (lZ (p % q))), (4, .long (lZ p)), (6, .long (lZ q)), (8, .int (nZ i))]) hx hb dX9_commonDivisor_28 hl (by decide) rfl (fun ls hl => ?_)
      refine lv_lload hx hb dX9_commonDivisor_30 (lv_at hl 2 rfl) ?_
      refine lv_lstore (lv' := [(4, .long (lZ q)), (9, .long (lZ (p % q))), (6, .long (lZ q)), (8, .int (nZ i))]) hx hb dX9_commonDivisor_32 hl (by decide) rfl (fun ls hl => ?_)
      refine lv_lload hx hb dX9_commonDivisor_34 (lv_at hl 1 rfl) ?_
      refine lv_lstore (lv' := [(6, .long (lZ (p % q))), (4, .long (lZ q)), (9, .long (lZ (p % q))), (8, .int (nZ i))]) hx hb dX9_commonDivisor_36 hl (by decide) rfl (fun ls hl => ?_)
      refine lv_iinc (v := nZ (i + 1)) (lv' := [(8, .int (nZ (i + 1))), (6, .long (lZ (p % q))), (4, .long (lZ q)), (9, .long (lZ (p % q)))]) hx hb dX9_commonDivisor_38 hl (k := 3) rfl (nZ_add _ _) (by decide) rfl (fun ls hl => ?_)
      refine lv_goto (tgt := 9) hx hb dX9_commonDivisor_41 (by decide) ?_
      exact ih9 q (p % q) (i + 1) ⟨(by first | assumption | omega), (by first | assumption | omega), (by first | assumption | omega), (by first | assumption | omega), (by first | assumption | omega), (by first | assumption | omega), (by rw [gc_step hp0 (by omega)]; exact hg), (GP_s ha0 hb0 hb1 hi0 hp0 (by omega) hGP)⟩ (show (100 - (i + 1)).toNat < (100 - i).toNat from by omega) ls (lv_sub hl [2, 1, 0] rfl)

set_option maxHeartbeats 4000000 in
set_option maxRecDepth 100000 in
theorem c_X9_lowest (l : Launch) (D : va_G) (cI cJ : ClassId) (tn : Nat) (a : Int) (b : Int) (d : Int) (ha0 : 0 ≤ a) (ha1 : a ≤ 1000000000000000) (hb0 : 0 < b) (hb1 : b ≤ 1000000000000) (rd : I32 d)  : Met l yX9_lowest wsX9_lowest ({ frames := 1, cells := 0, slots := 0, locals := 30 } : Room) (va_Pc [.long (lZ a), .long (lZ b), .int (nZ d)] (RoP D cI cJ tn [])) (vp_Sl (fun r9 : Int64 => r9 = lZ (loF a b d))) 0 0 (fun _ => False) := by
  refine Met.ofW (cc := cX9_lowest) (maxL := 7) (ret := (some .long)) (by decide) rfl ?_
  intro p e s m args below meth c s₁ B hml hv
  obtain ⟨rfl, hE, hP⟩ := hv
  have hx := B.exec
  have hb := B.bytes
  have hr := B.returns
  have hts := atoms_spec (ws := wsX9_lowest) B.pre
  have hown : s.vm.findClass RX9 = some m.cls := findClass_of_methodNamed B.named
  have hlocks := B.notSynchronized
  have hS : va_S (fun _ => False) s.heap s.heap [] := va_S.rf
  have hK := hE.1
  have hN := hE.2.1
  have hl := lv_entry ([.long (lZ a), .long (lZ b), .int (nZ d)]) (n := 7) (Nat.le_of_ble_eq_true rfl)
  rw [lg_entry_eq]
  generalize (lg_sl ([.long (lZ a), .long (lZ b), .int (nZ d)]) ++ List.replicate (7 - (lg_sl ([.long (lZ a), .long (lZ b), .int (nZ d)])).length) Slot.unset).toArray = ls at hl ⊢
  have hl : lv_has ls 7 [(0, .long (lZ a)), (2, .long (lZ b)), (4, .int (nZ d))] := hl
  refine lv_lload_n hx hb dX9_lowest_0 rfl (lv_at hl 0 rfl) ?_
  refine lv_lload_n hx hb dX9_lowest_1 rfl (lv_at hl 1 rfl) ?_
  refine vp_callSl ((va_runS (As := [.long (lZ a), .long (lZ b)]) (rest := []) ⟨hx, hb, hml, hown, hts⟩ (c_X9_commonDivisor l D cI cJ tn a b ha0 ha1 hb0 hb1 ) (va_cwS 2 hts gX9_lowest_X9_commonDivisor rfl rfl rfl (by decide +kernel) ⟨Nat.le_of_ble_eq_true rfl, Nat.le_of_ble_eq_true rfl⟩) ⟨RoP.blind, fun U hU hW => ⟨rfl, RoP.call hE hS (hP.sub (ws' := []) [] rfl) hU hW⟩⟩ rfl rfl hl.1 rfl (lv_room (Nat.le_of_ble_eq_true rfl)) dX9_lowest_2 ⟨Nat.le_of_ble_eq_true rfl, Nat.le_of_ble_eq_true rfl⟩).run) (fun r2 hr2 => ?_)
  subst hr2
  refine z_nameL (fun r2 er2 => ?_)
  have hgp := gc_pos a hb0
  have hgl := gc_le (a := a) hb0
  refine lv_lstore (lv' := [(5, .long (lZ r2)), (0, .long (lZ a)), (2, .long (lZ b)), (4, .int (nZ d))]) hx hb dX9_lowest_5 hl (by decide) rfl (fun ls hl => ?_)
  refine lv_iload hx hb dX9_lowest_7 (lv_at hl 3 rfl) ?_
  refine z_if_ne (tgt := 16) hx hb dX9_lowest_9 (by decide) (by omega) (fun c_9 => ?_) (fun c_9 => ?_)
  · refine lv_lload_n hx hb dX9_lowest_16 rfl (lv_at hl 2 rfl) ?_
    refine lv_lload hx hb dX9_lowest_17 (lv_at hl 0 rfl) ?_
    refine vp_callSl ((va_runS (As := [.long (lZ b), .long (lZ r2)]) (rest := []) ⟨hx, hb, hml, hown, hts⟩ (c_X9_cut l D cI cJ tn b r2 (by first | assumption | omega) (by first | assumption | omega) ) (va_cwS 2 hts gX9_lowest_X9_cut rfl rfl rfl (by decide +kernel) ⟨Nat.le_of_ble_eq_true rfl, Nat.le_of_ble_eq_true rfl⟩) ⟨RoP.blind, fun U hU hW => ⟨rfl, RoP.call hE hS (hP.sub (ws' := []) [] rfl) hU hW⟩⟩ rfl rfl hl.1 rfl (lv_room (Nat.le_of_ble_eq_true rfl)) dX9_lowest_19 ⟨Nat.le_of_ble_eq_true rfl, Nat.le_of_ble_eq_true rfl⟩).run) (fun r19 hr19 => ?_)
    subst hr19
    refine z_nameL (fun r19 er19 => ?_)
    exact W.lret (v := lZ r19) hx hb hr (fun t9 ht9 _ => ⟨lZ r19, rfl, congrArg lZ (show (r19 : Int) = loF a b d from (by unfold loF; rw [er19, if_pos (by omega), tdivN (by omega), er2]; first | (rw [if_pos (by omega)]; done) | (rw [if_neg (by omega)]; done))), ht9⟩) (fun _ h => by cases h) dX9_lowest_22
  · refine lv_lload_n hx hb dX9_lowest_12 rfl (lv_at hl 1 rfl) ?_
    refine lv_goto (tgt := 17) hx hb dX9_lowest_13 (by decide) ?_
    refine lv_lload hx hb dX9_lowest_17 (lv_at hl 0 rfl) ?_
    refine vp_callSl ((va_runS (As := [.long (lZ a), .long (lZ r2)]) (rest := []) ⟨hx, hb, hml, hown, hts⟩ (c_X9_cut l D cI cJ tn a r2 (by first | assumption | omega) (by first | assumption | omega) ) (va_cwS 2 hts gX9_lowest_X9_cut rfl rfl rfl (by decide +kernel) ⟨Nat.le_of_ble_eq_true rfl, Nat.le_of_ble_eq_true rfl⟩) ⟨RoP.blind, fun U hU hW => ⟨rfl, RoP.call hE hS (hP.sub (ws' := []) [] rfl) hU hW⟩⟩ rfl rfl hl.1 rfl (lv_room (Nat.le_of_ble_eq_true rfl)) dX9_lowest_19 ⟨Nat.le_of_ble_eq_true rfl, Nat.le_of_ble_eq_true rfl⟩).run) (fun r19 hr19 => ?_)
    subst hr19
    refine z_nameL (fun r19 er19 => ?_)
    exact W.lret (v := lZ r19) hx hb hr (fun t9 ht9 _ => ⟨lZ r19, rfl, congrArg lZ (show (r19 : Int) = loF a b d from (by unfold loF; rw [er19, if_pos (by omega), tdivN (by omega), er2]; first | (rw [if_pos (by omega)]; done) | (rw [if_neg (by omega)]; done))), ht9⟩) (fun _ h => by cases h) dX9_lowest_22

set_option maxHeartbeats 4000000 in
set_option maxRecDepth 100000 in
theorem c_X9_makes (l : Launch) (D : va_G) (cI cJ : ClassId) (tn : Nat) (x : Nat) (t : Nat) (rdr : Nat) (g : Nat) (q1 : Nat) (h : Nat) (f : Nat) (s2 : Nat) (w : Nat) (mq : Nat) (q2 : Nat) (q3 : Nat) (me : Int → Int) (cs : Int → Int) (mp : Int → Int) (so : Int) (sm : Int) (sp : Int) (sb : Int) (sc : Int) (sd : Int) (sl : Int) (a : Int) (b : Int) (d : Int) (hM : MoodOK cs mp) (ho1 : 1 ≤ so) (ho : so ≤ 12) (hm0 : 0 ≤ sm) (hm : sm ≤ 10) (hMe : MeanOK cs mp me) (ra : I32 a) (rb : I32 b) (rd : I32 d)  : Met l yX9_makes wsX9_makes ({ frames := 2, cells := 0, slots := 0, locals := 56 } : Room) (va_Pc [.ref x, .int (nZ a), .int (nZ b), .int (nZ d)] (RoP D cI cJ tn [(x, .inr (9, [.ref t, .ref rdr, .ref g, .ref q1, .ref h, .ref f, .ref s2, .ref w, .ref mq])), (g, .inr (6, [.int (nZ so), .int (nZ sm), .int (nZ sp), .int (nZ sb), .int (nZ sc), .int (nZ sd), .int (nZ sl)])), (h, .inr (0, [.ref q1, .ref q2, .ref q3])), (q2, .inl (cJ, 143, .inr (.inl (bZ me))))])) (vp_Sl (fun r9 : Int64 => r9 = lZ (if ((0 ≤ a ∧ a ≤ so) ∧ (0 ≤ b ∧ b ≤ sm)) ∧ (0 ≤ d ∧ d ≤ 1) then loF (MK cs mp a.toNat b) ((10 : Int) ^ a.toNat) d else -3))) 0 0 (fun _ => False) := by
  refine Met.ofW (cc := cX9_makes) (maxL := 4) (ret := (some .long)) (by decide) rfl ?_
  intro p e s m args below meth c s₁ B hml hv
  obtain ⟨rfl, hE, hP⟩ := hv
  have hx := B.exec
  have hb := B.bytes
  have hr := B.returns
  have hts := atoms_spec (ws := wsX9_makes) B.pre
  have hown : s.vm.findClass RX9 = some m.cls := findClass_of_methodNamed B.named
  have hlocks := B.notSynchronized
  have hS : va_S (fun _ => False) s.heap s.heap [] := va_S.rf
  have hK := hE.1
  have hN := hE.2.1
  have hl := lv_entry ([.ref x, .int (nZ a), .int (nZ b), .int (nZ d)]) (n := 4) (Nat.le_of_ble_eq_true rfl)
  rw [lg_entry_eq]
  generalize (lg_sl ([.ref x, .int (nZ a), .int (nZ b), .int (nZ d)]) ++ List.replicate (4 - (lg_sl ([.ref x, .int (nZ a), .int (nZ b), .int (nZ d)])).length) Slot.unset).toArray = ls at hl ⊢
  have hl : lv_has ls 4 [(0, .ref x), (1, .int (nZ a)), (2, .int (nZ b)), (3, .int (nZ d))] := hl
  have iX9 : ∀ w ∈ u_ws RX9 TX9 9, w ∈ wsX9_makes := fun _ h => List.mem_cons_of_mem _ (List.mem_append_left _ (List.mem_append_left _ (List.mem_append_right _ h)))
  refine lv_aload_n hx hb dX9_makes_0 rfl (lv_at hl 0 rfl) ?_
  refine lv_iload_n hx hb dX9_makes_1 rfl (lv_at hl 1 rfl) ?_
  refine lv_iload_n hx hb dX9_makes_2 rfl (lv_at hl 2 rfl) ?_
  refine vp_callSi ((va_runV (As := [.int (nZ a), .int (nZ b)]) (rest := []) ⟨hx, hb, hml, hown, hts⟩ (c_X9_isLeft l D cI cJ tn x t rdr g q1 h f s2 w mq so sm sp sb sc sd sl a b ra rb (by omega) (by omega) ) (cwV 2 hts gX9_makes_X9_isLeft rfl rfl rfl (by decide +kernel) ⟨Nat.le_of_ble_eq_true rfl, Nat.le_of_ble_eq_true rfl⟩) ⟨RoP.blind, va_recv hK hP (ci := 9) (q0 := 0) rfl rfl, fun U hU hW => ⟨rfl, RoP.call hE hS (hP.sub (ws' := [(x, .inr (9, [.ref t, .ref rdr, .ref g, .ref q1, .ref h, .ref f, .ref s2, .ref w, .ref mq])), (g, .inr (6, [.int (nZ so), .int (nZ sm), .int (nZ sp), .int (nZ sb), .int (nZ sc), .int (nZ sd), .int (nZ sl)]))]) [0, 1] rfl) hU hW⟩⟩ rfl rfl hl.1 rfl (lv_room (Nat.le_of_ble_eq_true rfl)) dX9_makes_3 ⟨Nat.le_of_ble_eq_true rfl, Nat.le_of_ble_eq_true rfl⟩).run) (fun r3 hr3 => ?_)
  subst hr3
  refine z_nameI (fun r3 er3 => ?_)
  refine z_if_eq (tgt := 18) hx hb dX9_makes_6 (by decide) (by omega) (fun c_6 => ?_) (fun c_6 => ?_)
  · refine lv_ldc2 (own := RX9) (v := -3) hx hb hown (hts (.constantLong RX9 126 (-3)) (List.mem_of_getElem? (i := 1) rfl)) dX9_makes_18 ?_
    refine z_litl (-3) (by decide) ?_
    exact W.lret (v := lZ (-3)) hx hb hr (fun t9 ht9 _ => ⟨lZ (-3), rfl, congrArg lZ (show (-3 : Int) = if ((0 ≤ a ∧ a ≤ so) ∧ (0 ≤ b ∧ b ≤ sm)) ∧ (0 ≤ d ∧ d ≤ 1) then loF (MK cs mp a.toNat b) ((10 : Int) ^ a.toNat) d else -3 from (by rw [if_neg (by omega)])), ht9⟩) (fun _ h => by cases h) dX9_makes_21
  · refine lv_iload_n hx hb dX9_makes_9 rfl (lv_at hl 3 rfl) ?_
    refine lv_iconst (v := nZ 0) hx hb dX9_makes_10 rfl ?_
    refine lv_iconst (v := nZ 1) hx hb dX9_makes_11 rfl ?_
    refine vp_callSi ((va_runS (As := [.int (nZ d), .int (nZ 0), .int (nZ 1)]) (rest := []) ⟨hx, hb, hml, hown, hts⟩ (c_X9_within l D cI cJ tn d 0 1 rd (by decide) (by decide) ) (va_cwS 3 hts gX9_makes_X9_within rfl rfl rfl (by decide +kernel) ⟨Nat.le_of_ble_eq_true rfl, Nat.le_of_ble_eq_true rfl⟩) ⟨RoP.blind, fun U hU hW => ⟨rfl, RoP.call hE hS (hP.sub (ws' := []) [] rfl) hU hW⟩⟩ rfl rfl hl.1 rfl (lv_room (Nat.le_of_ble_eq_true rfl)) dX9_makes_12 ⟨Nat.le_of_ble_eq_true rfl, Nat.le_of_ble_eq_true rfl⟩).run) (fun r12 hr12 => ?_)
    subst hr12
    refine z_nameI (fun r12 er12 => ?_)
    refine z_if_ne (tgt := 22) hx hb dX9_makes_15 (by decide) (by omega) (fun c_15 => ?_) (fun c_15 => ?_)
    · refine lv_aload_n hx hb dX9_makes_22 rfl (lv_at hl 0 rfl) ?_
      refine va_get (D := D) (ci := 9) (v := .ref h) (C := RX9) (T := TX9) (N := 9) hx hb hts iX9 hown hK hP 0 rfl rfl 4 (by decide) (hts (.fieldLink RX9 44 "RainTarget" "batting" "LRainTarget$Batting;") (List.mem_of_getElem? (i := 2) rfl)) (fun _ h9 => h9) rfl dX9_makes_23 ?_
      refine lv_iload_n hx hb dX9_makes_26 rfl (lv_at hl 1 rfl) ?_
      refine lv_iload_n hx hb dX9_makes_27 rfl (lv_at hl 2 rfl) ?_
      refine vp_callSl ((va_runVN (As := [.int (nZ a), .int (nZ b)]) (rest := []) ⟨hx, hb, hml, hown, hts⟩ (c_X0_mean l D cI cJ tn h q1 q2 q3 me a b ra rb ) ⟨va_cnB 2 hts gX9_makes_X0_mean_n128 rfl rfl rfl (nw_X9_128 hN) (hts (.initialized RX0) (List.mem_of_getElem? (i := 13) rfl)) (by decide +kernel) ⟨Nat.le_of_ble_eq_true rfl, Nat.le_of_ble_eq_true rfl⟩, (hts (.instanceMethod yX0_mean) (List.mem_of_getElem? (i := 12) rfl)), (hts (.selects RX0 yX0_mean yX0_mean) (List.mem_of_getElem? (i := 14) rfl))⟩ ⟨RoP.blind, va_recv hK hP (ci := 0) (q0 := 2) rfl rfl, fun U hU hW => ⟨rfl, RoP.call hE hS (hP.sub (ws' := [(h, .inr (0, [.ref q1, .ref q2, .ref q3])), (q2, .inl (cJ, 143, .inr (.inl (bZ me))))]) [2, 3] rfl) hU hW⟩⟩ rfl rfl hl.1 rfl (lv_room (Nat.le_of_ble_eq_true rfl)) dX9_makes_28 ⟨Nat.le_of_ble_eq_true rfl, Nat.le_of_ble_eq_true rfl⟩).run) (fun r28 hr28 => ?_)
      subst hr28
      refine z_nameL (fun r28 er28 => ?_)
      refine lv_iload_n hx hb dX9_makes_31 rfl (lv_at hl 1 rfl) ?_
      refine vp_callSl ((va_runS (As := [.int (nZ a)]) (rest := [.long (lZ r28)]) ⟨hx, hb, hml, hown, hts⟩ (c_X9_power l D cI cJ tn a ra ) (va_cwS 1 hts gX9_makes_X9_power rfl rfl rfl (by decide +kernel) ⟨Nat.le_of_ble_eq_true rfl, Nat.le_of_ble_eq_true rfl⟩) ⟨RoP.blind, fun U hU hW => ⟨rfl, RoP.call hE hS (hP.sub (ws' := []) [] rfl) hU hW⟩⟩ rfl rfl hl.1 rfl (lv_room (Nat.le_of_ble_eq_true rfl)) dX9_makes_32 ⟨Nat.le_of_ble_eq_true rfl, Nat.le_of_ble_eq_true rfl⟩).run) (fun r32 hr32 => ?_)
      subst hr32
      refine z_nameL (fun r32 er32 => ?_)
      have e28 : r28 = MK cs mp a.toNat b := by rw [er28, if_pos (by omega), hMe.at (by omega) (by omega) (by omega) (by omega)]
      have e32 : r32 = (10 : Int) ^ a.toNat := by rw [er32, if_pos (by omega)]
      have hk0 := MK_nn (cs := cs) (mp := mp) a.toNat b
      have hk1 := MK_top hM a.toNat b (by omega)
      have ht := tn_nn (u := a) (by omega) (by omega)
      refine lv_iload_n hx hb dX9_makes_35 rfl (lv_at hl 3 rfl) ?_
      refine vp_callSl ((va_runS (As := [.long (lZ r28), .long (lZ r32), .int (nZ d)]) (rest := []) ⟨hx, hb, hml, hown, hts⟩ (c_X9_lowest l D cI cJ tn r28 r32 d (by first | assumption | omega) (by first | assumption | omega) (by first | assumption | omega) (by first | assumption | omega) rd ) (va_cwS 3 hts gX9_makes_X9_lowest rfl rfl rfl (by decide +kernel) ⟨Nat.le_of_ble_eq_true rfl, Nat.le_of_ble_eq_true rfl⟩) ⟨RoP.blind, fun U hU hW => ⟨rfl, RoP.call hE hS (hP.sub (ws' := []) [] rfl) hU hW⟩⟩ rfl rfl hl.1 rfl (lv_room (Nat.le_of_ble_eq_true rfl)) dX9_makes_36 ⟨Nat.le_of_ble_eq_true rfl, Nat.le_of_ble_eq_true rfl⟩).run) (fun r36 hr36 => ?_)
      subst hr36
      refine z_nameL (fun r36 er36 => ?_)
      exact W.lret (v := lZ r36) hx hb hr (fun t9 ht9 _ => ⟨lZ r36, rfl, congrArg lZ (show (r36 : Int) = if ((0 ≤ a ∧ a ≤ so) ∧ (0 ≤ b ∧ b ≤ sm)) ∧ (0 ≤ d ∧ d ≤ 1) then loF (MK cs mp a.toNat b) ((10 : Int) ^ a.toNat) d else -3 from (by rw [er36, e28, e32, if_pos (by omega)])), ht9⟩) (fun _ h => by cases h) dX9_makes_39
    · refine lv_ldc2 (own := RX9) (v := -3) hx hb hown (hts (.constantLong RX9 126 (-3)) (List.mem_of_getElem? (i := 1) rfl)) dX9_makes_18 ?_
      refine z_litl (-3) (by decide) ?_
      exact W.lret (v := lZ (-3)) hx hb hr (fun t9 ht9 _ => ⟨lZ (-3), rfl, congrArg lZ (show (-3 : Int) = if ((0 ≤ a ∧ a ≤ so) ∧ (0 ≤ b ∧ b ≤ sm)) ∧ (0 ≤ d ∧ d ≤ 1) then loF (MK cs mp a.toNat b) ((10 : Int) ^ a.toNat) d else -3 from (by rw [if_neg (by omega)])), ht9⟩) (fun _ h => by cases h) dX9_makes_21

set_option maxHeartbeats 4000000 in
set_option maxRecDepth 100000 in
theorem c_X9_wins (l : Launch) (D : va_G) (cI cJ : ClassId) (tn : Nat) (sz : Nat) (x : Nat) (t : Nat) (rdr : Nat) (g : Nat) (q1 : Nat) (h : Nat) (f : Nat) (s2 : Nat) (w : Nat) (mq : Nat) (q2 : Nat) (q3 : Nat) (p1 : Nat) (p2 : Nat) (ch : Int → Int) (cs : Int → Int) (mp : Int → Int) (so : Int) (sm : Int) (sp : Int) (sb : Int) (sc : Int) (sd : Int) (sl : Int) (a : Int) (b : Int) (n : Int) (d : Int) (hM : MoodOK cs mp) (ho1 : 1 ≤ so) (ho : so ≤ 12) (hm0 : 0 ≤ sm) (hm : sm ≤ 10) (hmemo : MemoOK cs mp ch) (ra : I32 a) (rb : I32 b) (rn : I32 n) (rd : I32 d)  : Met l yX9_wins wsX9_wins ({ frames := 28, cells := 0, slots := 0, locals := 847 } : Room) (va_Pc [.ref x, .int (nZ a), .int (nZ b), .int (nZ n), .int (nZ d)] (WrP D cI cJ tn [(x, .inr (9, [.ref t, .ref rdr, .ref g, .ref q1, .ref h, .ref f, .ref s2, .ref w, .ref mq])), (g, .inr (6, [.int (nZ so), .int (nZ sm), .int (nZ sp), .int (nZ sb), .int (nZ sc), .int (nZ sd), .int (nZ sl)])), (h, .inr (0, [.ref q1, .ref q2, .ref q3])), (q3, .inl (cJ, 28080, .inr (.inl (bZ ch)))), (q1, .inr (3, [.ref p1, .ref p2])), (p1, .inl (cI, 4, .inl (aZ cs))), (p2, .inl (cI, 48, .inl (aZ mp)))] sz)) (va_Ql (fun (r9 : Int64) (u9 : (Int → Int)) => r9 = lZ (if ((0 ≤ a ∧ a ≤ so) ∧ (0 ≤ b ∧ b ≤ sm)) ∧ (0 ≤ n ∧ n ≤ 999) ∧ (0 ≤ d ∧ d ≤ 1) then loF (WN cs mp a.toNat b n) ((10 : Int) ^ a.toNat) d else -3) ∧ MemoOK cs mp u9) (fun u9 t9 => WrQ D (va_A [(x, .inr (9, [.ref t, .ref rdr, .ref g, .ref q1, .ref h, .ref f, .ref s2, .ref w, .ref mq])), (g, .inr (6, [.int (nZ so), .int (nZ sm), .int (nZ sp), .int (nZ sb), .int (nZ sc), .int (nZ sd), .int (nZ sl)])), (h, .inr (0, [.ref q1, .ref q2, .ref q3])), (q3, .inl (cJ, 28080, .inr (.inl (bZ ch)))), (q1, .inr (3, [.ref p1, .ref p2])), (p1, .inl (cI, 4, .inl (aZ cs))), (p2, .inl (cI, 48, .inl (aZ mp)))] sz) [(x, .inr (9, [.ref t, .ref rdr, .ref g, .ref q1, .ref h, .ref f, .ref s2, .ref w, .ref mq])), (g, .inr (6, [.int (nZ so), .int (nZ sm), .int (nZ sp), .int (nZ sb), .int (nZ sc), .int (nZ sd), .int (nZ sl)])), (h, .inr (0, [.ref q1, .ref q2, .ref q3])), (q3, .inl (cJ, 28080, .inr (.inl (bZ u9)))), (q1, .inr (3, [.ref p1, .ref p2])), (p1, .inl (cI, 4, .inl (aZ cs))), (p2, .inl (cI, 48, .inl (aZ mp)))] t9) (va_A [(x, .inr (9, [.ref t, .ref rdr, .ref g, .ref q1, .ref h, .ref f, .ref s2, .ref w, .ref mq])), (g, .inr (6, [.int (nZ so), .int (nZ sm), .int (nZ sp), .int (nZ sb), .int (nZ sc), .int (nZ sd), .int (nZ sl)])), (h, .inr (0, [.ref q1, .ref q2, .ref q3])), (q3, .inl (cJ, 28080, .inr (.inl (bZ ch)))), (q1, .inr (3, [.ref p1, .ref p2])), (p1, .inl (cI, 4, .inl (aZ cs))), (p2, .inl (cI, 48, .inl (aZ mp)))] sz)) 0 0 (va_A [(x, .inr (9, [.ref t, .ref rdr, .ref g, .ref q1, .ref h, .ref f, .ref s2, .ref w, .ref mq])), (g, .inr (6, [.int (nZ so), .int (nZ sm), .int (nZ sp), .int (nZ sb), .int (nZ sc), .int (nZ sd), .int (nZ sl)])), (h, .inr (0, [.ref q1, .ref q2, .ref q3])), (q3, .inl (cJ, 28080, .inr (.inl (bZ ch)))), (q1, .inr (3, [.ref p1, .ref p2])), (p1, .inl (cI, 4, .inl (aZ cs))), (p2, .inl (cI, 48, .inl (aZ mp)))] sz) := by
  refine Met.ofW (cc := cX9_wins) (maxL := 5) (ret := (some .long)) (by decide) rfl ?_
  intro p e s m args below meth c s₁ B hml hv
  obtain ⟨rfl, hsz, hE, hP, hD0⟩ := hv
  have hx := B.exec
  have hb := B.bytes
  have hr := B.returns
  have hts := atoms_spec (ws := wsX9_wins) B.pre
  have hown : s.vm.findClass RX9 = some m.cls := findClass_of_methodNamed B.named
  have hlocks := B.notSynchronized
  subst hsz
  have hD := hD0.self (sz := s.heap.size)
  generalize hAe : va_A [(x, .inr (9, [.ref t, .ref rdr, .ref g, .ref q1, .ref h, .ref f, .ref s2, .ref w, .ref mq])), (g, .inr (6, [.int (nZ so), .int (nZ sm), .int (nZ sp), .int (nZ sb), .int (nZ sc), .int (nZ sd), .int (nZ sl)])), (h, .inr (0, [.ref q1, .ref q2, .ref q3])), (q3, .inl (cJ, 28080, .inr (.inl (bZ ch)))), (q1, .inr (3, [.ref p1, .ref p2])), (p1, .inl (cI, 4, .inl (aZ cs))), (p2, .inl (cI, 48, .inl (aZ mp)))] s.heap.size = A at hD hE ⊢
  have hA : ∀ q : Nat, s.heap.size ≤ q → A q := fun q h => by rw [← hAe]; exact Or.inr h
  have hS : va_S A s.heap s.heap [] := va_S.rf
  have hK := hE.1
  have hN := hE.2.1
  have hl := lv_entry ([.ref x, .int (nZ a), .int (nZ b), .int (nZ n), .int (nZ d)]) (n := 5) (Nat.le_of_ble_eq_true rfl)
  rw [lg_entry_eq]
  generalize (lg_sl ([.ref x, .int (nZ a), .int (nZ b), .int (nZ n), .int (nZ d)]) ++ List.replicate (5 - (lg_sl ([.ref x, .int (nZ a), .int (nZ b), .int (nZ n), .int (nZ d)])).length) Slot.unset).toArray = ls at hl ⊢
  have hl : lv_has ls 5 [(0, .ref x), (1, .int (nZ a)), (2, .int (nZ b)), (3, .int (nZ n)), (4, .int (nZ d))] := hl
  have iX9 : ∀ w ∈ u_ws RX9 TX9 9, w ∈ wsX9_wins := fun _ h => List.mem_cons_of_mem _ (List.mem_append_left _ (List.mem_append_left _ (List.mem_append_left _ (List.mem_append_right _ h))))
  refine lv_aload_n hx hb dX9_wins_0 rfl (lv_at hl 0 rfl) ?_
  refine lv_iload_n hx hb dX9_wins_1 rfl (lv_at hl 1 rfl) ?_
  refine lv_iload_n hx hb dX9_wins_2 rfl (lv_at hl 2 rfl) ?_
  refine vp_callSi ((va_runV (As := [.int (nZ a), .int (nZ b)]) (rest := []) ⟨hx, hb, hml, hown, hts⟩ (c_X9_isLeft l D cI cJ tn x t rdr g q1 h f s2 w mq so sm sp sb sc sd sl a b ra rb (by omega) (by omega) ) (cwV 2 hts gX9_wins_X9_isLeft rfl rfl rfl (by decide +kernel) ⟨Nat.le_of_ble_eq_true rfl, Nat.le_of_ble_eq_true rfl⟩) ⟨RoP.blind, va_recv hK hP (ci := 9) (q0 := 0) rfl rfl, fun U hU hW => ⟨rfl, RoP.call hE hS (hP.sub (ws' := [(x, .inr (9, [.ref t, .ref rdr, .ref g, .ref q1, .ref h, .ref f, .ref s2, .ref w, .ref mq])), (g, .inr (6, [.int (nZ so), .int (nZ sm), .int (nZ sp), .int (nZ sb), .int (nZ sc), .int (nZ sd), .int (nZ sl)]))]) [0, 1] rfl) hU hW⟩⟩ rfl rfl hl.1 rfl (lv_room (Nat.le_of_ble_eq_true rfl)) dX9_wins_3 ⟨Nat.le_of_ble_eq_true rfl, Nat.le_of_ble_eq_true rfl⟩).run) (fun r3 hr3 => ?_)
  subst hr3
  refine z_nameI (fun r3 er3 => ?_)
  refine z_if_eq (tgt := 30) hx hb dX9_wins_6 (by decide) (by omega) (fun c_6 => ?_) (fun c_6 => ?_)
  · refine lv_ldc2 (own := RX9) (v := -3) hx hb hown (hts (.constantLong RX9 126 (-3)) (List.mem_of_getElem? (i := 1) rfl)) dX9_wins_30 ?_
    refine z_litl (-3) (by decide) ?_
    have hP9 := hP.sub (ws' := [(x, .inr (9, [.ref t, .ref rdr, .ref g, .ref q1, .ref h, .ref f, .ref s2, .ref w, .ref mq])), (g, .inr (6, [.int (nZ so), .int (nZ sm), .int (nZ sp), .int (nZ sb), .int (nZ sc), .int (nZ sd), .int (nZ sl)])), (h, .inr (0, [.ref q1, .ref q2, .ref q3])), (q3, .inl (cJ, 28080, .inr (.inl (bZ ch)))), (q1, .inr (3, [.ref p1, .ref p2])), (p1, .inl (cI, 4, .inl (aZ cs))), (p2, .inl (cI, 48, .inl (aZ mp)))]) [0, 1, 2, 3, 4, 5, 6] rfl
    have hD9 := hD.sub (ws' := [(x, .inr (9, [.ref t, .ref rdr, .ref g, .ref q1, .ref h, .ref f, .ref s2, .ref w, .ref mq])), (g, .inr (6, [.int (nZ so), .int (nZ sm), .int (nZ sp), .int (nZ sb), .int (nZ sc), .int (nZ sd), .int (nZ sl)])), (h, .inr (0, [.ref q1, .ref q2, .ref q3])), (q3, .inl (cJ, 28080, .inr (.inl (bZ ch)))), (q1, .inr (3, [.ref p1, .ref p2])), (p1, .inl (cI, 4, .inl (aZ cs))), (p2, .inl (cI, 48, .inl (aZ mp)))]) [0, 1, 2, 3, 4, 5, 6] (by decide) rfl
    exact W.lret (v := lZ (-3)) hx hb hr (fun t9 ht9 _ => ⟨⟨lZ (-3), (ch), rfl, ⟨congrArg lZ (show (-3 : Int) = if ((0 ≤ a ∧ a ≤ so) ∧ (0 ≤ b ∧ b ≤ sm)) ∧ (0 ≤ n ∧ n ≤ 999) ∧ (0 ≤ d ∧ d ≤ 1) then loF (WN cs mp a.toNat b n) ((10 : Int) ^ a.toNat) d else -3 from (by rw [if_neg (by omega)])), hmemo⟩, ⟨by rw [ht9]; exact hP9, hD9⟩⟩, hS.F ht9⟩) hS.2.2 dX9_wins_33
  · refine lv_iload_n hx hb dX9_wins_9 rfl (lv_at hl 3 rfl) ?_
    refine lv_iconst (v := nZ 0) hx hb dX9_wins_10 rfl ?_
    refine lv_sipush (v := nZ 999) hx hb dX9_wins_11 (by decide) ?_
    refine vp_callSi ((va_runS (As := [.int (nZ n), .int (nZ 0), .int (nZ 999)]) (rest := []) ⟨hx, hb, hml, hown, hts⟩ (c_X9_within l D cI cJ tn n 0 999 rn (by decide) (by decide) ) (va_cwS 3 hts gX9_wins_X9_within rfl rfl rfl (by decide +kernel) ⟨Nat.le_of_ble_eq_true rfl, Nat.le_of_ble_eq_true rfl⟩) ⟨RoP.blind, fun U hU hW => ⟨rfl, RoP.call hE hS (hP.sub (ws' := []) [] rfl) hU hW⟩⟩ rfl rfl hl.1 rfl (lv_room (Nat.le_of_ble_eq_true rfl)) dX9_wins_14 ⟨Nat.le_of_ble_eq_true rfl, Nat.le_of_ble_eq_true rfl⟩).run) (fun r14 hr14 => ?_)
    subst hr14
    refine z_nameI (fun r14 er14 => ?_)
    refine z_if_eq (tgt := 30) hx hb dX9_wins_17 (by decide) (by omega) (fun c_17 => ?_) (fun c_17 => ?_)
    · refine lv_ldc2 (own := RX9) (v := -3) hx hb hown (hts (.constantLong RX9 126 (-3)) (List.mem_of_getElem? (i := 1) rfl)) dX9_wins_30 ?_
      refine z_litl (-3) (by decide) ?_
      have hP9 := hP.sub (ws' := [(x, .inr (9, [.ref t, .ref rdr, .ref g, .ref q1, .ref h, .ref f, .ref s2, .ref w, .ref mq])), (g, .inr (6, [.int (nZ so), .int (nZ sm), .int (nZ sp), .int (nZ sb), .int (nZ sc), .int (nZ sd), .int (nZ sl)])), (h, .inr (0, [.ref q1, .ref q2, .ref q3])), (q3, .inl (cJ, 28080, .inr (.inl (bZ ch)))), (q1, .inr (3, [.ref p1, .ref p2])), (p1, .inl (cI, 4, .inl (aZ cs))), (p2, .inl (cI, 48, .inl (aZ mp)))]) [0, 1, 2, 3, 4, 5, 6] rfl
      have hD9 := hD.sub (ws' := [(x, .inr (9, [.ref t, .ref rdr, .ref g, .ref q1, .ref h, .ref f, .ref s2, .ref w, .ref mq])), (g, .inr (6, [.int (nZ so), .int (nZ sm), .int (nZ sp), .int (nZ sb), .int (nZ sc), .int (nZ sd), .int (nZ sl)])), (h, .inr (0, [.ref q1, .ref q2, .ref q3])), (q3, .inl (cJ, 28080, .inr (.inl (bZ ch)))), (q1, .inr (3, [.ref p1, .ref p2])), (p1, .inl (cI, 4, .inl (aZ cs))), (p2, .inl (cI, 48, .inl (aZ mp)))]) [0, 1, 2, 3, 4, 5, 6] (by decide) rfl
      exact W.lret (v := lZ (-3)) hx hb hr (fun t9 ht9 _ => ⟨⟨lZ (-3), (ch), rfl, ⟨congrArg lZ (show (-3 : Int) = if ((0 ≤ a ∧ a ≤ so) ∧ (0 ≤ b ∧ b ≤ sm)) ∧ (0 ≤ n ∧ n ≤ 999) ∧ (0 ≤ d ∧ d ≤ 1) then loF (WN cs mp a.toNat b n) ((10 : Int) ^ a.toNat) d else -3 from (by rw [if_neg (by omega)])), hmemo⟩, ⟨by rw [ht9]; exact hP9, hD9⟩⟩, hS.F ht9⟩) hS.2.2 dX9_wins_33
    · refine lv_iload hx hb dX9_wins_20 (lv_at hl 4 rfl) ?_
      refine lv_iconst (v := nZ 0) hx hb dX9_wins_22 rfl ?_
      refine lv_iconst (v := nZ 1) hx hb dX9_wins_23 rfl ?_
      refine vp_callSi ((va_runS (As := [.int (nZ d), .int (nZ 0), .int (nZ 1)]) (rest := []) ⟨hx, hb, hml, hown, hts⟩ (c_X9_within l D cI cJ tn d 0 1 rd (by decide) (by decide) ) (va_cwS 3 hts gX9_wins_X9_within rfl rfl rfl (by decide +kernel) ⟨Nat.le_of_ble_eq_true rfl, Nat.le_of_ble_eq_true rfl⟩) ⟨RoP.blind, fun U hU hW => ⟨rfl, RoP.call hE hS (hP.sub (ws' := []) [] rfl) hU hW⟩⟩ rfl rfl hl.1 rfl (lv_room (Nat.le_of_ble_eq_true rfl)) dX9_wins_24 ⟨Nat.le_of_ble_eq_true rfl, Nat.le_of_ble_eq_true rfl⟩).run) (fun r24 hr24 => ?_)
      subst hr24
      refine z_nameI (fun r24 er24 => ?_)
      refine z_if_ne (tgt := 34) hx hb dX9_wins_27 (by decide) (by omega) (fun c_27 => ?_) (fun c_27 => ?_)
      · refine lv_aload_n hx hb dX9_wins_34 rfl (lv_at hl 0 rfl) ?_
        refine va_get (D := D) (ci := 9) (v := .ref h) (C := RX9) (T := TX9) (N := 9) hx hb hts iX9 hown hK hP 0 rfl rfl 4 (by decide) (hts (.fieldLink RX9 44 "RainTarget" "batting" "LRainTarget$Batting;") (List.mem_of_getElem? (i := 2) rfl)) (fun _ h9 => h9) rfl dX9_wins_35 ?_
        refine lv_iload_n hx hb dX9_wins_38 rfl (lv_at hl 1 rfl) ?_
        refine z_topi (y := (a.toNat : Int)) (by omega) ?_
        refine lv_iload_n hx hb dX9_wins_39 rfl (lv_at hl 2 rfl) ?_
        refine lv_iload_n hx hb dX9_wins_40 rfl (lv_at hl 3 rfl) ?_
        have hFc := va_free (wc := [(h, .inr (0, [.ref q1, .ref q2, .ref q3])), (q3, .inl (cJ, 28080, .inr (.inl (bZ ch)))), (q1, .inr (3, [.ref p1, .ref p2])), (p1, .inl (cI, 4, .inl (aZ cs))), (p2, .inl (cI, 48, .inl (aZ mp)))]) hD hS hA [2, 3, 4, 5, 6] rfl
        have hPc := hP.sub (ws' := [(h, .inr (0, [.ref q1, .ref q2, .ref q3])), (q3, .inl (cJ, 28080, .inr (.inl (bZ ch)))), (q1, .inr (3, [.ref p1, .ref p2])), (p1, .inl (cI, 4, .inl (aZ cs))), (p2, .inl (cI, 48, .inl (aZ mp)))]) [2, 3, 4, 5, 6] rfl
        have hDc := hD.sub (ws' := [(h, .inr (0, [.ref q1, .ref q2, .ref q3])), (q3, .inl (cJ, 28080, .inr (.inl (bZ ch)))), (q1, .inr (3, [.ref p1, .ref p2])), (p1, .inl (cI, 4, .inl (aZ cs))), (p2, .inl (cI, 48, .inl (aZ mp)))]) [2, 3, 4, 5, 6] (by decide) rfl
        refine va_calll (va_runVN (As := [.int (nZ (a.toNat : Int)), .int (nZ b), .int (nZ n)]) (rest := []) ⟨hx, hb, hml, hown, hts⟩ (c_X0_chance l D cI cJ tn s.heap.size h q1 q2 q3 p1 p2 cs mp a.toNat ch b n hM (by first | assumption | omega) hmemo (by first | assumption | omega) (by first | assumption | omega) (by first | assumption | omega) (by first | assumption | omega) ) ⟨va_cnB 3 hts gX9_wins_X0_chance_n140 rfl rfl rfl (nw_X9_140 hN) (hts (.initialized RX0) (List.mem_of_getElem? (i := 13) rfl)) (by decide +kernel) ⟨by show 2 * a.toNat + 3 + 1 ≤ 28; omega, by show 8 + (8 + 11) + (60 * a.toNat + 100) ≤ 847; omega⟩, (hts (.instanceMethod yX0_chance) (List.mem_of_getElem? (i := 12) rfl)), (hts (.selects RX0 yX0_chance yX0_chance) (List.mem_of_getElem? (i := 14) rfl))⟩ ⟨WrP.blind, va_recv hK hP (ci := 0) (q0 := 2) rfl rfl, fun U hU hW => ⟨rfl, WrP.call hE hS hPc hDc hFc hU hW⟩⟩ rfl rfl hl.1 rfl (lv_room (Nat.le_of_ble_eq_true rfl)) dX9_wins_41 ⟨Nat.le_of_ble_eq_true rfl, Nat.le_of_ble_eq_true rfl⟩) hS (fun q _ h => hFc q h) hFc (fun r41 u9 t9 H1 locs ht9 hvm hv41 hB9 hz9 hk9 hS => ?_)
        obtain ⟨ch2_41, rfl⟩ : ∃ z, z = u9 := ⟨_, rfl⟩
        obtain ⟨hP8, hD8⟩ := hB9
        rw [ht9] at hP8
        obtain ⟨hq41, hw41⟩ : r41 = lZ (WN cs mp a.toNat b n) ∧ MemoOK cs mp ch2_41 := hv41
        subst hq41
        obtain ⟨hP, hD⟩ := va_join (wr := [(x, .inr (9, [.ref t, .ref rdr, .ref g, .ref q1, .ref h, .ref f, .ref s2, .ref w, .ref mq])), (g, .inr (6, [.int (nZ so), .int (nZ sm), .int (nZ sp), .int (nZ sb), .int (nZ sc), .int (nZ sd), .int (nZ sl)]))]) (w1 := [(h, .inr (0, [.ref q1, .ref q2, .ref q3])), (q3, .inl (cJ, 28080, .inr (.inl (bZ ch2_41)))), (q1, .inr (3, [.ref p1, .ref p2])), (p1, .inl (cI, 4, .inl (aZ cs))), (p2, .inl (cI, 48, .inl (aZ mp)))]) hP hD [2, 3, 4, 5, 6] [0, 1] rfl rfl (by decide) (by decide) hk9 hFc hP8 hD8
        generalize H1 = H at hP hS ⊢
        have hP : va_P D vwCl [(x, .inr (9, [.ref t, .ref rdr, .ref g, .ref q1, .ref h, .ref f, .ref s2, .ref w, .ref mq])), (g, .inr (6, [.int (nZ so), .int (nZ sm), .int (nZ sp), .int (nZ sb), .int (nZ sc), .int (nZ sd), .int (nZ sl)])), (h, .inr (0, [.ref q1, .ref q2, .ref q3])), (q3, .inl (cJ, 28080, .inr (.inl (bZ ch2_41)))), (q1, .inr (3, [.ref p1, .ref p2])), (p1, .inl (cI, 4, .inl (aZ cs))), (p2, .inl (cI, 48, .inl (aZ mp)))] H := hP
        have hD : va_D A [(x, .inr (9, [.ref t, .ref rdr, .ref g, .ref q1, .ref h, .ref f, .ref s2, .ref w, .ref mq])), (g, .inr (6, [.int (nZ so), .int (nZ sm), .int (nZ sp), .int (nZ sb), .int (nZ sc), .int (nZ sd), .int (nZ sl)])), (h, .inr (0, [.ref q1, .ref q2, .ref q3])), (q3, .inl (cJ, 28080, .inr (.inl (bZ ch2_41)))), (q1, .inr (3, [.ref p1, .ref p2])), (p1, .inl (cI, 4, .inl (aZ cs))), (p2, .inl (cI, 48, .inl (aZ mp)))] := hD
        refine z_nameL (fun r41 er41 => ?_)
        refine lv_iload_n hx hb dX9_wins_44 rfl (lv_at hl 1 rfl) ?_
        refine vp_callSl ((va_runS (As := [.int (nZ a)]) (rest := [.long (lZ r41)]) ⟨hx, hb, hml, hown, hts⟩ (c_X9_power l D cI cJ tn a ra ) (va_cwS 1 hts gX9_wins_X9_power rfl rfl rfl (by decide +kernel) ⟨Nat.le_of_ble_eq_true rfl, Nat.le_of_ble_eq_true rfl⟩) ⟨RoP.blind, fun U hU hW => ⟨rfl, RoP.call hE hS (hP.sub (ws' := []) [] rfl) hU hW⟩⟩ rfl rfl hl.1 rfl (lv_room (Nat.le_of_ble_eq_true rfl)) dX9_wins_45 ⟨Nat.le_of_ble_eq_true rfl, Nat.le_of_ble_eq_true rfl⟩).run) (fun r45 hr45 => ?_)
        subst hr45
        refine z_nameL (fun r45 er45 => ?_)
        have e45 : r45 = (10 : Int) ^ a.toNat := by rw [er45, if_pos (by omega)]
        have hk0 := WN_nn hM a.toNat b n
        have hk1 := WN_top hM (show a.toNat ≤ 12 by omega) b n
        have ht := tn_nn (u := a) (by omega) (by omega)
        refine lv_iload hx hb dX9_wins_48 (lv_at hl 4 rfl) ?_
        refine vp_callSl ((va_runS (As := [.long (lZ r41), .long (lZ r45), .int (nZ d)]) (rest := []) ⟨hx, hb, hml, hown, hts⟩ (c_X9_lowest l D cI cJ tn r41 r45 d (by first | assumption | omega) (by first | assumption | omega) (by first | assumption | omega) (by first | assumption | omega) rd ) (va_cwS 3 hts gX9_wins_X9_lowest rfl rfl rfl (by decide +kernel) ⟨Nat.le_of_ble_eq_true rfl, Nat.le_of_ble_eq_true rfl⟩) ⟨RoP.blind, fun U hU hW => ⟨rfl, RoP.call hE hS (hP.sub (ws' := []) [] rfl) hU hW⟩⟩ rfl rfl hl.1 rfl (lv_room (Nat.le_of_ble_eq_true rfl)) dX9_wins_50 ⟨Nat.le_of_ble_eq_true rfl, Nat.le_of_ble_eq_true rfl⟩).run) (fun r50 hr50 => ?_)
        subst hr50
        refine z_nameL (fun r50 er50 => ?_)
        have hP9 := hP.sub (ws' := [(x, .inr (9, [.ref t, .ref rdr, .ref g, .ref q1, .ref h, .ref f, .ref s2, .ref w, .ref mq])), (g, .inr (6, [.int (nZ so), .int (nZ sm), .int (nZ sp), .int (nZ sb), .int (nZ sc), .int (nZ sd), .int (nZ sl)])), (h, .inr (0, [.ref q1, .ref q2, .ref q3])), (q3, .inl (cJ, 28080, .inr (.inl (bZ ch2_41)))), (q1, .inr (3, [.ref p1, .ref p2])), (p1, .inl (cI, 4, .inl (aZ cs))), (p2, .inl (cI, 48, .inl (aZ mp)))]) [0, 1, 2, 3, 4, 5, 6] rfl
        have hD9 := hD.sub (ws' := [(x, .inr (9, [.ref t, .ref rdr, .ref g, .ref q1, .ref h, .ref f, .ref s2, .ref w, .ref mq])), (g, .inr (6, [.int (nZ so), .int (nZ sm), .int (nZ sp), .int (nZ sb), .int (nZ sc), .int (nZ sd), .int (nZ sl)])), (h, .inr (0, [.ref q1, .ref q2, .ref q3])), (q3, .inl (cJ, 28080, .inr (.inl (bZ ch2_41)))), (q1, .inr (3, [.ref p1, .ref p2])), (p1, .inl (cI, 4, .inl (aZ cs))), (p2, .inl (cI, 48, .inl (aZ mp)))]) [0, 1, 2, 3, 4, 5, 6] (by decide) rfl
        exact W.lret (v := lZ r50) hx hb hr (fun t9 ht9 _ => ⟨⟨lZ r50, (ch2_41), rfl, ⟨congrArg lZ (show (r50 : Int) = if ((0 ≤ a ∧ a ≤ so) ∧ (0 ≤ b ∧ b ≤ sm)) ∧ (0 ≤ n ∧ n ≤ 999) ∧ (0 ≤ d ∧ d ≤ 1) then loF (WN cs mp a.toNat b n) ((10 : Int) ^ a.toNat) d else -3 from (by rw [er50, er41, e45, if_pos (by omega)])), hw41⟩, ⟨by rw [ht9]; exact hP9, hD9⟩⟩, hS.F ht9⟩) hS.2.2 dX9_wins_53
      · refine lv_ldc2 (own := RX9) (v := -3) hx hb hown (hts (.constantLong RX9 126 (-3)) (List.mem_of_getElem? (i := 1) rfl)) dX9_wins_30 ?_
        refine z_litl (-3) (by decide) ?_
        have hP9 := hP.sub (ws' := [(x, .inr (9, [.ref t, .ref rdr, .ref g, .ref q1, .ref h, .ref f, .ref s2, .ref w, .ref mq])), (g, .inr (6, [.int (nZ so), .int (nZ sm), .int (nZ sp), .int (nZ sb), .int (nZ sc), .int (nZ sd), .int (nZ sl)])), (h, .inr (0, [.ref q1, .ref q2, .ref q3])), (q3, .inl (cJ, 28080, .inr (.inl (bZ ch)))), (q1, .inr (3, [.ref p1, .ref p2])), (p1, .inl (cI, 4, .inl (aZ cs))), (p2, .inl (cI, 48, .inl (aZ mp)))]) [0, 1, 2, 3, 4, 5, 6] rfl
        have hD9 := hD.sub (ws' := [(x, .inr (9, [.ref t, .ref rdr, .ref g, .ref q1, .ref h, .ref f, .ref s2, .ref w, .ref mq])), (g, .inr (6, [.int (nZ so), .int (nZ sm), .int (nZ sp), .int (nZ sb), .int (nZ sc), .int (nZ sd), .int (nZ sl)])), (h, .inr (0, [.ref q1, .ref q2, .ref q3])), (q3, .inl (cJ, 28080, .inr (.inl (bZ ch)))), (q1, .inr (3, [.ref p1, .ref p2])), (p1, .inl (cI, 4, .inl (aZ cs))), (p2, .inl (cI, 48, .inl (aZ mp)))]) [0, 1, 2, 3, 4, 5, 6] (by decide) rfl
        exact W.lret (v := lZ (-3)) hx hb hr (fun t9 ht9 _ => ⟨⟨lZ (-3), (ch), rfl, ⟨congrArg lZ (show (-3 : Int) = if ((0 ≤ a ∧ a ≤ so) ∧ (0 ≤ b ∧ b ≤ sm)) ∧ (0 ≤ n ∧ n ≤ 999) ∧ (0 ≤ d ∧ d ≤ 1) then loF (WN cs mp a.toNat b n) ((10 : Int) ^ a.toNat) d else -3 from (by rw [if_neg (by omega)])), hmemo⟩, ⟨by rw [ht9]; exact hP9, hD9⟩⟩, hS.F ht9⟩) hS.2.2 dX9_wins_33

set_option maxHeartbeats 4000000 in
set_option maxRecDepth 100000 in
theorem c_X9_best (l : Launch) (D : va_G) (cI cJ : ClassId) (tn : Nat) (sz : Nat) (x : Nat) (t : Nat) (rdr : Nat) (g : Nat) (q1 : Nat) (h : Nat) (f : Nat) (s2 : Nat) (w : Nat) (mq : Nat) (q2 : Nat) (q3 : Nat) (p1 : Nat) (p2 : Nat) (me : Int → Int) (ch : Int → Int) (cs : Int → Int) (mp : Int → Int) (so : Int) (sm : Int) (sp : Int) (sb : Int) (sc : Int) (sd : Int) (sl : Int) (a : Int) (b : Int) (n : Int) (hM : MoodOK cs mp) (ho1 : 1 ≤ so) (ho : so ≤ 12) (hm0 : 0 ≤ sm) (hm : sm ≤ 10) (hMe : MeanOK cs mp me) (hmemo : MemoOK cs mp ch) (ra : I32 a) (rb : I32 b) (rn : I32 n)  : Met l yX9_best wsX9_best ({ frames := 29, cells := 0, slots := 0, locals := 871 } : Room) (va_Pc [.ref x, .int (nZ a), .int (nZ b), .int (nZ n)] (WrP D cI cJ tn [(x, .inr (9, [.ref t, .ref rdr, .ref g, .ref q1, .ref h, .ref f, .ref s2, .ref w, .ref mq])), (g, .inr (6, [.int (nZ so), .int (nZ sm), .int (nZ sp), .int (nZ sb), .int (nZ sc), .int (nZ sd), .int (nZ sl)])), (h, .inr (0, [.ref q1, .ref q2, .ref q3])), (q2, .inl (cJ, 143, .inr (.inl (bZ me)))), (q3, .inl (cJ, 28080, .inr (.inl (bZ ch)))), (q1, .inr (3, [.ref p1, .ref p2])), (p1, .inl (cI, 4, .inl (aZ cs))), (p2, .inl (cI, 48, .inl (aZ mp)))] sz)) (va_Qi (fun (r9 : Int32) (u9 : (Int → Int)) => r9 = nZ (if ((0 ≤ a ∧ a ≤ so) ∧ (0 ≤ b ∧ b ≤ sm)) ∧ (-1 ≤ n ∧ n ≤ 999) then (if a = 0 ∨ b = 0 ∨ n = 0 then -1 else if n = -1 then bmN (fun m => decide (0 < cs m ∧ MKin cs mp m (a - 1).toNat b = MK cs mp a.toNat b)) 4 0 else bmN (fun m => decide (0 < cs m ∧ WNin cs mp m (a.toNat - 1) b n = WN cs mp a.toNat b n)) 4 0) else -3) ∧ MemoOK cs mp u9) (fun u9 t9 => WrQ D (va_A [(x, .inr (9, [.ref t, .ref rdr, .ref g, .ref q1, .ref h, .ref f, .ref s2, .ref w, .ref mq])), (g, .inr (6, [.int (nZ so), .int (nZ sm), .int (nZ sp), .int (nZ sb), .int (nZ sc), .int (nZ sd), .int (nZ sl)])), (h, .inr (0, [.ref q1, .ref q2, .ref q3])), (q2, .inl (cJ, 143, .inr (.inl (bZ me)))), (q3, .inl (cJ, 28080, .inr (.inl (bZ ch)))), (q1, .inr (3, [.ref p1, .ref p2])), (p1, .inl (cI, 4, .inl (aZ cs))), (p2, .inl (cI, 48, .inl (aZ mp)))] sz) [(x, .inr (9, [.ref t, .ref rdr, .ref g, .ref q1, .ref h, .ref f, .ref s2, .ref w, .ref mq])), (g, .inr (6, [.int (nZ so), .int (nZ sm), .int (nZ sp), .int (nZ sb), .int (nZ sc), .int (nZ sd), .int (nZ sl)])), (h, .inr (0, [.ref q1, .ref q2, .ref q3])), (q2, .inl (cJ, 143, .inr (.inl (bZ me)))), (q3, .inl (cJ, 28080, .inr (.inl (bZ u9)))), (q1, .inr (3, [.ref p1, .ref p2])), (p1, .inl (cI, 4, .inl (aZ cs))), (p2, .inl (cI, 48, .inl (aZ mp)))] t9) (va_A [(x, .inr (9, [.ref t, .ref rdr, .ref g, .ref q1, .ref h, .ref f, .ref s2, .ref w, .ref mq])), (g, .inr (6, [.int (nZ so), .int (nZ sm), .int (nZ sp), .int (nZ sb), .int (nZ sc), .int (nZ sd), .int (nZ sl)])), (h, .inr (0, [.ref q1, .ref q2, .ref q3])), (q2, .inl (cJ, 143, .inr (.inl (bZ me)))), (q3, .inl (cJ, 28080, .inr (.inl (bZ ch)))), (q1, .inr (3, [.ref p1, .ref p2])), (p1, .inl (cI, 4, .inl (aZ cs))), (p2, .inl (cI, 48, .inl (aZ mp)))] sz)) 0 0 (va_A [(x, .inr (9, [.ref t, .ref rdr, .ref g, .ref q1, .ref h, .ref f, .ref s2, .ref w, .ref mq])), (g, .inr (6, [.int (nZ so), .int (nZ sm), .int (nZ sp), .int (nZ sb), .int (nZ sc), .int (nZ sd), .int (nZ sl)])), (h, .inr (0, [.ref q1, .ref q2, .ref q3])), (q2, .inl (cJ, 143, .inr (.inl (bZ me)))), (q3, .inl (cJ, 28080, .inr (.inl (bZ ch)))), (q1, .inr (3, [.ref p1, .ref p2])), (p1, .inl (cI, 4, .inl (aZ cs))), (p2, .inl (cI, 48, .inl (aZ mp)))] sz) := by
  refine Met.ofW (cc := cX9_best) (maxL := 4) (ret := (some .int)) (by decide) rfl ?_
  intro p e s m args below meth c s₁ B hml hv
  obtain ⟨rfl, hsz, hE, hP, hD0⟩ := hv
  have hx := B.exec
  have hb := B.bytes
  have hr := B.returns
  have hts := atoms_spec (ws := wsX9_best) B.pre
  have hown : s.vm.findClass RX9 = some m.cls := findClass_of_methodNamed B.named
  have hlocks := B.notSynchronized
  subst hsz
  have hD := hD0.self (sz := s.heap.size)
  generalize hAe : va_A [(x, .inr (9, [.ref t, .ref rdr, .ref g, .ref q1, .ref h, .ref f, .ref s2, .ref w, .ref mq])), (g, .inr (6, [.int (nZ so), .int (nZ sm), .int (nZ sp), .int (nZ sb), .int (nZ sc), .int (nZ sd), .int (nZ sl)])), (h, .inr (0, [.ref q1, .ref q2, .ref q3])), (q2, .inl (cJ, 143, .inr (.inl (bZ me)))), (q3, .inl (cJ, 28080, .inr (.inl (bZ ch)))), (q1, .inr (3, [.ref p1, .ref p2])), (p1, .inl (cI, 4, .inl (aZ cs))), (p2, .inl (cI, 48, .inl (aZ mp)))] s.heap.size = A at hD hE ⊢
  have hA : ∀ q : Nat, s.heap.size ≤ q → A q := fun q h => by rw [← hAe]; exact Or.inr h
  have hS : va_S A s.heap s.heap [] := va_S.rf
  have hK := hE.1
  have hN := hE.2.1
  have hl := lv_entry ([.ref x, .int (nZ a), .int (nZ b), .int (nZ n)]) (n := 4) (Nat.le_of_ble_eq_true rfl)
  rw [lg_entry_eq]
  generalize (lg_sl ([.ref x, .int (nZ a), .int (nZ b), .int (nZ n)]) ++ List.replicate (4 - (lg_sl ([.ref x, .int (nZ a), .int (nZ b), .int (nZ n)])).length) Slot.unset).toArray = ls at hl ⊢
  have hl : lv_has ls 4 [(0, .ref x), (1, .int (nZ a)), (2, .int (nZ b)), (3, .int (nZ n))] := hl
  have iX9 : ∀ w ∈ u_ws RX9 TX9 9, w ∈ wsX9_best := fun _ h => List.mem_cons_of_mem _ (List.mem_append_left _ (List.mem_append_left _ (List.mem_append_left _ (List.mem_append_right _ h))))
  refine lv_aload_n hx hb dX9_best_0 rfl (lv_at hl 0 rfl) ?_
  refine lv_iload_n hx hb dX9_best_1 rfl (lv_at hl 1 rfl) ?_
  refine lv_iload_n hx hb dX9_best_2 rfl (lv_at hl 2 rfl) ?_
  refine vp_callSi ((va_runV (As := [.int (nZ a), .int (nZ b)]) (rest := []) ⟨hx, hb, hml, hown, hts⟩ (c_X9_isLeft l D cI cJ tn x t rdr g q1 h f s2 w mq so sm sp sb sc sd sl a b ra rb (by omega) (by omega) ) (cwV 2 hts gX9_best_X9_isLeft rfl rfl rfl (by decide +kernel) ⟨Nat.le_of_ble_eq_true rfl, Nat.le_of_ble_eq_true rfl⟩) ⟨RoP.blind, va_recv hK hP (ci := 9) (q0 := 0) rfl rfl, fun U hU hW => ⟨rfl, RoP.call hE hS (hP.sub (ws' := [(x, .inr (9, [.ref t, .ref rdr, .ref g, .ref q1, .ref h, .ref f, .ref s2, .ref w, .ref mq])), (g, .inr (6, [.int (nZ so), .int (nZ sm), .int (nZ sp), .int (nZ sb), .int (nZ sc), .int (nZ sd), .int (nZ sl)]))]) [0, 1] rfl) hU hW⟩⟩ rfl rfl hl.1 rfl (lv_room (Nat.le_of_ble_eq_true rfl)) dX9_best_3 ⟨Nat.le_of_ble_eq_true rfl, Nat.le_of_ble_eq_true rfl⟩).run) (fun r3 hr3 => ?_)
  subst hr3
  refine z_nameI (fun r3 er3 => ?_)
  refine z_if_eq (tgt := 20) hx hb dX9_best_6 (by decide) (by omega) (fun c_6 => ?_) (fun c_6 => ?_)
  · refine lv_bipush (v := nZ (-3)) hx hb dX9_best_20 (by decide) ?_
    have hP9 := hP.sub (ws' := [(x, .inr (9, [.ref t, .ref rdr, .ref g, .ref q1, .ref h, .ref f, .ref s2, .ref w, .ref mq])), (g, .inr (6, [.int (nZ so), .int (nZ sm), .int (nZ sp), .int (nZ sb), .int (nZ sc), .int (nZ sd), .int (nZ sl)])), (h, .inr (0, [.ref q1, .ref q2, .ref q3])), (q2, .inl (cJ, 143, .inr (.inl (bZ me)))), (q3, .inl (cJ, 28080, .inr (.inl (bZ ch)))), (q1, .inr (3, [.ref p1, .ref p2])), (p1, .inl (cI, 4, .inl (aZ cs))), (p2, .inl (cI, 48, .inl (aZ mp)))]) [0, 1, 2, 3, 4, 5, 6, 7] rfl
    have hD9 := hD.sub (ws' := [(x, .inr (9, [.ref t, .ref rdr, .ref g, .ref q1, .ref h, .ref f, .ref s2, .ref w, .ref mq])), (g, .inr (6, [.int (nZ so), .int (nZ sm), .int (nZ sp), .int (nZ sb), .int (nZ sc), .int (nZ sd), .int (nZ sl)])), (h, .inr (0, [.ref q1, .ref q2, .ref q3])), (q2, .inl (cJ, 143, .inr (.inl (bZ me)))), (q3, .inl (cJ, 28080, .inr (.inl (bZ ch)))), (q1, .inr (3, [.ref p1, .ref p2])), (p1, .inl (cI, 4, .inl (aZ cs))), (p2, .inl (cI, 48, .inl (aZ mp)))]) [0, 1, 2, 3, 4, 5, 6, 7] (by decide) rfl
    exact W.iret (v := nZ (-3)) hx hb hr (fun t9 ht9 _ => ⟨⟨nZ (-3), (ch), rfl, ⟨congrArg nZ (show (-3 : Int) = if ((0 ≤ a ∧ a ≤ so) ∧ (0 ≤ b ∧ b ≤ sm)) ∧ (-1 ≤ n ∧ n ≤ 999) then (if a = 0 ∨ b = 0 ∨ n = 0 then -1 else if n = -1 then bmN (fun m => decide (0 < cs m ∧ MKin cs mp m (a - 1).toNat b = MK cs mp a.toNat b)) 4 0 else bmN (fun m => decide (0 < cs m ∧ WNin cs mp m (a.toNat - 1) b n = WN cs mp a.toNat b n)) 4 0) else -3 from (by rw [if_neg (by omega)])), hmemo⟩, ⟨by rw [ht9]; exact hP9, hD9⟩⟩, hS.F ht9⟩) hS.2.2 dX9_best_22
  · refine lv_iload_n hx hb dX9_best_9 rfl (lv_at hl 3 rfl) ?_
    refine lv_iconst (v := nZ (-1)) hx hb dX9_best_10 rfl ?_
    refine lv_sipush (v := nZ 999) hx hb dX9_best_11 (by decide) ?_
    refine vp_callSi ((va_runS (As := [.int (nZ n), .int (nZ (-1)), .int (nZ 999)]) (rest := []) ⟨hx, hb, hml, hown, hts⟩ (c_X9_within l D cI cJ tn n (-1) 999 rn (by decide) (by decide) ) (va_cwS 3 hts gX9_best_X9_within rfl rfl rfl (by decide +kernel) ⟨Nat.le_of_ble_eq_true rfl, Nat.le_of_ble_eq_true rfl⟩) ⟨RoP.blind, fun U hU hW => ⟨rfl, RoP.call hE hS (hP.sub (ws' := []) [] rfl) hU hW⟩⟩ rfl rfl hl.1 rfl (lv_room (Nat.le_of_ble_eq_true rfl)) dX9_best_14 ⟨Nat.le_of_ble_eq_true rfl, Nat.le_of_ble_eq_true rfl⟩).run) (fun r14 hr14 => ?_)
    subst hr14
    refine z_nameI (fun r14 er14 => ?_)
    refine z_if_ne (tgt := 23) hx hb dX9_best_17 (by decide) (by omega) (fun c_17 => ?_) (fun c_17 => ?_)
    · refine lv_iload_n hx hb dX9_best_23 rfl (lv_at hl 1 rfl) ?_
      refine z_if_eq (tgt := 35) hx hb dX9_best_24 (by decide) (by omega) (fun c_24 => ?_) (fun c_24 => ?_)
      · refine lv_iconst (v := nZ (-1)) hx hb dX9_best_35 rfl ?_
        have hP9 := hP.sub (ws' := [(x, .inr (9, [.ref t, .ref rdr, .ref g, .ref q1, .ref h, .ref f, .ref s2, .ref w, .ref mq])), (g, .inr (6, [.int (nZ so), .int (nZ sm), .int (nZ sp), .int (nZ sb), .int (nZ sc), .int (nZ sd), .int (nZ sl)])), (h, .inr (0, [.ref q1, .ref q2, .ref q3])), (q2, .inl (cJ, 143, .inr (.inl (bZ me)))), (q3, .inl (cJ, 28080, .inr (.inl (bZ ch)))), (q1, .inr (3, [.ref p1, .ref p2])), (p1, .inl (cI, 4, .inl (aZ cs))), (p2, .inl (cI, 48, .inl (aZ mp)))]) [0, 1, 2, 3, 4, 5, 6, 7] rfl
        have hD9 := hD.sub (ws' := [(x, .inr (9, [.ref t, .ref rdr, .ref g, .ref q1, .ref h, .ref f, .ref s2, .ref w, .ref mq])), (g, .inr (6, [.int (nZ so), .int (nZ sm), .int (nZ sp), .int (nZ sb), .int (nZ sc), .int (nZ sd), .int (nZ sl)])), (h, .inr (0, [.ref q1, .ref q2, .ref q3])), (q2, .inl (cJ, 143, .inr (.inl (bZ me)))), (q3, .inl (cJ, 28080, .inr (.inl (bZ ch)))), (q1, .inr (3, [.ref p1, .ref p2])), (p1, .inl (cI, 4, .inl (aZ cs))), (p2, .inl (cI, 48, .inl (aZ mp)))]) [0, 1, 2, 3, 4, 5, 6, 7] (by decide) rfl
        exact W.iret (v := nZ (-1)) hx hb hr (fun t9 ht9 _ => ⟨⟨nZ (-1), (ch), rfl, ⟨congrArg nZ (show (-1 : Int) = if ((0 ≤ a ∧ a ≤ so) ∧ (0 ≤ b ∧ b ≤ sm)) ∧ (-1 ≤ n ∧ n ≤ 999) then (if a = 0 ∨ b = 0 ∨ n = 0 then -1 else if n = -1 then bmN (fun m => decide (0 < cs m ∧ MKin cs mp m (a - 1).toNat b = MK cs mp a.toNat b)) 4 0 else bmN (fun m => decide (0 < cs m ∧ WNin cs mp m (a.toNat - 1) b n = WN cs mp a.toNat b n)) 4 0) else -3 from (by rw [if_pos (by omega), if_pos (by omega)])), hmemo⟩, ⟨by rw [ht9]; exact hP9, hD9⟩⟩, hS.F ht9⟩) hS.2.2 dX9_best_36
      · refine lv_iload_n hx hb dX9_best_27 rfl (lv_at hl 2 rfl) ?_
        refine z_if_eq (tgt := 35) hx hb dX9_best_28 (by decide) (by omega) (fun c_28 => ?_) (fun c_28 => ?_)
        · refine lv_iconst (v := nZ (-1)) hx hb dX9_best_35 rfl ?_
          have hP9 := hP.sub (ws' := [(x, .inr (9, [.ref t, .ref rdr, .ref g, .ref q1, .ref h, .ref f, .ref s2, .ref w, .ref mq])), (g, .inr (6, [.int (nZ so), .int (nZ sm), .int (nZ sp), .int (nZ sb), .int (nZ sc), .int (nZ sd), .int (nZ sl)])), (h, .inr (0, [.ref q1, .ref q2, .ref q3])), (q2, .inl (cJ, 143, .inr (.inl (bZ me)))), (q3, .inl (cJ, 28080, .inr (.inl (bZ ch)))), (q1, .inr (3, [.ref p1, .ref p2])), (p1, .inl (cI, 4, .inl (aZ cs))), (p2, .inl (cI, 48, .inl (aZ mp)))]) [0, 1, 2, 3, 4, 5, 6, 7] rfl
          have hD9 := hD.sub (ws' := [(x, .inr (9, [.ref t, .ref rdr, .ref g, .ref q1, .ref h, .ref f, .ref s2, .ref w, .ref mq])), (g, .inr (6, [.int (nZ so), .int (nZ sm), .int (nZ sp), .int (nZ sb), .int (nZ sc), .int (nZ sd), .int (nZ sl)])), (h, .inr (0, [.ref q1, .ref q2, .ref q3])), (q2, .inl (cJ, 143, .inr (.inl (bZ me)))), (q3, .inl (cJ, 28080, .inr (.inl (bZ ch)))), (q1, .inr (3, [.ref p1, .ref p2])), (p1, .inl (cI, 4, .inl (aZ cs))), (p2, .inl (cI, 48, .inl (aZ mp)))]) [0, 1, 2, 3, 4, 5, 6, 7] (by decide) rfl
          exact W.iret (v := nZ (-1)) hx hb hr (fun t9 ht9 _ => ⟨⟨nZ (-1), (ch), rfl, ⟨congrArg nZ (show (-1 : Int) = if ((0 ≤ a ∧ a ≤ so) ∧ (0 ≤ b ∧ b ≤ sm)) ∧ (-1 ≤ n ∧ n ≤ 999) then (if a = 0 ∨ b = 0 ∨ n = 0 then -1 else if n = -1 then bmN (fun m => decide (0 < cs m ∧ MKin cs mp m (a - 1).toNat b = MK cs mp a.toNat b)) 4 0 else bmN (fun m => decide (0 < cs m ∧ WNin cs mp m (a.toNat - 1) b n = WN cs mp a.toNat b n)) 4 0) else -3 from (by rw [if_pos (by omega), if_pos (by omega)])), hmemo⟩, ⟨by rw [ht9]; exact hP9, hD9⟩⟩, hS.F ht9⟩) hS.2.2 dX9_best_36
        · refine lv_iload_n hx hb dX9_best_31 rfl (lv_at hl 3 rfl) ?_
          refine z_if_ne (tgt := 37) hx hb dX9_best_32 (by decide) (by omega) (fun c_32 => ?_) (fun c_32 => ?_)
          · refine lv_iload_n hx hb dX9_best_37 rfl (lv_at hl 3 rfl) ?_
            refine lv_iconst (v := nZ (-1)) hx hb dX9_best_38 rfl ?_
            refine z_icmp_ne (tgt := 54) hx hb dX9_best_39 (by decide) (by omega) (by decide) (fun c_39 => ?_) (fun c_39 => ?_)
            · refine lv_aload_n hx hb dX9_best_54 rfl (lv_at hl 0 rfl) ?_
              refine va_get (D := D) (ci := 9) (v := .ref h) (C := RX9) (T := TX9) (N := 9) hx hb hts iX9 hown hK hP 0 rfl rfl 4 (by decide) (hts (.fieldLink RX9 44 "RainTarget" "batting" "LRainTarget$Batting;") (List.mem_of_getElem? (i := 1) rfl)) (fun _ h9 => h9) rfl dX9_best_55 ?_
              refine lv_iload_n hx hb dX9_best_58 rfl (lv_at hl 1 rfl) ?_
              refine z_topi (y := (a.toNat : Int)) (by omega) ?_
              refine lv_iload_n hx hb dX9_best_59 rfl (lv_at hl 2 rfl) ?_
              refine lv_iload_n hx hb dX9_best_60 rfl (lv_at hl 3 rfl) ?_
              have hFc := va_free (wc := [(h, .inr (0, [.ref q1, .ref q2, .ref q3])), (q3, .inl (cJ, 28080, .inr (.inl (bZ ch)))), (q1, .inr (3, [.ref p1, .ref p2])), (p1, .inl (cI, 4, .inl (aZ cs))), (p2, .inl (cI, 48, .inl (aZ mp)))]) hD hS hA [2, 4, 5, 6, 7] rfl
              have hPc := hP.sub (ws' := [(h, .inr (0, [.ref q1, .ref q2, .ref q3])), (q3, .inl (cJ, 28080, .inr (.inl (bZ ch)))), (q1, .inr (3, [.ref p1, .ref p2])), (p1, .inl (cI, 4, .inl (aZ cs))), (p2, .inl (cI, 48, .inl (aZ mp)))]) [2, 4, 5, 6, 7] rfl
              have hDc := hD.sub (ws' := [(h, .inr (0, [.ref q1, .ref q2, .ref q3])), (q3, .inl (cJ, 28080, .inr (.inl (bZ ch)))), (q1, .inr (3, [.ref p1, .ref p2])), (p1, .inl (cI, 4, .inl (aZ cs))), (p2, .inl (cI, 48, .inl (aZ mp)))]) [2, 4, 5, 6, 7] (by decide) rfl
              refine va_calli (va_runVN (As := [.int (nZ (a.toNat : Int)), .int (nZ b), .int (nZ n)]) (rest := []) ⟨hx, hb, hml, hown, hts⟩ (c_X0_moodForChance l D cI cJ tn s.heap.size h q1 q2 q3 p1 p2 cs mp a.toNat ch b n hM (by first | assumption | omega) (by first | assumption | omega) hmemo (by first | assumption | omega) (by first | assumption | omega) (by first | assumption | omega) (by first | assumption | omega) ) ⟨va_cnB 3 hts gX9_best_X0_moodForChance_n148 rfl rfl rfl (nw_X9_148 hN) (hts (.initialized RX0) (List.mem_of_getElem? (i := 12) rfl)) (by decide +kernel) ⟨Nat.le_of_ble_eq_true rfl, Nat.le_of_ble_eq_true rfl⟩, (hts (.instanceMethod yX0_moodForChance) (List.mem_of_getElem? (i := 37) rfl)), (hts (.selects RX0 yX0_moodForChance yX0_moodForChance) (List.mem_of_getElem? (i := 38) rfl))⟩ ⟨WrP.blind, va_recv hK hP (ci := 0) (q0 := 2) rfl rfl, fun U hU hW => ⟨rfl, WrP.call hE hS hPc hDc hFc hU hW⟩⟩ rfl rfl hl.1 rfl (lv_room (Nat.le_of_ble_eq_true rfl)) dX9_best_61 ⟨Nat.le_of_ble_eq_true rfl, Nat.le_of_ble_eq_true rfl⟩) hS (fun q _ h => hFc q h) hFc (fun r61 u9 t9 H1 locs ht9 hvm hv61 hB9 hz9 hk9 hS => ?_)
              obtain ⟨ch2_61, rfl⟩ : ∃ z, z = u9 := ⟨_, rfl⟩
              obtain ⟨hP8, hD8⟩ := hB9
              rw [ht9] at hP8
              obtain ⟨hq61, hw61⟩ : r61 = nZ (bmN (fun m => decide (0 < cs m ∧ WNin cs mp m (a.toNat - 1) b n = WN cs mp a.toNat b n)) 4 0) ∧ MemoOK cs mp ch2_61 := hv61
              subst hq61
              obtain ⟨hP, hD⟩ := va_join (wr := [(x, .inr (9, [.ref t, .ref rdr, .ref g, .ref q1, .ref h, .ref f, .ref s2, .ref w, .ref mq])), (g, .inr (6, [.int (nZ so), .int (nZ sm), .int (nZ sp), .int (nZ sb), .int (nZ sc), .int (nZ sd), .int (nZ sl)])), (q2, .inl (cJ, 143, .inr (.inl (bZ me))))]) (w1 := [(h, .inr (0, [.ref q1, .ref q2, .ref q3])), (q3, .inl (cJ, 28080, .inr (.inl (bZ ch2_61)))), (q1, .inr (3, [.ref p1, .ref p2])), (p1, .inl (cI, 4, .inl (aZ cs))), (p2, .inl (cI, 48, .inl (aZ mp)))]) hP hD [2, 4, 5, 6, 7] [0, 1, 3] rfl rfl (by decide) (by decide) hk9 hFc hP8 hD8
              generalize H1 = H at hP hS ⊢
              have hP : va_P D vwCl [(x, .inr (9, [.ref t, .ref rdr, .ref g, .ref q1, .ref h, .ref f, .ref s2, .ref w, .ref mq])), (g, .inr (6, [.int (nZ so), .int (nZ sm), .int (nZ sp), .int (nZ sb), .int (nZ sc), .int (nZ sd), .int (nZ sl)])), (q2, .inl (cJ, 143, .inr (.inl (bZ me)))), (h, .inr (0, [.ref q1, .ref q2, .ref q3])), (q3, .inl (cJ, 28080, .inr (.inl (bZ ch2_61)))), (q1, .inr (3, [.ref p1, .ref p2])), (p1, .inl (cI, 4, .inl (aZ cs))), (p2, .inl (cI, 48, .inl (aZ mp)))] H := hP
              have hD : va_D A [(x, .inr (9, [.ref t, .ref rdr, .ref g, .ref q1, .ref h, .ref f, .ref s2, .ref w, .ref mq])), (g, .inr (6, [.int (nZ so), .int (nZ sm), .int (nZ sp), .int (nZ sb), .int (nZ sc), .int (nZ sd), .int (nZ sl)])), (q2, .inl (cJ, 143, .inr (.inl (bZ me)))), (h, .inr (0, [.ref q1, .ref q2, .ref q3])), (q3, .inl (cJ, 28080, .inr (.inl (bZ ch2_61)))), (q1, .inr (3, [.ref p1, .ref p2])), (p1, .inl (cI, 4, .inl (aZ cs))), (p2, .inl (cI, 48, .inl (aZ mp)))] := hD
              refine z_nameI (fun r61 er61 => ?_)
              have hP9 := hP.sub (ws' := [(x, .inr (9, [.ref t, .ref rdr, .ref g, .ref q1, .ref h, .ref f, .ref s2, .ref w, .ref mq])), (g, .inr (6, [.int (nZ so), .int (nZ sm), .int (nZ sp), .int (nZ sb), .int (nZ sc), .int (nZ sd), .int (nZ sl)])), (h, .inr (0, [.ref q1, .ref q2, .ref q3])), (q2, .inl (cJ, 143, .inr (.inl (bZ me)))), (q3, .inl (cJ, 28080, .inr (.inl (bZ ch2_61)))), (q1, .inr (3, [.ref p1, .ref p2])), (p1, .inl (cI, 4, .inl (aZ cs))), (p2, .inl (cI, 48, .inl (aZ mp)))]) [0, 1, 3, 2, 4, 5, 6, 7] rfl
              have hD9 := hD.sub (ws' := [(x, .inr (9, [.ref t, .ref rdr, .ref g, .ref q1, .ref h, .ref f, .ref s2, .ref w, .ref mq])), (g, .inr (6, [.int (nZ so), .int (nZ sm), .int (nZ sp), .int (nZ sb), .int (nZ sc), .int (nZ sd), .int (nZ sl)])), (h, .inr (0, [.ref q1, .ref q2, .ref q3])), (q2, .inl (cJ, 143, .inr (.inl (bZ me)))), (q3, .inl (cJ, 28080, .inr (.inl (bZ ch2_61)))), (q1, .inr (3, [.ref p1, .ref p2])), (p1, .inl (cI, 4, .inl (aZ cs))), (p2, .inl (cI, 48, .inl (aZ mp)))]) [0, 1, 3, 2, 4, 5, 6, 7] (by decide) rfl
              exact W.iret (v := nZ r61) hx hb hr (fun t9 ht9 _ => ⟨⟨nZ r61, (ch2_61), rfl, ⟨congrArg nZ (show (r61 : Int) = if ((0 ≤ a ∧ a ≤ so) ∧ (0 ≤ b ∧ b ≤ sm)) ∧ (-1 ≤ n ∧ n ≤ 999) then (if a = 0 ∨ b = 0 ∨ n = 0 then -1 else if n = -1 then bmN (fun m => decide (0 < cs m ∧ MKin cs mp m (a - 1).toNat b = MK cs mp a.toNat b)) 4 0 else bmN (fun m => decide (0 < cs m ∧ WNin cs mp m (a.toNat - 1) b n = WN cs mp a.toNat b n)) 4 0) else -3 from (by rw [if_pos (by omega), if_neg (by omega), if_neg (by omega)]; exact er61)), hw61⟩, ⟨by rw [ht9]; exact hP9, hD9⟩⟩, hS.F ht9⟩) hS.2.2 dX9_best_64
            · refine lv_aload_n hx hb dX9_best_42 rfl (lv_at hl 0 rfl) ?_
              refine va_get (D := D) (ci := 9) (v := .ref h) (C := RX9) (T := TX9) (N := 9) hx hb hts iX9 hown hK hP 0 rfl rfl 4 (by decide) (hts (.fieldLink RX9 44 "RainTarget" "batting" "LRainTarget$Batting;") (List.mem_of_getElem? (i := 1) rfl)) (fun _ h9 => h9) rfl dX9_best_43 ?_
              refine lv_iload_n hx hb dX9_best_46 rfl (lv_at hl 1 rfl) ?_
              refine lv_iload_n hx hb dX9_best_47 rfl (lv_at hl 2 rfl) ?_
              refine vp_callSi ((va_runVN (As := [.int (nZ a), .int (nZ b)]) (rest := []) ⟨hx, hb, hml, hown, hts⟩ (c_X0_moodForMean l D cI cJ tn h q1 q2 q3 p1 p2 me cs mp a b hM hMe (by first | assumption | omega) (by first | assumption | omega) (by first | assumption | omega) (by first | assumption | omega) ) ⟨va_cnB 2 hts gX9_best_X0_moodForMean_n144 rfl rfl rfl (nw_X9_144 hN) (hts (.initialized RX0) (List.mem_of_getElem? (i := 12) rfl)) (by decide +kernel) ⟨Nat.le_of_ble_eq_true rfl, Nat.le_of_ble_eq_true rfl⟩, (hts (.instanceMethod yX0_moodForMean) (List.mem_of_getElem? (i := 11) rfl)), (hts (.selects RX0 yX0_moodForMean yX0_moodForMean) (List.mem_of_getElem? (i := 13) rfl))⟩ ⟨RoP.blind, va_recv hK hP (ci := 0) (q0 := 2) rfl rfl, fun U hU hW => ⟨rfl, RoP.call hE hS (hP.sub (ws' := [(h, .inr (0, [.ref q1, .ref q2, .ref q3])), (q2, .inl (cJ, 143, .inr (.inl (bZ me)))), (q1, .inr (3, [.ref p1, .ref p2])), (p1, .inl (cI, 4, .inl (aZ cs))), (p2, .inl (cI, 48, .inl (aZ mp)))]) [2, 3, 5, 6, 7] rfl) hU hW⟩⟩ rfl rfl hl.1 rfl (lv_room (Nat.le_of_ble_eq_true rfl)) dX9_best_48 ⟨Nat.le_of_ble_eq_true rfl, Nat.le_of_ble_eq_true rfl⟩).run) (fun r48 hr48 => ?_)
              subst hr48
              refine z_nameI (fun r48 er48 => ?_)
              refine lv_goto (tgt := 64) hx hb dX9_best_51 (by decide) ?_
              have hP9 := hP.sub (ws' := [(x, .inr (9, [.ref t, .ref rdr, .ref g, .ref q1, .ref h, .ref f, .ref s2, .ref w, .ref mq])), (g, .inr (6, [.int (nZ so), .int (nZ sm), .int (nZ sp), .int (nZ sb), .int (nZ sc), .int (nZ sd), .int (nZ sl)])), (h, .inr (0, [.ref q1, .ref q2, .ref q3])), (q2, .inl (cJ, 143, .inr (.inl (bZ me)))), (q3, .inl (cJ, 28080, .inr (.inl (bZ ch)))), (q1, .inr (3, [.ref p1, .ref p2])), (p1, .inl (cI, 4, .inl (aZ cs))), (p2, .inl (cI, 48, .inl (aZ mp)))]) [0, 1, 2, 3, 4, 5, 6, 7] rfl
              have hD9 := hD.sub (ws' := [(x, .inr (9, [.ref t, .ref rdr, .ref g, .ref q1, .ref h, .ref f, .ref s2, .ref w, .ref mq])), (g, .inr (6, [.int (nZ so), .int (nZ sm), .int (nZ sp), .int (nZ sb), .int (nZ sc), .int (nZ sd), .int (nZ sl)])), (h, .inr (0, [.ref q1, .ref q2, .ref q3])), (q2, .inl (cJ, 143, .inr (.inl (bZ me)))), (q3, .inl (cJ, 28080, .inr (.inl (bZ ch)))), (q1, .inr (3, [.ref p1, .ref p2])), (p1, .inl (cI, 4, .inl (aZ cs))), (p2, .inl (cI, 48, .inl (aZ mp)))]) [0, 1, 2, 3, 4, 5, 6, 7] (by decide) rfl
              exact W.iret (v := nZ r48) hx hb hr (fun t9 ht9 _ => ⟨⟨nZ r48, (ch), rfl, ⟨congrArg nZ (show (r48 : Int) = if ((0 ≤ a ∧ a ≤ so) ∧ (0 ≤ b ∧ b ≤ sm)) ∧ (-1 ≤ n ∧ n ≤ 999) then (if a = 0 ∨ b = 0 ∨ n = 0 then -1 else if n = -1 then bmN (fun m => decide (0 < cs m ∧ MKin cs mp m (a - 1).toNat b = MK cs mp a.toNat b)) 4 0 else bmN (fun m => decide (0 < cs m ∧ WNin cs mp m (a.toNat - 1) b n = WN cs mp a.toNat b n)) 4 0) else -3 from (by rw [if_pos (by omega), if_neg (by omega), if_pos (by omega)]; exact er48)), hmemo⟩, ⟨by rw [ht9]; exact hP9, hD9⟩⟩, hS.F ht9⟩) hS.2.2 dX9_best_64
          · refine lv_iconst (v := nZ (-1)) hx hb dX9_best_35 rfl ?_
            have hP9 := hP.sub (ws' := [(x, .inr (9, [.ref t, .ref rdr, .ref g, .ref q1, .ref h, .ref f, .ref s2, .ref w, .ref mq])), (g, .inr (6, [.int (nZ so), .int (nZ sm), .int (nZ sp), .int (nZ sb), .int (nZ sc), .int (nZ sd), .int (nZ sl)])), (h, .inr (0, [.ref q1, .ref q2, .ref q3])), (q2, .inl (cJ, 143, .inr (.inl (bZ me)))), (q3, .inl (cJ, 28080, .inr (.inl (bZ ch)))), (q1, .inr (3, [.ref p1, .ref p2])), (p1, .inl (cI, 4, .inl (aZ cs))), (p2, .inl (cI, 48, .inl (aZ mp)))]) [0, 1, 2, 3, 4, 5, 6, 7] rfl
            have hD9 := hD.sub (ws' := [(x, .inr (9, [.ref t, .ref rdr, .ref g, .ref q1, .ref h, .ref f, .ref s2, .ref w, .ref mq])), (g, .inr (6, [.int (nZ so), .int (nZ sm), .int (nZ sp), .int (nZ sb), .int (nZ sc), .int (nZ sd), .int (nZ sl)])), (h, .inr (0, [.ref q1, .ref q2, .ref q3])), (q2, .inl (cJ, 143, .inr (.inl (bZ me)))), (q3, .inl (cJ, 28080, .inr (.inl (bZ ch)))), (q1, .inr (3, [.ref p1, .ref p2])), (p1, .inl (cI, 4, .inl (aZ cs))), (p2, .inl (cI, 48, .inl (aZ mp)))]) [0, 1, 2, 3, 4, 5, 6, 7] (by decide) rfl
            exact W.iret (v := nZ (-1)) hx hb hr (fun t9 ht9 _ => ⟨⟨nZ (-1), (ch), rfl, ⟨congrArg nZ (show (-1 : Int) = if ((0 ≤ a ∧ a ≤ so) ∧ (0 ≤ b ∧ b ≤ sm)) ∧ (-1 ≤ n ∧ n ≤ 999) then (if a = 0 ∨ b = 0 ∨ n = 0 then -1 else if n = -1 then bmN (fun m => decide (0 < cs m ∧ MKin cs mp m (a - 1).toNat b = MK cs mp a.toNat b)) 4 0 else bmN (fun m => decide (0 < cs m ∧ WNin cs mp m (a.toNat - 1) b n = WN cs mp a.toNat b n)) 4 0) else -3 from (by rw [if_pos (by omega), if_pos (by omega)])), hmemo⟩, ⟨by rw [ht9]; exact hP9, hD9⟩⟩, hS.F ht9⟩) hS.2.2 dX9_best_36
    · refine lv_bipush (v := nZ (-3)) hx hb dX9_best_20 (by decide) ?_
      have hP9 := hP.sub (ws' := [(x, .inr (9, [.ref t, .ref rdr, .ref g, .ref q1, .ref h, .ref f, .ref s2, .ref w, .ref mq])), (g, .inr (6, [.int (nZ so), .int (nZ sm), .int (nZ sp), .int (nZ sb), .int (nZ sc), .int (nZ sd), .int (nZ sl)])), (h, .inr (0, [.ref q1, .ref q2, .ref q3])), (q2, .inl (cJ, 143, .inr (.inl (bZ me)))), (q3, .inl (cJ, 28080, .inr (.inl (bZ ch)))), (q1, .inr (3, [.ref p1, .ref p2])), (p1, .inl (cI, 4, .inl (aZ cs))), (p2, .inl (cI, 48, .inl (aZ mp)))]) [0, 1, 2, 3, 4, 5, 6, 7] rfl
      have hD9 := hD.sub (ws' := [(x, .inr (9, [.ref t, .ref rdr, .ref g, .ref q1, .ref h, .ref f, .ref s2, .ref w, .ref mq])), (g, .inr (6, [.int (nZ so), .int (nZ sm), .int (nZ sp), .int (nZ sb), .int (nZ sc), .int (nZ sd), .int (nZ sl)])), (h, .inr (0, [.ref q1, .ref q2, .ref q3])), (q2, .inl (cJ, 143, .inr (.inl (bZ me)))), (q3, .inl (cJ, 28080, .inr (.inl (bZ ch)))), (q1, .inr (3, [.ref p1, .ref p2])), (p1, .inl (cI, 4, .inl (aZ cs))), (p2, .inl (cI, 48, .inl (aZ mp)))]) [0, 1, 2, 3, 4, 5, 6, 7] (by decide) rfl
      exact W.iret (v := nZ (-3)) hx hb hr (fun t9 ht9 _ => ⟨⟨nZ (-3), (ch), rfl, ⟨congrArg nZ (show (-3 : Int) = if ((0 ≤ a ∧ a ≤ so) ∧ (0 ≤ b ∧ b ≤ sm)) ∧ (-1 ≤ n ∧ n ≤ 999) then (if a = 0 ∨ b = 0 ∨ n = 0 then -1 else if n = -1 then bmN (fun m => decide (0 < cs m ∧ MKin cs mp m (a - 1).toNat b = MK cs mp a.toNat b)) 4 0 else bmN (fun m => decide (0 < cs m ∧ WNin cs mp m (a.toNat - 1) b n = WN cs mp a.toNat b n)) 4 0) else -3 from (by rw [if_neg (by omega)])), hmemo⟩, ⟨by rw [ht9]; exact hP9, hD9⟩⟩, hS.F ht9⟩) hS.2.2 dX9_best_22

