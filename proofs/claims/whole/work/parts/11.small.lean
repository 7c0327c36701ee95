theorem nZ_nat (n : Nat) : Int32.ofNat n = nZ (n : Int) := by
  show nI n = _; unfold nI nZ; exact (Int32.ofInt_eq_ofNat).symm
def fiF (f : Int → Int) (v : Int) (n : Int) : Int → Int := fun k => if 0 ≤ k ∧ k < n then v else f k
theorem fiF_0 (f : Int → Int) (v : Int) : fiF f v 0 = f := by funext k; unfold fiF; rw [if_neg (by omega)]
theorem fiF_s (f : Int → Int) (v : Int) {n : Int} (h : 0 ≤ n) : uZ (fiF f v n) n v = fiF f v (n + 1) := by
  funext k; unfold fiF uZ
  by_cases q : k = n
  · rw [if_pos q, if_pos (by omega)]
  · rw [if_neg q]
    show (if 0 ≤ k ∧ k < n then v else f k) = _
    by_cases q2 : 0 ≤ k ∧ k < n
    · rw [if_pos q2, if_pos (by omega)]
    · rw [if_neg q2, if_neg (by omega)]
def byteF (b : Int64) (i : Int) : Int := ((b >>> ((nZ (8 * i)).toInt64 &&& 63)) &&& (lZ 255)).toInt32.toInt
def apF (g : Int → Int) (len : Int) (b : Int64) (n : Int) : Int → Int := fun k => if len ≤ k ∧ k < len + n then byteF b (k - len) else g k
theorem apF_0 (g : Int → Int) (len : Int) (b : Int64) : apF g len b 0 = g := by funext k; unfold apF; rw [if_neg (by omega)]
theorem apF_s (g : Int → Int) (len : Int) (b : Int64) {n : Int} (h : 0 ≤ n) : uZ (apF g len b n) (len + n) (byteF b n) = apF g len b (n + 1) := by
  funext k; unfold apF uZ
  by_cases q : k = len + n
  · rw [if_pos q, if_pos (by omega), q]; congr 1; omega
  · rw [if_neg q]
    show (if len ≤ k ∧ k < len + n then byteF b (k - len) else g k) = _
    by_cases q2 : len ≤ k ∧ k < len + n
    · rw [if_pos q2, if_pos (by omega)]
    · rw [if_neg q2, if_neg (by omega)]
def mdF (mp : Int → Int) (k x y z : Int) : Int → Int := uZ (uZ (uZ mp (k + 0) x) (k + 1) y) (k + 2) z
def evF (ev : Int → Int) (size a b d ov mn rn : Int) : Int → Int := uZ (uZ (uZ (uZ (uZ (uZ ev (size * 6 + 0) a) (size * 6 + 1) b) (size * 6 + 2) d) (size * 6 + 3) ov) (size * 6 + 4) mn) (size * 6 + 5) rn
def mtF (pt : Int → Int) (size a b d : Int) : Int → Int := uZ (uZ (uZ pt (size * 3) a) (size * 3 + 1) b) (size * 3 + 2) d
def rkN (ov : Int → Int) (i : Int) : Nat → Int
  | 0 => 0
  | n + 1 => rkN ov i n + (if ov (n : Int) < ov i ∨ (ov (n : Int) = ov i ∧ (n : Int) < i) then 1 else 0)
theorem toN_s {j : Int} (h : 0 ≤ j) : (j + 1).toNat = j.toNat + 1 := by omega
theorem rkN_s (ov : Int → Int) (i : Int) {j : Int} (h : 0 ≤ j) : rkN ov i (j + 1).toNat = rkN ov i j.toNat + (if ov j < ov i ∨ (ov j = ov i ∧ j < i) then 1 else 0) := by
  rw [toN_s h]; show rkN ov i j.toNat + _ = _; rw [Int.toNat_of_nonneg h]
theorem rkN_bd (ov : Int → Int) (i : Int) : ∀ n : Nat, 0 ≤ rkN ov i n ∧ rkN ov i n ≤ (n : Int)
  | 0 => ⟨Int.le_refl _, Int.le_refl _⟩
  | n + 1 => by
    have h := rkN_bd ov i n
    show 0 ≤ rkN ov i n + _ ∧ rkN ov i n + _ ≤ _
    split <;> omega
def woN (ov : Int → Int) (t al : Int) : Nat → Int
  | 0 => 0
  | n + 1 => woN ov t al n + (if t ≤ rkN ov (n : Int) al.toNat then ov (n : Int) else 0)
theorem woN_s (ov : Int → Int) (t al : Int) {j : Int} (h : 0 ≤ j) : woN ov t al (j + 1).toNat = woN ov t al j.toNat + (if t ≤ rkN ov j al.toNat then ov j else 0) := by
  rw [toN_s h]; show woN ov t al j.toNat + _ = _; rw [Int.toNat_of_nonneg h]
def lrN (ev : Int → Int) : Nat → Int
  | 0 => -1
  | n + 1 => if ev ((n : Int) * 6 + 0) = 1 then (n : Int) else lrN ev n
theorem lrN_s (ev : Int → Int) {j : Int} (h : 0 ≤ j) : lrN ev (j + 1).toNat = if ev (j * 6 + 0) = 1 then j else lrN ev j.toNat := by
  rw [toN_s h]; show (if ev ((j.toNat : Int) * 6 + 0) = 1 then (j.toNat : Int) else _) = _; rw [Int.toNat_of_nonneg h]

set_option maxHeartbeats 4000000 in
set_option maxRecDepth 100000 in
theorem c_J7_fill_53178 (l : Launch) (D : va_G) (cI cJ : ClassId) (tn : Nat) (sz : Nat) (q : Nat) (n : Nat) (f : Int → Int) (v : Int) (hn : n ≤ 100000)  : Met l yJ7_fill_53178 wsJ7_fill_53178 ({ frames := 0, cells := 0, slots := 0, locals := 0 } : Room) (va_Pc [.ref q, .int (nZ v)] (WrP D cI cJ tn [(q, .inl (cI, n, .inl (aZ f)))] sz)) (va_Qv (fun u9 : Unit => True) (fun u9 t9 => WrQ D (va_A [(q, .inl (cI, n, .inl (aZ f)))] sz) [(q, .inl (cI, n, .inl (aZ (fiF f v (n : Int)))))] t9) (va_A [(q, .inl (cI, n, .inl (aZ f)))] sz)) 0 0 (va_A [(q, .inl (cI, n, .inl (aZ f)))] sz) := by
  refine Met.ofW (cc := cJ7_fill_53178) (maxL := 4) (ret := none) (by decide) rfl ?_
  intro p e s m args below meth c s₁ B hml hv
  obtain ⟨rfl, hsz, hE, hP, hD0⟩ := hv
  have hx := B.exec
  have hb := B.bytes
  have hr := B.returns
  have hts := atoms_spec (ws := wsJ7_fill_53178) B.pre
  have hown : s.vm.findClass RJ7 = some m.cls := findClass_of_methodNamed B.named
  have hlocks := B.notSynchronized
  subst hsz
  have hD := hD0.self (sz := s.heap.size)
  generalize hAe : va_A [(q, .inl (cI, n, .inl (aZ f)))] s.heap.size = A at hD hE ⊢
  have hA : ∀ q : Nat, s.heap.size ≤ q → A q := fun q h => by rw [← hAe]; exact Or.inr h
  have hS : va_S A s.heap s.heap [] := va_S.rf
  have hK := hE.1
  have hN := hE.2.1
  have hl := lv_entry ([.ref q, .int (nZ v)]) (n := 4) (Nat.le_of_ble_eq_true rfl)
  rw [lg_entry_eq]
  generalize (lg_sl ([.ref q, .int (nZ v)]) ++ List.replicate (4 - (lg_sl ([.ref q, .int (nZ v)])).length) Slot.unset).toArray = ls at hl ⊢
  have hl : lv_has ls 4 [(0, .ref q), (1, .int (nZ v))] := hl
  refine lv_iconst (v := nZ 0) hx hb dJ7_fill_53178_0 rfl ?_
  refine lv_istore_n (lv' := [(2, .int (nZ 0)), (0, .ref q), (1, .int (nZ v))]) hx hb dJ7_fill_53178_1 rfl hl (by decide) rfl (fun ls hl => ?_)
  refine lv_aload_n hx hb dJ7_fill_53178_2 rfl (lv_at hl 1 rfl) ?_
  refine va_alen (v := nZ n) hx hb hK hP 0 0 rfl rfl (nZ_nat _) dJ7_fill_53178_3 ?_
  refine lv_istore_n (lv' := [(3, .int (nZ n)), (2, .int (nZ 0)), (0, .ref q), (1, .int (nZ v))]) hx hb dJ7_fill_53178_4 rfl hl (by decide) rfl (fun ls hl => ?_)
  refine z_loop2 (fun (i : Int) (fa : Int → Int) => (0 ≤ i) ∧ (i ≤ (n : Int)) ∧ (fa = fiF f v i)) (fun (i : Int) (fa : Int → Int) => ((n : Int) - i).toNat) (fun (i : Int) (fa : Int → Int) => [(q, .inl (cI, n, .inl (aZ fa)))]) (fun (i : Int) (fa : Int → Int) => [(3, .int (nZ n)), (2, .int (nZ i)), (0, .ref q), (1, .int (nZ v))]) ?_ 0 f ⟨(by first | assumption | omega), (by first | assumption | omega), (fiF_0 f v).symm⟩ (hP.sub [0] rfl) (hD.sub [0] (by decide) rfl) hS (lv_sub hl [0, 1, 2, 3] rfl)
  intro i fa hI5 ih5 H locs ls hP hD hS hl
  have hP : va_P D vwCl [(q, .inl (cI, n, .inl (aZ fa)))] H := hP
  have hD : va_D A [(q, .inl (cI, n, .inl (aZ fa)))] := hD
  have hl : lv_has ls 4 [(3, .int (nZ n)), (2, .int (nZ i)), (0, .ref q), (1, .int (nZ v))] := hl
  obtain ⟨hi0, hi1, hf⟩ : (0 ≤ i) ∧ (i ≤ (n : Int)) ∧ (fa = fiF f v i) := hI5
  refine lv_iload_n hx hb dJ7_fill_53178_5 rfl (lv_at hl 1 rfl) ?_
  refine lv_iload_n hx hb dJ7_fill_53178_6 rfl (lv_at hl 0 rfl) ?_
  refine z_icmp_ge (tgt := 20) hx hb dJ7_fill_53178_7 (by decide) (by omega) (by omega) (fun c_7 => ?_) (fun c_7 => ?_)
  · have hP9 := hP.sub (ws' := [(q, .inl (cI, n, .inl (aZ fa)))]) [0] rfl
    have hD9 := hD.sub (ws' := [(q, .inl (cI, n, .inl (aZ fa)))]) [0] (by decide) rfl
    have hq9 : ([(q, .inl (cI, n, .inl (aZ fa)))] : va_W) = [(q, .inl (cI, n, .inl (aZ (fiF f v (n : Int)))))] := by rw [hf, show i = (n : Int) from by omega]
    rw [hq9] at hP9 hD9
    exact W.vret hx hb hr (fun t9 ht9 _ => ⟨⟨(), rfl, trivial, ⟨by rw [ht9]; exact hP9, hD9⟩⟩, hS.F ht9⟩) hS.2.2 dJ7_fill_53178_20
  · refine lv_aload_n hx hb dJ7_fill_53178_10 rfl (lv_at hl 2 rfl) ?_
    refine lv_iload_n hx hb dJ7_fill_53178_11 rfl (lv_at hl 1 rfl) ?_
    refine lv_iload_n hx hb dJ7_fill_53178_12 rfl (lv_at hl 3 rfl) ?_
    refine z_iast hx hb hK hP hD hS 0 0 rfl rfl (by omega) (by omega) (by omega) dJ7_fill_53178_13 (fun H locs hP hD hS => ?_)
    have hP : va_P D vwCl [(q, .inl (cI, n, .inl (aZ (uZ fa i v))))] H := hP
    have hD : va_D A [(q, .inl (cI, n, .inl (aZ (uZ fa i v))))] := hD
    refine lv_iinc (v := nZ (i + 1)) (lv' := [(2, .int (nZ (i + 1))), (3, .int (nZ n)), (0, .ref q), (1, .int (nZ v))]) hx hb dJ7_fill_53178_14 hl (k := 1) rfl (nZ_add _ _) (by decide) rfl (fun ls hl => ?_)
    refine lv_goto (tgt := 5) hx hb dJ7_fill_53178_17 (by decide) ?_
    exact ih5 (i + 1) (uZ fa i v) ⟨(by first | assumption | omega), (by first | assumption | omega), (by rw [hf]; exact fiF_s f v hi0)⟩ (show ((n : Int) - (i + 1)).toNat < ((n : Int) - i).toNat from by omega) _ _ ls (hP.sub [0] rfl) (hD.sub [0] (by decide) rfl) hS (lv_sub hl [1, 0, 2, 3] rfl)

set_option maxHeartbeats 4000000 in
set_option maxRecDepth 100000 in
theorem c_J7_fill_d0a16 (l : Launch) (D : va_G) (cI cJ : ClassId) (tn : Nat) (sz : Nat) (q : Nat) (n : Nat) (f : Int → Int) (v : Int) (hn : n ≤ 100000)  : Met l yJ7_fill_d0a16 wsJ7_fill_d0a16 ({ frames := 0, cells := 0, slots := 0, locals := 0 } : Room) (va_Pc [.ref q, .long (lZ v)] (WrP D cI cJ tn [(q, .inl (cJ, n, .inr (.inl (bZ f))))] sz)) (va_Qv (fun u9 : Unit => True) (fun u9 t9 => WrQ D (va_A [(q, .inl (cJ, n, .inr (.inl (bZ f))))] sz) [(q, .inl (cJ, n, .inr (.inl (bZ (fiF f v (n : Int))))))] t9) (va_A [(q, .inl (cJ, n, .inr (.inl (bZ f))))] sz)) 0 0 (va_A [(q, .inl (cJ, n, .inr (.inl (bZ f))))] sz) := by
  refine Met.ofW (cc := cJ7_fill_d0a16) (maxL := 5) (ret := none) (by decide) rfl ?_
  intro p e s m args below meth c s₁ B hml hv
  obtain ⟨rfl, hsz, hE, hP, hD0⟩ := hv
  have hx := B.exec
  have hb := B.bytes
  have hr := B.returns
  have hts := atoms_spec (ws := wsJ7_fill_d0a16) B.pre
  have hown : s.vm.findClass RJ7 = some m.cls := findClass_of_methodNamed B.named
  have hlocks := B.notSynchronized
  subst hsz
  have hD := hD0.self (sz := s.heap.size)
  generalize hAe : va_A [(q, .inl (cJ, n, .inr (.inl (bZ f))))] s.heap.size = A at hD hE ⊢
  have hA : ∀ q : Nat, s.heap.size ≤ q → A q := fun q h => by rw [← hAe]; exact Or.inr h
  have hS : va_S A s.heap s.heap [] := va_S.rf
  have hK := hE.1
  have hN := hE.2.1
  have hl := lv_entry ([.ref q, .long (lZ v)]) (n := 5) (Nat.le_of_ble_eq_true rfl)
  rw [lg_entry_eq]
  generalize (lg_sl ([.ref q, .long (lZ v)]) ++ List.replicate (5 - (lg_sl ([.ref q, .long (lZ v)])).length) Slot.unset).toArray = ls at hl ⊢
  have hl : lv_has ls 5 [(0, .ref q), (1, .long (lZ v))] := hl
  refine lv_iconst (v := nZ 0) hx hb dJ7_fill_d0a16_0 rfl ?_
  refine lv_istore_n (lv' := [(3, .int (nZ 0)), (0, .ref q), (1, .long (lZ v))]) hx hb dJ7_fill_d0a16_1 rfl hl (by decide) rfl (fun ls hl => ?_)
  refine lv_aload_n hx hb dJ7_fill_d0a16_2 rfl (lv_at hl 1 rfl) ?_
  refine va_alen (v := nZ n) hx hb hK hP 0 1 rfl rfl (nZ_nat _) dJ7_fill_d0a16_3 ?_
  refine lv_istore (lv' := [(4, .int (nZ n)), (3, .int (nZ 0)), (0, .ref q), (1, .long (lZ v))]) hx hb dJ7_fill_d0a16_4 hl (by decide) rfl (fun ls hl => ?_)
  refine z_loop2 (fun (i : Int) (fa : Int → Int) => (0 ≤ i) ∧ (i ≤ (n : Int)) ∧ (fa = fiF f v i)) (fun (i : Int) (fa : Int → Int) => ((n : Int) - i).toNat) (fun (i : Int) (fa : Int → Int) => [(q, .inl (cJ, n, .inr (.inl (bZ fa))))]) (fun (i : Int) (fa : Int → Int) => [(4, .int (nZ n)), (3, .int (nZ i)), (0, .ref q), (1, .long (lZ v))]) ?_ 0 f ⟨(by first | assumption | omega), (by first | assumption | omega), (fiF_0 f v).symm⟩ (hP.sub [0] rfl) (hD.sub [0] (by decide) rfl) hS (lv_sub hl [0, 1, 2, 3] rfl)
  intro i fa hI6 ih6 H locs ls hP hD hS hl
  have hP : va_P D vwCl [(q, .inl (cJ, n, .inr (.inl (bZ fa))))] H := hP
  have hD : va_D A [(q, .inl (cJ, n, .inr (.inl (bZ fa))))] := hD
  have hl : lv_has ls 5 [(4, .int (nZ n)), (3, .int (nZ i)), (0, .ref q), (1, .long (lZ v))] := hl
  obtain ⟨hi0, hi1, hf⟩ : (0 ≤ i) ∧ (i ≤ (n : Int)) ∧ (fa = fiF f v i) := hI6
  refine lv_iload_n hx hb dJ7_fill_d0a16_6 rfl (lv_at hl 1 rfl) ?_
  refine lv_iload hx hb dJ7_fill_d0a16_7 (lv_at hl 0 rfl) ?_
  refine z_icmp_ge (tgt := 22) hx hb dJ7_fill_d0a16_9 (by decide) (by omega) (by omega) (fun c_9 => ?_) (fun c_9 => ?_)
  · have hP9 := hP.sub (ws' := [(q, .inl (cJ, n, .inr (.inl (bZ fa))))]) [0] rfl
    have hD9 := hD.sub (ws' := [(q, .inl (cJ, n, .inr (.inl (bZ fa))))]) [0] (by decide) rfl
    have hq9 : ([(q, .inl (cJ, n, .inr (.inl (bZ fa))))] : va_W) = [(q, .inl (cJ, n, .inr (.inl (bZ (fiF f v (n : Int))))))] := by rw [hf, show i = (n : Int) from by omega]
    rw [hq9] at hP9 hD9
    exact W.vret hx hb hr (fun t9 ht9 _ => ⟨⟨(), rfl, trivial, ⟨by rw [ht9]; exact hP9, hD9⟩⟩, hS.F ht9⟩) hS.2.2 dJ7_fill_d0a16_22
  · refine lv_aload_n hx hb dJ7_fill_d0a16_12 rfl (lv_at hl 2 rfl) ?_
    refine lv_iload_n hx hb dJ7_fill_d0a16_13 rfl (lv_at hl 1 rfl) ?_
    refine lv_lload_n hx hb dJ7_fill_d0a16_14 rfl (lv_at hl 3 rfl) ?_
    refine z_last hx hb hK hP hD hS 0 1 rfl rfl (by omega) (by omega) (by omega) dJ7_fill_d0a16_15 (fun H locs hP hD hS => ?_)
    have hP : va_P D vwCl [(q, .inl (cJ, n, .inr (.inl (bZ (uZ fa i v)))))] H := hP
    have hD : va_D A [(q, .inl (cJ, n, .inr (.inl (bZ (uZ fa i v)))))] := hD
    refine lv_iinc (v := nZ (i + 1)) (lv' := [(3, .int (nZ (i + 1))), (4, .int (nZ n)), (0, .ref q), (1, .long (lZ v))]) hx hb dJ7_fill_d0a16_16 hl (k := 1) rfl (nZ_add _ _) (by decide) rfl (fun ls hl => ?_)
    refine lv_goto (tgt := 6) hx hb dJ7_fill_d0a16_19 (by decide) ?_
    exact ih6 (i + 1) (uZ fa i v) ⟨(by first | assumption | omega), (by first | assumption | omega), (by rw [hf]; exact fiF_s f v hi0)⟩ (show ((n : Int) - (i + 1)).toNat < ((n : Int) - i).toNat from by omega) _ _ ls (hP.sub [0] rfl) (hD.sub [0] (by decide) rfl) hS (lv_sub hl [1, 0, 2, 3] rfl)

set_option maxHeartbeats 4000000 in
set_option maxRecDepth 100000 in
theorem c_X7_append (l : Launch) (D : va_G) (cI cJ : ClassId) (tn : Nat) (sz : Nat) (h : Nat) (q : Nat) (g : Int → Int) (len : Int) (b : Int64) (n : Int) (hl0 : 0 ≤ len) (hn0 : 0 ≤ n) (hn8 : n ≤ 8) (hln : len + n ≤ 200)  : Met l yX7_append wsX7_append ({ frames := 1, cells := 0, slots := 0, locals := 22 } : Room) (va_Pc [.ref h, .long b, .int (nZ n)] (WrP D cI cJ tn [(h, .inr (7, [.ref q, .int (nZ len)])), (q, .inl (cI, 200, .inl (aZ g)))] sz)) (va_Qv (fun u9 : Unit => True) (fun u9 t9 => WrQ D (va_A [(h, .inr (7, [.ref q, .int (nZ len)])), (q, .inl (cI, 200, .inl (aZ g)))] sz) [(h, .inr (7, [.ref q, .int (nZ (len + n))])), (q, .inl (cI, 200, .inl (aZ (apF g len b n))))] t9) (va_A [(h, .inr (7, [.ref q, .int (nZ len)])), (q, .inl (cI, 200, .inl (aZ g)))] sz)) 0 0 (va_A [(h, .inr (7, [.ref q, .int (nZ len)])), (q, .inl (cI, 200, .inl (aZ g)))] sz) := by
  refine Met.ofW (cc := cX7_append) (maxL := 5) (ret := none) (by decide) rfl ?_
  intro p e s m args below meth c s₁ B hml hv
  obtain ⟨rfl, hsz, hE, hP, hD0⟩ := hv
  have hx := B.exec
  have hb := B.bytes
  have hr := B.returns
  have hts := atoms_spec (ws := wsX7_append) B.pre
  have hown : s.vm.findClass RX7 = some m.cls := findClass_of_methodNamed B.named
  have hlocks := B.notSynchronized
  subst hsz
  have hD := hD0.self (sz := s.heap.size)
  generalize hAe : va_A [(h, .inr (7, [.ref q, .int (nZ len)])), (q, .inl (cI, 200, .inl (aZ g)))] s.heap.size = A at hD hE ⊢
  have hA : ∀ q : Nat, s.heap.size ≤ q → A q := fun q h => by rw [← hAe]; exact Or.inr h
  have hS : va_S A s.heap s.heap [] := va_S.rf
  have hK := hE.1
  have hN := hE.2.1
  have hl := lv_entry ([.ref h, .long b, .int (nZ n)]) (n := 5) (Nat.le_of_ble_eq_true rfl)
  rw [lg_entry_eq]
  generalize (lg_sl ([.ref h, .long b, .int (nZ n)]) ++ List.replicate (5 - (lg_sl ([.ref h, .long b, .int (nZ n)])).length) Slot.unset).toArray = ls at hl ⊢
  have hl : lv_has ls 5 [(0, .ref h), (1, .long b), (3, .int (nZ n))] := hl
  have iX7 : ∀ w ∈ u_ws RX7 TX7 2, w ∈ wsX7_append := fun _ h => List.mem_cons_of_mem _ (List.mem_append_right _ h)
  refine lv_iconst (v := nZ 0) hx hb dX7_append_0 rfl ?_
  refine lv_istore (lv' := [(4, .int (nZ 0)), (0, .ref h), (1, .long b), (3, .int (nZ n))]) hx hb dX7_append_1 hl (by decide) rfl (fun ls hl => ?_)
  refine z_loop3 (fun (i : Int) (ll : Int) (fa : Int → Int) => (0 ≤ i) ∧ (i ≤ n) ∧ (ll = len + i) ∧ (fa = apF g len b i)) (fun (i : Int) (ll : Int) (fa : Int → Int) => (n - i).toNat) (fun (i : Int) (ll : Int) (fa : Int → Int) => [(h, .inr (7, [.ref q, .int (nZ ll)])), (q, .inl (cI, 200, .inl (aZ fa)))]) (fun (i : Int) (ll : Int) (fa : Int → Int) => [(4, .int (nZ i)), (0, .ref h), (1, .long b), (3, .int (nZ n))]) ?_ 0 len g ⟨(by first | assumption | omega), (by first | assumption | omega), (by first | assumption | omega), (apF_0 g len b).symm⟩ (hP.sub [0, 1] rfl) (hD.sub [0, 1] (by decide) rfl) hS (lv_sub hl [0, 1, 2, 3] rfl)
  intro i ll fa hI3 ih3 H locs ls hP hD hS hl
  have hP : va_P D vwCl [(h, .inr (7, [.ref q, .int (nZ ll)])), (q, .inl (cI, 200, .inl (aZ fa)))] H := hP
  have hD : va_D A [(h, .inr (7, [.ref q, .int (nZ ll)])), (q, .inl (cI, 200, .inl (aZ fa)))] := hD
  have hl : lv_has ls 5 [(4, .int (nZ i)), (0, .ref h), (1, .long b), (3, .int (nZ n))] := hl
  obtain ⟨hi0, hi1, hll, hf⟩ : (0 ≤ i) ∧ (i ≤ n) ∧ (ll = len + i) ∧ (fa = apF g len b i) := hI3
  refine lv_iload hx hb dX7_append_3 (lv_at hl 0 rfl) ?_
  refine lv_iload_n hx hb dX7_append_5 rfl (lv_at hl 3 rfl) ?_
  refine z_icmp_ge (tgt := 60) hx hb dX7_append_6 (by decide) (by omega) (by omega) (fun c_6 => ?_) (fun c_6 => ?_)
  · have hP9 := hP.sub (ws' := [(h, .inr (7, [.ref q, .int (nZ ll)])), (q, .inl (cI, 200, .inl (aZ fa)))]) [0, 1] rfl
    have hD9 := hD.sub (ws' := [(h, .inr (7, [.ref q, .int (nZ ll)])), (q, .inl (cI, 200, .inl (aZ fa)))]) [0, 1] (by decide) rfl
    have hq9 : ([(h, .inr (7, [.ref q, .int (nZ ll)])), (q, .inl (cI, 200, .inl (aZ fa)))] : va_W) = [(h, .inr (7, [.ref q, .int (nZ (len + n))])), (q, .inl (cI, 200, .inl (aZ (apF g len b n))))] := by rw [hf, hll, show i = n from by omega]
    rw [hq9] at hP9 hD9
    exact W.vret hx hb hr (fun t9 ht9 _ => ⟨⟨(), rfl, trivial, ⟨by rw [ht9]; exact hP9, hD9⟩⟩, hS.F ht9⟩) hS.2.2 dX7_append_60
  · refine lv_aload_n hx hb dX7_append_9 rfl (lv_at hl 1 rfl) ?_
    refine va_get (D := D) (ci := 7) (v := .int (nZ ll)) (C := RX7) (T := TX7) (N := 2) hx hb hts iX7 hown hK hP 0 rfl rfl 1 (by decide) (hts (.fieldLink RX7 15 "RainTarget$Text" "length" "I") (List.mem_of_getElem? (i := 1) rfl)) (fun _ h9 => h9) rfl dX7_append_10 ?_
    refine lv_iconst (v := nZ 0) hx hb dX7_append_13 rfl ?_
    refine lv_sipush (v := nZ 199) hx hb dX7_append_14 (by decide) ?_
    refine vp_callSi ((va_runSN (As := [.int (nZ ll), .int (nZ 0), .int (nZ 199)]) (rest := []) ⟨hx, hb, hml, hown, hts⟩ (c_X9_within l D cI cJ tn ll 0 199 (by omega) (by decide) (by decide) ) ⟨va_cnB 3 hts gX7_append_X9_within_n19 rfl rfl rfl (nw_X7_19 hN) (hts (.initialized RX9) (List.mem_of_getElem? (i := 5) rfl)) (by decide +kernel) ⟨Nat.le_of_ble_eq_true rfl, Nat.le_of_ble_eq_true rfl⟩, (hts (.static yX9_within) (List.mem_of_getElem? (i := 4) rfl)), trivial⟩ ⟨RoP.blind, fun U hU hW => ⟨rfl, RoP.call hE hS (hP.sub (ws' := []) [] rfl) hU hW⟩⟩ rfl rfl hl.1 rfl (lv_room (Nat.le_of_ble_eq_true rfl)) dX7_append_17 ⟨Nat.le_of_ble_eq_true rfl, Nat.le_of_ble_eq_true rfl⟩).run) (fun r17 hr17 => ?_)
    subst hr17
    refine z_nameI (fun r17 er17 => ?_)
    refine z_if_eq (tgt := 60) hx hb dX7_append_20 (by decide) (by omega) (fun c_20 => ?_) (fun c_20 => ?_)
    · exfalso; omega
    · refine lv_aload_n hx hb dX7_append_23 rfl (lv_at hl 1 rfl) ?_
      refine va_get (D := D) (ci := 7) (v := .ref q) (C := RX7) (T := TX7) (N := 2) hx hb hts iX7 hown hK hP 0 rfl rfl 0 (by decide) (hts (.fieldLink RX7 9 "RainTarget$Text" "bytes" "[I") (List.mem_of_getElem? (i := 2) rfl)) (fun _ h9 => h9) rfl dX7_append_24 ?_
      refine lv_aload_n hx hb dX7_append_27 rfl (lv_at hl 1 rfl) ?_
      refine va_get (D := D) (ci := 7) (v := .int (nZ ll)) (C := RX7) (T := TX7) (N := 2) hx hb hts iX7 hown hK hP 0 rfl rfl 1 (by decide) (hts (.fieldLink RX7 15 "RainTarget$Text" "length" "I") (List.mem_of_getElem? (i := 1) rfl)) (fun _ h9 => h9) rfl dX7_append_28 ?_
      refine lv_lload_n hx hb dX7_append_31 rfl (lv_at hl 2 rfl) ?_
      refine lv_bipush (v := nZ 8) hx hb dX7_append_32 (by decide) ?_
      refine lv_iload hx hb dX7_append_34 (lv_at hl 0 rfl) ?_
      refine z_imul hx hb dX7_append_36 ?_
      refine lv_lshr hx hb dX7_append_37 rfl ?_
      refine lv_ldc2 (own := RX7) (v := 255) hx hb hown (hts (.constantLong RX7 23 (255)) (List.mem_of_getElem? (i := 3) rfl)) dX7_append_38 ?_
      refine z_litl 255 (by decide) ?_
      refine lv_land hx hb dX7_append_41 ?_
      refine lv_l2i hx hb dX7_append_42 rfl ?_
      refine z_rawi ?_
      refine z_topi (y := byteF b i) rfl ?_
      refine z_iast hx hb hK hP hD hS 1 0 rfl rfl (by omega) (by omega) (by omega) dX7_append_43 (fun H locs hP hD hS => ?_)
      have hP : va_P D vwCl [(h, .inr (7, [.ref q, .int (nZ ll)])), (q, .inl (cI, 200, .inl (aZ (uZ fa ll (byteF b i)))))] H := hP
      have hD : va_D A [(h, .inr (7, [.ref q, .int (nZ ll)])), (q, .inl (cI, 200, .inl (aZ (uZ fa ll (byteF b i)))))] := hD
      refine lv_aload_n hx hb dX7_append_44 rfl (lv_at hl 1 rfl) ?_
      refine lv_dup hx hb dX7_append_45 rfl ?_
      refine va_get (D := D) (ci := 7) (v := .int (nZ ll)) (C := RX7) (T := TX7) (N := 2) hx hb hts iX7 hown hK hP 0 rfl rfl 1 (by decide) (hts (.fieldLink RX7 15 "RainTarget$Text" "length" "I") (List.mem_of_getElem? (i := 1) rfl)) (fun _ h9 => h9) rfl dX7_append_46 ?_
      refine lv_iconst (v := nZ 1) hx hb dX7_append_49 rfl ?_
      refine z_iadd hx hb dX7_append_50 ?_
      refine va_put (D := D) (ci := 7) (v := .int (nZ (ll + 1))) (ty := .int) (C := RX7) (T := TX7) (N := 2) hx hb hts iX7 tyX7 tyX7_ok nmX7 hown hK hP hD hS 0 rfl rfl 1 (by decide) (hts (.fieldLink RX7 15 "RainTarget$Text" "length" "I") (List.mem_of_getElem? (i := 1) rfl)) (fun _ h9 => h9) rfl (by decide +kernel) rfl rfl (Nat.le_of_ble_eq_true rfl) dX7_append_51 (fun H locs hP hD hS => ?_)
      have hP : va_P D vwCl [(h, .inr (7, [.ref q, .int (nZ (ll + 1))])), (q, .inl (cI, 200, .inl (aZ (uZ fa ll (byteF b i)))))] H := hP
      have hD : va_D A [(h, .inr (7, [.ref q, .int (nZ (ll + 1))])), (q, .inl (cI, 200, .inl (aZ (uZ fa ll (byteF b i)))))] := hD
      refine lv_iinc (v := nZ (i + 1)) (lv' := [(4, .int (nZ (i + 1))), (0, .ref h), (1, .long b), (3, .int (nZ n))]) hx hb dX7_append_54 hl (k := 0) rfl (nZ_add _ _) (by decide) rfl (fun ls hl => ?_)
      refine lv_goto (tgt := 3) hx hb dX7_append_57 (by decide) ?_
      exact ih3 (i + 1) (ll + 1) (uZ fa ll (byteF b i)) ⟨(by first | assumption | omega), (by first | assumption | omega), (by first | assumption | omega), (by rw [hf, hll]; exact apF_s g len b hi0)⟩ (show (n - (i + 1)).toNat < (n - i).toNat from by omega) _ _ ls (hP.sub [0, 1] rfl) (hD.sub [0, 1] (by decide) rfl) hS (lv_sub hl [0, 1, 2, 3] rfl)

set_option maxHeartbeats 4000000 in
set_option maxRecDepth 100000 in
theorem c_X3_forget (l : Launch) (D : va_G) (cI cJ : ClassId) (tn : Nat) (sz : Nat) (h : Nat) (q1 : Nat) (q2 : Nat) (cs : Int → Int) (a : Int) (ha0 : 0 ≤ a) (ha3 : a ≤ 3)  : Met l yX3_forget wsX3_forget ({ frames := 1, cells := 0, slots := 0, locals := 22 } : Room) (va_Pc [.ref h, .int (nZ a)] (WrP D cI cJ tn [(h, .inr (3, [.ref q1, .ref q2])), (q1, .inl (cI, 4, .inl (aZ cs)))] sz)) (va_Qv (fun u9 : Unit => True) (fun u9 t9 => WrQ D (va_A [(h, .inr (3, [.ref q1, .ref q2])), (q1, .inl (cI, 4, .inl (aZ cs)))] sz) [(h, .inr (3, [.ref q1, .ref q2])), (q1, .inl (cI, 4, .inl (aZ (uZ cs a 0))))] t9) (va_A [(h, .inr (3, [.ref q1, .ref q2])), (q1, .inl (cI, 4, .inl (aZ cs)))] sz)) 0 0 (va_A [(h, .inr (3, [.ref q1, .ref q2])), (q1, .inl (cI, 4, .inl (aZ cs)))] sz) := by
  refine Met.ofW (cc := cX3_forget) (maxL := 2) (ret := none) (by decide) rfl ?_
  intro p e s m args below meth c s₁ B hml hv
  obtain ⟨rfl, hsz, hE, hP, hD0⟩ := hv
  have hx := B.exec
  have hb := B.bytes
  have hr := B.returns
  have hts := atoms_spec (ws := wsX3_forget) B.pre
  have hown : s.vm.findClass RX3 = some m.cls := findClass_of_methodNamed B.named
  have hlocks := B.notSynchronized
  subst hsz
  have hD := hD0.self (sz := s.heap.size)
  generalize hAe : va_A [(h, .inr (3, [.ref q1, .ref q2])), (q1, .inl (cI, 4, .inl (aZ cs)))] s.heap.size = A at hD hE ⊢
  have hA : ∀ q : Nat, s.heap.size ≤ q → A q := fun q h => by rw [← hAe]; exact Or.inr h
  have hS : va_S A s.heap s.heap [] := va_S.rf
  have hK := hE.1
  have hN := hE.2.1
  have hl := lv_entry ([.ref h, .int (nZ a)]) (n := 2) (Nat.le_of_ble_eq_true rfl)
  rw [lg_entry_eq]
  generalize (lg_sl ([.ref h, .int (nZ a)]) ++ List.replicate (2 - (lg_sl ([.ref h, .int (nZ a)])).length) Slot.unset).toArray = ls at hl ⊢
  have hl : lv_has ls 2 [(0, .ref h), (1, .int (nZ a))] := hl
  have iX3 : ∀ w ∈ u_ws RX3 TX3 2, w ∈ wsX3_forget := fun _ h => List.mem_cons_of_mem _ (List.mem_append_right _ h)
  refine lv_iload_n hx hb dX3_forget_0 rfl (lv_at hl 1 rfl) ?_
  refine lv_iconst (v := nZ 0) hx hb dX3_forget_1 rfl ?_
  refine lv_iconst (v := nZ 3) hx hb dX3_forget_2 rfl ?_
  refine vp_callSi ((va_runSN (As := [.int (nZ a), .int (nZ 0), .int (nZ 3)]) (rest := []) ⟨hx, hb, hml, hown, hts⟩ (c_X9_within l D cI cJ tn a 0 3 (by omega) (by decide) (by decide) ) ⟨va_cnB 3 hts gX3_forget_X9_within_n22 rfl rfl rfl (nw_X3_22 hN) (hts (.initialized RX9) (List.mem_of_getElem? (i := 3) rfl)) (by decide +kernel) ⟨Nat.le_of_ble_eq_true rfl, Nat.le_of_ble_eq_true rfl⟩, (hts (.static yX9_within) (List.mem_of_getElem? (i := 2) rfl)), trivial⟩ ⟨RoP.blind, fun U hU hW => ⟨rfl, RoP.call hE hS (hP.sub (ws' := []) [] rfl) hU hW⟩⟩ rfl rfl hl.1 rfl (lv_room (Nat.le_of_ble_eq_true rfl)) dX3_forget_3 ⟨Nat.le_of_ble_eq_true rfl, Nat.le_of_ble_eq_true rfl⟩).run) (fun r3 hr3 => ?_)
  subst hr3
  refine z_nameI (fun r3 er3 => ?_)
  refine z_if_eq (tgt := 16) hx hb dX3_forget_6 (by decide) (by omega) (fun c_6 => ?_) (fun c_6 => ?_)
  · exfalso; omega
  · refine lv_aload_n hx hb dX3_forget_9 rfl (lv_at hl 0 rfl) ?_
    refine va_get (D := D) (ci := 3) (v := .ref q1) (C := RX3) (T := TX3) (N := 2) hx hb hts iX3 hown hK hP 0 rfl rfl 0 (by decide) (hts (.fieldLink RX3 9 "RainTarget$Moods" "sizes" "[I") (List.mem_of_getElem? (i := 1) rfl)) (fun _ h9 => h9) rfl dX3_forget_10 ?_
    refine lv_iload_n hx hb dX3_forget_13 rfl (lv_at hl 1 rfl) ?_
    refine lv_iconst (v := nZ 0) hx hb dX3_forget_14 rfl ?_
    refine z_iast hx hb hK hP hD hS 1 0 rfl rfl (by omega) (by omega) (by omega) dX3_forget_15 (fun H locs hP hD hS => ?_)
    have hP : va_P D vwCl [(h, .inr (3, [.ref q1, .ref q2])), (q1, .inl (cI, 4, .inl (aZ (uZ cs a 0))))] H := hP
    have hD : va_D A [(h, .inr (3, [.ref q1, .ref q2])), (q1, .inl (cI, 4, .inl (aZ (uZ cs a 0))))] := hD
    have hP9 := hP.sub (ws' := [(h, .inr (3, [.ref q1, .ref q2])), (q1, .inl (cI, 4, .inl (aZ (uZ cs a 0))))]) [0, 1] rfl
    have hD9 := hD.sub (ws' := [(h, .inr (3, [.ref q1, .ref q2])), (q1, .inl (cI, 4, .inl (aZ (uZ cs a 0))))]) [0, 1] (by decide) rfl
    exact W.vret hx hb hr (fun t9 ht9 _ => ⟨⟨(), rfl, trivial, ⟨by rw [ht9]; exact hP9, hD9⟩⟩, hS.F ht9⟩) hS.2.2 dX3_forget_16

set_option maxHeartbeats 4000000 in
set_option maxRecDepth 100000 in
theorem c_X3_add (l : Launch) (D : va_G) (cI cJ : ClassId) (tn : Nat) (sz : Nat) (h : Nat) (q1 : Nat) (q2 : Nat) (cs : Int → Int) (mp : Int → Int) (a : Int) (x : Int) (y : Int) (z : Int) (ha0 : 0 ≤ a) (ha3 : a ≤ 3) (hc0 : 0 ≤ cs a) (hc3 : cs a ≤ 3)  : Met l yX3_add wsX3_add ({ frames := 1, cells := 0, slots := 0, locals := 22 } : Room) (va_Pc [.ref h, .int (nZ a), .int (nZ x), .int (nZ y), .int (nZ z)] (WrP D cI cJ tn [(h, .inr (3, [.ref q1, .ref q2])), (q1, .inl (cI, 4, .inl (aZ cs))), (q2, .inl (cI, 48, .inl (aZ mp)))] sz)) (va_Qv (fun u9 : Unit => True) (fun u9 t9 => WrQ D (va_A [(h, .inr (3, [.ref q1, .ref q2])), (q1, .inl (cI, 4, .inl (aZ cs))), (q2, .inl (cI, 48, .inl (aZ mp)))] sz) [(h, .inr (3, [.ref q1, .ref q2])), (q1, .inl (cI, 4, .inl (aZ (uZ cs a (cs a + 1))))), (q2, .inl (cI, 48, .inl (aZ (mdF mp ((a * 4 + cs a) * 3) x y z))))] t9) (va_A [(h, .inr (3, [.ref q1, .ref q2])), (q1, .inl (cI, 4, .inl (aZ cs))), (q2, .inl (cI, 48, .inl (aZ mp)))] sz)) 0 0 (va_A [(h, .inr (3, [.ref q1, .ref q2])), (q1, .inl (cI, 4, .inl (aZ cs))), (q2, .inl (cI, 48, .inl (aZ mp)))] sz) := by
  refine Met.ofW (cc := cX3_add) (maxL := 6) (ret := none) (by decide) rfl ?_
  intro p e s m args below meth c s₁ B hml hv
  obtain ⟨rfl, hsz, hE, hP, hD0⟩ := hv
  have hx := B.exec
  have hb := B.bytes
  have hr := B.returns
  have hts := atoms_spec (ws := wsX3_add) B.pre
  have hown : s.vm.findClass RX3 = some m.cls := findClass_of_methodNamed B.named
  have hlocks := B.notSynchronized
  subst hsz
  have hD := hD0.self (sz := s.heap.size)
  generalize hAe : va_A [(h, .inr (3, [.ref q1, .ref q2])), (q1, .inl (cI, 4, .inl (aZ cs))), (q2, .inl (cI, 48, .inl (aZ mp)))] s.heap.size = A at hD hE ⊢
  have hA : ∀ q : Nat, s.heap.size ≤ q → A q := fun q h => by rw [← hAe]; exact Or.inr h
  have hS : va_S A s.heap s.heap [] := va_S.rf
  have hK := hE.1
  have hN := hE.2.1
  have hl := lv_entry ([.ref h, .int (nZ a), .int (nZ x), .int (nZ y), .int (nZ z)]) (n := 6) (Nat.le_of_ble_eq_true rfl)
  rw [lg_entry_eq]
  generalize (lg_sl ([.ref h, .int (nZ a), .int (nZ x), .int (nZ y), .int (nZ z)]) ++ List.replicate (6 - (lg_sl ([.ref h, .int (nZ a), .int (nZ x), .int (nZ y), .int (nZ z)])).length) Slot.unset).toArray = ls at hl ⊢
  have hl : lv_has ls 6 [(0, .ref h), (1, .int (nZ a)), (2, .int (nZ x)), (3, .int (nZ y)), (4, .int (nZ z))] := hl
  have iX3 : ∀ w ∈ u_ws RX3 TX3 2, w ∈ wsX3_add := fun _ h => List.mem_cons_of_mem _ (List.mem_append_right _ h)
  refine lv_iload_n hx hb dX3_add_0 rfl (lv_at hl 1 rfl) ?_
  refine lv_iconst (v := nZ 0) hx hb dX3_add_1 rfl ?_
  refine lv_iconst (v := nZ 3) hx hb dX3_add_2 rfl ?_
  refine vp_callSi ((va_runSN (As := [.int (nZ a), .int (nZ 0), .int (nZ 3)]) (rest := []) ⟨hx, hb, hml, hown, hts⟩ (c_X9_within l D cI cJ tn a 0 3 (by omega) (by decide) (by decide) ) ⟨va_cnB 3 hts gX3_add_X9_within_n22 rfl rfl rfl (nw_X3_22 hN) (hts (.initialized RX9) (List.mem_of_getElem? (i := 4) rfl)) (by decide +kernel) ⟨Nat.le_of_ble_eq_true rfl, Nat.le_of_ble_eq_true rfl⟩, (hts (.static yX9_within) (List.mem_of_getElem? (i := 3) rfl)), trivial⟩ ⟨RoP.blind, fun U hU hW => ⟨rfl, RoP.call hE hS (hP.sub (ws' := []) [] rfl) hU hW⟩⟩ rfl rfl hl.1 rfl (lv_room (Nat.le_of_ble_eq_true rfl)) dX3_add_3 ⟨Nat.le_of_ble_eq_true rfl, Nat.le_of_ble_eq_true rfl⟩).run) (fun r3 hr3 => ?_)
  subst hr3
  refine z_nameI (fun r3 er3 => ?_)
  refine z_if_eq (tgt := 23) hx hb dX3_add_6 (by decide) (by omega) (fun c_6 => ?_) (fun c_6 => ?_)
  · exfalso; omega
  · refine lv_aload_n hx hb dX3_add_9 rfl (lv_at hl 0 rfl) ?_
    refine va_get (D := D) (ci := 3) (v := .ref q1) (C := RX3) (T := TX3) (N := 2) hx hb hts iX3 hown hK hP 0 rfl rfl 0 (by decide) (hts (.fieldLink RX3 9 "RainTarget$Moods" "sizes" "[I") (List.mem_of_getElem? (i := 1) rfl)) (fun _ h9 => h9) rfl dX3_add_10 ?_
    refine lv_iload_n hx hb dX3_add_13 rfl (lv_at hl 1 rfl) ?_
    refine z_iald hx hb hK hP 1 0 rfl rfl (by omega) (by omega) (by omega) dX3_add_14 ?_
    refine lv_iconst (v := nZ 0) hx hb dX3_add_15 rfl ?_
    refine lv_iconst (v := nZ 3) hx hb dX3_add_16 rfl ?_
    refine vp_callSi ((va_runSN (As := [.int (nZ (cs a)), .int (nZ 0), .int (nZ 3)]) (rest := []) ⟨hx, hb, hml, hown, hts⟩ (c_X9_within l D cI cJ tn (cs a) 0 3 ⟨by omega, by omega⟩ (by decide) (by decide) ) ⟨va_cnB 3 hts gX3_add_X9_within_n22 rfl rfl rfl (nw_X3_22 hN) (hts (.initialized RX9) (List.mem_of_getElem? (i := 4) rfl)) (by decide +kernel) ⟨Nat.le_of_ble_eq_true rfl, Nat.le_of_ble_eq_true rfl⟩, (hts (.static yX9_within) (List.mem_of_getElem? (i := 3) rfl)), trivial⟩ ⟨RoP.blind, fun U hU hW => ⟨rfl, RoP.call hE hS (hP.sub (ws' := []) [] rfl) hU hW⟩⟩ rfl rfl hl.1 rfl (lv_room (Nat.le_of_ble_eq_true rfl)) dX3_add_17 ⟨Nat.le_of_ble_eq_true rfl, Nat.le_of_ble_eq_true rfl⟩).run) (fun r17 hr17 => ?_)
    subst hr17
    refine z_nameI (fun r17 er17 => ?_)
    refine z_if_ne (tgt := 24) hx hb dX3_add_20 (by decide) (by omega) (fun c_20 => ?_) (fun c_20 => ?_)
    · refine lv_iload_n hx hb dX3_add_24 rfl (lv_at hl 1 rfl) ?_
      refine lv_iconst (v := nZ 4) hx hb dX3_add_25 rfl ?_
      refine z_imul hx hb dX3_add_26 ?_
      refine lv_aload_n hx hb dX3_add_27 rfl (lv_at hl 0 rfl) ?_
      refine va_get (D := D) (ci := 3) (v := .ref q1) (C := RX3) (T := TX3) (N := 2) hx hb hts iX3 hown hK hP 0 rfl rfl 0 (by decide) (hts (.fieldLink RX3 9 "RainTarget$Moods" "sizes" "[I") (List.mem_of_getElem? (i := 1) rfl)) (fun _ h9 => h9) rfl dX3_add_28 ?_
      refine lv_iload_n hx hb dX3_add_31 rfl (lv_at hl 1 rfl) ?_
      refine z_iald hx hb hK hP 1 0 rfl rfl (by omega) (by omega) (by omega) dX3_add_32 ?_
      refine z_iadd hx hb dX3_add_33 ?_
      refine lv_iconst (v := nZ 3) hx hb dX3_add_34 rfl ?_
      refine z_imul hx hb dX3_add_35 ?_
      refine lv_istore (lv' := [(5, .int (nZ (((a * 4) + (cs a)) * 3))), (0, .ref h), (1, .int (nZ a)), (2, .int (nZ x)), (3, .int (nZ y)), (4, .int (nZ z))]) hx hb dX3_add_36 hl (by decide) rfl (fun ls hl => ?_)
      refine lv_aload_n hx hb dX3_add_38 rfl (lv_at hl 1 rfl) ?_
      refine va_get (D := D) (ci := 3) (v := .ref q2) (C := RX3) (T := TX3) (N := 2) hx hb hts iX3 hown hK hP 0 rfl rfl 1 (by decide) (hts (.fieldLink RX3 15 "RainTarget$Moods" "parts" "[I") (List.mem_of_getElem? (i := 2) rfl)) (fun _ h9 => h9) rfl dX3_add_39 ?_
      refine lv_iload hx hb dX3_add_42 (lv_at hl 0 rfl) ?_
      refine lv_iconst (v := nZ 0) hx hb dX3_add_44 rfl ?_
      refine z_iadd hx hb dX3_add_45 ?_
      refine lv_iload_n hx hb dX3_add_46 rfl (lv_at hl 3 rfl) ?_
      refine z_iast hx hb hK hP hD hS 2 0 rfl rfl (by omega) (by omega) (by omega) dX3_add_47 (fun H locs hP hD hS => ?_)
      have hP : va_P D vwCl [(h, .inr (3, [.ref q1, .ref q2])), (q1, .inl (cI, 4, .inl (aZ cs))), (q2, .inl (cI, 48, .inl (aZ (uZ mp ((((a * 4) + (cs a)) * 3) + 0) x))))] H := hP
      have hD : va_D A [(h, .inr (3, [.ref q1, .ref q2])), (q1, .inl (cI, 4, .inl (aZ cs))), (q2, .inl (cI, 48, .inl (aZ (uZ mp ((((a * 4) + (cs a)) * 3) + 0) x))))] := hD
      refine lv_aload_n hx hb dX3_add_48 rfl (lv_at hl 1 rfl) ?_
      refine va_get (D := D) (ci := 3) (v := .ref q2) (C := RX3) (T := TX3) (N := 2) hx hb hts iX3 hown hK hP 0 rfl rfl 1 (by decide) (hts (.fieldLink RX3 15 "RainTarget$Moods" "parts" "[I") (List.mem_of_getElem? (i := 2) rfl)) (fun _ h9 => h9) rfl dX3_add_49 ?_
      refine lv_iload hx hb dX3_add_52 (lv_at hl 0 rfl) ?_
      refine lv_iconst (v := nZ 1) hx hb dX3_add_54 rfl ?_
      refine z_iadd hx hb dX3_add_55 ?_
      refine lv_iload_n hx hb dX3_add_56 rfl (lv_at hl 4 rfl) ?_
      refine z_iast hx hb hK hP hD hS 2 0 rfl rfl (by omega) (by omega) (by omega) dX3_add_57 (fun H locs hP hD hS => ?_)
      have hP : va_P D vwCl [(h, .inr (3, [.ref q1, .ref q2])), (q1, .inl (cI, 4, .inl (aZ cs))), (q2, .inl (cI, 48, .inl (aZ (uZ (uZ mp ((((a * 4) + (cs a)) * 3) + 0) x) ((((a * 4) + (cs a)) * 3) + 1) y))))] H := hP
      have hD : va_D A [(h, .inr (3, [.ref q1, .ref q2])), (q1, .inl (cI, 4, .inl (aZ cs))), (q2, .inl (cI, 48, .inl (aZ (uZ (uZ mp ((((a * 4) + (cs a)) * 3) + 0) x) ((((a * 4) + (cs a)) * 3) + 1) y))))] := hD
      refine lv_aload_n hx hb dX3_add_58 rfl (lv_at hl 1 rfl) ?_
      refine va_get (D := D) (ci := 3) (v := .ref q2) (C := RX3) (T := TX3) (N := 2) hx hb hts iX3 hown hK hP 0 rfl rfl 1 (by decide) (hts (.fieldLink RX3 15 "RainTarget$Moods" "parts" "[I") (List.mem_of_getElem? (i := 2) rfl)) (fun _ h9 => h9) rfl dX3_add_59 ?_
      refine lv_iload hx hb dX3_add_62 (lv_at hl 0 rfl) ?_
      refine lv_iconst (v := nZ 2) hx hb dX3_add_64 rfl ?_
      refine z_iadd hx hb dX3_add_65 ?_
      refine lv_iload hx hb dX3_add_66 (lv_at hl 5 rfl) ?_
      refine z_iast hx hb hK hP hD hS 2 0 rfl rfl (by omega) (by omega) (by omega) dX3_add_68 (fun H locs hP hD hS => ?_)
      have hP : va_P D vwCl [(h, .inr (3, [.ref q1, .ref q2])), (q1, .inl (cI, 4, .inl (aZ cs))), (q2, .inl (cI, 48, .inl (aZ (uZ (uZ (uZ mp ((((a * 4) + (cs a)) * 3) + 0) x) ((((a * 4) + (cs a)) * 3) + 1) y) ((((a * 4) + (cs a)) * 3) + 2) z))))] H := hP
      have hD : va_D A [(h, .inr (3, [.ref q1, .ref q2])), (q1, .inl (cI, 4, .inl (aZ cs))), (q2, .inl (cI, 48, .inl (aZ (uZ (uZ (uZ mp ((((a * 4) + (cs a)) * 3) + 0) x) ((((a * 4) + (cs a)) * 3) + 1) y) ((((a * 4) + (cs a)) * 3) + 2) z))))] := hD
      refine lv_aload_n hx hb dX3_add_69 rfl (lv_at hl 1 rfl) ?_
      refine va_get (D := D) (ci := 3) (v := .ref q1) (C := RX3) (T := TX3) (N := 2) hx hb hts iX3 hown hK hP 0 rfl rfl 0 (by decide) (hts (.fieldLink RX3 9 "RainTarget$Moods" "sizes" "[I") (List.mem_of_getElem? (i := 1) rfl)) (fun _ h9 => h9) rfl dX3_add_70 ?_
      refine lv_iload_n hx hb dX3_add_73 rfl (lv_at hl 2 rfl) ?_
      refine lv_dup2_11 hx hb dX3_add_74 rfl rfl ?_
      refine z_iald hx hb hK hP 1 0 rfl rfl (by omega) (by omega) (by omega) dX3_add_75 ?_
      refine lv_iconst (v := nZ 1) hx hb dX3_add_76 rfl ?_
      refine z_iadd hx hb dX3_add_77 ?_
      refine z_iast hx hb hK hP hD hS 1 0 rfl rfl (by omega) (by omega) (by omega) dX3_add_78 (fun H locs hP hD hS => ?_)
      have hP : va_P D vwCl [(h, .inr (3, [.ref q1, .ref q2])), (q1, .inl (cI, 4, .inl (aZ (uZ cs a ((cs a) + 1))))), (q2, .inl (cI, 48, .inl (aZ (uZ (uZ (uZ mp ((((a * 4) + (cs a)) * 3) + 0) x) ((((a * 4) + (cs a)) * 3) + 1) y) ((((a * 4) + (cs a)) * 3) + 2) z))))] H := hP
      have hD : va_D A [(h, .inr (3, [.ref q1, .ref q2])), (q1, .inl (cI, 4, .inl (aZ (uZ cs a ((cs a) + 1))))), (q2, .inl (cI, 48, .inl (aZ (uZ (uZ (uZ mp ((((a * 4) + (cs a)) * 3) + 0) x) ((((a * 4) + (cs a)) * 3) + 1) y) ((((a * 4) + (cs a)) * 3) + 2) z))))] := hD
      have hP9 := hP.sub (ws' := [(h, .inr (3, [.ref q1, .ref q2])), (q1, .inl (cI, 4, .inl (aZ (uZ cs a ((cs a) + 1))))), (q2, .inl (cI, 48, .inl (aZ (uZ (uZ (uZ mp ((((a * 4) + (cs a)) * 3) + 0) x) ((((a * 4) + (cs a)) * 3) + 1) y) ((((a * 4) + (cs a)) * 3) + 2) z))))]) [0, 1, 2] rfl
      have hD9 := hD.sub (ws' := [(h, .inr (3, [.ref q1, .ref q2])), (q1, .inl (cI, 4, .inl (aZ (uZ cs a ((cs a) + 1))))), (q2, .inl (cI, 48, .inl (aZ (uZ (uZ (uZ mp ((((a * 4) + (cs a)) * 3) + 0) x) ((((a * 4) + (cs a)) * 3) + 1) y) ((((a * 4) + (cs a)) * 3) + 2) z))))]) [0, 1, 2] (by decide) rfl
      have hq9 : ([(h, .inr (3, [.ref q1, .ref q2])), (q1, .inl (cI, 4, .inl (aZ (uZ cs a ((cs a) + 1))))), (q2, .inl (cI, 48, .inl (aZ (uZ (uZ (uZ mp ((((a * 4) + (cs a)) * 3) + 0) x) ((((a * 4) + (cs a)) * 3) + 1) y) ((((a * 4) + (cs a)) * 3) + 2) z))))] : va_W) = [(h, .inr (3, [.ref q1, .ref q2])), (q1, .inl (cI, 4, .inl (aZ (uZ cs a (cs a + 1))))), (q2, .inl (cI, 48, .inl (aZ (mdF mp ((a * 4 + cs a) * 3) x y z))))] := by rfl
      rw [hq9] at hP9 hD9
      exact W.vret hx hb hr (fun t9 ht9 _ => ⟨⟨(), rfl, trivial, ⟨by rw [ht9]; exact hP9, hD9⟩⟩, hS.F ht9⟩) hS.2.2 dX3_add_79
    · exfalso; omega

set_option maxHeartbeats 4000000 in
set_option maxRecDepth 100000 in
theorem c_X1_begin (l : Launch) (D : va_G) (cI cJ : ClassId) (tn : Nat) (sz : Nat) (h : Nat) (q : Nat) (ov : Int → Int) (told : Int) (tot : Int)   : Met l yX1_begin wsX1_begin ({ frames := 1, cells := 0, slots := 0, locals := 23 } : Room) (va_Pc [.ref h] (WrP D cI cJ tn [(h, .inr (1, [.ref q, .int (nZ told), .int (nZ tot)])), (q, .inl (cI, 12, .inl (aZ ov)))] sz)) (va_Qv (fun u9 : Unit => True) (fun u9 t9 => WrQ D (va_A [(h, .inr (1, [.ref q, .int (nZ told), .int (nZ tot)])), (q, .inl (cI, 12, .inl (aZ ov)))] sz) [(h, .inr (1, [.ref q, .int (nZ 0), .int (nZ 0)])), (q, .inl (cI, 12, .inl (aZ (fiF ov 0 12))))] t9) (va_A [(h, .inr (1, [.ref q, .int (nZ told), .int (nZ tot)])), (q, .inl (cI, 12, .inl (aZ ov)))] sz)) 0 0 (va_A [(h, .inr (1, [.ref q, .int (nZ told), .int (nZ tot)])), (q, .inl (cI, 12, .inl (aZ ov)))] sz) := by
  refine Met.ofW (cc := cX1_begin) (maxL := 1) (ret := none) (by decide) rfl ?_
  intro p e s m args below meth c s₁ B hml hv
  obtain ⟨rfl, hsz, hE, hP, hD0⟩ := hv
  have hx := B.exec
  have hb := B.bytes
  have hr := B.returns
  have hts := atoms_spec (ws := wsX1_begin) B.pre
  have hown : s.vm.findClass RX1 = some m.cls := findClass_of_methodNamed B.named
  have hlocks := B.notSynchronized
  subst hsz
  have hD := hD0.self (sz := s.heap.size)
  generalize hAe : va_A [(h, .inr (1, [.ref q, .int (nZ told), .int (nZ tot)])), (q, .inl (cI, 12, .inl (aZ ov)))] s.heap.size = A at hD hE ⊢
  have hA : ∀ q : Nat, s.heap.size ≤ q → A q := fun q h => by rw [← hAe]; exact Or.inr h
  have hS : va_S A s.heap s.heap [] := va_S.rf
  have hK := hE.1
  have hN := hE.2.1
  have hl := lv_entry ([.ref h]) (n := 1) (Nat.le_of_ble_eq_true rfl)
  rw [lg_entry_eq]
  generalize (lg_sl ([.ref h]) ++ List.replicate (1 - (lg_sl ([.ref h])).length) Slot.unset).toArray = ls at hl ⊢
  have hl : lv_has ls 1 [(0, .ref h)] := hl
  have iX1 : ∀ w ∈ u_ws RX1 TX1 3, w ∈ wsX1_begin := fun _ h => List.mem_cons_of_mem _ (List.mem_append_right _ h)
  refine lv_aload_n hx hb dX1_begin_0 rfl (lv_at hl 0 rfl) ?_
  refine va_get (D := D) (ci := 1) (v := .ref q) (C := RX1) (T := TX1) (N := 3) hx hb hts iX1 hown hK hP 0 rfl rfl 0 (by decide) (hts (.fieldLink RX1 9 "RainTarget$FirstSide" "overs" "[I") (List.mem_of_getElem? (i := 1) rfl)) (fun _ h9 => h9) rfl dX1_begin_1 ?_
  refine lv_iconst (v := nZ 0) hx hb dX1_begin_4 rfl ?_
  have hFc := va_free (wc := [(q, .inl (cI, 12, .inl (aZ ov)))]) hD hS hA [1] rfl
  have hPc := hP.sub (ws' := [(q, .inl (cI, 12, .inl (aZ ov)))]) [1] rfl
  have hDc := hD.sub (ws' := [(q, .inl (cI, 12, .inl (aZ ov)))]) [1] (by decide) rfl
  refine va_callv (va_runS (As := [.ref q, .int (nZ 0)]) (rest := []) ⟨hx, hb, hml, hown, hts⟩ (c_J7_fill_53178 l D cI cJ tn s.heap.size q 12 ov 0 (by decide) ) (va_cwS 2 hts gX1_begin_J7_fill_53178 rfl rfl rfl (by decide +kernel) ⟨Nat.le_of_ble_eq_true rfl, Nat.le_of_ble_eq_true rfl⟩) ⟨WrP.blind, fun U hU hW => ⟨rfl, WrP.call hE hS hPc hDc hFc hU hW⟩⟩ rfl rfl hl.1 rfl (lv_room (Nat.le_of_ble_eq_true rfl)) dX1_begin_5 ⟨Nat.le_of_ble_eq_true rfl, Nat.le_of_ble_eq_true rfl⟩) hS (fun q _ h => hFc q h) hFc (fun u9 t9 H1 locs ht9 hvm hv5 hB9 hz9 hk9 hS => ?_)
  obtain ⟨hP8, hD8⟩ := hB9
  rw [ht9] at hP8
  have hw5 : True := hv5
  obtain ⟨hP, hD⟩ := va_join (wr := [(h, .inr (1, [.ref q, .int (nZ told), .int (nZ tot)]))]) (w1 := [(q, .inl (cI, 12, .inl (aZ (fiF ov 0 (12 : Int)))))]) hP hD [1] [0] rfl rfl (by decide) (by decide) hk9 hFc hP8 hD8
  generalize H1 = H at hP hS ⊢
  have hP : va_P D vwCl [(h, .inr (1, [.ref q, .int (nZ told), .int (nZ tot)])), (q, .inl (cI, 12, .inl (aZ (fiF ov 0 (12 : Int)))))] H := hP
  have hD : va_D A [(h, .inr (1, [.ref q, .int (nZ told), .int (nZ tot)])), (q, .inl (cI, 12, .inl (aZ (fiF ov 0 (12 : Int)))))] := hD
  refine lv_aload_n hx hb dX1_begin_8 rfl (lv_at hl 0 rfl) ?_
  refine lv_iconst (v := nZ 0) hx hb dX1_begin_9 rfl ?_
  refine va_put (D := D) (ci := 1) (v := .int (nZ 0)) (ty := .int) (C := RX1) (T := TX1) (N := 3) hx hb hts iX1 tyX1 tyX1_ok nmX1 hown hK hP hD hS 0 rfl rfl 1 (by decide) (hts (.fieldLink RX1 21 "RainTarget$FirstSide" "told" "I") (List.mem_of_getElem? (i := 2) rfl)) (fun _ h9 => h9) rfl (by decide +kernel) rfl rfl (Nat.le_of_ble_eq_true rfl) dX1_begin_10 (fun H locs hP hD hS => ?_)
  have hP : va_P D vwCl [(h, .inr (1, [.ref q, .int (nZ 0), .int (nZ tot)])), (q, .inl (cI, 12, .inl (aZ (fiF ov 0 (12 : Int)))))] H := hP
  have hD : va_D A [(h, .inr (1, [.ref q, .int (nZ 0), .int (nZ tot)])), (q, .inl (cI, 12, .inl (aZ (fiF ov 0 (12 : Int)))))] := hD
  refine lv_aload_n hx hb dX1_begin_13 rfl (lv_at hl 0 rfl) ?_
  refine lv_iconst (v := nZ 0) hx hb dX1_begin_14 rfl ?_
  refine va_put (D := D) (ci := 1) (v := .int (nZ 0)) (ty := .int) (C := RX1) (T := TX1) (N := 3) hx hb hts iX1 tyX1 tyX1_ok nmX1 hown hK hP hD hS 0 rfl rfl 2 (by decide) (hts (.fieldLink RX1 25 "RainTarget$FirstSide" "total" "I") (List.mem_of_getElem? (i := 3) rfl)) (fun _ h9 => h9) rfl (by decide +kernel) rfl rfl (Nat.le_of_ble_eq_true rfl) dX1_begin_15 (fun H locs hP hD hS => ?_)
  have hP : va_P D vwCl [(h, .inr (1, [.ref q, .int (nZ 0), .int (nZ 0)])), (q, .inl (cI, 12, .inl (aZ (fiF ov 0 (12 : Int)))))] H := hP
  have hD : va_D A [(h, .inr (1, [.ref q, .int (nZ 0), .int (nZ 0)])), (q, .inl (cI, 12, .inl (aZ (fiF ov 0 (12 : Int)))))] := hD
  have hP9 := hP.sub (ws' := [(h, .inr (1, [.ref q, .int (nZ 0), .int (nZ 0)])), (q, .inl (cI, 12, .inl (aZ (fiF ov 0 (12 : Int)))))]) [0, 1] rfl
  have hD9 := hD.sub (ws' := [(h, .inr (1, [.ref q, .int (nZ 0), .int (nZ 0)])), (q, .inl (cI, 12, .inl (aZ (fiF ov 0 (12 : Int)))))]) [0, 1] (by decide) rfl
  have hq9 : ([(h, .inr (1, [.ref q, .int (nZ 0), .int (nZ 0)])), (q, .inl (cI, 12, .inl (aZ (fiF ov 0 (12 : Int)))))] : va_W) = [(h, .inr (1, [.ref q, .int (nZ 0), .int (nZ 0)])), (q, .inl (cI, 12, .inl (aZ (fiF ov 0 12))))] := by rfl
  rw [hq9] at hP9 hD9
  exact W.vret hx hb hr (fun t9 ht9 _ => ⟨⟨(), rfl, trivial, ⟨by rw [ht9]; exact hP9, hD9⟩⟩, hS.F ht9⟩) hS.2.2 dX1_begin_18

set_option maxHeartbeats 4000000 in
set_option maxRecDepth 100000 in
theorem c_X1_add (l : Launch) (D : va_G) (cI cJ : ClassId) (tn : Nat) (sz : Nat) (h : Nat) (q : Nat) (ov : Int → Int) (told : Int) (tot : Int) (a : Int) (ht0 : 0 ≤ told) (ht1 : told ≤ 11)  : Met l yX1_add wsX1_add ({ frames := 1, cells := 0, slots := 0, locals := 22 } : Room) (va_Pc [.ref h, .int (nZ a)] (WrP D cI cJ tn [(h, .inr (1, [.ref q, .int (nZ told), .int (nZ tot)])), (q, .inl (cI, 12, .inl (aZ ov)))] sz)) (va_Qv (fun u9 : Unit => True) (fun u9 t9 => WrQ D (va_A [(h, .inr (1, [.ref q, .int (nZ told), .int (nZ tot)])), (q, .inl (cI, 12, .inl (aZ ov)))] sz) [(h, .inr (1, [.ref q, .int (nZ (told + 1)), .int (nZ (tot + a))])), (q, .inl (cI, 12, .inl (aZ (uZ ov told a))))] t9) (va_A [(h, .inr (1, [.ref q, .int (nZ told), .int (nZ tot)])), (q, .inl (cI, 12, .inl (aZ ov)))] sz)) 0 0 (va_A [(h, .inr (1, [.ref q, .int (nZ told), .int (nZ tot)])), (q, .inl (cI, 12, .inl (aZ ov)))] sz) := by
  refine Met.ofW (cc := cX1_add) (maxL := 2) (ret := none) (by decide) rfl ?_
  intro p e s m args below meth c s₁ B hml hv
  obtain ⟨rfl, hsz, hE, hP, hD0⟩ := hv
  have hx := B.exec
  have hb := B.bytes
  have hr := B.returns
  have hts := atoms_spec (ws := wsX1_add) B.pre
  have hown : s.vm.findClass RX1 = some m.cls := findClass_of_methodNamed B.named
  have hlocks := B.notSynchronized
  subst hsz
  have hD := hD0.self (sz := s.heap.size)
  generalize hAe : va_A [(h, .inr (1, [.ref q, .int (nZ told), .int (nZ tot)])), (q, .inl (cI, 12, .inl (aZ ov)))] s.heap.size = A at hD hE ⊢
  have hA : ∀ q : Nat, s.heap.size ≤ q → A q := fun q h => by rw [← hAe]; exact Or.inr h
  have hS : va_S A s.heap s.heap [] := va_S.rf
  have hK := hE.1
  have hN := hE.2.1
  have hl := lv_entry ([.ref h, .int (nZ a)]) (n := 2) (Nat.le_of_ble_eq_true rfl)
  rw [lg_entry_eq]
  generalize (lg_sl ([.ref h, .int (nZ a)]) ++ List.replicate (2 - (lg_sl ([.ref h, .int (nZ a)])).length) Slot.unset).toArray = ls at hl ⊢
  have hl : lv_has ls 2 [(0, .ref h), (1, .int (nZ a))] := hl
  have iX1 : ∀ w ∈ u_ws RX1 TX1 3, w ∈ wsX1_add := fun _ h => List.mem_cons_of_mem _ (List.mem_append_right _ h)
  refine lv_aload_n hx hb dX1_add_0 rfl (lv_at hl 0 rfl) ?_
  refine va_get (D := D) (ci := 1) (v := .int (nZ told)) (C := RX1) (T := TX1) (N := 3) hx hb hts iX1 hown hK hP 0 rfl rfl 1 (by decide) (hts (.fieldLink RX1 21 "RainTarget$FirstSide" "told" "I") (List.mem_of_getElem? (i := 1) rfl)) (fun _ h9 => h9) rfl dX1_add_1 ?_
  refine lv_iconst (v := nZ 0) hx hb dX1_add_4 rfl ?_
  refine lv_bipush (v := nZ 11) hx hb dX1_add_5 (by decide) ?_
  refine vp_callSi ((va_runSN (As := [.int (nZ told), .int (nZ 0), .int (nZ 11)]) (rest := []) ⟨hx, hb, hml, hown, hts⟩ (c_X9_within l D cI cJ tn told 0 11 (by omega) (by decide) (by decide) ) ⟨va_cnB 3 hts gX1_add_X9_within_n28 rfl rfl rfl (nw_X1_28 hN) (hts (.initialized RX9) (List.mem_of_getElem? (i := 5) rfl)) (by decide +kernel) ⟨Nat.le_of_ble_eq_true rfl, Nat.le_of_ble_eq_true rfl⟩, (hts (.static yX9_within) (List.mem_of_getElem? (i := 4) rfl)), trivial⟩ ⟨RoP.blind, fun U hU hW => ⟨rfl, RoP.call hE hS (hP.sub (ws' := []) [] rfl) hU hW⟩⟩ rfl rfl hl.1 rfl (lv_room (Nat.le_of_ble_eq_true rfl)) dX1_add_7 ⟨Nat.le_of_ble_eq_true rfl, Nat.le_of_ble_eq_true rfl⟩).run) (fun r7 hr7 => ?_)
  subst hr7
  refine z_nameI (fun r7 er7 => ?_)
  refine z_if_eq (tgt := 43) hx hb dX1_add_10 (by decide) (by omega) (fun c_10 => ?_) (fun c_10 => ?_)
  · exfalso; omega
  · refine lv_aload_n hx hb dX1_add_13 rfl (lv_at hl 0 rfl) ?_
    refine va_get (D := D) (ci := 1) (v := .ref q) (C := RX1) (T := TX1) (N := 3) hx hb hts iX1 hown hK hP 0 rfl rfl 0 (by decide) (hts (.fieldLink RX1 9 "RainTarget$FirstSide" "overs" "[I") (List.mem_of_getElem? (i := 2) rfl)) (fun _ h9 => h9) rfl dX1_add_14 ?_
    refine lv_aload_n hx hb dX1_add_17 rfl (lv_at hl 0 rfl) ?_
    refine va_get (D := D) (ci := 1) (v := .int (nZ told)) (C := RX1) (T := TX1) (N := 3) hx hb hts iX1 hown hK hP 0 rfl rfl 1 (by decide) (hts (.fieldLink RX1 21 "RainTarget$FirstSide" "told" "I") (List.mem_of_getElem? (i := 1) rfl)) (fun _ h9 => h9) rfl dX1_add_18 ?_
    refine lv_iload_n hx hb dX1_add_21 rfl (lv_at hl 1 rfl) ?_
    refine z_iast hx hb hK hP hD hS 1 0 rfl rfl (by omega) (by omega) (by omega) dX1_add_22 (fun H locs hP hD hS => ?_)
    have hP : va_P D vwCl [(h, .inr (1, [.ref q, .int (nZ told), .int (nZ tot)])), (q, .inl (cI, 12, .inl (aZ (uZ ov told a))))] H := hP
    have hD : va_D A [(h, .inr (1, [.ref q, .int (nZ told), .int (nZ tot)])), (q, .inl (cI, 12, .inl (aZ (uZ ov told a))))] := hD
    refine lv_aload_n hx hb dX1_add_23 rfl (lv_at hl 0 rfl) ?_
    refine lv_dup hx hb dX1_add_24 rfl ?_
    refine va_get (D := D) (ci := 1) (v := .int (nZ told)) (C := RX1) (T := TX1) (N := 3) hx hb hts iX1 hown hK hP 0 rfl rfl 1 (by decide) (hts (.fieldLink RX1 21 "RainTarget$FirstSide" "told" "I") (List.mem_of_getElem? (i := 1) rfl)) (fun _ h9 => h9) rfl dX1_add_25 ?_
    refine lv_iconst (v := nZ 1) hx hb dX1_add_28 rfl ?_
    refine z_iadd hx hb dX1_add_29 ?_
    refine va_put (D := D) (ci := 1) (v := .int (nZ (told + 1))) (ty := .int) (C := RX1) (T := TX1) (N := 3) hx hb hts iX1 tyX1 tyX1_ok nmX1 hown hK hP hD hS 0 rfl rfl 1 (by decide) (hts (.fieldLink RX1 21 "RainTarget$FirstSide" "told" "I") (List.mem_of_getElem? (i := 1) rfl)) (fun _ h9 => h9) rfl (by decide +kernel) rfl rfl (Nat.le_of_ble_eq_true rfl) dX1_add_30 (fun H locs hP hD hS => ?_)
    have hP : va_P D vwCl [(h, .inr (1, [.ref q, .int (nZ (told + 1)), .int (nZ tot)])), (q, .inl (cI, 12, .inl (aZ (uZ ov told a))))] H := hP
    have hD : va_D A [(h, .inr (1, [.ref q, .int (nZ (told + 1)), .int (nZ tot)])), (q, .inl (cI, 12, .inl (aZ (uZ ov told a))))] := hD
    refine lv_aload_n hx hb dX1_add_33 rfl (lv_at hl 0 rfl) ?_
    refine lv_dup hx hb dX1_add_34 rfl ?_
    refine va_get (D := D) (ci := 1) (v := .int (nZ tot)) (C := RX1) (T := TX1) (N := 3) hx hb hts iX1 hown hK hP 0 rfl rfl 2 (by decide) (hts (.fieldLink RX1 25 "RainTarget$FirstSide" "total" "I") (List.mem_of_getElem? (i := 3) rfl)) (fun _ h9 => h9) rfl dX1_add_35 ?_
    refine lv_iload_n hx hb dX1_add_38 rfl (lv_at hl 1 rfl) ?_
    refine z_iadd hx hb dX1_add_39 ?_
    refine va_put (D := D) (ci := 1) (v := .int (nZ (tot + a))) (ty := .int) (C := RX1) (T := TX1) (N := 3) hx hb hts iX1 tyX1 tyX1_ok nmX1 hown hK hP hD hS 0 rfl rfl 2 (by decide) (hts (.fieldLink RX1 25 "RainTarget$FirstSide" "total" "I") (List.mem_of_getElem? (i := 3) rfl)) (fun _ h9 => h9) rfl (by decide +kernel) rfl rfl (Nat.le_of_ble_eq_true rfl) dX1_add_40 (fun H locs hP hD hS => ?_)
    have hP : va_P D vwCl [(h, .inr (1, [.ref q, .int (nZ (told + 1)), .int (nZ (tot + a))])), (q, .inl (cI, 12, .inl (aZ (uZ ov told a))))] H := hP
    have hD : va_D A [(h, .inr (1, [.ref q, .int (nZ (told + 1)), .int (nZ (tot + a))])), (q, .inl (cI, 12, .inl (aZ (uZ ov told a))))] := hD
    have hP9 := hP.sub (ws' := [(h, .inr (1, [.ref q, .int (nZ (told + 1)), .int (nZ (tot + a))])), (q, .inl (cI, 12, .inl (aZ (uZ ov told a))))]) [0, 1] rfl
    have hD9 := hD.sub (ws' := [(h, .inr (1, [.ref q, .int (nZ (told + 1)), .int (nZ (tot + a))])), (q, .inl (cI, 12, .inl (aZ (uZ ov told a))))]) [0, 1] (by decide) rfl
    exact W.vret hx hb hr (fun t9 ht9 _ => ⟨⟨(), rfl, trivial, ⟨by rw [ht9]; exact hP9, hD9⟩⟩, hS.F ht9⟩) hS.2.2 dX1_add_43

set_option maxHeartbeats 4000000 in
set_option maxRecDepth 100000 in
theorem c_X1_rank (l : Launch) (D : va_G) (cI cJ : ClassId) (tn : Nat) (h : Nat) (q : Nat) (ov : Int → Int) (told : Int) (tot : Int) (i : Int) (al : Int) (hi0 : 0 ≤ i) (hi1 : i ≤ 11) (ha0 : 0 ≤ al) (ha1 : al ≤ 12) (rov : ∀ k, I32 (ov k))  : Met l yX1_rank wsX1_rank ({ frames := 1, cells := 0, slots := 0, locals := 22 } : Room) (va_Pc [.ref h, .int (nZ i), .int (nZ al)] (RoP D cI cJ tn [(h, .inr (1, [.ref q, .int (nZ told), .int (nZ tot)])), (q, .inl (cI, 12, .inl (aZ ov)))])) (vp_Si (fun r9 : Int32 => r9 = nZ (rkN ov i al.toNat))) 0 0 (fun _ => False) := by
  refine Met.ofW (cc := cX1_rank) (maxL := 5) (ret := (some .int)) (by decide) rfl ?_
  intro p e s m args below meth c s₁ B hml hv
  obtain ⟨rfl, hE, hP⟩ := hv
  have hx := B.exec
  have hb := B.bytes
  have hr := B.returns
  have hts := atoms_spec (ws := wsX1_rank) B.pre
  have hown : s.vm.findClass RX1 = some m.cls := findClass_of_methodNamed B.named
  have hlocks := B.notSynchronized
  have hS : va_S (fun _ => False) s.heap s.heap [] := va_S.rf
  have hK := hE.1
  have hN := hE.2.1
  have hl := lv_entry ([.ref h, .int (nZ i), .int (nZ al)]) (n := 5) (Nat.le_of_ble_eq_true rfl)
  rw [lg_entry_eq]
  generalize (lg_sl ([.ref h, .int (nZ i), .int (nZ al)]) ++ List.replicate (5 - (lg_sl ([.ref h, .int (nZ i), .int (nZ al)])).length) Slot.unset).toArray = ls at hl ⊢
  have hl : lv_has ls 5 [(0, .ref h), (1, .int (nZ i)), (2, .int (nZ al))] := hl
  have iX1 : ∀ w ∈ u_ws RX1 TX1 3, w ∈ wsX1_rank := fun _ h => List.mem_cons_of_mem _ (List.mem_append_right _ h)
  refine lv_iconst (v := nZ 0) hx hb dX1_rank_0 rfl ?_
  refine lv_istore_n (lv' := [(3, .int (nZ 0)), (0, .ref h), (1, .int (nZ i)), (2, .int (nZ al))]) hx hb dX1_rank_1 rfl hl (by decide) rfl (fun ls hl => ?_)
  refine lv_iconst (v := nZ 0) hx hb dX1_rank_2 rfl ?_
  refine lv_istore (lv' := [(4, .int (nZ 0)), (3, .int (nZ 0)), (0, .ref h), (1, .int (nZ i)), (2, .int (nZ al))]) hx hb dX1_rank_3 hl (by decide) rfl (fun ls hl => ?_)
  refine z_rloop2 (fun (k : Int) (j : Int) => (0 ≤ j) ∧ (j ≤ al) ∧ (k = rkN ov i j.toNat)) (fun (k : Int) (j : Int) => (al - j).toNat) (fun (k : Int) (j : Int) => [(4, .int (nZ j)), (3, .int (nZ k)), (0, .ref h), (1, .int (nZ i)), (2, .int (nZ al))]) ?_ 0 0 ⟨(by first | assumption | omega), (by first | assumption | omega), rfl⟩ (lv_sub hl [0, 1, 2, 3, 4] rfl)
  intro k j hI5 ih5 ls hl
  have hl : lv_has ls 5 [(4, .int (nZ j)), (3, .int (nZ k)), (0, .ref h), (1, .int (nZ i)), (2, .int (nZ al))] := hl
  obtain ⟨hj0, hj1, hk⟩ : (0 ≤ j) ∧ (j ≤ al) ∧ (k = rkN ov i j.toNat) := hI5
  refine lv_iload hx hb dX1_rank_5 (lv_at hl 0 rfl) ?_
  refine lv_iload_n hx hb dX1_rank_7 rfl (lv_at hl 4 rfl) ?_
  refine z_icmp_ge (tgt := 75) hx hb dX1_rank_8 (by decide) (by omega) (by omega) (fun c_8 => ?_) (fun c_8 => ?_)
  · refine lv_iload_n hx hb dX1_rank_75 rfl (lv_at hl 1 rfl) ?_
    exact W.iret (v := nZ k) hx hb hr (fun t9 ht9 _ => ⟨nZ k, rfl, congrArg nZ (show (k : Int) = rkN ov i al.toNat from (by rw [hk, show j = al from by omega])), ht9⟩) (fun _ h => by cases h) dX1_rank_76
  · refine lv_iload hx hb dX1_rank_11 (lv_at hl 0 rfl) ?_
    refine lv_bipush (v := nZ 12) hx hb dX1_rank_13 (by decide) ?_
    refine z_icmp_ge (tgt := 75) hx hb dX1_rank_15 (by decide) (by omega) (by decide) (fun c_15 => ?_) (fun c_15 => ?_)
    · refine lv_iload_n hx hb dX1_rank_75 rfl (lv_at hl 1 rfl) ?_
      exact W.iret (v := nZ k) hx hb hr (fun t9 ht9 _ => ⟨nZ k, rfl, congrArg nZ (show (k : Int) = rkN ov i al.toNat from (by rw [hk, show j = al from by omega])), ht9⟩) (fun _ h => by cases h) dX1_rank_76
    · refine lv_iload_n hx hb dX1_rank_18 rfl (lv_at hl 3 rfl) ?_
      refine lv_iconst (v := nZ 0) hx hb dX1_rank_19 rfl ?_
      refine lv_bipush (v := nZ 11) hx hb dX1_rank_20 (by decide) ?_
      refine vp_callSi ((va_runSN (As := [.int (nZ i), .int (nZ 0), .int (nZ 11)]) (rest := []) ⟨hx, hb, hml, hown, hts⟩ (c_X9_within l D cI cJ tn i 0 11 (by omega) (by decide) (by decide) ) ⟨va_cnB 3 hts gX1_rank_X9_within_n28 rfl rfl rfl (nw_X1_28 hN) (hts (.initialized RX9) (List.mem_of_getElem? (i := 3) rfl)) (by decide +kernel) ⟨Nat.le_of_ble_eq_true rfl, Nat.le_of_ble_eq_true rfl⟩, (hts (.static yX9_within) (List.mem_of_getElem? (i := 2) rfl)), trivial⟩ ⟨RoP.blind, fun U hU hW => ⟨rfl, RoP.call hE hS (hP.sub (ws' := []) [] rfl) hU hW⟩⟩ rfl rfl hl.1 rfl (lv_room (Nat.le_of_ble_eq_true rfl)) dX1_rank_22 ⟨Nat.le_of_ble_eq_true rfl, Nat.le_of_ble_eq_true rfl⟩).run) (fun r22 hr22 => ?_)
      subst hr22
      refine z_nameI (fun r22 er22 => ?_)
      refine z_if_eq (tgt := 69) hx hb dX1_rank_25 (by decide) (by omega) (fun c_25 => ?_) (fun c_25 => ?_)
      · exfalso; omega
      · refine lv_aload_n hx hb dX1_rank_28 rfl (lv_at hl 2 rfl) ?_
        refine va_get (D := D) (ci := 1) (v := .ref q) (C := RX1) (T := TX1) (N := 3) hx hb hts iX1 hown hK hP 0 rfl rfl 0 (by decide) (hts (.fieldLink RX1 9 "RainTarget$FirstSide" "overs" "[I") (List.mem_of_getElem? (i := 1) rfl)) (fun _ h9 => h9) rfl dX1_rank_29 ?_
        refine lv_iload hx hb dX1_rank_32 (lv_at hl 0 rfl) ?_
        refine z_iald hx hb hK hP 1 0 rfl rfl (by omega) (by omega) (by omega) dX1_rank_34 ?_
        refine lv_aload_n hx hb dX1_rank_35 rfl (lv_at hl 2 rfl) ?_
        refine va_get (D := D) (ci := 1) (v := .ref q) (C := RX1) (T := TX1) (N := 3) hx hb hts iX1 hown hK hP 0 rfl rfl 0 (by decide) (hts (.fieldLink RX1 9 "RainTarget$FirstSide" "overs" "[I") (List.mem_of_getElem? (i := 1) rfl)) (fun _ h9 => h9) rfl dX1_rank_36 ?_
        refine lv_iload_n hx hb dX1_rank_39 rfl (lv_at hl 3 rfl) ?_
        refine z_iald hx hb hK hP 1 0 rfl rfl (by omega) (by omega) (by omega) dX1_rank_40 ?_
        refine z_icmp_lt (tgt := 66) hx hb dX1_rank_41 (by decide) (rov _) (rov _) (fun c_41 => ?_) (fun c_41 => ?_)
        · refine lv_iinc (v := nZ (k + 1)) (lv' := [(3, .int (nZ (k + 1))), (4, .int (nZ j)), (0, .ref h), (1, .int (nZ i)), (2, .int (nZ al))]) hx hb dX1_rank_66 hl (k := 1) rfl (nZ_add _ _) (by decide) rfl (fun ls hl => ?_)
          refine lv_iinc (v := nZ (j + 1)) (lv' := [(4, .int (nZ (j + 1))), (3, .int (nZ (k + 1))), (0, .ref h), (1, .int (nZ i)), (2, .int (nZ al))]) hx hb dX1_rank_69 hl (k := 1) rfl (nZ_add _ _) (by decide) rfl (fun ls hl => ?_)
          refine lv_goto (tgt := 5) hx hb dX1_rank_72 (by decide) ?_
          exact ih5 (k + 1) (j + 1) ⟨(by first | assumption | omega), (by first | assumption | omega), (by rw [rkN_s ov i hj0]; first | (rw [if_pos (by omega)]; omega) | (rw [if_neg (by omega)]; omega))⟩ (show (al - (j + 1)).toNat < (al - j).toNat from by omega) ls (lv_sub hl [0, 1, 2, 3, 4] rfl)
        · refine lv_aload_n hx hb dX1_rank_44 rfl (lv_at hl 2 rfl) ?_
          refine va_get (D := D) (ci := 1) (v := .ref q) (C := RX1) (T := TX1) (N := 3) hx hb hts iX1 hown hK hP 0 rfl rfl 0 (by decide) (hts (.fieldLink RX1 9 "RainTarget$FirstSide" "overs" "[I") (List.mem_of_getElem? (i := 1) rfl)) (fun _ h9 => h9) rfl dX1_rank_45 ?_
          refine lv_iload hx hb dX1_rank_48 (lv_at hl 0 rfl) ?_
          refine z_iald hx hb hK hP 1 0 rfl rfl (by omega) (by omega) (by omega) dX1_rank_50 ?_
          refine lv_aload_n hx hb dX1_rank_51 rfl (lv_at hl 2 rfl) ?_
          refine va_get (D := D) (ci := 1) (v := .ref q) (C := RX1) (T := TX1) (N := 3) hx hb hts iX1 hown hK hP 0 rfl rfl 0 (by decide) (hts (.fieldLink RX1 9 "RainTarget$FirstSide" "overs" "[I") (List.mem_of_getElem? (i := 1) rfl)) (fun _ h9 => h9) rfl dX1_rank_52 ?_
          refine lv_iload_n hx hb dX1_rank_55 rfl (lv_at hl 3 rfl) ?_
          refine z_iald hx hb hK hP 1 0 rfl rfl (by omega) (by omega) (by omega) dX1_rank_56 ?_
          refine z_icmp_ne (tgt := 69) hx hb dX1_rank_57 (by decide) (rov _) (rov _) (fun c_57 => ?_) (fun c_57 => ?_)
          · refine lv_iinc (v := nZ (j + 1)) (lv' := [(4, .int (nZ (j + 1))), (3, .int (nZ k)), (0, .ref h), (1, .int (nZ i)), (2, .int (nZ al))]) hx hb dX1_rank_69 hl (k := 0) rfl (nZ_add _ _) (by decide) rfl (fun ls hl => ?_)
            refine lv_goto (tgt := 5) hx hb dX1_rank_72 (by decide) ?_
            exact ih5 k (j + 1) ⟨(by first | assumption | omega), (by first | assumption | omega), (by rw [rkN_s ov i hj0]; first | (rw [if_pos (by omega)]; omega) | (rw [if_neg (by omega)]; omega))⟩ (show (al - (j + 1)).toNat < (al - j).toNat from by omega) ls (lv_sub hl [0, 1, 2, 3, 4] rfl)
          · refine lv_iload hx hb dX1_rank_60 (lv_at hl 0 rfl) ?_
            refine lv_iload_n hx hb dX1_rank_62 rfl (lv_at hl 3 rfl) ?_
            refine z_icmp_ge (tgt := 69) hx hb dX1_rank_63 (by decide) (by omega) (by omega) (fun c_63 => ?_) (fun c_63 => ?_)
            · refine lv_iinc (v := nZ (j + 1)) (lv' := [(4, .int (nZ (j + 1))), (3, .int (nZ k)), (0, .ref h), (1, .int (nZ i)), (2, .int (nZ al))]) hx hb dX1_rank_69 hl (k := 0) rfl (nZ_add _ _) (by decide) rfl (fun ls hl => ?_)
              refine lv_goto (tgt := 5) hx hb dX1_rank_72 (by decide) ?_
              exact ih5 k (j + 1) ⟨(by first | assumption | omega), (by first | assumption | omega), (by rw [rkN_s ov i hj0]; first | (rw [if_pos (by omega)]; omega) | (rw [if_neg (by omega)]; omega))⟩ (show (al - (j + 1)).toNat < (al - j).toNat from by omega) ls (lv_sub hl [0, 1, 2, 3, 4] rfl)
            · refine lv_iinc (v := nZ (k + 1)) (lv' := [(3, .int (nZ (k + 1))), (4, .int (nZ j)), (0, .ref h), (1, .int (nZ i)), (2, .int (nZ al))]) hx hb dX1_rank_66 hl (k := 1) rfl (nZ_add _ _) (by decide) rfl (fun ls hl => ?_)
              refine lv_iinc (v := nZ (j + 1)) (lv' := [(4, .int (nZ (j + 1))), (3, .int (nZ (k + 1))), (0, .ref h), (1, .int (nZ i)), (2, .int (nZ al))]) hx hb dX1_rank_69 hl (k := 1) rfl (nZ_add _ _) (by decide) rfl (fun ls hl => ?_)
              refine lv_goto (tgt := 5) hx hb dX1_rank_72 (by decide) ?_
              exact ih5 (k + 1) (j + 1) ⟨(by first | assumption | omega), (by first | assumption | omega), (by rw [rkN_s ov i hj0]; first | (rw [if_pos (by omega)]; omega) | (rw [if_neg (by omega)]; omega))⟩ (show (al - (j + 1)).toNat < (al - j).toNat from by omega) ls (lv_sub hl [0, 1, 2, 3, 4] rfl)

set_option maxHeartbeats 4000000 in
set_option maxRecDepth 100000 in
theorem c_X1_withoutLeast (l : Launch) (D : va_G) (cI cJ : ClassId) (tn : Nat) (h : Nat) (q : Nat) (ov : Int → Int) (told : Int) (tot : Int) (t : Int) (al : Int) (rt : I32 t) (ha0 : 0 ≤ al) (ha1 : al ≤ 12) (rov : ∀ k, I32 (ov k))  : Met l yX1_withoutLeast wsX1_withoutLeast ({ frames := 2, cells := 0, slots := 0, locals := 46 } : Room) (va_Pc [.ref h, .int (nZ t), .int (nZ al)] (RoP D cI cJ tn [(h, .inr (1, [.ref q, .int (nZ told), .int (nZ tot)])), (q, .inl (cI, 12, .inl (aZ ov)))])) (vp_Si (fun r9 : Int32 => r9 = nZ (woN ov t al al.toNat))) 0 0 (fun _ => False) := by
  refine Met.ofW (cc := cX1_withoutLeast) (maxL := 5) (ret := (some .int)) (by decide) rfl ?_
  intro p e s m args below meth c s₁ B hml hv
  obtain ⟨rfl, hE, hP⟩ := hv
  have hx := B.exec
  have hb := B.bytes
  have hr := B.returns
  have hts := atoms_spec (ws := wsX1_withoutLeast) B.pre
  have hown : s.vm.findClass RX1 = some m.cls := findClass_of_methodNamed B.named
  have hlocks := B.notSynchronized
  have hS : va_S (fun _ => False) s.heap s.heap [] := va_S.rf
  have hK := hE.1
  have hN := hE.2.1
  have hl := lv_entry ([.ref h, .int (nZ t), .int (nZ al)]) (n := 5) (Nat.le_of_ble_eq_true rfl)
  rw [lg_entry_eq]
  generalize (lg_sl ([.ref h, .int (nZ t), .int (nZ al)]) ++ List.replicate (5 - (lg_sl ([.ref h, .int (nZ t), .int (nZ al)])).length) Slot.unset).toArray = ls at hl ⊢
  have hl : lv_has ls 5 [(0, .ref h), (1, .int (nZ t)), (2, .int (nZ al))] := hl
  have iX1 : ∀ w ∈ u_ws RX1 TX1 3, w ∈ wsX1_withoutLeast := fun _ h => List.mem_cons_of_mem _ (List.mem_append_right _ h)
  refine lv_iconst (v := nZ 0) hx hb dX1_withoutLeast_0 rfl ?_
  refine lv_istore_n (lv' := [(3, .int (nZ 0)), (0, .ref h), (1, .int (nZ t)), (2, .int (nZ al))]) hx hb dX1_withoutLeast_1 rfl hl (by decide) rfl (fun ls hl => ?_)
  refine lv_iconst (v := nZ 0) hx hb dX1_withoutLeast_2 rfl ?_
  refine lv_istore (lv' := [(4, .int (nZ 0)), (3, .int (nZ 0)), (0, .ref h), (1, .int (nZ t)), (2, .int (nZ al))]) hx hb dX1_withoutLeast_3 hl (by decide) rfl (fun ls hl => ?_)
  refine z_rloop2 (fun (k : Int) (j : Int) => (0 ≤ j) ∧ (j ≤ al) ∧ (k = woN ov t al j.toNat)) (fun (k : Int) (j : Int) => (al - j).toNat) (fun (k : Int) (j : Int) => [(4, .int (nZ j)), (3, .int (nZ k)), (0, .ref h), (1, .int (nZ t)), (2, .int (nZ al))]) ?_ 0 0 ⟨(by first | assumption | omega), (by first | assumption | omega), rfl⟩ (lv_sub hl [0, 1, 2, 3, 4] rfl)
  intro k j hI5 ih5 ls hl
  have hl : lv_has ls 5 [(4, .int (nZ j)), (3, .int (nZ k)), (0, .ref h), (1, .int (nZ t)), (2, .int (nZ al))] := hl
  obtain ⟨hj0, hj1, hk⟩ : (0 ≤ j) ∧ (j ≤ al) ∧ (k = woN ov t al j.toNat) := hI5
  refine lv_iload hx hb dX1_withoutLeast_5 (lv_at hl 0 rfl) ?_
  refine lv_iload_n hx hb dX1_withoutLeast_7 rfl (lv_at hl 4 rfl) ?_
  refine z_icmp_ge (tgt := 45) hx hb dX1_withoutLeast_8 (by decide) (by omega) (by omega) (fun c_8 => ?_) (fun c_8 => ?_)
  · refine lv_iload_n hx hb dX1_withoutLeast_45 rfl (lv_at hl 1 rfl) ?_
    exact W.iret (v := nZ k) hx hb hr (fun t9 ht9 _ => ⟨nZ k, rfl, congrArg nZ (show (k : Int) = woN ov t al al.toNat from (by rw [hk, show j = al from by omega])), ht9⟩) (fun _ h => by cases h) dX1_withoutLeast_46
  · refine lv_iload hx hb dX1_withoutLeast_11 (lv_at hl 0 rfl) ?_
    refine lv_bipush (v := nZ 12) hx hb dX1_withoutLeast_13 (by decide) ?_
    refine z_icmp_ge (tgt := 45) hx hb dX1_withoutLeast_15 (by decide) (by omega) (by decide) (fun c_15 => ?_) (fun c_15 => ?_)
    · refine lv_iload_n hx hb dX1_withoutLeast_45 rfl (lv_at hl 1 rfl) ?_
      exact W.iret (v := nZ k) hx hb hr (fun t9 ht9 _ => ⟨nZ k, rfl, congrArg nZ (show (k : Int) = woN ov t al al.toNat from (by rw [hk, show j = al from by omega])), ht9⟩) (fun _ h => by cases h) dX1_withoutLeast_46
    · refine lv_aload_n hx hb dX1_withoutLeast_18 rfl (lv_at hl 2 rfl) ?_
      refine lv_iload hx hb dX1_withoutLeast_19 (lv_at hl 0 rfl) ?_
      refine lv_iload_n hx hb dX1_withoutLeast_21 rfl (lv_at hl 4 rfl) ?_
      refine vp_callSi ((va_runV (As := [.int (nZ j), .int (nZ al)]) (rest := []) ⟨hx, hb, hml, hown, hts⟩ (c_X1_rank l D cI cJ tn h q ov told tot j al (by first | assumption | omega) (by first | assumption | omega) ha0 ha1 rov ) (cwV 2 hts gX1_withoutLeast_X1_rank rfl rfl rfl (by decide +kernel) ⟨Nat.le_of_ble_eq_true rfl, Nat.le_of_ble_eq_true rfl⟩) ⟨RoP.blind, va_recv hK hP (ci := 1) (q0 := 0) rfl rfl, fun U hU hW => ⟨rfl, RoP.call hE hS (hP.sub (ws' := [(h, .inr (1, [.ref q, .int (nZ told), .int (nZ tot)])), (q, .inl (cI, 12, .inl (aZ ov)))]) [0, 1] rfl) hU hW⟩⟩ rfl rfl hl.1 rfl (lv_room (Nat.le_of_ble_eq_true rfl)) dX1_withoutLeast_22 ⟨Nat.le_of_ble_eq_true rfl, Nat.le_of_ble_eq_true rfl⟩).run) (fun r22 hr22 => ?_)
      subst hr22
      refine z_nameI (fun r22 er22 => ?_)
      have hbd := rkN_bd ov j al.toNat
      refine lv_iload_n hx hb dX1_withoutLeast_25 rfl (lv_at hl 3 rfl) ?_
      refine z_icmp_lt (tgt := 39) hx hb dX1_withoutLeast_26 (by decide) (by omega) (by omega) (fun c_26 => ?_) (fun c_26 => ?_)
      · refine lv_iinc (v := nZ (j + 1)) (lv' := [(4, .int (nZ (j + 1))), (3, .int (nZ k)), (0, .ref h), (1, .int (nZ t)), (2, .int (nZ al))]) hx hb dX1_withoutLeast_39 hl (k := 0) rfl (nZ_add _ _) (by decide) rfl (fun ls hl => ?_)
        refine lv_goto (tgt := 5) hx hb dX1_withoutLeast_42 (by decide) ?_
        exact ih5 k (j + 1) ⟨(by first | assumption | omega), (by first | assumption | omega), (by rw [woN_s ov t al hj0]; first | (rw [if_pos (by omega)]; omega) | (rw [if_neg (by omega)]; omega))⟩ (show (al - (j + 1)).toNat < (al - j).toNat from by omega) ls (lv_sub hl [0, 1, 2, 3, 4] rfl)
      · refine lv_iload_n hx hb dX1_withoutLeast_29 rfl (lv_at hl 1 rfl) ?_
        refine lv_aload_n hx hb dX1_withoutLeast_30 rfl (lv_at hl 2 rfl) ?_
        refine va_get (D := D) (ci := 1) (v := .ref q) (C := RX1) (T := TX1) (N := 3) hx hb hts iX1 hown hK hP 0 rfl rfl 0 (by decide) (hts (.fieldLink RX1 9 "RainTarget$FirstSide" "overs" "[I") (List.mem_of_getElem? (i := 1) rfl)) (fun _ h9 => h9) rfl dX1_withoutLeast_31 ?_
        refine lv_iload hx hb dX1_withoutLeast_34 (lv_at hl 0 rfl) ?_
        refine z_iald hx hb hK hP 1 0 rfl rfl (by omega) (by omega) (by omega) dX1_withoutLeast_36 ?_
        refine z_iadd hx hb dX1_withoutLeast_37 ?_
        refine lv_istore_n (lv' := [(3, .int (nZ (k + (ov j)))), (4, .int (nZ j)), (0, .ref h), (1, .int (nZ t)), (2, .int (nZ al))]) hx hb dX1_withoutLeast_38 rfl hl (by decide) rfl (fun ls hl => ?_)
        refine lv_iinc (v := nZ (j + 1)) (lv' := [(4, .int (nZ (j + 1))), (3, .int (nZ (k + (ov j)))), (0, .ref h), (1, .int (nZ t)), (2, .int (nZ al))]) hx hb dX1_withoutLeast_39 hl (k := 1) rfl (nZ_add _ _) (by decide) rfl (fun ls hl => ?_)
        refine lv_goto (tgt := 5) hx hb dX1_withoutLeast_42 (by decide) ?_
        exact ih5 (k + (ov j)) (j + 1) ⟨(by first | assumption | omega), (by first | assumption | omega), (by rw [woN_s ov t al hj0]; first | (rw [if_pos (by omega)]; omega) | (rw [if_neg (by omega)]; omega))⟩ (show (al - (j + 1)).toNat < (al - j).toNat from by omega) ls (lv_sub hl [0, 1, 2, 3, 4] rfl)

set_option maxHeartbeats 4000000 in
set_option maxRecDepth 100000 in
theorem c_X5_part (l : Launch) (D : va_G) (cI cJ : ClassId) (tn : Nat) (h : Nat) (q : Nat) (ev : Int → Int) (size : Int) (ov : Int) (mn : Int) (rn : Int) (a : Int) (b : Int) (ra : I32 a) (rb : I32 b)  : Met l yX5_part wsX5_part ({ frames := 1, cells := 0, slots := 0, locals := 22 } : Room) (va_Pc [.ref h, .int (nZ a), .int (nZ b)] (RoP D cI cJ tn [(h, .inr (5, [.ref q, .int (nZ size), .int (nZ ov), .int (nZ mn), .int (nZ rn)])), (q, .inl (cI, 144, .inl (aZ ev)))])) (vp_Si (fun r9 : Int32 => r9 = nZ (if (0 ≤ a ∧ a ≤ 23) ∧ (0 ≤ b ∧ b ≤ 5) then ev (a * 6 + b) else 0))) 0 0 (fun _ => False) := by
  refine Met.ofW (cc := cX5_part) (maxL := 3) (ret := (some .int)) (by decide) rfl ?_
  intro p e s m args below meth c s₁ B hml hv
  obtain ⟨rfl, hE, hP⟩ := hv
  have hx := B.exec
  have hb := B.bytes
  have hr := B.returns
  have hts := atoms_spec (ws := wsX5_part) B.pre
  have hown : s.vm.findClass RX5 = some m.cls := findClass_of_methodNamed B.named
  have hlocks := B.notSynchronized
  have hS : va_S (fun _ => False) s.heap s.heap [] := va_S.rf
  have hK := hE.1
  have hN := hE.2.1
  have hl := lv_entry ([.ref h, .int (nZ a), .int (nZ b)]) (n := 3) (Nat.le_of_ble_eq_true rfl)
  rw [lg_entry_eq]
  generalize (lg_sl ([.ref h, .int (nZ a), .int (nZ b)]) ++ List.replicate (3 - (lg_sl ([.ref h, .int (nZ a), .int (nZ b)])).length) Slot.unset).toArray = ls at hl ⊢
  have hl : lv_has ls 3 [(0, .ref h), (1, .int (nZ a)), (2, .int (nZ b))] := hl
  have iX5 : ∀ w ∈ u_ws RX5 TX5 5, w ∈ wsX5_part := fun _ h => List.mem_cons_of_mem _ (List.mem_append_right _ h)
  refine lv_iload_n hx hb dX5_part_0 rfl (lv_at hl 1 rfl) ?_
  refine lv_iconst (v := nZ 0) hx hb dX5_part_1 rfl ?_
  refine lv_bipush (v := nZ 23) hx hb dX5_part_2 (by decide) ?_
  refine vp_callSi ((va_runSN (As := [.int (nZ a), .int (nZ 0), .int (nZ 23)]) (rest := []) ⟨hx, hb, hml, hown, hts⟩ (c_X9_within l D cI cJ tn a 0 23 ra (by decide) (by decide) ) ⟨va_cnB 3 hts gX5_part_X9_within_n42 rfl rfl rfl (nw_X5_42 hN) (hts (.initialized RX9) (List.mem_of_getElem? (i := 3) rfl)) (by decide +kernel) ⟨Nat.le_of_ble_eq_true rfl, Nat.le_of_ble_eq_true rfl⟩, (hts (.static yX9_within) (List.mem_of_getElem? (i := 2) rfl)), trivial⟩ ⟨RoP.blind, fun U hU hW => ⟨rfl, RoP.call hE hS (hP.sub (ws' := []) [] rfl) hU hW⟩⟩ rfl rfl hl.1 rfl (lv_room (Nat.le_of_ble_eq_true rfl)) dX5_part_4 ⟨Nat.le_of_ble_eq_true rfl, Nat.le_of_ble_eq_true rfl⟩).run) (fun r4 hr4 => ?_)
  subst hr4
  refine z_nameI (fun r4 er4 => ?_)
  refine z_if_eq (tgt := 19) hx hb dX5_part_7 (by decide) (by omega) (fun c_7 => ?_) (fun c_7 => ?_)
  · refine lv_iconst (v := nZ 0) hx hb dX5_part_19 rfl ?_
    exact W.iret (v := nZ 0) hx hb hr (fun t9 ht9 _ => ⟨nZ 0, rfl, congrArg nZ (show (0 : Int) = if (0 ≤ a ∧ a ≤ 23) ∧ (0 ≤ b ∧ b ≤ 5) then ev (a * 6 + b) else 0 from (by first | (rw [if_pos (by omega)]; done) | (rw [if_neg (by omega)]; done))), ht9⟩) (fun _ h => by cases h) dX5_part_20
  · refine lv_iload_n hx hb dX5_part_10 rfl (lv_at hl 2 rfl) ?_
    refine lv_iconst (v := nZ 0) hx hb dX5_part_11 rfl ?_
    refine lv_iconst (v := nZ 5) hx hb dX5_part_12 rfl ?_
    refine vp_callSi ((va_runSN (As := [.int (nZ b), .int (nZ 0), .int (nZ 5)]) (rest := []) ⟨hx, hb, hml, hown, hts⟩ (c_X9_within l D cI cJ tn b 0 5 rb (by decide) (by decide) ) ⟨va_cnB 3 hts gX5_part_X9_within_n42 rfl rfl rfl (nw_X5_42 hN) (hts (.initialized RX9) (List.mem_of_getElem? (i := 3) rfl)) (by decide +kernel) ⟨Nat.le_of_ble_eq_true rfl, Nat.le_of_ble_eq_true rfl⟩, (hts (.static yX9_within) (List.mem_of_getElem? (i := 2) rfl)), trivial⟩ ⟨RoP.blind, fun U hU hW => ⟨rfl, RoP.call hE hS (hP.sub (ws' := []) [] rfl) hU hW⟩⟩ rfl rfl hl.1 rfl (lv_room (Nat.le_of_ble_eq_true rfl)) dX5_part_13 ⟨Nat.le_of_ble_eq_true rfl, Nat.le_of_ble_eq_true rfl⟩).run) (fun r13 hr13 => ?_)
    subst hr13
    refine z_nameI (fun r13 er13 => ?_)
    refine z_if_ne (tgt := 21) hx hb dX5_part_16 (by decide) (by omega) (fun c_16 => ?_) (fun c_16 => ?_)
    · refine lv_aload_n hx hb dX5_part_21 rfl (lv_at hl 0 rfl) ?_
      refine va_get (D := D) (ci := 5) (v := .ref q) (C := RX5) (T := TX5) (N := 5) hx hb hts iX5 hown hK hP 0 rfl rfl 0 (by decide) (hts (.fieldLink RX5 11 "RainTarget$SecondSide" "events" "[I") (List.mem_of_getElem? (i := 1) rfl)) (fun _ h9 => h9) rfl dX5_part_22 ?_
      refine lv_iload_n hx hb dX5_part_25 rfl (lv_at hl 1 rfl) ?_
      refine lv_bipush (v := nZ 6) hx hb dX5_part_26 (by decide) ?_
      refine z_imul hx hb dX5_part_28 ?_
      refine lv_iload_n hx hb dX5_part_29 rfl (lv_at hl 2 rfl) ?_
      refine z_iadd hx hb dX5_part_30 ?_
      refine z_iald hx hb hK hP 1 0 rfl rfl (by omega) (by omega) (by omega) dX5_part_31 ?_
      exact W.iret (v := nZ (ev ((a * 6) + b))) hx hb hr (fun t9 ht9 _ => ⟨nZ (ev ((a * 6) + b)), rfl, congrArg nZ (show (ev ((a * 6) + b) : Int) = if (0 ≤ a ∧ a ≤ 23) ∧ (0 ≤ b ∧ b ≤ 5) then ev (a * 6 + b) else 0 from (by first | (rw [if_pos (by omega)]; done) | (rw [if_neg (by omega)]; done))), ht9⟩) (fun _ h => by cases h) dX5_part_32
    · refine lv_iconst (v := nZ 0) hx hb dX5_part_19 rfl ?_
      exact W.iret (v := nZ 0) hx hb hr (fun t9 ht9 _ => ⟨nZ 0, rfl, congrArg nZ (show (0 : Int) = if (0 ≤ a ∧ a ≤ 23) ∧ (0 ≤ b ∧ b ≤ 5) then ev (a * 6 + b) else 0 from (by first | (rw [if_pos (by omega)]; done) | (rw [if_neg (by omega)]; done))), ht9⟩) (fun _ h => by cases h) dX5_part_20

set_option maxHeartbeats 4000000 in
set_option maxRecDepth 100000 in
theorem c_X5_isAtEnd (l : Launch) (D : va_G) (cI cJ : ClassId) (tn : Nat) (h : Nat) (q : Nat) (ev : Int → Int) (size : Int) (ov : Int) (mn : Int) (rn : Int) (rov : I32 ov) (rmn : I32 mn)  : Met l yX5_isAtEnd wsX5_isAtEnd ({ frames := 0, cells := 0, slots := 0, locals := 0 } : Room) (va_Pc [.ref h] (RoP D cI cJ tn [(h, .inr (5, [.ref q, .int (nZ size), .int (nZ ov), .int (nZ mn), .int (nZ rn)])), (q, .inl (cI, 144, .inl (aZ ev)))])) (vp_Si (fun r9 : Int32 => r9 = nZ (if ov ≤ 0 ∨ mn ≤ 0 then 1 else 0))) 0 0 (fun _ => False) := by
  refine Met.ofW (cc := cX5_isAtEnd) (maxL := 1) (ret := (some .boolean)) (by decide) rfl ?_
  intro p e s m args below meth c s₁ B hml hv
  obtain ⟨rfl, hE, hP⟩ := hv
  have hx := B.exec
  have hb := B.bytes
  have hr := B.returns
  have hts := atoms_spec (ws := wsX5_isAtEnd) B.pre
  have hown : s.vm.findClass RX5 = some m.cls := findClass_of_methodNamed B.named
  have hlocks := B.notSynchronized
  have hS : va_S (fun _ => False) s.heap s.heap [] := va_S.rf
  have hK := hE.1
  have hN := hE.2.1
  have hl := lv_entry ([.ref h]) (n := 1) (Nat.le_of_ble_eq_true rfl)
  rw [lg_entry_eq]
  generalize (lg_sl ([.ref h]) ++ List.replicate (1 - (lg_sl ([.ref h])).length) Slot.unset).toArray = ls at hl ⊢
  have hl : lv_has ls 1 [(0, .ref h)] := hl
  have iX5 : ∀ w ∈ u_ws RX5 TX5 5, w ∈ wsX5_isAtEnd := fun _ h => List.mem_cons_of_mem _ (List.mem_append_right _ h)
  refine lv_aload_n hx hb dX5_isAtEnd_0 rfl (lv_at hl 0 rfl) ?_
  refine va_get (D := D) (ci := 5) (v := .int (nZ ov)) (C := RX5) (T := TX5) (N := 5) hx hb hts iX5 hown hK hP 0 rfl rfl 2 (by decide) (hts (.fieldLink RX5 24 "RainTarget$SecondSide" "overs" "I") (List.mem_of_getElem? (i := 1) rfl)) (fun _ h9 => h9) rfl dX5_isAtEnd_1 ?_
  refine z_if_le (tgt := 14) hx hb dX5_isAtEnd_4 (by decide) (by omega) (fun c_4 => ?_) (fun c_4 => ?_)
  · refine lv_iconst (v := nZ 1) hx hb dX5_isAtEnd_14 rfl ?_
    refine lv_goto (tgt := 19) hx hb dX5_isAtEnd_15 (by decide) ?_
    exact W.zret (v := nZ 1) hx hb hr (z_bool (show (1 : Int) = 0 ∨ (1 : Int) = 1 from by omega)) (fun t9 ht9 _ => ⟨nZ 1, rfl, congrArg nZ (show (1 : Int) = if ov ≤ 0 ∨ mn ≤ 0 then 1 else 0 from (by first | rfl | omega | (split <;> omega) | (simp_all; done))), ht9⟩) (fun _ h => by cases h) dX5_isAtEnd_19
  · refine lv_aload_n hx hb dX5_isAtEnd_7 rfl (lv_at hl 0 rfl) ?_
    refine va_get (D := D) (ci := 5) (v := .int (nZ mn)) (C := RX5) (T := TX5) (N := 5) hx hb hts iX5 hown hK hP 0 rfl rfl 3 (by decide) (hts (.fieldLink RX5 28 "RainTarget$SecondSide" "men" "I") (List.mem_of_getElem? (i := 2) rfl)) (fun _ h9 => h9) rfl dX5_isAtEnd_8 ?_
    refine z_if_gt (tgt := 18) hx hb dX5_isAtEnd_11 (by decide) (by omega) (fun c_11 => ?_) (fun c_11 => ?_)
    · refine lv_iconst (v := nZ 0) hx hb dX5_isAtEnd_18 rfl ?_
      exact W.zret (v := nZ 0) hx hb hr (z_bool (show (0 : Int) = 0 ∨ (0 : Int) = 1 from by omega)) (fun t9 ht9 _ => ⟨nZ 0, rfl, congrArg nZ (show (0 : Int) = if ov ≤ 0 ∨ mn ≤ 0 then 1 else 0 from (by first | rfl | omega | (split <;> omega) | (simp_all; done))), ht9⟩) (fun _ h => by cases h) dX5_isAtEnd_19
    · refine lv_iconst (v := nZ 1) hx hb dX5_isAtEnd_14 rfl ?_
      refine lv_goto (tgt := 19) hx hb dX5_isAtEnd_15 (by decide) ?_
      exact W.zret (v := nZ 1) hx hb hr (z_bool (show (1 : Int) = 0 ∨ (1 : Int) = 1 from by omega)) (fun t9 ht9 _ => ⟨nZ 1, rfl, congrArg nZ (show (1 : Int) = if ov ≤ 0 ∨ mn ≤ 0 then 1 else 0 from (by first | rfl | omega | (split <;> omega) | (simp_all; done))), ht9⟩) (fun _ h => by cases h) dX5_isAtEnd_19

set_option maxHeartbeats 4000000 in
set_option maxRecDepth 100000 in
theorem c_X5_lastRain (l : Launch) (D : va_G) (cI cJ : ClassId) (tn : Nat) (h : Nat) (q : Nat) (ev : Int → Int) (size : Int) (ov : Int) (mn : Int) (rn : Int) (hs0 : 0 ≤ size) (hs1 : size ≤ 24) (rev : ∀ k, I32 (ev k))  : Met l yX5_lastRain wsX5_lastRain ({ frames := 2, cells := 0, slots := 0, locals := 44 } : Room) (va_Pc [.ref h] (RoP D cI cJ tn [(h, .inr (5, [.ref q, .int (nZ size), .int (nZ ov), .int (nZ mn), .int (nZ rn)])), (q, .inl (cI, 144, .inl (aZ ev)))])) (vp_Si (fun r9 : Int32 => r9 = nZ (lrN ev size.toNat))) 0 0 (fun _ => False) := by
  refine Met.ofW (cc := cX5_lastRain) (maxL := 2) (ret := (some .int)) (by decide) rfl ?_
  intro p e s m args below meth c s₁ B hml hv
  obtain ⟨rfl, hE, hP⟩ := hv
  have hx := B.exec
  have hb := B.bytes
  have hr := B.returns
  have hts := atoms_spec (ws := wsX5_lastRain) B.pre
  have hown : s.vm.findClass RX5 = some m.cls := findClass_of_methodNamed B.named
  have hlocks := B.notSynchronized
  have hS : va_S (fun _ => False) s.heap s.heap [] := va_S.rf
  have hK := hE.1
  have hN := hE.2.1
  have hl := lv_entry ([.ref h]) (n := 2) (Nat.le_of_ble_eq_true rfl)
  rw [lg_entry_eq]
  generalize (lg_sl ([.ref h]) ++ List.replicate (2 - (lg_sl ([.ref h])).length) Slot.unset).toArray = ls at hl ⊢
  have hl : lv_has ls 2 [(0, .ref h)] := hl
  have iX5 : ∀ w ∈ u_ws RX5 TX5 5, w ∈ wsX5_lastRain := fun _ h => List.mem_cons_of_mem _ (List.mem_append_right _ h)
  refine lv_aload_n hx hb dX5_lastRain_0 rfl (lv_at hl 0 rfl) ?_
  refine va_get (D := D) (ci := 5) (v := .int (nZ size)) (C := RX5) (T := TX5) (N := 5) hx hb hts iX5 hown hK hP 0 rfl rfl 1 (by decide) (hts (.fieldLink RX5 15 "RainTarget$SecondSide" "size" "I") (List.mem_of_getElem? (i := 1) rfl)) (fun _ h9 => h9) rfl dX5_lastRain_1 ?_
  refine lv_iconst (v := nZ 1) hx hb dX5_lastRain_4 rfl ?_
  refine z_isub hx hb dX5_lastRain_5 ?_
  refine lv_istore_n (lv' := [(1, .int (nZ (size - 1))), (0, .ref h)]) hx hb dX5_lastRain_6 rfl hl (by decide) rfl (fun ls hl => ?_)
  refine z_rloop1 (fun (i : Int) => (-1 ≤ i) ∧ (i < size) ∧ (lrN ev size.toNat = lrN ev (i + 1).toNat)) (fun (i : Int) => (i + 1).toNat) (fun (i : Int) => [(1, .int (nZ i)), (0, .ref h)]) ?_ (size - 1) ⟨(by first | assumption | omega), (by first | assumption | omega), (by rw [show size - 1 + 1 = size from by omega])⟩ (lv_sub hl [0, 1] rfl)
  intro i hI7 ih7 ls hl
  have hl : lv_has ls 2 [(1, .int (nZ i)), (0, .ref h)] := hl
  obtain ⟨hi0, hi1, hk⟩ : (-1 ≤ i) ∧ (i < size) ∧ (lrN ev size.toNat = lrN ev (i + 1).toNat) := hI7
  refine lv_iload_n hx hb dX5_lastRain_7 rfl (lv_at hl 0 rfl) ?_
  refine z_if_lt (tgt := 29) hx hb dX5_lastRain_8 (by decide) (by omega) (fun c_8 => ?_) (fun c_8 => ?_)
  · refine lv_iconst (v := nZ (-1)) hx hb dX5_lastRain_29 rfl ?_
    exact W.iret (v := nZ (-1)) hx hb hr (fun t9 ht9 _ => ⟨nZ (-1), rfl, congrArg nZ (show (-1 : Int) = lrN ev size.toNat from (by rw [hk, show i + 1 = 0 from by omega]; rfl)), ht9⟩) (fun _ h => by cases h) dX5_lastRain_30
  · refine lv_aload_n hx hb dX5_lastRain_11 rfl (lv_at hl 1 rfl) ?_
    refine lv_iload_n hx hb dX5_lastRain_12 rfl (lv_at hl 0 rfl) ?_
    refine lv_iconst (v := nZ 0) hx hb dX5_lastRain_13 rfl ?_
    refine vp_callSi ((va_runV (As := [.int (nZ i), .int (nZ 0)]) (rest := []) ⟨hx, hb, hml, hown, hts⟩ (c_X5_part l D cI cJ tn h q ev size ov mn rn i 0 (by omega) (by decide) ) (cwV 2 hts gX5_lastRain_X5_part rfl rfl rfl (by decide +kernel) ⟨Nat.le_of_ble_eq_true rfl, Nat.le_of_ble_eq_true rfl⟩) ⟨RoP.blind, va_recv hK hP (ci := 5) (q0 := 0) rfl rfl, fun U hU hW => ⟨rfl, RoP.call hE hS (hP.sub (ws' := [(h, .inr (5, [.ref q, .int (nZ size), .int (nZ ov), .int (nZ mn), .int (nZ rn)])), (q, .inl (cI, 144, .inl (aZ ev)))]) [0, 1] rfl) hU hW⟩⟩ rfl rfl hl.1 rfl (lv_room (Nat.le_of_ble_eq_true rfl)) dX5_lastRain_14 ⟨Nat.le_of_ble_eq_true rfl, Nat.le_of_ble_eq_true rfl⟩).run) (fun r14 hr14 => ?_)
    subst hr14
    refine z_nameI (fun r14 er14 => ?_)
    have hev := rev (i * 6 + 0)
    refine lv_iconst (v := nZ 1) hx hb dX5_lastRain_17 rfl ?_
    refine z_icmp_ne (tgt := 23) hx hb dX5_lastRain_18 (by decide) (by omega) (by decide) (fun c_18 => ?_) (fun c_18 => ?_)
    · refine lv_iinc (v := nZ (i - 1)) (lv' := [(1, .int (nZ (i - 1))), (0, .ref h)]) hx hb dX5_lastRain_23 hl (k := 0) rfl (z_subk _ _) (by decide) rfl (fun ls hl => ?_)
      refine lv_goto (tgt := 7) hx hb dX5_lastRain_26 (by decide) ?_
      exact ih7 (i - 1) ⟨(by first | assumption | omega), (by first | assumption | omega), (by rw [hk, lrN_s ev (by omega), if_neg (by omega), show i - 1 + 1 = i from by omega])⟩ (show ((i - 1) + 1).toNat < (i + 1).toNat from by omega) ls (lv_sub hl [0, 1] rfl)
    · refine lv_iload_n hx hb dX5_lastRain_21 rfl (lv_at hl 0 rfl) ?_
      exact W.iret (v := nZ i) hx hb hr (fun t9 ht9 _ => ⟨nZ i, rfl, congrArg nZ (show (i : Int) = lrN ev size.toNat from (by rw [hk, lrN_s ev (by omega), if_pos (by omega)])), ht9⟩) (fun _ h => by cases h) dX5_lastRain_22

set_option maxHeartbeats 4000000 in
set_option maxRecDepth 100000 in
theorem c_X5_addEvent (l : Launch) (D : va_G) (cI cJ : ClassId) (tn : Nat) (sz : Nat) (h : Nat) (q : Nat) (ev : Int → Int) (size : Int) (ov : Int) (mn : Int) (rn : Int) (a : Int) (b : Int) (d : Int) (hs0 : 0 ≤ size) (hs1 : size ≤ 23)  : Met l yX5_addEvent wsX5_addEvent ({ frames := 1, cells := 0, slots := 0, locals := 22 } : Room) (va_Pc [.ref h, .int (nZ a), .int (nZ b), .int (nZ d)] (WrP D cI cJ tn [(h, .inr (5, [.ref q, .int (nZ size), .int (nZ ov), .int (nZ mn), .int (nZ rn)])), (q, .inl (cI, 144, .inl (aZ ev)))] sz)) (va_Qv (fun u9 : Unit => True) (fun u9 t9 => WrQ D (va_A [(h, .inr (5, [.ref q, .int (nZ size), .int (nZ ov), .int (nZ mn), .int (nZ rn)])), (q, .inl (cI, 144, .inl (aZ ev)))] sz) [(h, .inr (5, [.ref q, .int (nZ (size + 1)), .int (nZ ov), .int (nZ mn), .int (nZ rn)])), (q, .inl (cI, 144, .inl (aZ (evF ev size a b d ov mn rn))))] t9) (va_A [(h, .inr (5, [.ref q, .int (nZ size), .int (nZ ov), .int (nZ mn), .int (nZ rn)])), (q, .inl (cI, 144, .inl (aZ ev)))] sz)) 0 0 (va_A [(h, .inr (5, [.ref q, .int (nZ size), .int (nZ ov), .int (nZ mn), .int (nZ rn)])), (q, .inl (cI, 144, .inl (aZ ev)))] sz) := by
  refine Met.ofW (cc := cX5_addEvent) (maxL := 5) (ret := none) (by decide) rfl ?_
  intro p e s m args below meth c s₁ B hml hv
  obtain ⟨rfl, hsz, hE, hP, hD0⟩ := hv
  have hx := B.exec
  have hb := B.bytes
  have hr := B.returns
  have hts := atoms_spec (ws := wsX5_addEvent) B.pre
  have hown : s.vm.findClass RX5 = some m.cls := findClass_of_methodNamed B.named
  have hlocks := B.notSynchronized
  subst hsz
  have hD := hD0.self (sz := s.heap.size)
  generalize hAe : va_A [(h, .inr (5, [.ref q, .int (nZ size), .int (nZ ov), .int (nZ mn), .int (nZ rn)])), (q, .inl (cI, 144, .inl (aZ ev)))] s.heap.size = A at hD hE ⊢
  have hA : ∀ q : Nat, s.heap.size ≤ q → A q := fun q h => by rw [← hAe]; exact Or.inr h
  have hS : va_S A s.heap s.heap [] := va_S.rf
  have hK := hE.1
  have hN := hE.2.1
  have hl := lv_entry ([.ref h, .int (nZ a), .int (nZ b), .int (nZ d)]) (n := 5) (Nat.le_of_ble_eq_true rfl)
  rw [lg_entry_eq]
  generalize (lg_sl ([.ref h, .int (nZ a), .int (nZ b), .int (nZ d)]) ++ List.replicate (5 - (lg_sl ([.ref h, .int (nZ a), .int (nZ b), .int (nZ d)])).length) Slot.unset).toArray = ls at hl ⊢
  have hl : lv_has ls 5 [(0, .ref h), (1, .int (nZ a)), (2, .int (nZ b)), (3, .int (nZ d))] := hl
  have iX5 : ∀ w ∈ u_ws RX5 TX5 5, w ∈ wsX5_addEvent := fun _ h => List.mem_cons_of_mem _ (List.mem_append_right _ h)
  refine lv_aload_n hx hb dX5_addEvent_0 rfl (lv_at hl 0 rfl) ?_
  refine va_get (D := D) (ci := 5) (v := .int (nZ size)) (C := RX5) (T := TX5) (N := 5) hx hb hts iX5 hown hK hP 0 rfl rfl 1 (by decide) (hts (.fieldLink RX5 15 "RainTarget$SecondSide" "size" "I") (List.mem_of_getElem? (i := 1) rfl)) (fun _ h9 => h9) rfl dX5_addEvent_1 ?_
  refine lv_iconst (v := nZ 0) hx hb dX5_addEvent_4 rfl ?_
  refine lv_bipush (v := nZ 23) hx hb dX5_addEvent_5 (by decide) ?_
  refine vp_callSi ((va_runSN (As := [.int (nZ size), .int (nZ 0), .int (nZ 23)]) (rest := []) ⟨hx, hb, hml, hown, hts⟩ (c_X9_within l D cI cJ tn size 0 23 (by omega) (by decide) (by decide) ) ⟨va_cnB 3 hts gX5_addEvent_X9_within_n42 rfl rfl rfl (nw_X5_42 hN) (hts (.initialized RX9) (List.mem_of_getElem? (i := 7) rfl)) (by decide +kernel) ⟨Nat.le_of_ble_eq_true rfl, Nat.le_of_ble_eq_true rfl⟩, (hts (.static yX9_within) (List.mem_of_getElem? (i := 6) rfl)), trivial⟩ ⟨RoP.blind, fun U hU hW => ⟨rfl, RoP.call hE hS (hP.sub (ws' := []) [] rfl) hU hW⟩⟩ rfl rfl hl.1 rfl (lv_room (Nat.le_of_ble_eq_true rfl)) dX5_addEvent_7 ⟨Nat.le_of_ble_eq_true rfl, Nat.le_of_ble_eq_true rfl⟩).run) (fun r7 hr7 => ?_)
  subst hr7
  refine z_nameI (fun r7 er7 => ?_)
  refine z_if_ne (tgt := 14) hx hb dX5_addEvent_10 (by decide) (by omega) (fun c_10 => ?_) (fun c_10 => ?_)
  · refine lv_aload_n hx hb dX5_addEvent_14 rfl (lv_at hl 0 rfl) ?_
    refine va_get (D := D) (ci := 5) (v := .int (nZ size)) (C := RX5) (T := TX5) (N := 5) hx hb hts iX5 hown hK hP 0 rfl rfl 1 (by decide) (hts (.fieldLink RX5 15 "RainTarget$SecondSide" "size" "I") (List.mem_of_getElem? (i := 1) rfl)) (fun _ h9 => h9) rfl dX5_addEvent_15 ?_
    refine lv_bipush (v := nZ 6) hx hb dX5_addEvent_18 (by decide) ?_
    refine z_imul hx hb dX5_addEvent_20 ?_
    refine lv_istore (lv' := [(4, .int (nZ (size * 6))), (0, .ref h), (1, .int (nZ a)), (2, .int (nZ b)), (3, .int (nZ d))]) hx hb dX5_addEvent_21 hl (by decide) rfl (fun ls hl => ?_)
    refine lv_aload_n hx hb dX5_addEvent_23 rfl (lv_at hl 1 rfl) ?_
    refine va_get (D := D) (ci := 5) (v := .ref q) (C := RX5) (T := TX5) (N := 5) hx hb hts iX5 hown hK hP 0 rfl rfl 0 (by decide) (hts (.fieldLink RX5 11 "RainTarget$SecondSide" "events" "[I") (List.mem_of_getElem? (i := 2) rfl)) (fun _ h9 => h9) rfl dX5_addEvent_24 ?_
    refine lv_iload hx hb dX5_addEvent_27 (lv_at hl 0 rfl) ?_
    refine lv_iconst (v := nZ 0) hx hb dX5_addEvent_29 rfl ?_
    refine z_iadd hx hb dX5_addEvent_30 ?_
    refine lv_iload_n hx hb dX5_addEvent_31 rfl (lv_at hl 2 rfl) ?_
    refine z_iast hx hb hK hP hD hS 1 0 rfl rfl (by omega) (by omega) (by omega) dX5_addEvent_32 (fun H locs hP hD hS => ?_)
    have hP : va_P D vwCl [(h, .inr (5, [.ref q, .int (nZ size), .int (nZ ov), .int (nZ mn), .int (nZ rn)])), (q, .inl (cI, 144, .inl (aZ (uZ ev ((size * 6) + 0) a))))] H := hP
    have hD : va_D A [(h, .inr (5, [.ref q, .int (nZ size), .int (nZ ov), .int (nZ mn), .int (nZ rn)])), (q, .inl (cI, 144, .inl (aZ (uZ ev ((size * 6) + 0) a))))] := hD
    refine lv_aload_n hx hb dX5_addEvent_33 rfl (lv_at hl 1 rfl) ?_
    refine va_get (D := D) (ci := 5) (v := .ref q) (C := RX5) (T := TX5) (N := 5) hx hb hts iX5 hown hK hP 0 rfl rfl 0 (by decide) (hts (.fieldLink RX5 11 "RainTarget$SecondSide" "events" "[I") (List.mem_of_getElem? (i := 2) rfl)) (fun _ h9 => h9) rfl dX5_addEvent_34 ?_
    refine lv_iload hx hb dX5_addEvent_37 (lv_at hl 0 rfl) ?_
    refine lv_iconst (v := nZ 1) hx hb dX5_addEvent_39 rfl ?_
    refine z_iadd hx hb dX5_addEvent_40 ?_
    refine lv_iload_n hx hb dX5_addEvent_41 rfl (lv_at hl 3 rfl) ?_
    refine z_iast hx hb hK hP hD hS 1 0 rfl rfl (by omega) (by omega) (by omega) dX5_addEvent_42 (fun H locs hP hD hS => ?_)
    have hP : va_P D vwCl [(h, .inr (5, [.ref q, .int (nZ size), .int (nZ ov), .int (nZ mn), .int (nZ rn)])), (q, .inl (cI, 144, .inl (aZ (uZ (uZ ev ((size * 6) + 0) a) ((size * 6) + 1) b))))] H := hP
    have hD : va_D A [(h, .inr (5, [.ref q, .int (nZ size), .int (nZ ov), .int (nZ mn), .int (nZ rn)])), (q, .inl (cI, 144, .inl (aZ (uZ (uZ ev ((size * 6) + 0) a) ((size * 6) + 1) b))))] := hD
    refine lv_aload_n hx hb dX5_addEvent_43 rfl (lv_at hl 1 rfl) ?_
    refine va_get (D := D) (ci := 5) (v := .ref q) (C := RX5) (T := TX5) (N := 5) hx hb hts iX5 hown hK hP 0 rfl rfl 0 (by decide) (hts (.fieldLink RX5 11 "RainTarget$SecondSide" "events" "[I") (List.mem_of_getElem? (i := 2) rfl)) (fun _ h9 => h9) rfl dX5_addEvent_44 ?_
    refine lv_iload hx hb dX5_addEvent_47 (lv_at hl 0 rfl) ?_
    refine lv_iconst (v := nZ 2) hx hb dX5_addEvent_49 rfl ?_
    refine z_iadd hx hb dX5_addEvent_50 ?_
    refine lv_iload_n hx hb dX5_addEvent_51 rfl (lv_at hl 4 rfl) ?_
    refine z_iast hx hb hK hP hD hS 1 0 rfl rfl (by omega) (by omega) (by omega) dX5_addEvent_52 (fun H locs hP hD hS => ?_)
    have hP : va_P D vwCl [(h, .inr (5, [.ref q, .int (nZ size), .int (nZ ov), .int (nZ mn), .int (nZ rn)])), (q, .inl (cI, 144, .inl (aZ (uZ (uZ (uZ ev ((size * 6) + 0) a) ((size * 6) + 1) b) ((size * 6) + 2) d))))] H := hP
    have hD : va_D A [(h, .inr (5, [.ref q, .int (nZ size), .int (nZ ov), .int (nZ mn), .int (nZ rn)])), (q, .inl (cI, 144, .inl (aZ (uZ (uZ (uZ ev ((size * 6) + 0) a) ((size * 6) + 1) b) ((size * 6) + 2) d))))] := hD
    refine lv_aload_n hx hb dX5_addEvent_53 rfl (lv_at hl 1 rfl) ?_
    refine va_get (D := D) (ci := 5) (v := .ref q) (C := RX5) (T := TX5) (N := 5) hx hb hts iX5 hown hK hP 0 rfl rfl 0 (by decide) (hts (.fieldLink RX5 11 "RainTarget$SecondSide" "events" "[I") (List.mem_of_getElem? (i := 2) rfl)) (fun _ h9 => h9) rfl dX5_addEvent_54 ?_
    refine lv_iload hx hb dX5_addEvent_57 (lv_at hl 0 rfl) ?_
    refine lv_iconst (v := nZ 3) hx hb dX5_addEvent_59 rfl ?_
    refine z_iadd hx hb dX5_addEvent_60 ?_
    refine lv_aload_n hx hb dX5_addEvent_61 rfl (lv_at hl 1 rfl) ?_
    refine va_get (D := D) (ci := 5) (v := .int (nZ ov)) (C := RX5) (T := TX5) (N := 5) hx hb hts iX5 hown hK hP 0 rfl rfl 2 (by decide) (hts (.fieldLink RX5 24 "RainTarget$SecondSide" "overs" "I") (List.mem_of_getElem? (i := 3) rfl)) (fun _ h9 => h9) rfl dX5_addEvent_62 ?_
    refine z_iast hx hb hK hP hD hS 1 0 rfl rfl (by omega) (by omega) (by omega) dX5_addEvent_65 (fun H locs hP hD hS => ?_)
    have hP : va_P D vwCl [(h, .inr (5, [.ref q, .int (nZ size), .int (nZ ov), .int (nZ mn), .int (nZ rn)])), (q, .inl (cI, 144, .inl (aZ (uZ (uZ (uZ (uZ ev ((size * 6) + 0) a) ((size * 6) + 1) b) ((size * 6) + 2) d) ((size * 6) + 3) ov))))] H := hP
    have hD : va_D A [(h, .inr (5, [.ref q, .int (nZ size), .int (nZ ov), .int (nZ mn), .int (nZ rn)])), (q, .inl (cI, 144, .inl (aZ (uZ (uZ (uZ (uZ ev ((size * 6) + 0) a) ((size * 6) + 1) b) ((size * 6) + 2) d) ((size * 6) + 3) ov))))] := hD
    refine lv_aload_n hx hb dX5_addEvent_66 rfl (lv_at hl 1 rfl) ?_
    refine va_get (D := D) (ci := 5) (v := .ref q) (C := RX5) (T := TX5) (N := 5) hx hb hts iX5 hown hK hP 0 rfl rfl 0 (by decide) (hts (.fieldLink RX5 11 "RainTarget$SecondSide" "events" "[I") (List.mem_of_getElem? (i := 2) rfl)) (fun _ h9 => h9) rfl dX5_addEvent_67 ?_
    refine lv_iload hx hb dX5_addEvent_70 (lv_at hl 0 rfl) ?_
    refine lv_iconst (v := nZ 4) hx hb dX5_addEvent_72 rfl ?_
    refine z_iadd hx hb dX5_addEvent_73 ?_
    refine lv_aload_n hx hb dX5_addEvent_74 rfl (lv_at hl 1 rfl) ?_
    refine va_get (D := D) (ci := 5) (v := .int (nZ mn)) (C := RX5) (T := TX5) (N := 5) hx hb hts iX5 hown hK hP 0 rfl rfl 3 (by decide) (hts (.fieldLink RX5 28 "RainTarget$SecondSide" "men" "I") (List.mem_of_getElem? (i := 4) rfl)) (fun _ h9 => h9) rfl dX5_addEvent_75 ?_
    refine z_iast hx hb hK hP hD hS 1 0 rfl rfl (by omega) (by omega) (by omega) dX5_addEvent_78 (fun H locs hP hD hS => ?_)
    have hP : va_P D vwCl [(h, .inr (5, [.ref q, .int (nZ size), .int (nZ ov), .int (nZ mn), .int (nZ rn)])), (q, .inl (cI, 144, .inl (aZ (uZ (uZ (uZ (uZ (uZ ev ((size * 6) + 0) a) ((size * 6) + 1) b) ((size * 6) + 2) d) ((size * 6) + 3) ov) ((size * 6) + 4) mn))))] H := hP
    have hD : va_D A [(h, .inr (5, [.ref q, .int (nZ size), .int (nZ ov), .int (nZ mn), .int (nZ rn)])), (q, .inl (cI, 144, .inl (aZ (uZ (uZ (uZ (uZ (uZ ev ((size * 6) + 0) a) ((size * 6) + 1) b) ((size * 6) + 2) d) ((size * 6) + 3) ov) ((size * 6) + 4) mn))))] := hD
    refine lv_aload_n hx hb dX5_addEvent_79 rfl (lv_at hl 1 rfl) ?_
    refine va_get (D := D) (ci := 5) (v := .ref q) (C := RX5) (T := TX5) (N := 5) hx hb hts iX5 hown hK hP 0 rfl rfl 0 (by decide) (hts (.fieldLink RX5 11 "RainTarget$SecondSide" "events" "[I") (List.mem_of_getElem? (i := 2) rfl)) (fun _ h9 => h9) rfl dX5_addEvent_80 ?_
    refine lv_iload hx hb dX5_addEvent_83 (lv_at hl 0 rfl) ?_
    refine lv_iconst (v := nZ 5) hx hb dX5_addEvent_85 rfl ?_
    refine z_iadd hx hb dX5_addEvent_86 ?_
    refine lv_aload_n hx hb dX5_addEvent_87 rfl (lv_at hl 1 rfl) ?_
    refine va_get (D := D) (ci := 5) (v := .int (nZ rn)) (C := RX5) (T := TX5) (N := 5) hx hb hts iX5 hown hK hP 0 rfl rfl 4 (by decide) (hts (.fieldLink RX5 29 "RainTarget$SecondSide" "runs" "I") (List.mem_of_getElem? (i := 5) rfl)) (fun _ h9 => h9) rfl dX5_addEvent_88 ?_
    refine z_iast hx hb hK hP hD hS 1 0 rfl rfl (by omega) (by omega) (by omega) dX5_addEvent_91 (fun H locs hP hD hS => ?_)
    have hP : va_P D vwCl [(h, .inr (5, [.ref q, .int (nZ size), .int (nZ ov), .int (nZ mn), .int (nZ rn)])), (q, .inl (cI, 144, .inl (aZ (uZ (uZ (uZ (uZ (uZ (uZ ev ((size * 6) + 0) a) ((size * 6) + 1) b) ((size * 6) + 2) d) ((size * 6) + 3) ov) ((size * 6) + 4) mn) ((size * 6) + 5) rn))))] H := hP
    have hD : va_D A [(h, .inr (5, [.ref q, .int (nZ size), .int (nZ ov), .int (nZ mn), .int (nZ rn)])), (q, .inl (cI, 144, .inl (aZ (uZ (uZ (uZ (uZ (uZ (uZ ev ((size * 6) + 0) a) ((size * 6) + 1) b) ((size * 6) + 2) d) ((size * 6) + 3) ov) ((size * 6) + 4) mn) ((size * 6) + 5) rn))))] := hD
    refine lv_aload_n hx hb dX5_addEvent_92 rfl (lv_at hl 1 rfl) ?_
    refine lv_dup hx hb dX5_addEvent_93 rfl ?_
    refine va_get (D := D) (ci := 5) (v := .int (nZ size)) (C := RX5) (T := TX5) (N := 5) hx hb hts iX5 hown hK hP 0 rfl rfl 1 (by decide) (hts (.fieldLink RX5 15 "RainTarget$SecondSide" "size" "I") (List.mem_of_getElem? (i := 1) rfl)) (fun _ h9 => h9) rfl dX5_addEvent_94 ?_
    refine lv_iconst (v := nZ 1) hx hb dX5_addEvent_97 rfl ?_
    refine z_iadd hx hb dX5_addEvent_98 ?_
    refine va_put (D := D) (ci := 5) (v := .int (nZ (size + 1))) (ty := .int) (C := RX5) (T := TX5) (N := 5) hx hb hts iX5 tyX5 tyX5_ok nmX5 hown hK hP hD hS 0 rfl rfl 1 (by decide) (hts (.fieldLink RX5 15 "RainTarget$SecondSide" "size" "I") (List.mem_of_getElem? (i := 1) rfl)) (fun _ h9 => h9) rfl (by decide +kernel) rfl rfl (Nat.le_of_ble_eq_true rfl) dX5_addEvent_99 (fun H locs hP hD hS => ?_)
    have hP : va_P D vwCl [(h, .inr (5, [.ref q, .int (nZ (size + 1)), .int (nZ ov), .int (nZ mn), .int (nZ rn)])), (q, .inl (cI, 144, .inl (aZ (uZ (uZ (uZ (uZ (uZ (uZ ev ((size * 6) + 0) a) ((size * 6) + 1) b) ((size * 6) + 2) d) ((size * 6) + 3) ov) ((size * 6) + 4) mn) ((size * 6) + 5) rn))))] H := hP
    have hD : va_D A [(h, .inr (5, [.ref q, .int (nZ (size + 1)), .int (nZ ov), .int (nZ mn), .int (nZ rn)])), (q, .inl (cI, 144, .inl (aZ (uZ (uZ (uZ (uZ (uZ (uZ ev ((size * 6) + 0) a) ((size * 6) + 1) b) ((size * 6) + 2) d) ((size * 6) + 3) ov) ((size * 6) + 4) mn) ((size * 6) + 5) rn))))] := hD
    have hP9 := hP.sub (ws' := [(h, .inr (5, [.ref q, .int (nZ (size + 1)), .int (nZ ov), .int (nZ mn), .int (nZ rn)])), (q, .inl (cI, 144, .inl (aZ (uZ (uZ (uZ (uZ (uZ (uZ ev ((size * 6) + 0) a) ((size * 6) + 1) b) ((size * 6) + 2) d) ((size * 6) + 3) ov) ((size * 6) + 4) mn) ((size * 6) + 5) rn))))]) [0, 1] rfl
    have hD9 := hD.sub (ws' := [(h, .inr (5, [.ref q, .int (nZ (size + 1)), .int (nZ ov), .int (nZ mn), .int (nZ rn)])), (q, .inl (cI, 144, .inl (aZ (uZ (uZ (uZ (uZ (uZ (uZ ev ((size * 6) + 0) a) ((size * 6) + 1) b) ((size * 6) + 2) d) ((size * 6) + 3) ov) ((size * 6) + 4) mn) ((size * 6) + 5) rn))))]) [0, 1] (by decide) rfl
    have hq9 : ([(h, .inr (5, [.ref q, .int (nZ (size + 1)), .int (nZ ov), .int (nZ mn), .int (nZ rn)])), (q, .inl (cI, 144, .inl (aZ (uZ (uZ (uZ (uZ (uZ (uZ ev ((size * 6) + 0) a) ((size * 6) + 1) b) ((size * 6) + 2) d) ((size * 6) + 3) ov) ((size * 6) + 4) mn) ((size * 6) + 5) rn))))] : va_W) = [(h, .inr (5, [.ref q, .int (nZ (size + 1)), .int (nZ ov), .int (nZ mn), .int (nZ rn)])), (q, .inl (cI, 144, .inl (aZ (evF ev size a b d ov mn rn))))] := by rfl
    rw [hq9] at hP9 hD9
    exact W.vret hx hb hr (fun t9 ht9 _ => ⟨⟨(), rfl, trivial, ⟨by rw [ht9]; exact hP9, hD9⟩⟩, hS.F ht9⟩) hS.2.2 dX5_addEvent_102
  · exfalso; omega

set_option maxHeartbeats 4000000 in
set_option maxRecDepth 100000 in
theorem c_X5_addOver (l : Launch) (D : va_G) (cI cJ : ClassId) (tn : Nat) (sz : Nat) (h : Nat) (q : Nat) (ev : Int → Int) (size : Int) (ov : Int) (mn : Int) (rn : Int) (a : Int) (b : Int) (hs0 : 0 ≤ size) (hs1 : size ≤ 23) (hm0 : 0 ≤ mn) (hm1 : mn ≤ 10) (hb0 : 0 ≤ b) (hb1 : b ≤ 3)  : Met l yX5_addOver wsX5_addOver ({ frames := 2, cells := 0, slots := 0, locals := 46 } : Room) (va_Pc [.ref h, .int (nZ a), .int (nZ b)] (WrP D cI cJ tn [(h, .inr (5, [.ref q, .int (nZ size), .int (nZ ov), .int (nZ mn), .int (nZ rn)])), (q, .inl (cI, 144, .inl (aZ ev)))] sz)) (va_Qv (fun u9 : Unit => True) (fun u9 t9 => WrQ D (va_A [(h, .inr (5, [.ref q, .int (nZ size), .int (nZ ov), .int (nZ mn), .int (nZ rn)])), (q, .inl (cI, 144, .inl (aZ ev)))] sz) [(h, .inr (5, [.ref q, .int (nZ (size + 1)), .int (nZ (ov - 1)), .int (nZ (if 0 < mn - b then mn - b else 0)), .int (nZ (rn + a))])), (q, .inl (cI, 144, .inl (aZ (evF ev size 0 a b ov mn rn))))] t9) (va_A [(h, .inr (5, [.ref q, .int (nZ size), .int (nZ ov), .int (nZ mn), .int (nZ rn)])), (q, .inl (cI, 144, .inl (aZ ev)))] sz)) 0 0 (va_A [(h, .inr (5, [.ref q, .int (nZ size), .int (nZ ov), .int (nZ mn), .int (nZ rn)])), (q, .inl (cI, 144, .inl (aZ ev)))] sz) := by
  refine Met.ofW (cc := cX5_addOver) (maxL := 3) (ret := none) (by decide) rfl ?_
  intro p e s m args below meth c s₁ B hml hv
  obtain ⟨rfl, hsz, hE, hP, hD0⟩ := hv
  have hx := B.exec
  have hb := B.bytes
  have hr := B.returns
  have hts := atoms_spec (ws := wsX5_addOver) B.pre
  have hown : s.vm.findClass RX5 = some m.cls := findClass_of_methodNamed B.named
  have hlocks := B.notSynchronized
  subst hsz
  have hD := hD0.self (sz := s.heap.size)
  generalize hAe : va_A [(h, .inr (5, [.ref q, .int (nZ size), .int (nZ ov), .int (nZ mn), .int (nZ rn)])), (q, .inl (cI, 144, .inl (aZ ev)))] s.heap.size = A at hD hE ⊢
  have hA : ∀ q : Nat, s.heap.size ≤ q → A q := fun q h => by rw [← hAe]; exact Or.inr h
  have hS : va_S A s.heap s.heap [] := va_S.rf
  have hK := hE.1
  have hN := hE.2.1
  have hl := lv_entry ([.ref h, .int (nZ a), .int (nZ b)]) (n := 3) (Nat.le_of_ble_eq_true rfl)
  rw [lg_entry_eq]
  generalize (lg_sl ([.ref h, .int (nZ a), .int (nZ b)]) ++ List.replicate (3 - (lg_sl ([.ref h, .int (nZ a), .int (nZ b)])).length) Slot.unset).toArray = ls at hl ⊢
  have hl : lv_has ls 3 [(0, .ref h), (1, .int (nZ a)), (2, .int (nZ b))] := hl
  have iX5 : ∀ w ∈ u_ws RX5 TX5 5, w ∈ wsX5_addOver := fun _ h => List.mem_cons_of_mem _ (List.mem_append_right _ h)
  refine lv_aload_n hx hb dX5_addOver_0 rfl (lv_at hl 0 rfl) ?_
  refine lv_iconst (v := nZ 0) hx hb dX5_addOver_1 rfl ?_
  refine lv_iload_n hx hb dX5_addOver_2 rfl (lv_at hl 1 rfl) ?_
  refine lv_iload_n hx hb dX5_addOver_3 rfl (lv_at hl 2 rfl) ?_
  have hFc := va_free (wc := [(h, .inr (5, [.ref q, .int (nZ size), .int (nZ ov), .int (nZ mn), .int (nZ rn)])), (q, .inl (cI, 144, .inl (aZ ev)))]) hD hS hA [0, 1] rfl
  have hPc := hP.sub (ws' := [(h, .inr (5, [.ref q, .int (nZ size), .int (nZ ov), .int (nZ mn), .int (nZ rn)])), (q, .inl (cI, 144, .inl (aZ ev)))]) [0, 1] rfl
  have hDc := hD.sub (ws' := [(h, .inr (5, [.ref q, .int (nZ size), .int (nZ ov), .int (nZ mn), .int (nZ rn)])), (q, .inl (cI, 144, .inl (aZ ev)))]) [0, 1] (by decide) rfl
  refine va_callv (va_runV (As := [.int (nZ 0), .int (nZ a), .int (nZ b)]) (rest := []) ⟨hx, hb, hml, hown, hts⟩ (c_X5_addEvent l D cI cJ tn s.heap.size h q ev size ov mn rn 0 a b hs0 hs1 ) (cwV 3 hts gX5_addOver_X5_addEvent rfl rfl rfl (by decide +kernel) ⟨Nat.le_of_ble_eq_true rfl, Nat.le_of_ble_eq_true rfl⟩) ⟨WrP.blind, va_recv hK hP (ci := 5) (q0 := 0) rfl rfl, fun U hU hW => ⟨rfl, WrP.call hE hS hPc hDc hFc hU hW⟩⟩ rfl rfl hl.1 rfl (lv_room (Nat.le_of_ble_eq_true rfl)) dX5_addOver_4 ⟨Nat.le_of_ble_eq_true rfl, Nat.le_of_ble_eq_true rfl⟩) hS (fun q _ h => hFc q h) hFc (fun u9 t9 H1 locs ht9 hvm hv4 hB9 hz9 hk9 hS => ?_)
  obtain ⟨hP8, hD8⟩ := hB9
  rw [ht9] at hP8
  have hw4 : True := hv4
  obtain ⟨hP, hD⟩ := va_join (wr := []) (w1 := [(h, .inr (5, [.ref q, .int (nZ (size + 1)), .int (nZ ov), .int (nZ mn), .int (nZ rn)])), (q, .inl (cI, 144, .inl (aZ (evF ev size 0 a b ov mn rn))))]) hP hD [0, 1] [] rfl rfl (by decide) (by decide) hk9 hFc hP8 hD8
  generalize H1 = H at hP hS ⊢
  have hP : va_P D vwCl [(h, .inr (5, [.ref q, .int (nZ (size + 1)), .int (nZ ov), .int (nZ mn), .int (nZ rn)])), (q, .inl (cI, 144, .inl (aZ (evF ev size 0 a b ov mn rn))))] H := hP
  have hD : va_D A [(h, .inr (5, [.ref q, .int (nZ (size + 1)), .int (nZ ov), .int (nZ mn), .int (nZ rn)])), (q, .inl (cI, 144, .inl (aZ (evF ev size 0 a b ov mn rn))))] := hD
  refine lv_aload_n hx hb dX5_addOver_7 rfl (lv_at hl 0 rfl) ?_
  refine lv_dup hx hb dX5_addOver_8 rfl ?_
  refine va_get (D := D) (ci := 5) (v := .int (nZ ov)) (C := RX5) (T := TX5) (N := 5) hx hb hts iX5 hown hK hP 0 rfl rfl 2 (by decide) (hts (.fieldLink RX5 24 "RainTarget$SecondSide" "overs" "I") (List.mem_of_getElem? (i := 1) rfl)) (fun _ h9 => h9) rfl dX5_addOver_9 ?_
  refine lv_iconst (v := nZ 1) hx hb dX5_addOver_12 rfl ?_
  refine z_isub hx hb dX5_addOver_13 ?_
  refine va_put (D := D) (ci := 5) (v := .int (nZ (ov - 1))) (ty := .int) (C := RX5) (T := TX5) (N := 5) hx hb hts iX5 tyX5 tyX5_ok nmX5 hown hK hP hD hS 0 rfl rfl 2 (by decide) (hts (.fieldLink RX5 24 "RainTarget$SecondSide" "overs" "I") (List.mem_of_getElem? (i := 1) rfl)) (fun _ h9 => h9) rfl (by decide +kernel) rfl rfl (Nat.le_of_ble_eq_true rfl) dX5_addOver_14 (fun H locs hP hD hS => ?_)
  have hP : va_P D vwCl [(h, .inr (5, [.ref q, .int (nZ (size + 1)), .int (nZ (ov - 1)), .int (nZ mn), .int (nZ rn)])), (q, .inl (cI, 144, .inl (aZ (evF ev size 0 a b ov mn rn))))] H := hP
  have hD : va_D A [(h, .inr (5, [.ref q, .int (nZ (size + 1)), .int (nZ (ov - 1)), .int (nZ mn), .int (nZ rn)])), (q, .inl (cI, 144, .inl (aZ (evF ev size 0 a b ov mn rn))))] := hD
  refine lv_aload_n hx hb dX5_addOver_17 rfl (lv_at hl 0 rfl) ?_
  refine lv_iconst (v := nZ 0) hx hb dX5_addOver_18 rfl ?_
  refine lv_aload_n hx hb dX5_addOver_19 rfl (lv_at hl 0 rfl) ?_
  refine va_get (D := D) (ci := 5) (v := .int (nZ mn)) (C := RX5) (T := TX5) (N := 5) hx hb hts iX5 hown hK hP 0 rfl rfl 3 (by decide) (hts (.fieldLink RX5 28 "RainTarget$SecondSide" "men" "I") (List.mem_of_getElem? (i := 2) rfl)) (fun _ h9 => h9) rfl dX5_addOver_20 ?_
  refine lv_iload_n hx hb dX5_addOver_23 rfl (lv_at hl 2 rfl) ?_
  refine z_isub hx hb dX5_addOver_24 ?_
  refine z_mmax hx hb (hml.trans hl.1.symm) hown (hts (.methodLink RX5 36 Lib.Math.max.name) (List.mem_of_getElem? (i := 3) rfl)) (hts (.static Lib.Math.max.name) (List.mem_of_getElem? (i := 4) rfl)) (hts (.initialized "java/lang/Math") (List.mem_of_getElem? (i := 5) rfl)) (hts (.code Lib.Math.max.name Lib.Math.max.code 2 (some .int)) (List.mem_of_getElem? (i := 6) rfl)) (Nat.le_of_ble_eq_true rfl) (Nat.le_of_ble_eq_true rfl) (Nat.zero_le _) (Nat.zero_le _) (by decide) (by omega) dX5_addOver_25 ?_
  refine va_put (D := D) (ci := 5) (v := .int (nZ (if 0 < (mn - b) then mn - b else 0))) (ty := .int) (C := RX5) (T := TX5) (N := 5) hx hb hts iX5 tyX5 tyX5_ok nmX5 hown hK hP hD hS 0 rfl rfl 3 (by decide) (hts (.fieldLink RX5 28 "RainTarget$SecondSide" "men" "I") (List.mem_of_getElem? (i := 2) rfl)) (fun _ h9 => h9) rfl (by decide +kernel) rfl rfl (Nat.le_of_ble_eq_true rfl) dX5_addOver_28 (fun H locs hP hD hS => ?_)
  have hP : va_P D vwCl [(h, .inr (5, [.ref q, .int (nZ (size + 1)), .int (nZ (ov - 1)), .int (nZ (if 0 < (mn - b) then mn - b else 0)), .int (nZ rn)])), (q, .inl (cI, 144, .inl (aZ (evF ev size 0 a b ov mn rn))))] H := hP
  have hD : va_D A [(h, .inr (5, [.ref q, .int (nZ (size + 1)), .int (nZ (ov - 1)), .int (nZ (if 0 < (mn - b) then mn - b else 0)), .int (nZ rn)])), (q, .inl (cI, 144, .inl (aZ (evF ev size 0 a b ov mn rn))))] := hD
  refine lv_aload_n hx hb dX5_addOver_31 rfl (lv_at hl 0 rfl) ?_
  refine lv_dup hx hb dX5_addOver_32 rfl ?_
  refine va_get (D := D) (ci := 5) (v := .int (nZ rn)) (C := RX5) (T := TX5) (N := 5) hx hb hts iX5 hown hK hP 0 rfl rfl 4 (by decide) (hts (.fieldLink RX5 29 "RainTarget$SecondSide" "runs" "I") (List.mem_of_getElem? (i := 7) rfl)) (fun _ h9 => h9) rfl dX5_addOver_33 ?_
  refine lv_iload_n hx hb dX5_addOver_36 rfl (lv_at hl 1 rfl) ?_
  refine z_iadd hx hb dX5_addOver_37 ?_
  refine va_put (D := D) (ci := 5) (v := .int (nZ (rn + a))) (ty := .int) (C := RX5) (T := TX5) (N := 5) hx hb hts iX5 tyX5 tyX5_ok nmX5 hown hK hP hD hS 0 rfl rfl 4 (by decide) (hts (.fieldLink RX5 29 "RainTarget$SecondSide" "runs" "I") (List.mem_of_getElem? (i := 7) rfl)) (fun _ h9 => h9) rfl (by decide +kernel) rfl rfl (Nat.le_of_ble_eq_true rfl) dX5_addOver_38 (fun H locs hP hD hS => ?_)
  have hP : va_P D vwCl [(h, .inr (5, [.ref q, .int (nZ (size + 1)), .int (nZ (ov - 1)), .int (nZ (if 0 < (mn - b) then mn - b else 0)), .int (nZ (rn + a))])), (q, .inl (cI, 144, .inl (aZ (evF ev size 0 a b ov mn rn))))] H := hP
  have hD : va_D A [(h, .inr (5, [.ref q, .int (nZ (size + 1)), .int (nZ (ov - 1)), .int (nZ (if 0 < (mn - b) then mn - b else 0)), .int (nZ (rn + a))])), (q, .inl (cI, 144, .inl (aZ (evF ev size 0 a b ov mn rn))))] := hD
  have hP9 := hP.sub (ws' := [(h, .inr (5, [.ref q, .int (nZ (size + 1)), .int (nZ (ov - 1)), .int (nZ (if 0 < (mn - b) then mn - b else 0)), .int (nZ (rn + a))])), (q, .inl (cI, 144, .inl (aZ (evF ev size 0 a b ov mn rn))))]) [0, 1] rfl
  have hD9 := hD.sub (ws' := [(h, .inr (5, [.ref q, .int (nZ (size + 1)), .int (nZ (ov - 1)), .int (nZ (if 0 < (mn - b) then mn - b else 0)), .int (nZ (rn + a))])), (q, .inl (cI, 144, .inl (aZ (evF ev size 0 a b ov mn rn))))]) [0, 1] (by decide) rfl
  have hq9 : ([(h, .inr (5, [.ref q, .int (nZ (size + 1)), .int (nZ (ov - 1)), .int (nZ (if 0 < (mn - b) then mn - b else 0)), .int (nZ (rn + a))])), (q, .inl (cI, 144, .inl (aZ (evF ev size 0 a b ov mn rn))))] : va_W) = [(h, .inr (5, [.ref q, .int (nZ (size + 1)), .int (nZ (ov - 1)), .int (nZ (if 0 < mn - b then mn - b else 0)), .int (nZ (rn + a))])), (q, .inl (cI, 144, .inl (aZ (evF ev size 0 a b ov mn rn))))] := by rfl
  rw [hq9] at hP9 hD9
  exact W.vret hx hb hr (fun t9 ht9 _ => ⟨⟨(), rfl, trivial, ⟨by rw [ht9]; exact hP9, hD9⟩⟩, hS.F ht9⟩) hS.2.2 dX5_addOver_41

set_option maxHeartbeats 4000000 in
set_option maxRecDepth 100000 in
theorem c_X5_addRain (l : Launch) (D : va_G) (cI cJ : ClassId) (tn : Nat) (sz : Nat) (h : Nat) (q : Nat) (ev : Int → Int) (size : Int) (ov : Int) (mn : Int) (rn : Int) (a : Int) (hs0 : 0 ≤ size) (hs1 : size ≤ 23)  : Met l yX5_addRain wsX5_addRain ({ frames := 2, cells := 0, slots := 0, locals := 46 } : Room) (va_Pc [.ref h, .int (nZ a)] (WrP D cI cJ tn [(h, .inr (5, [.ref q, .int (nZ size), .int (nZ ov), .int (nZ mn), .int (nZ rn)])), (q, .inl (cI, 144, .inl (aZ ev)))] sz)) (va_Qv (fun u9 : Unit => True) (fun u9 t9 => WrQ D (va_A [(h, .inr (5, [.ref q, .int (nZ size), .int (nZ ov), .int (nZ mn), .int (nZ rn)])), (q, .inl (cI, 144, .inl (aZ ev)))] sz) [(h, .inr (5, [.ref q, .int (nZ (size + 1)), .int (nZ (ov - a)), .int (nZ mn), .int (nZ rn)])), (q, .inl (cI, 144, .inl (aZ (evF ev size 1 a 0 ov mn rn))))] t9) (va_A [(h, .inr (5, [.ref q, .int (nZ size), .int (nZ ov), .int (nZ mn), .int (nZ rn)])), (q, .inl (cI, 144, .inl (aZ ev)))] sz)) 0 0 (va_A [(h, .inr (5, [.ref q, .int (nZ size), .int (nZ ov), .int (nZ mn), .int (nZ rn)])), (q, .inl (cI, 144, .inl (aZ ev)))] sz) := by
  refine Met.ofW (cc := cX5_addRain) (maxL := 2) (ret := none) (by decide) rfl ?_
  intro p e s m args below meth c s₁ B hml hv
  obtain ⟨rfl, hsz, hE, hP, hD0⟩ := hv
  have hx := B.exec
  have hb := B.bytes
  have hr := B.returns
  have hts := atoms_spec (ws := wsX5_addRain) B.pre
  have hown : s.vm.findClass RX5 = some m.cls := findClass_of_methodNamed B.named
  have hlocks := B.notSynchronized
  subst hsz
  have hD := hD0.self (sz := s.heap.size)
  generalize hAe : va_A [(h, .inr (5, [.ref q, .int (nZ size), .int (nZ ov), .int (nZ mn), .int (nZ rn)])), (q, .inl (cI, 144, .inl (aZ ev)))] s.heap.size = A at hD hE ⊢
  have hA : ∀ q : Nat, s.heap.size ≤ q → A q := fun q h => by rw [← hAe]; exact Or.inr h
  have hS : va_S A s.heap s.heap [] := va_S.rf
  have hK := hE.1
  have hN := hE.2.1
  have hl := lv_entry ([.ref h, .int (nZ a)]) (n := 2) (Nat.le_of_ble_eq_true rfl)
  rw [lg_entry_eq]
  generalize (lg_sl ([.ref h, .int (nZ a)]) ++ List.replicate (2 - (lg_sl ([.ref h, .int (nZ a)])).length) Slot.unset).toArray = ls at hl ⊢
  have hl : lv_has ls 2 [(0, .ref h), (1, .int (nZ a))] := hl
  have iX5 : ∀ w ∈ u_ws RX5 TX5 5, w ∈ wsX5_addRain := fun _ h => List.mem_cons_of_mem _ (List.mem_append_right _ h)
  refine lv_aload_n hx hb dX5_addRain_0 rfl (lv_at hl 0 rfl) ?_
  refine lv_iconst (v := nZ 1) hx hb dX5_addRain_1 rfl ?_
  refine lv_iload_n hx hb dX5_addRain_2 rfl (lv_at hl 1 rfl) ?_
  refine lv_iconst (v := nZ 0) hx hb dX5_addRain_3 rfl ?_
  have hFc := va_free (wc := [(h, .inr (5, [.ref q, .int (nZ size), .int (nZ ov), .int (nZ mn), .int (nZ rn)])), (q, .inl (cI, 144, .inl (aZ ev)))]) hD hS hA [0, 1] rfl
  have hPc := hP.sub (ws' := [(h, .inr (5, [.ref q, .int (nZ size), .int (nZ ov), .int (nZ mn), .int (nZ rn)])), (q, .inl (cI, 144, .inl (aZ ev)))]) [0, 1] rfl
  have hDc := hD.sub (ws' := [(h, .inr (5, [.ref q, .int (nZ size), .int (nZ ov), .int (nZ mn), .int (nZ rn)])), (q, .inl (cI, 144, .inl (aZ ev)))]) [0, 1] (by decide) rfl
  refine va_callv (va_runV (As := [.int (nZ 1), .int (nZ a), .int (nZ 0)]) (rest := []) ⟨hx, hb, hml, hown, hts⟩ (c_X5_addEvent l D cI cJ tn s.heap.size h q ev size ov mn rn 1 a 0 hs0 hs1 ) (cwV 3 hts gX5_addRain_X5_addEvent rfl rfl rfl (by decide +kernel) ⟨Nat.le_of_ble_eq_true rfl, Nat.le_of_ble_eq_true rfl⟩) ⟨WrP.blind, va_recv hK hP (ci := 5) (q0 := 0) rfl rfl, fun U hU hW => ⟨rfl, WrP.call hE hS hPc hDc hFc hU hW⟩⟩ rfl rfl hl.1 rfl (lv_room (Nat.le_of_ble_eq_true rfl)) dX5_addRain_4 ⟨Nat.le_of_ble_eq_true rfl, Nat.le_of_ble_eq_true rfl⟩) hS (fun q _ h => hFc q h) hFc (fun u9 t9 H1 locs ht9 hvm hv4 hB9 hz9 hk9 hS => ?_)
  obtain ⟨hP8, hD8⟩ := hB9
  rw [ht9] at hP8
  have hw4 : True := hv4
  obtain ⟨hP, hD⟩ := va_join (wr := []) (w1 := [(h, .inr (5, [.ref q, .int (nZ (size + 1)), .int (nZ ov), .int (nZ mn), .int (nZ rn)])), (q, .inl (cI, 144, .inl (aZ (evF ev size 1 a 0 ov mn rn))))]) hP hD [0, 1] [] rfl rfl (by decide) (by decide) hk9 hFc hP8 hD8
  generalize H1 = H at hP hS ⊢
  have hP : va_P D vwCl [(h, .inr (5, [.ref q, .int (nZ (size + 1)), .int (nZ ov), .int (nZ mn), .int (nZ rn)])), (q, .inl (cI, 144, .inl (aZ (evF ev size 1 a 0 ov mn rn))))] H := hP
  have hD : va_D A [(h, .inr (5, [.ref q, .int (nZ (size + 1)), .int (nZ ov), .int (nZ mn), .int (nZ rn)])), (q, .inl (cI, 144, .inl (aZ (evF ev size 1 a 0 ov mn rn))))] := hD
  refine lv_aload_n hx hb dX5_addRain_7 rfl (lv_at hl 0 rfl) ?_
  refine lv_dup hx hb dX5_addRain_8 rfl ?_
  refine va_get (D := D) (ci := 5) (v := .int (nZ ov)) (C := RX5) (T := TX5) (N := 5) hx hb hts iX5 hown hK hP 0 rfl rfl 2 (by decide) (hts (.fieldLink RX5 24 "RainTarget$SecondSide" "overs" "I") (List.mem_of_getElem? (i := 1) rfl)) (fun _ h9 => h9) rfl dX5_addRain_9 ?_
  refine lv_iload_n hx hb dX5_addRain_12 rfl (lv_at hl 1 rfl) ?_
  refine z_isub hx hb dX5_addRain_13 ?_
  refine va_put (D := D) (ci := 5) (v := .int (nZ (ov - a))) (ty := .int) (C := RX5) (T := TX5) (N := 5) hx hb hts iX5 tyX5 tyX5_ok nmX5 hown hK hP hD hS 0 rfl rfl 2 (by decide) (hts (.fieldLink RX5 24 "RainTarget$SecondSide" "overs" "I") (List.mem_of_getElem? (i := 1) rfl)) (fun _ h9 => h9) rfl (by decide +kernel) rfl rfl (Nat.le_of_ble_eq_true rfl) dX5_addRain_14 (fun H locs hP hD hS => ?_)
  have hP : va_P D vwCl [(h, .inr (5, [.ref q, .int (nZ (size + 1)), .int (nZ (ov - a)), .int (nZ mn), .int (nZ rn)])), (q, .inl (cI, 144, .inl (aZ (evF ev size 1 a 0 ov mn rn))))] H := hP
  have hD : va_D A [(h, .inr (5, [.ref q, .int (nZ (size + 1)), .int (nZ (ov - a)), .int (nZ mn), .int (nZ rn)])), (q, .inl (cI, 144, .inl (aZ (evF ev size 1 a 0 ov mn rn))))] := hD
  have hP9 := hP.sub (ws' := [(h, .inr (5, [.ref q, .int (nZ (size + 1)), .int (nZ (ov - a)), .int (nZ mn), .int (nZ rn)])), (q, .inl (cI, 144, .inl (aZ (evF ev size 1 a 0 ov mn rn))))]) [0, 1] rfl
  have hD9 := hD.sub (ws' := [(h, .inr (5, [.ref q, .int (nZ (size + 1)), .int (nZ (ov - a)), .int (nZ mn), .int (nZ rn)])), (q, .inl (cI, 144, .inl (aZ (evF ev size 1 a 0 ov mn rn))))]) [0, 1] (by decide) rfl
  exact W.vret hx hb hr (fun t9 ht9 _ => ⟨⟨(), rfl, trivial, ⟨by rw [ht9]; exact hP9, hD9⟩⟩, hS.F ht9⟩) hS.2.2 dX5_addRain_17

set_option maxHeartbeats 4000000 in
set_option maxRecDepth 100000 in
theorem c_X5_begin (l : Launch) (D : va_G) (cI cJ : ClassId) (tn : Nat) (sz : Nat) (h : Nat) (q : Nat) (g : Nat) (size : Int) (ov : Int) (mn : Int) (rn : Int) (so : Int) (sm : Int) (sp : Int) (sb : Int) (sc : Int) (sd : Int) (sl : Int)   : Met l yX5_begin wsX5_begin ({ frames := 0, cells := 0, slots := 0, locals := 0 } : Room) (va_Pc [.ref h, .ref g] (WrP D cI cJ tn [(h, .inr (5, [.ref q, .int (nZ size), .int (nZ ov), .int (nZ mn), .int (nZ rn)])), (g, .inr (6, [.int (nZ so), .int (nZ sm), .int (nZ sp), .int (nZ sb), .int (nZ sc), .int (nZ sd), .int (nZ sl)]))] sz)) (va_Qv (fun u9 : Unit => True) (fun u9 t9 => WrQ D (va_A [(h, .inr (5, [.ref q, .int (nZ size), .int (nZ ov), .int (nZ mn), .int (nZ rn)])), (g, .inr (6, [.int (nZ so), .int (nZ sm), .int (nZ sp), .int (nZ sb), .int (nZ sc), .int (nZ sd), .int (nZ sl)]))] sz) [(h, .inr (5, [.ref q, .int (nZ 0), .int (nZ so), .int (nZ sm), .int (nZ 0)])), (g, .inr (6, [.int (nZ so), .int (nZ sm), .int (nZ sp), .int (nZ sb), .int (nZ sc), .int (nZ sd), .int (nZ sl)]))] t9) (va_A [(h, .inr (5, [.ref q, .int (nZ size), .int (nZ ov), .int (nZ mn), .int (nZ rn)])), (g, .inr (6, [.int (nZ so), .int (nZ sm), .int (nZ sp), .int (nZ sb), .int (nZ sc), .int (nZ sd), .int (nZ sl)]))] sz)) 0 0 (va_A [(h, .inr (5, [.ref q, .int (nZ size), .int (nZ ov), .int (nZ mn), .int (nZ rn)])), (g, .inr (6, [.int (nZ so), .int (nZ sm), .int (nZ sp), .int (nZ sb), .int (nZ sc), .int (nZ sd), .int (nZ sl)]))] sz) := by
  refine Met.ofW (cc := cX5_begin) (maxL := 2) (ret := none) (by decide) rfl ?_
  intro p e s m args below meth c s₁ B hml hv
  obtain ⟨rfl, hsz, hE, hP, hD0⟩ := hv
  have hx := B.exec
  have hb := B.bytes
  have hr := B.returns
  have hts := atoms_spec (ws := wsX5_begin) B.pre
  have hown : s.vm.findClass RX5 = some m.cls := findClass_of_methodNamed B.named
  have hlocks := B.notSynchronized
  subst hsz
  have hD := hD0.self (sz := s.heap.size)
  generalize hAe : va_A [(h, .inr (5, [.ref q, .int (nZ size), .int (nZ ov), .int (nZ mn), .int (nZ rn)])), (g, .inr (6, [.int (nZ so), .int (nZ sm), .int (nZ sp), .int (nZ sb), .int (nZ sc), .int (nZ sd), .int (nZ sl)]))] s.heap.size = A at hD hE ⊢
  have hA : ∀ q : Nat, s.heap.size ≤ q → A q := fun q h => by rw [← hAe]; exact Or.inr h
  have hS : va_S A s.heap s.heap [] := va_S.rf
  have hK := hE.1
  have hN := hE.2.1
  have hl := lv_entry ([.ref h, .ref g]) (n := 2) (Nat.le_of_ble_eq_true rfl)
  rw [lg_entry_eq]
  generalize (lg_sl ([.ref h, .ref g]) ++ List.replicate (2 - (lg_sl ([.ref h, .ref g])).length) Slot.unset).toArray = ls at hl ⊢
  have hl : lv_has ls 2 [(0, .ref h), (1, .ref g)] := hl
  have iX5 : ∀ w ∈ u_ws RX5 TX5 5, w ∈ wsX5_begin := fun _ h => List.mem_cons_of_mem _ (List.mem_append_left _ (List.mem_append_right _ h))
  have iX6 : ∀ w ∈ u_ws RX6 TX6 7, w ∈ wsX5_begin := fun _ h => List.mem_cons_of_mem _ (List.mem_append_right _ h)
  refine lv_aload_n hx hb dX5_begin_0 rfl (lv_at hl 0 rfl) ?_
  refine lv_iconst (v := nZ 0) hx hb dX5_begin_1 rfl ?_
  refine va_put (D := D) (ci := 5) (v := .int (nZ 0)) (ty := .int) (C := RX5) (T := TX5) (N := 5) hx hb hts iX5 tyX5 tyX5_ok nmX5 hown hK hP hD hS 0 rfl rfl 1 (by decide) (hts (.fieldLink RX5 15 "RainTarget$SecondSide" "size" "I") (List.mem_of_getElem? (i := 1) rfl)) (fun _ h9 => h9) rfl (by decide +kernel) rfl rfl (Nat.le_of_ble_eq_true rfl) dX5_begin_2 (fun H locs hP hD hS => ?_)
  have hP : va_P D vwCl [(h, .inr (5, [.ref q, .int (nZ 0), .int (nZ ov), .int (nZ mn), .int (nZ rn)])), (g, .inr (6, [.int (nZ so), .int (nZ sm), .int (nZ sp), .int (nZ sb), .int (nZ sc), .int (nZ sd), .int (nZ sl)]))] H := hP
  have hD : va_D A [(h, .inr (5, [.ref q, .int (nZ 0), .int (nZ ov), .int (nZ mn), .int (nZ rn)])), (g, .inr (6, [.int (nZ so), .int (nZ sm), .int (nZ sp), .int (nZ sb), .int (nZ sc), .int (nZ sd), .int (nZ sl)]))] := hD
  refine lv_aload_n hx hb dX5_begin_5 rfl (lv_at hl 0 rfl) ?_
  refine lv_aload_n hx hb dX5_begin_6 rfl (lv_at hl 1 rfl) ?_
  refine va_getN (D := D) (ci := 6) (v := .int (nZ so)) (C := RX6) (T := TX6) (N := 7) hx hb hts iX6 hown hK hP 1 rfl rfl 0 (by decide) (va_Nw.use rfl (nw_X5_19 hN)) (fun _ h9 => h9) rfl dX5_begin_7 ?_
  refine va_put (D := D) (ci := 5) (v := .int (nZ so)) (ty := .int) (C := RX5) (T := TX5) (N := 5) hx hb hts iX5 tyX5 tyX5_ok nmX5 hown hK hP hD hS 0 rfl rfl 2 (by decide) (hts (.fieldLink RX5 24 "RainTarget$SecondSide" "overs" "I") (List.mem_of_getElem? (i := 2) rfl)) (fun _ h9 => h9) rfl (by decide +kernel) rfl rfl (Nat.le_of_ble_eq_true rfl) dX5_begin_10 (fun H locs hP hD hS => ?_)
  have hP : va_P D vwCl [(h, .inr (5, [.ref q, .int (nZ 0), .int (nZ so), .int (nZ mn), .int (nZ rn)])), (g, .inr (6, [.int (nZ so), .int (nZ sm), .int (nZ sp), .int (nZ sb), .int (nZ sc), .int (nZ sd), .int (nZ sl)]))] H := hP
  have hD : va_D A [(h, .inr (5, [.ref q, .int (nZ 0), .int (nZ so), .int (nZ mn), .int (nZ rn)])), (g, .inr (6, [.int (nZ so), .int (nZ sm), .int (nZ sp), .int (nZ sb), .int (nZ sc), .int (nZ sd), .int (nZ sl)]))] := hD
  refine lv_aload_n hx hb dX5_begin_13 rfl (lv_at hl 0 rfl) ?_
  refine lv_aload_n hx hb dX5_begin_14 rfl (lv_at hl 1 rfl) ?_
  refine va_getN (D := D) (ci := 6) (v := .int (nZ sm)) (C := RX6) (T := TX6) (N := 7) hx hb hts iX6 hown hK hP 1 rfl rfl 1 (by decide) (va_Nw.use rfl (nw_X5_25 hN)) (fun _ h9 => h9) rfl dX5_begin_15 ?_
  refine va_put (D := D) (ci := 5) (v := .int (nZ sm)) (ty := .int) (C := RX5) (T := TX5) (N := 5) hx hb hts iX5 tyX5 tyX5_ok nmX5 hown hK hP hD hS 0 rfl rfl 3 (by decide) (hts (.fieldLink RX5 28 "RainTarget$SecondSide" "men" "I") (List.mem_of_getElem? (i := 3) rfl)) (fun _ h9 => h9) rfl (by decide +kernel) rfl rfl (Nat.le_of_ble_eq_true rfl) dX5_begin_18 (fun H locs hP hD hS => ?_)
  have hP : va_P D vwCl [(h, .inr (5, [.ref q, .int (nZ 0), .int (nZ so), .int (nZ sm), .int (nZ rn)])), (g, .inr (6, [.int (nZ so), .int (nZ sm), .int (nZ sp), .int (nZ sb), .int (nZ sc), .int (nZ sd), .int (nZ sl)]))] H := hP
  have hD : va_D A [(h, .inr (5, [.ref q, .int (nZ 0), .int (nZ so), .int (nZ sm), .int (nZ rn)])), (g, .inr (6, [.int (nZ so), .int (nZ sm), .int (nZ sp), .int (nZ sb), .int (nZ sc), .int (nZ sd), .int (nZ sl)]))] := hD
  refine lv_aload_n hx hb dX5_begin_21 rfl (lv_at hl 0 rfl) ?_
  refine lv_iconst (v := nZ 0) hx hb dX5_begin_22 rfl ?_
  refine va_put (D := D) (ci := 5) (v := .int (nZ 0)) (ty := .int) (C := RX5) (T := TX5) (N := 5) hx hb hts iX5 tyX5 tyX5_ok nmX5 hown hK hP hD hS 0 rfl rfl 4 (by decide) (hts (.fieldLink RX5 29 "RainTarget$SecondSide" "runs" "I") (List.mem_of_getElem? (i := 4) rfl)) (fun _ h9 => h9) rfl (by decide +kernel) rfl rfl (Nat.le_of_ble_eq_true rfl) dX5_begin_23 (fun H locs hP hD hS => ?_)
  have hP : va_P D vwCl [(h, .inr (5, [.ref q, .int (nZ 0), .int (nZ so), .int (nZ sm), .int (nZ 0)])), (g, .inr (6, [.int (nZ so), .int (nZ sm), .int (nZ sp), .int (nZ sb), .int (nZ sc), .int (nZ sd), .int (nZ sl)]))] H := hP
  have hD : va_D A [(h, .inr (5, [.ref q, .int (nZ 0), .int (nZ so), .int (nZ sm), .int (nZ 0)])), (g, .inr (6, [.int (nZ so), .int (nZ sm), .int (nZ sp), .int (nZ sb), .int (nZ sc), .int (nZ sd), .int (nZ sl)]))] := hD
  have hP9 := hP.sub (ws' := [(h, .inr (5, [.ref q, .int (nZ 0), .int (nZ so), .int (nZ sm), .int (nZ 0)])), (g, .inr (6, [.int (nZ so), .int (nZ sm), .int (nZ sp), .int (nZ sb), .int (nZ sc), .int (nZ sd), .int (nZ sl)]))]) [0, 1] rfl
  have hD9 := hD.sub (ws' := [(h, .inr (5, [.ref q, .int (nZ 0), .int (nZ so), .int (nZ sm), .int (nZ 0)])), (g, .inr (6, [.int (nZ so), .int (nZ sm), .int (nZ sp), .int (nZ sb), .int (nZ sc), .int (nZ sd), .int (nZ sl)]))]) [0, 1] (by decide) rfl
  exact W.vret hx hb hr (fun t9 ht9 _ => ⟨⟨(), rfl, trivial, ⟨by rw [ht9]; exact hP9, hD9⟩⟩, hS.F ht9⟩) hS.2.2 dX5_begin_26

set_option maxHeartbeats 4000000 in
set_option maxRecDepth 100000 in
theorem c_X2_add (l : Launch) (D : va_G) (cI cJ : ClassId) (tn : Nat) (sz : Nat) (h : Nat) (q : Nat) (pt : Int → Int) (size : Int) (a : Int) (b : Int) (d : Int) (hs0 : 0 ≤ size) (hs1 : size ≤ 23)  : Met l yX2_add wsX2_add ({ frames := 1, cells := 0, slots := 0, locals := 22 } : Room) (va_Pc [.ref h, .int (nZ a), .int (nZ b), .int (nZ d)] (WrP D cI cJ tn [(h, .inr (2, [.ref q, .int (nZ size)])), (q, .inl (cI, 72, .inl (aZ pt)))] sz)) (va_Qv (fun u9 : Unit => True) (fun u9 t9 => WrQ D (va_A [(h, .inr (2, [.ref q, .int (nZ size)])), (q, .inl (cI, 72, .inl (aZ pt)))] sz) [(h, .inr (2, [.ref q, .int (nZ (size + 1))])), (q, .inl (cI, 72, .inl (aZ (mtF pt size a b d))))] t9) (va_A [(h, .inr (2, [.ref q, .int (nZ size)])), (q, .inl (cI, 72, .inl (aZ pt)))] sz)) 0 0 (va_A [(h, .inr (2, [.ref q, .int (nZ size)])), (q, .inl (cI, 72, .inl (aZ pt)))] sz) := by
  refine Met.ofW (cc := cX2_add) (maxL := 5) (ret := none) (by decide) rfl ?_
  intro p e s m args below meth c s₁ B hml hv
  obtain ⟨rfl, hsz, hE, hP, hD0⟩ := hv
  have hx := B.exec
  have hb := B.bytes
  have hr := B.returns
  have hts := atoms_spec (ws := wsX2_add) B.pre
  have hown : s.vm.findClass RX2 = some m.cls := findClass_of_methodNamed B.named
  have hlocks := B.notSynchronized
  subst hsz
  have hD := hD0.self (sz := s.heap.size)
  generalize hAe : va_A [(h, .inr (2, [.ref q, .int (nZ size)])), (q, .inl (cI, 72, .inl (aZ pt)))] s.heap.size = A at hD hE ⊢
  have hA : ∀ q : Nat, s.heap.size ≤ q → A q := fun q h => by rw [← hAe]; exact Or.inr h
  have hS : va_S A s.heap s.heap [] := va_S.rf
  have hK := hE.1
  have hN := hE.2.1
  have hl := lv_entry ([.ref h, .int (nZ a), .int (nZ b), .int (nZ d)]) (n := 5) (Nat.le_of_ble_eq_true rfl)
  rw [lg_entry_eq]
  generalize (lg_sl ([.ref h, .int (nZ a), .int (nZ b), .int (nZ d)]) ++ List.replicate (5 - (lg_sl ([.ref h, .int (nZ a), .int (nZ b), .int (nZ d)])).length) Slot.unset).toArray = ls at hl ⊢
  have hl : lv_has ls 5 [(0, .ref h), (1, .int (nZ a)), (2, .int (nZ b)), (3, .int (nZ d))] := hl
  have iX2 : ∀ w ∈ u_ws RX2 TX2 2, w ∈ wsX2_add := fun _ h => List.mem_cons_of_mem _ (List.mem_append_right _ h)
  refine lv_aload_n hx hb dX2_add_0 rfl (lv_at hl 0 rfl) ?_
  refine va_get (D := D) (ci := 2) (v := .int (nZ size)) (C := RX2) (T := TX2) (N := 2) hx hb hts iX2 hown hK hP 0 rfl rfl 1 (by decide) (hts (.fieldLink RX2 15 "RainTarget$Matches" "size" "I") (List.mem_of_getElem? (i := 1) rfl)) (fun _ h9 => h9) rfl dX2_add_1 ?_
  refine lv_iconst (v := nZ 0) hx hb dX2_add_4 rfl ?_
  refine lv_bipush (v := nZ 23) hx hb dX2_add_5 (by decide) ?_
  refine vp_callSi ((va_runSN (As := [.int (nZ size), .int (nZ 0), .int (nZ 23)]) (rest := []) ⟨hx, hb, hml, hown, hts⟩ (c_X9_within l D cI cJ tn size 0 23 (by omega) (by decide) (by decide) ) ⟨va_cnB 3 hts gX2_add_X9_within_n19 rfl rfl rfl (nw_X2_19 hN) (hts (.initialized RX9) (List.mem_of_getElem? (i := 4) rfl)) (by decide +kernel) ⟨Nat.le_of_ble_eq_true rfl, Nat.le_of_ble_eq_true rfl⟩, (hts (.static yX9_within) (List.mem_of_getElem? (i := 3) rfl)), trivial⟩ ⟨RoP.blind, fun U hU hW => ⟨rfl, RoP.call hE hS (hP.sub (ws' := []) [] rfl) hU hW⟩⟩ rfl rfl hl.1 rfl (lv_room (Nat.le_of_ble_eq_true rfl)) dX2_add_7 ⟨Nat.le_of_ble_eq_true rfl, Nat.le_of_ble_eq_true rfl⟩).run) (fun r7 hr7 => ?_)
  subst hr7
  refine z_nameI (fun r7 er7 => ?_)
  refine z_if_ne (tgt := 14) hx hb dX2_add_10 (by decide) (by omega) (fun c_10 => ?_) (fun c_10 => ?_)
  · refine lv_aload_n hx hb dX2_add_14 rfl (lv_at hl 0 rfl) ?_
    refine va_get (D := D) (ci := 2) (v := .int (nZ size)) (C := RX2) (T := TX2) (N := 2) hx hb hts iX2 hown hK hP 0 rfl rfl 1 (by decide) (hts (.fieldLink RX2 15 "RainTarget$Matches" "size" "I") (List.mem_of_getElem? (i := 1) rfl)) (fun _ h9 => h9) rfl dX2_add_15 ?_
    refine lv_iconst (v := nZ 3) hx hb dX2_add_18 rfl ?_
    refine z_imul hx hb dX2_add_19 ?_
    refine lv_istore (lv' := [(4, .int (nZ (size * 3))), (0, .ref h), (1, .int (nZ a)), (2, .int (nZ b)), (3, .int (nZ d))]) hx hb dX2_add_20 hl (by decide) rfl (fun ls hl => ?_)
    refine lv_aload_n hx hb dX2_add_22 rfl (lv_at hl 1 rfl) ?_
    refine va_get (D := D) (ci := 2) (v := .ref q) (C := RX2) (T := TX2) (N := 2) hx hb hts iX2 hown hK hP 0 rfl rfl 0 (by decide) (hts (.fieldLink RX2 11 "RainTarget$Matches" "parts" "[I") (List.mem_of_getElem? (i := 2) rfl)) (fun _ h9 => h9) rfl dX2_add_23 ?_
    refine lv_iload hx hb dX2_add_26 (lv_at hl 0 rfl) ?_
    refine lv_iload_n hx hb dX2_add_28 rfl (lv_at hl 2 rfl) ?_
    refine z_iast hx hb hK hP hD hS 1 0 rfl rfl (by omega) (by omega) (by omega) dX2_add_29 (fun H locs hP hD hS => ?_)
    have hP : va_P D vwCl [(h, .inr (2, [.ref q, .int (nZ size)])), (q, .inl (cI, 72, .inl (aZ (uZ pt (size * 3) a))))] H := hP
    have hD : va_D A [(h, .inr (2, [.ref q, .int (nZ size)])), (q, .inl (cI, 72, .inl (aZ (uZ pt (size * 3) a))))] := hD
    refine lv_aload_n hx hb dX2_add_30 rfl (lv_at hl 1 rfl) ?_
    refine va_get (D := D) (ci := 2) (v := .ref q) (C := RX2) (T := TX2) (N := 2) hx hb hts iX2 hown hK hP 0 rfl rfl 0 (by decide) (hts (.fieldLink RX2 11 "RainTarget$Matches" "parts" "[I") (List.mem_of_getElem? (i := 2) rfl)) (fun _ h9 => h9) rfl dX2_add_31 ?_
    refine lv_iload hx hb dX2_add_34 (lv_at hl 0 rfl) ?_
    refine lv_iconst (v := nZ 1) hx hb dX2_add_36 rfl ?_
    refine z_iadd hx hb dX2_add_37 ?_
    refine lv_iload_n hx hb dX2_add_38 rfl (lv_at hl 3 rfl) ?_
    refine z_iast hx hb hK hP hD hS 1 0 rfl rfl (by omega) (by omega) (by omega) dX2_add_39 (fun H locs hP hD hS => ?_)
    have hP : va_P D vwCl [(h, .inr (2, [.ref q, .int (nZ size)])), (q, .inl (cI, 72, .inl (aZ (uZ (uZ pt (size * 3) a) ((size * 3) + 1) b))))] H := hP
    have hD : va_D A [(h, .inr (2, [.ref q, .int (nZ size)])), (q, .inl (cI, 72, .inl (aZ (uZ (uZ pt (size * 3) a) ((size * 3) + 1) b))))] := hD
    refine lv_aload_n hx hb dX2_add_40 rfl (lv_at hl 1 rfl) ?_
    refine va_get (D := D) (ci := 2) (v := .ref q) (C := RX2) (T := TX2) (N := 2) hx hb hts iX2 hown hK hP 0 rfl rfl 0 (by decide) (hts (.fieldLink RX2 11 "RainTarget$Matches" "parts" "[I") (List.mem_of_getElem? (i := 2) rfl)) (fun _ h9 => h9) rfl dX2_add_41 ?_
    refine lv_iload hx hb dX2_add_44 (lv_at hl 0 rfl) ?_
    refine lv_iconst (v := nZ 2) hx hb dX2_add_46 rfl ?_
    refine z_iadd hx hb dX2_add_47 ?_
    refine lv_iload_n hx hb dX2_add_48 rfl (lv_at hl 4 rfl) ?_
    refine z_iast hx hb hK hP hD hS 1 0 rfl rfl (by omega) (by omega) (by omega) dX2_add_49 (fun H locs hP hD hS => ?_)
    have hP : va_P D vwCl [(h, .inr (2, [.ref q, .int (nZ size)])), (q, .inl (cI, 72, .inl (aZ (uZ (uZ (uZ pt (size * 3) a) ((size * 3) + 1) b) ((size * 3) + 2) d))))] H := hP
    have hD : va_D A [(h, .inr (2, [.ref q, .int (nZ size)])), (q, .inl (cI, 72, .inl (aZ (uZ (uZ (uZ pt (size * 3) a) ((size * 3) + 1) b) ((size * 3) + 2) d))))] := hD
    refine lv_aload_n hx hb dX2_add_50 rfl (lv_at hl 1 rfl) ?_
    refine lv_dup hx hb dX2_add_51 rfl ?_
    refine va_get (D := D) (ci := 2) (v := .int (nZ size)) (C := RX2) (T := TX2) (N := 2) hx hb hts iX2 hown hK hP 0 rfl rfl 1 (by decide) (hts (.fieldLink RX2 15 "RainTarget$Matches" "size" "I") (List.mem_of_getElem? (i := 1) rfl)) (fun _ h9 => h9) rfl dX2_add_52 ?_
    refine lv_iconst (v := nZ 1) hx hb dX2_add_55 rfl ?_
    refine z_iadd hx hb dX2_add_56 ?_
    refine va_put (D := D) (ci := 2) (v := .int (nZ (size + 1))) (ty := .int) (C := RX2) (T := TX2) (N := 2) hx hb hts iX2 tyX2 tyX2_ok nmX2 hown hK hP hD hS 0 rfl rfl 1 (by decide) (hts (.fieldLink RX2 15 "RainTarget$Matches" "size" "I") (List.mem_of_getElem? (i := 1) rfl)) (fun _ h9 => h9) rfl (by decide +kernel) rfl rfl (Nat.le_of_ble_eq_true rfl) dX2_add_57 (fun H locs hP hD hS => ?_)
    have hP : va_P D vwCl [(h, .inr (2, [.ref q, .int (nZ (size + 1))])), (q, .inl (cI, 72, .inl (aZ (uZ (uZ (uZ pt (size * 3) a) ((size * 3) + 1) b) ((size * 3) + 2) d))))] H := hP
    have hD : va_D A [(h, .inr (2, [.ref q, .int (nZ (size + 1))])), (q, .inl (cI, 72, .inl (aZ (uZ (uZ (uZ pt (size * 3) a) ((size * 3) + 1) b) ((size * 3) + 2) d))))] := hD
    have hP9 := hP.sub (ws' := [(h, .inr (2, [.ref q, .int (nZ (size + 1))])), (q, .inl (cI, 72, .inl (aZ (uZ (uZ (uZ pt (size * 3) a) ((size * 3) + 1) b) ((size * 3) + 2) d))))]) [0, 1] rfl
    have hD9 := hD.sub (ws' := [(h, .inr (2, [.ref q, .int (nZ (size + 1))])), (q, .inl (cI, 72, .inl (aZ (uZ (uZ (uZ pt (size * 3) a) ((size * 3) + 1) b) ((size * 3) + 2) d))))]) [0, 1] (by decide) rfl
    have hq9 : ([(h, .inr (2, [.ref q, .int (nZ (size + 1))])), (q, .inl (cI, 72, .inl (aZ (uZ (uZ (uZ pt (size * 3) a) ((size * 3) + 1) b) ((size * 3) + 2) d))))] : va_W) = [(h, .inr (2, [.ref q, .int (nZ (size + 1))])), (q, .inl (cI, 72, .inl (aZ (mtF pt size a b d))))] := by rfl
    rw [hq9] at hP9 hD9
    exact W.vret hx hb hr (fun t9 ht9 _ => ⟨⟨(), rfl, trivial, ⟨by rw [ht9]; exact hP9, hD9⟩⟩, hS.F ht9⟩) hS.2.2 dX2_add_60
  · exfalso; omega

